set_option maxRecDepth 20000 in
set_option maxHeartbeats 60000000 in
theorem S_L_areCommitments {G : xG} {d rc rs : Nat} {ex : Bool} {h : xH} {Q : xQ} {σ : St} {p n0 : Nat} (hL : gL G < 100000) (w : CW σ h) (v : INV σ) (hpp : σ.p = p) (hn0 : σ.L.n = n0) (hlen : 70 ≤ h.length) (kk : ∀ (σ2 : St) (h2 : xH) (ex2 : Bool), CW σ2 h2 → INV σ2 → σ2.p = p → σ2.L.n = n0 → 70 ≤ h2.length → Q (.inl (some (vi 1))) ex2 h2) : X G m_L_areCommitments (d + 10) (rc + 80) (rs + 600) ex 0 (xe m_L_areCommitments.2.2.1 [.ref 3, .ref 0, vi (p : Int), vi (gq p : Int)]) [] h Q := by
  show X G m_L_areCommitments _ _ _ _ 0 [some (.ref 3), some (.ref 0), some (vi (p : Int)), some (vi (gq p : Int)), none, none, none, none, none, none, none] [] h Q
  have hpr : p ∈ PR := hpp ▸ v.p
  have hp := PRb hpr
  have hq := gq_b hpr
  refine x_aload_n (dT U_L_areCommitments 0 rfl) rfl ?_
  refine x_bipush (dT U_L_areCommitments 1 rfl) (by decide) ?_
  refine x_iload_n (dT U_L_areCommitments 2 rfl) rfl ?_
  refine x_bipush (dT U_L_areCommitments 3 rfl) (by decide) ?_
  refine x_invokestatic (rc' := rc + 79) (rs' := rs + 592) (rc2 := 0 + 1) (rs2 := 0 + 8) (As := [_, _, _, _]) (st := _) M_L_made K_L_234 (dT U_L_areCommitments 4 rfl) rfl rfl rfl rfl (Nat.le_of_ble_eq_true rfl) rfl (by decide) (Nat.le_of_ble_eq_true rfl) (by first | rfl | omega) (by first | rfl | omega) ?_
  refine S_L_made (f := 20) (m := 8) hL (by have := hlen; omega) (by omega) (by omega) (by omega) (fun h1 a_row row u1 ga1 ge1 h_row1 Fl_row Z_row => ?_)
  refine xRet_some ?_
  have g_row : 70 ≤ a_row := by have := hlen; omega
  have w1 := (w).up u1
  have hlen_1 : 70 ≤ h1.length := by have := u1.len; have := hlen; omega
  refine x_astore (ls' := [some (.ref _), some (.ref _), some (vi _), some (vi _), some (.ref _), none, none, none, none, none, none]) (dT U_L_areCommitments 5 rfl) (by decide) rfl ?_
  refine x_aload_n (dT U_L_areCommitments 6 rfl) rfl ?_
  refine x_bipush (dT U_L_areCommitments 7 rfl) (by decide) ?_
  refine x_invokestatic (rc' := rc + 79) (rs' := rs + 592) (rc2 := 0 + 0) (rs2 := 0 + 0) (As := [_, _]) (st := _) M_L_cell K_L_221 (dT U_L_areCommitments 8 rfl) rfl rfl rfl rfl (Nat.le_of_ble_eq_true rfl) rfl (by decide) (Nat.le_of_ble_eq_true rfl) (by first | rfl | omega) (by first | rfl | omega) ?_
  refine S_L_cell (k := 28) hL (by omega) (fun z14 => ?_)
  refine xRet_some ?_
  refine x_iload_n (dT U_L_areCommitments 9 rfl) rfl ?_
  refine x_invokestatic (rc' := rc + 79) (rs' := rs + 592) (rc2 := 0 + 0) (rs2 := 0 + 0) (As := [_, _]) (st := _) M_L_chosen K_L_225 (dT U_L_areCommitments 10 rfl) rfl rfl rfl rfl (Nat.le_of_ble_eq_true rfl) rfl (by decide) (Nat.le_of_ble_eq_true rfl) (by first | rfl | omega) (by first | rfl | omega) ?_
  refine S_L_chosen (by omega) (fun blind b_blind => ?_)
  refine xRet_some ?_
  refine x_istore (ls' := [some (.ref _), some (.ref _), some (vi _), some (vi _), some (.ref _), some (vi _), none, none, none, none, none]) (dT U_L_areCommitments 11 rfl) (by decide) rfl ?_
  refine x_aload_n (dT U_L_areCommitments 12 rfl) rfl ?_
  refine x_iconst (dT U_L_areCommitments 13 rfl) ?_
  refine x_aload (dT U_L_areCommitments 14 rfl) rfl ?_
  refine x_invokestatic (rc' := rc + 78) (rs' := rs + 586) (rc2 := 0 + 1) (rs2 := 0 + 6) (As := [_, _, _]) (st := _) M_L_lays K_L_238 (dT U_L_areCommitments 15 rfl) rfl rfl rfl rfl (Nat.le_of_ble_eq_true rfl) rfl (by decide) (Nat.le_of_ble_eq_true rfl) (by first | rfl | omega) (by first | rfl | omega) ?_
  refine S_L_lays w1 v (by omega) h_row1 (by omega) (by rw [hpp]; exact Fl_row) (fun z2 hz2 h2 fc2 w_2 v_2 => ?_)
  refine xRet_some ?_
  obtain ⟨σ3, w3, v3, r0_3, p_3, L_3⟩ : ∃ σ3 : St, CW σ3 h2 ∧ INV σ3 ∧ σ3.rw 0 = row ∧ σ3.p = p ∧ σ3.L.n = n0 := ⟨_, w_2, v_2, rfl, hpp, hn0⟩
  have h_row_3 : h2[a_row]? = some (cA 0 row) := (fc2).get h_row1 (by omega)
  have hlen_3 : 70 ≤ h2.length := by rw [fc2.1]; exact hlen_1
  refine x_pop2 (dT U_L_areCommitments 16 rfl) ?_
  refine x_iconst (dT U_L_areCommitments 17 rfl) ?_
  refine x_istore (ls' := [some (.ref _), some (.ref _), some (vi _), some (vi _), some (.ref _), some (vi _), some (vi _), none, none, none, none]) (dT U_L_areCommitments 18 rfl) (by decide) rfl ?_
  have L4 : ∀ (n9 i : Nat), i + n9 = 9 → ∀ (h4 : xH) (ex4 : Bool) (σ4 : St), CW σ4 h4 → INV σ4 → 70 ≤ h4.length → σ4.rw 0 = row → σ4.p = p → σ4.L.n = n0 → h4[a_row]? = some (cA 0 row) → X G m_L_areCommitments (d + 10) (rc + 40 + 3 * n9) (rs + 300 + 18 * n9) ex4 34 [some (.ref 3), some (.ref 0), some (vi (p : Int)), some (vi (gq p : Int)), some (.ref a_row), some (vi blind), some (vi (i : Int)), none, none, none, none] [] h4 Q := by
    intro n9
    induction n9 with
    | zero =>
      intro i hi9 h4 ex4 σ4 w4 v4 hlen_4 r0_4 p_4 L_4 h_row_4
      refine x_iload (dT U_L_areCommitments 19 rfl) rfl ?_
      refine x_bipush (dT U_L_areCommitments 20 rfl) (by decide) ?_
      refine x_icmp_ge (tgt := 84) (dT U_L_areCommitments 21 rfl) (by decide) (by first | assumption | (unfold xr; omega)) (by unfold xr; omega) (fun c38 => ?_) (fun c38 => ?_)
      · skip
        refine x_aload_n (dT U_L_areCommitments 44 rfl) rfl ?_
        refine x_iconst (dT U_L_areCommitments 45 rfl) ?_
        refine x_iload (dT U_L_areCommitments 46 rfl) rfl ?_
        refine x_invokestaticT (rc' := rc + 38) (rs' := rs + 288) (rc2 := 0 + 2) (rs2 := 0 + 12) (As := [_, _, _]) (st := _) M_L_commit K_L_245 (dT U_L_areCommitments 47 rfl) rfl (by decide) rfl rfl (Nat.le_of_ble_eq_true rfl) rfl (by decide) (Nat.le_of_ble_eq_true rfl) (by first | rfl | omega) (by first | rfl | omega) ?_
        refine S_L_commit w4 v4 (by first | assumption | (unfold xr; omega)) (by first | assumption | (unfold xr; omega)) (fun  z8 => absurd (show inb _ _ from by omega) z8) (fun _ z8 => absurd (show inb _ _ from by have := p_4; omega) z8) (fun _ _ z5 e5 hz5 => ?_)
        refine xRet_some ?_
        have e5 : z5 = MM p (cm p row blind) := by
          simp only [tn0, tn1, tn2, tn3, tn4, tn5, tn6, tn7, tn8, Int.toNat_natCast, p_4, r0_4] at e5; exact e5
        have hcm := cm_b (p := p) (l := row) (b := blind) (by omega)
        refine x_lstore (ls' := [some (.ref _), some (.ref _), some (vi _), some (vi _), some (.ref _), some (vi _), some (vl _), none, none, none, none]) (dT U_L_areCommitments 48 rfl) (by decide) rfl ?_
        refine x_lload (dT U_L_areCommitments 49 rfl) rfl ?_
        refine x_aload_n (dT U_L_areCommitments 50 rfl) rfl ?_
        refine x_aload (dT U_L_areCommitments 51 rfl) rfl ?_
        refine x_iload (dT U_L_areCommitments 52 rfl) rfl ?_
        refine x_iload_n (dT U_L_areCommitments 53 rfl) rfl ?_
        refine x_invokestatic (rc' := rc + 29) (rs' := rs + 234) (rc2 := 0 + 9) (rs2 := 0 + 54) (As := [_, _, _, _]) (st := _) M_L_commits K_L_247 (dT U_L_areCommitments 54 rfl) rfl rfl rfl rfl (Nat.le_of_ble_eq_true rfl) rfl (by decide) (Nat.le_of_ble_eq_true rfl) (by first | rfl | omega) (by first | rfl | omega) ?_
        refine S_L_commits w4 v4 p_4 h_row_4 (by omega) Fl_row (by omega) ?_
        refine xRet_some ?_
        refine x_i2l (dT U_L_areCommitments 55 rfl) (xr_MM hpr) ?_
        refine x_lif_ne (tgt := 124) (dT U_L_areCommitments 56 rfl) (dT U_L_areCommitments 57 rfl) (by decide) (xrl_of hz5) (xrl_of (xr_MM hpr)) (fun c105 => ?_) (fun c105 => ?_)
        · exfalso
          exact c105 e5
        · skip
          refine x_aload_n (dT U_L_areCommitments 58 rfl) rfl ?_
          refine x_lload (dT U_L_areCommitments 59 rfl) rfl ?_
          refine x_l2i (dT U_L_areCommitments 60 rfl) ?_
          refine x_iconst (dT U_L_areCommitments 61 rfl) ?_
          refine x_iload (dT U_L_areCommitments 62 rfl) rfl ?_
          refine x_invokestaticT (rc' := rc + 26) (rs' := rs + 216) (rc2 := 0 + 3) (rs2 := 0 + 18) (As := [_, _, _, _]) (st := _) M_L_isOpened K_L_251 (dT U_L_areCommitments 63 rfl) rfl (by decide) rfl rfl (Nat.le_of_ble_eq_true rfl) rfl (by decide) (Nat.le_of_ble_eq_true rfl) (by first | rfl | omega) (by first | rfl | omega) ?_
          refine S_L_isOpened w4 v4 (by first | assumption | (unfold xr; omega)) (by first | assumption | (unfold xr; omega)) (by first | assumption | (unfold xr; omega)) (fun  z8 => absurd (show inb _ _ from by omega) z8) (fun _ z8 => absurd (show _ ∧ inb _ _ from ⟨by rw [p_4, e5, exI_MM hpr hcm]; omega, by have := p_4; omega⟩) z8) (fun _ _ _ => ?_) (fun _ _ z8 => absurd (by simp only [tn0, tn1, tn2, tn3, tn4, tn5, tn6, tn7, tn8, Int.toNat_natCast, p_4, r0_4]; rw [e5, exI_MM hpr hcm]) z8)
          refine xRet_some ?_
          refine x_lconst (z := 1) (dT U_L_areCommitments 64 rfl) rfl ?_
          refine x_lif_eq (tgt := 126) (dT U_L_areCommitments 65 rfl) (dT U_L_areCommitments 66 rfl) (by decide) (xrl_of (by unfold xr; omega)) (xrl_of (by unfold xr; omega)) (fun c120 => ?_) (fun c120 => ?_)
          · skip
            refine x_aload_n (dT U_L_areCommitments 69 rfl) rfl ?_
            refine x_bipush (dT U_L_areCommitments 70 rfl) (by decide) ?_
            refine x_invokestatic (rc' := rc + 26) (rs' := rs + 216) (rc2 := 0 + 0) (rs2 := 0 + 0) (As := [_, _]) (st := _) M_L_cell K_L_221 (dT U_L_areCommitments 71 rfl) rfl rfl rfl rfl (Nat.le_of_ble_eq_true rfl) rfl (by decide) (Nat.le_of_ble_eq_true rfl) (by first | rfl | omega) (by first | rfl | omega) ?_
            refine S_L_cell (k := 29) hL (by omega) (fun z129 => ?_)
            refine xRet_some ?_
            refine x_bipush (dT U_L_areCommitments 72 rfl) (by decide) ?_
            refine x_invokestatic (rc' := rc + 26) (rs' := rs + 216) (rc2 := 0 + 0) (rs2 := 0 + 0) (As := [_, _]) (st := _) M_L_chosen K_L_225 (dT U_L_areCommitments 73 rfl) rfl rfl rfl rfl (Nat.le_of_ble_eq_true rfl) rfl (by decide) (Nat.le_of_ble_eq_true rfl) (by first | rfl | omega) (by first | rfl | omega) ?_
            refine S_L_chosen (by omega) (fun place b_place => ?_)
            refine xRet_some ?_
            obtain ⟨t, rfl⟩ : ∃ t : Nat, place = (t : Int) := ⟨place.toNat, by omega⟩
            refine x_istore (ls' := [some (.ref _), some (.ref _), some (vi _), some (vi _), some (.ref _), some (vi _), some (vl _), none, some (vi _), none, none]) (dT U_L_areCommitments 74 rfl) (by decide) rfl ?_
            refine x_aload_n (dT U_L_areCommitments 75 rfl) rfl ?_
            refine x_iconst (dT U_L_areCommitments 76 rfl) ?_
            refine x_iload (dT U_L_areCommitments 77 rfl) rfl ?_
            refine x_iload (dT U_L_areCommitments 78 rfl) rfl ?_
            refine x_iconst (dT U_L_areCommitments 79 rfl) ?_
            obtain ⟨row2, e_row2⟩ : ∃ r : List Int, row.set t ((row.getD t 0 + 1) % (p : Int)) = r := ⟨_, rfl⟩
            refine x_invokestaticT (rc' := rc + 22) (rs' := rs + 192) (rc2 := 0 + 4) (rs2 := 0 + 24) (As := [_, _, _, _, _]) (st := _) M_L_breaks K_L_254 (dT U_L_areCommitments 80 rfl) rfl (by decide) rfl rfl (Nat.le_of_ble_eq_true rfl) rfl (by decide) (Nat.le_of_ble_eq_true rfl) (by first | rfl | omega) (by first | rfl | omega) ?_
            refine S_L_breaks w4 v4 (by first | assumption | (unfold xr; omega)) (by first | assumption | (unfold xr; omega)) (by first | assumption | (unfold xr; omega)) (by first | assumption | (unfold xr; omega)) (fun  z8 => absurd (show inb _ _ ∧ inb _ _ ∧ inb _ _ from by omega) z8) (fun _ z8 => absurd (show inb _ _ from by have := p_4; omega) z8) (fun _ _ z7 e7 hz7 h7 fc7 w_7 v_7 => ?_)
            refine xRet_some ?_
            have e7 : z7 = (cm p row blind - wt p row2) % (p : Int) * (iv p (bs p 8) : Int) % (p : Int) := by
              simp only [tn0, tn1, tn2, tn3, tn4, tn5, tn6, tn7, tn8, Int.toNat_natCast, p_4, r0_4, e_row2] at e7; exact e7
            obtain ⟨σ8, w8, v8, r1_8, r0_8, p_8, L_8⟩ : ∃ σ8 : St, CW σ8 h7 ∧ INV σ8 ∧ σ8.rw 1 = row2 ∧ σ8.rw 0 = row ∧ σ8.p = p ∧ σ8.L.n = n0 := ⟨_, w_7, v_7, (by show (σ4.rw 0).set t (((σ4.rw 0).getD t 0 + 1) % (σ4.p : Int)) = _; rw [r0_4, p_4]; exact e_row2), r0_4, p_4, L_4⟩
            have h_row_8 : h7[a_row]? = some (cA 0 row) := (fc7).get h_row_4 (by omega)
            have hlen_8 : 70 ≤ h7.length := by rw [fc7.1]; exact hlen_4
            have hb_o : 0 ≤ z7 ∧ z7 < (p : Int) := by rw [e7]; exact modb (by omega)
            refine x_lstore (ls' := [some (.ref _), some (.ref _), some (vi _), some (vi _), some (.ref _), some (vi _), some (vl _), none, some (vi _), some (vl _), none]) (dT U_L_areCommitments 81 rfl) (by decide) rfl ?_
            refine x_lload (dT U_L_areCommitments 82 rfl) rfl ?_
            refine x_lconst (z := 0) (dT U_L_areCommitments 83 rfl) rfl ?_
            refine x_lif_lt (tgt := 180) (dT U_L_areCommitments 84 rfl) (dT U_L_areCommitments 85 rfl) (by decide) (xrl_of hz7) (xrl_of (by unfold xr; omega)) (fun c154 => ?_) (fun c154 => ?_)
            · exfalso
              omega
            · skip
              refine x_lload (dT U_L_areCommitments 86 rfl) rfl ?_
              refine x_iload_n (dT U_L_areCommitments 87 rfl) rfl ?_
              refine x_i2l (dT U_L_areCommitments 88 rfl) (by unfold xr; omega) ?_
              refine x_lif_ge (tgt := 180) (dT U_L_areCommitments 89 rfl) (dT U_L_areCommitments 90 rfl) (by decide) (xrl_of hz7) (xrl_of (by unfold xr; omega)) (fun c162 => ?_) (fun c162 => ?_)
              · exfalso
                omega
              · skip
                refine x_aload_n (dT U_L_areCommitments 91 rfl) rfl ?_
                refine x_iconst (dT U_L_areCommitments 92 rfl) ?_
                refine x_lload (dT U_L_areCommitments 93 rfl) rfl ?_
                refine x_l2i (dT U_L_areCommitments 94 rfl) ?_
                refine x_invokestaticT (rc' := rc + 20) (rs' := rs + 180) (rc2 := 0 + 2) (rs2 := 0 + 12) (As := [_, _, _]) (st := _) M_L_commit K_L_245 (dT U_L_areCommitments 95 rfl) rfl (by decide) rfl rfl (Nat.le_of_ble_eq_true rfl) rfl (by decide) (Nat.le_of_ble_eq_true rfl) (by first | rfl | omega) (by first | rfl | omega) ?_
                refine S_L_commit w8 v8 (by first | assumption | (unfold xr; omega)) (by first | assumption | (unfold xr; omega)) (fun  z8 => absurd (show inb _ _ from by omega) z8) (fun _ z8 => absurd (show inb _ _ from by have := p_8; omega) z8) (fun _ _ z9 e9 hz9 => ?_)
                refine xRet_some ?_
                have e9 : z9 = MM p (cm p row blind) := by
                  simp only [tn0, tn1, tn2, tn3, tn4, tn5, tn6, tn7, tn8, Int.toNat_natCast, p_8, r1_8] at e9; rw [e9, e7, break_ok hpr hcm]
                refine x_lload (dT U_L_areCommitments 96 rfl) rfl ?_
                refine x_lif_eq (tgt := 182) (dT U_L_areCommitments 97 rfl) (dT U_L_areCommitments 98 rfl) (by decide) (xrl_of hz9) (xrl_of hz5) (fun c176 => ?_) (fun c176 => ?_)
                · skip
                  refine x_aload_n (dT U_L_areCommitments 101 rfl) rfl ?_
                  refine x_iconst (dT U_L_areCommitments 102 rfl) ?_
                  refine x_iload (dT U_L_areCommitments 103 rfl) rfl ?_
                  refine x_invokestaticT (rc' := rc + 18) (rs' := rs + 168) (rc2 := 0 + 2) (rs2 := 0 + 12) (As := [_, _, _]) (st := _) M_L_get K_L_231 (dT U_L_areCommitments 104 rfl) rfl (by decide) rfl rfl (Nat.le_of_ble_eq_true rfl) rfl (by decide) (Nat.le_of_ble_eq_true rfl) (by first | rfl | omega) (by first | rfl | omega) ?_
                  refine S_L_get w8 v8 (by first | assumption | (unfold xr; omega)) (by first | assumption | (unfold xr; omega)) (fun  z8 => absurd (show inb _ _ ∧ inb _ _ from by omega) z8) (fun _ z10 e10 hz10 => ?_)
                  refine xRet_some ?_
                  have e10 : z10 = row2.getD t 0 := by
                    simp only [tn0, tn1, tn2, tn3, tn4, tn5, tn6, tn7, tn8, Int.toNat_natCast, r1_8] at e10; exact e10
                  refine x_aload (dT U_L_areCommitments 105 rfl) rfl ?_
                  refine x_iload (dT U_L_areCommitments 106 rfl) rfl ?_
                  refine x_iaload (t) (dT U_L_areCommitments 107 rfl) h_row_8 (by omega) rfl (by have := (Fl_row).1; omega) (by have := (Fl_row).1; omega) ?_
                  refine x_iconst (dT U_L_areCommitments 108 rfl) ?_
                  refine x_iadd (dT U_L_areCommitments 109 rfl) ?_
                  refine x_iload_n (dT U_L_areCommitments 110 rfl) rfl ?_
                  refine x_irem (dT U_L_areCommitments 111 rfl) (by have := Fl_row.2 t; unfold xr; omega) (by unfold xr; omega) (by omega) ?_
                  rw [Int.tmod_eq_emod_of_nonneg (by have := Fl_row.2 t; omega)]
                  refine x_i2l (dT U_L_areCommitments 112 rfl) (xr_md ⟨by omega, by omega⟩) ?_
                  refine x_lif_ne (tgt := 223) (dT U_L_areCommitments 113 rfl) (dT U_L_areCommitments 114 rfl) (by decide) (xrl_of hz10) (xrl_of (xr_md ⟨by omega, by omega⟩)) (fun c199 => ?_) (fun c199 => ?_)
                  · exfalso
                    exact c199 (by rw [e10, ← e_row2, gset_e (by rw [Fl_row.1]; omega)])
                  · skip
                    refine x_aload_n (dT U_L_areCommitments 115 rfl) rfl ?_
                    refine x_lload (dT U_L_areCommitments 116 rfl) rfl ?_
                    refine x_l2i (dT U_L_areCommitments 117 rfl) ?_
                    refine x_iconst (dT U_L_areCommitments 118 rfl) ?_
                    refine x_lload (dT U_L_areCommitments 119 rfl) rfl ?_
                    refine x_l2i (dT U_L_areCommitments 120 rfl) ?_
                    refine x_invokestaticT (rc' := rc + 15) (rs' := rs + 150) (rc2 := 0 + 3) (rs2 := 0 + 18) (As := [_, _, _, _]) (st := _) M_L_isOpened K_L_251 (dT U_L_areCommitments 121 rfl) rfl (by decide) rfl rfl (Nat.le_of_ble_eq_true rfl) rfl (by decide) (Nat.le_of_ble_eq_true rfl) (by first | rfl | omega) (by first | rfl | omega) ?_
                    refine S_L_isOpened w8 v8 (by first | assumption | (unfold xr; omega)) (by first | assumption | (unfold xr; omega)) (by first | assumption | (unfold xr; omega)) (fun  z8 => absurd (show inb _ _ from by omega) z8) (fun _ z8 => absurd (show _ ∧ inb _ _ from ⟨by rw [p_8, e5, exI_MM hpr hcm]; omega, by have := p_8; omega⟩) z8) (fun _ _ _ => ?_) (fun _ _ z8 => absurd (by simp only [tn0, tn1, tn2, tn3, tn4, tn5, tn6, tn7, tn8, Int.toNat_natCast, p_8, r1_8]; rw [e5, exI_MM hpr hcm, e7, break_ok hpr hcm]) z8)
                    refine xRet_some ?_
                    refine x_lconst (z := 1) (dT U_L_areCommitments 122 rfl) rfl ?_
                    refine x_lif_ne (tgt := 223) (dT U_L_areCommitments 123 rfl) (dT U_L_areCommitments 124 rfl) (by decide) (xrl_of (by unfold xr; omega)) (xrl_of (by unfold xr; omega)) (fun c215 => ?_) (fun c215 => ?_)
                    · exfalso
                      omega
                    · skip
                      refine x_iconst (dT U_L_areCommitments 125 rfl) ?_
                      refine x_goto (tgt := 224) (dT U_L_areCommitments 126 rfl) (by decide) ?_
                      refine x_zreturn (dT U_L_areCommitments 128 rfl) rfl (by omega) ?_
                      exact kk _ _ _ w8 v8 p_8 L_8 hlen_8
                · exfalso
                  exact c176 (e9.trans e5.symm)
          · exfalso
            omega
      · exfalso
        omega
    | succ n9 ih =>
      intro i hi9 h4 ex4 σ4 w4 v4 hlen_4 r0_4 p_4 L_4 h_row_4
      refine x_iload (dT U_L_areCommitments 19 rfl) rfl ?_
      refine x_bipush (dT U_L_areCommitments 20 rfl) (by decide) ?_
      refine x_icmp_ge (tgt := 84) (dT U_L_areCommitments 21 rfl) (by decide) (by first | assumption | (unfold xr; omega)) (by unfold xr; omega) (fun c38 => ?_) (fun c38 => ?_)
      · exfalso
        omega
      · skip
        refine x_aload_n (dT U_L_areCommitments 22 rfl) rfl ?_
        refine x_iload (dT U_L_areCommitments 23 rfl) rfl ?_
        refine x_invokestaticT (rc' := rc + 40 + 3 * n9 + 2) (rs' := rs + 300 + 18 * n9 + 12) (rc2 := 0 + 1) (rs2 := 0 + 6) (As := [_, _]) (st := _) M_L_base K_L_215 (dT U_L_areCommitments 24 rfl) rfl (by decide) rfl rfl (Nat.le_of_ble_eq_true rfl) rfl (by decide) (Nat.le_of_ble_eq_true rfl) (by first | rfl | omega) (by first | rfl | omega) ?_
        refine S_L_base w4 v4 (by first | assumption | (unfold xr; omega)) (fun  z8 => absurd (show inb _ _ from by omega) z8) (fun _ z12 e12 hz12 => ?_)
        refine xRet_some ?_
        have e12 : z12 = MM p (bs p i) := by
          simp only [tn0, tn1, tn2, tn3, tn4, tn5, tn6, tn7, tn8, Int.toNat_natCast, p_4] at e12; exact e12
        refine x_l2i (dT U_L_areCommitments 25 rfl) ?_
        refine x_istore (ls' := [some (.ref _), some (.ref _), some (vi _), some (vi _), some (.ref _), some (vi _), some (vi _), some (vi _), none, none, none]) (dT U_L_areCommitments 26 rfl) (by decide) rfl ?_
        refine x_iload (dT U_L_areCommitments 27 rfl) rfl ?_
        refine x_iconst (dT U_L_areCommitments 28 rfl) ?_
        have hbi := bs_b hpr (i := i) (by omega)
        have hm1 := MM_ne1 hpr (e := (bs p i : Int)) (by omega)
        rw [← e12] at hm1
        refine x_icmp_eq (tgt := 76) (dT U_L_areCommitments 29 rfl) (by decide) hz12 (by unfold xr; omega) (fun c53 => ?_) (fun c53 => ?_)
        · exfalso
          exact hm1 c53
        · skip
          refine x_iload (dT U_L_areCommitments 30 rfl) rfl ?_
          refine x_iload_n (dT U_L_areCommitments 31 rfl) rfl ?_
          refine x_iload_n (dT U_L_areCommitments 32 rfl) rfl ?_
          refine x_invokestatic (rc' := rc + 40 + 3 * n9 + 2) (rs' := rs + 300 + 18 * n9 + 12) (rc2 := 0 + 0) (rs2 := 0 + 0) (As := [_, _, _]) (st := _) M_L_power K_L_218 (dT U_L_areCommitments 33 rfl) rfl rfl rfl rfl (Nat.le_of_ble_eq_true rfl) rfl (by decide) (Nat.le_of_ble_eq_true rfl) (by omega) (by omega) ?_
          refine S_L_powY hpr e12.symm (by omega) (by omega) ?_
          rw [mul_self_mod, MM_0 hpr]
          refine xRet_some ?_
          refine x_iconst (dT U_L_areCommitments 34 rfl) ?_
          refine x_icmp_ne (tgt := 76) (dT U_L_areCommitments 35 rfl) (by decide) (by unfold xr; omega) (by unfold xr; omega) (fun c64 => ?_) (fun c64 => ?_)
          · exfalso
            omega
          · skip
            refine x_aload_n (dT U_L_areCommitments 36 rfl) rfl ?_
            refine x_iload (dT U_L_areCommitments 37 rfl) rfl ?_
            refine x_invokestatic (rc' := rc + 40 + 3 * n9 + 2) (rs' := rs + 300 + 18 * n9 + 12) (rc2 := 0 + 0) (rs2 := 0 + 0) (As := [_, _]) (st := _) M_L_isMember K_L_242 (dT U_L_areCommitments 38 rfl) rfl rfl rfl rfl (Nat.le_of_ble_eq_true rfl) rfl (by decide) (Nat.le_of_ble_eq_true rfl) (by first | rfl | omega) (by first | rfl | omega) ?_
            refine S_L_isMember w4 v4 (by rw [e12]; exact xr_MM hpr)  (fun _ => ?_) (fun  z8 => absurd (by rw [p_4, e12, exI_MM hpr (by omega)]; omega) z8)
            refine xRet_some ?_
            refine x_if_ne (tgt := 78) (dT U_L_areCommitments 39 rfl) (by decide) (by unfold xr; omega) (fun c73 => ?_) (fun c73 => ?_)
            · skip
              refine x_iinc (ls' := [some (.ref _), some (.ref _), some (vi _), some (vi _), some (.ref _), some (vi _), some (vi _), some (vi _), none, none, none]) (dT U_L_areCommitments 42 rfl) (by decide) rfl rfl ?_
              refine x_goto (tgt := 34) (dT U_L_areCommitments 43 rfl) (by decide) ?_
              
              refine X_room (by omega) (by omega) (x_drop ?_ (ih (i + 1) (by omega) _ _ _ w4 v4 hlen_4 r0_4 p_4 L_4 h_row_4))
              repeat (first | exact trivial | refine ⟨rfl, ?_⟩ | refine ⟨trivial, ?_⟩)
            · exfalso
              omega
  refine X_room (by omega) (by omega) (x_drop ?_ (L4 9 0 (by omega) _ _ _ w3 v3 hlen_3 r0_3 p_3 L_3 h_row_3))
  repeat (first | exact trivial | refine ⟨rfl, ?_⟩ | refine ⟨trivial, ?_⟩)

