set_option maxRecDepth 20000 in
set_option maxHeartbeats 60000000 in
theorem S_L_isGame {G : xG} {d rc rs : Nat} {ex : Bool} {h : xH} {Q : xQ} {σ : St} {p n0 : Nat} {f : Nat} (hL : gL G < 100000) (w : CW σ h) (v : INV σ) (hpp : σ.p = p) (hn0 : σ.L.n = n0) (hlen : 70 ≤ h.length) (hf : f < 900) (kk : ∀ (σ2 : St) (h2 : xH) (ex2 : Bool), CW σ2 h2 → INV σ2 → σ2.p = p → σ2.L.n = n0 → 70 ≤ h2.length → Q (.inl (some (vi 1))) ex2 h2) : X G m_L_isGame (d + 10) (rc + 1400) (rs + 12600) ex 0 (xe m_L_isGame.2.2.1 [.ref 3, .ref 0, vi (f : Int), vi (p : Int)]) [] h Q := by
  show X G m_L_isGame _ _ _ _ 0 [some (.ref 3), some (.ref 0), some (vi (f : Int)), some (vi (p : Int)), none, none, none, none, none, none, none, none, none, none, none, none] [] h Q
  have hpr : p ∈ PR := hpp ▸ v.p
  have hp := PRb hpr
  have hq := gq_b hpr
  refine x_aload_n (dT U_L_isGame 0 rfl) rfl ?_
  refine x_iload_n (dT U_L_isGame 1 rfl) rfl ?_
  refine x_iload_n (dT U_L_isGame 2 rfl) rfl ?_
  refine x_bipush (dT U_L_isGame 3 rfl) (by decide) ?_
  refine x_invokestatic (rc' := rc + 1399) (rs' := rs + 12592) (rc2 := 0 + 1) (rs2 := 0 + 8) (As := [_, _, _, _]) (st := _) M_L_made K_L_234 (dT U_L_isGame 4 rfl) rfl rfl rfl rfl (Nat.le_of_ble_eq_true rfl) rfl (by decide) (Nat.le_of_ble_eq_true rfl) (by first | rfl | omega) (by first | rfl | omega) ?_
  refine S_L_made (f := f) (m := 8) hL (by have := hlen; omega) (by omega) (by omega) (by omega) (fun h1 a_row row u1 ga1 ge1 h_row1 Fl_row Z_row => ?_)
  refine xRet_some ?_
  have g_row : 70 ≤ a_row := by have := hlen; omega
  have w1 := (w).up u1
  have hlen_1 : 70 ≤ h1.length := by have := u1.len; have := hlen; omega
  refine x_astore (ls' := [some (.ref _), some (.ref _), some (vi _), some (vi _), some (.ref _), none, none, none, none, none, none, none, none, none, none, none]) (dT U_L_isGame 5 rfl) (by decide) rfl ?_
  refine x_iconst (dT U_L_isGame 6 rfl) ?_
  refine x_istore (ls' := [some (.ref _), some (.ref _), some (vi _), some (vi _), some (.ref _), some (vi _), none, none, none, none, none, none, none, none, none, none]) (dT U_L_isGame 7 rfl) (by decide) rfl ?_
  refine x_iconst (dT U_L_isGame 8 rfl) ?_
  refine x_istore (ls' := [some (.ref _), some (.ref _), some (vi _), some (vi _), some (.ref _), some (vi _), some (vi _), none, none, none, none, none, none, none, none, none]) (dT U_L_isGame 9 rfl) (by decide) rfl ?_
  have L2 : ∀ (n9 i : Nat), i + n9 = 8 → ∀ (h2 : xH) (ex2 : Bool) (σ2 : St), CW σ2 h2 → INV σ2 → 70 ≤ h2.length → σ2.p = p → σ2.L.n = n0 → h2[a_row]? = some (cA 0 row) → X G m_L_isGame (d + 10) (rc + 1300 + 1 * n9) (rs + 11700 + 6 * n9) ex2 16 [some (.ref 3), some (.ref 0), some (vi (f : Int)), some (vi (p : Int)), some (.ref a_row), some (vi (sm (gf row) i % (p : Int))), some (vi (i : Int)), none, none, none, none, none, none, none, none, none] [] h2 Q := by
    intro n9
    induction n9 with
    | zero =>
      intro i hi9 h2 ex2 σ2 w2 v2 hlen_2 p_2 L_2 h_row_2
      refine x_iload (dT U_L_isGame 10 rfl) rfl ?_
      refine x_bipush (dT U_L_isGame 11 rfl) (by decide) ?_
      refine x_icmp_ge (tgt := 41) (dT U_L_isGame 12 rfl) (by decide) (by first | assumption | (unfold xr; omega)) (by unfold xr; omega) (fun c20 => ?_) (fun c20 => ?_)
      · skip
        have hi8 : i = 8 := by omega
        subst hi8
        obtain ⟨sum, e_sum⟩ : ∃ r : Int, sm (gf row) 8 % (p : Int) = r := ⟨_, rfl⟩
        rw [e_sum]
        have b_sum : 0 ≤ sum ∧ sum < (p : Int) := by rw [← e_sum]; exact modb (by omega)
        have M85 : ∀ (exq : Bool) (claim : Int) (b_claim : 0 ≤ claim ∧ claim < (p : Int)), X G m_L_isGame (d + 10) (rc + 1200) (rs + 10800) exq 85 [some (.ref 3), some (.ref 0), some (vi (f : Int)), some (vi (p : Int)), some (.ref a_row), some (vi sum), none, none, none, none, none, none, none, none, none, none] [vi claim] h2 Q := by
          intro exq claim b_claim
          refine x_istore (ls' := [some (.ref _), some (.ref _), some (vi _), some (vi _), some (.ref _), some (vi _), none, some (vi _), none, none, none, none, none, none, none, none]) (dT U_L_isGame 46 rfl) (by decide) rfl ?_
          refine x_iload_n (dT U_L_isGame 47 rfl) rfl ?_
          refine x_iload_n (dT U_L_isGame 48 rfl) rfl ?_
          refine x_imul (dT U_L_isGame 49 rfl) ?_
          refine x_iload_n (dT U_L_isGame 50 rfl) rfl ?_
          refine x_imul (dT U_L_isGame 51 rfl) ?_
          refine x_istore (ls' := [some (.ref _), some (.ref _), some (vi _), some (vi _), some (.ref _), some (vi _), none, some (vi _), some (vi _), none, none, none, none, none, none, none]) (dT U_L_isGame 52 rfl) (by decide) rfl ?_
          refine x_iload_n (dT U_L_isGame 53 rfl) rfl ?_
          refine x_iconst (dT U_L_isGame 54 rfl) ?_
          refine x_isub (dT U_L_isGame 55 rfl) ?_
          refine x_iload_n (dT U_L_isGame 56 rfl) rfl ?_
          refine x_iconst (dT U_L_isGame 57 rfl) ?_
          refine x_isub (dT U_L_isGame 58 rfl) ?_
          refine x_imul (dT U_L_isGame 59 rfl) ?_
          refine x_iload_n (dT U_L_isGame 60 rfl) rfl ?_
          refine x_iconst (dT U_L_isGame 61 rfl) ?_
          refine x_isub (dT U_L_isGame 62 rfl) ?_
          refine x_imul (dT U_L_isGame 63 rfl) ?_
          refine x_istore (ls' := [some (.ref _), some (.ref _), some (vi _), some (vi _), some (.ref _), some (vi _), none, some (vi _), some (vi _), some (vi _), none, none, none, none, none, none]) (dT U_L_isGame 64 rfl) (by decide) rfl ?_
          refine x_aload_n (dT U_L_isGame 65 rfl) rfl ?_
          refine x_iconst (dT U_L_isGame 66 rfl) ?_
          refine x_aload (dT U_L_isGame 67 rfl) rfl ?_
          refine x_invokestatic (rc' := rc + 1199) (rs' := rs + 10794) (rc2 := 0 + 1) (rs2 := 0 + 6) (As := [_, _, _]) (st := _) M_L_lays K_L_238 (dT U_L_isGame 68 rfl) rfl rfl rfl rfl (Nat.le_of_ble_eq_true rfl) rfl (by decide) (Nat.le_of_ble_eq_true rfl) (by first | rfl | omega) (by first | rfl | omega) ?_
          refine S_L_lays w2 v2 (by omega) h_row_2 (by omega) (by rw [p_2]; exact Fl_row) (fun z3 hz3 h3 fc3 w_3 v_3 => ?_)
          refine xRet_some ?_
          obtain ⟨σ4, w4, v4, r0_4, p_4, L_4⟩ : ∃ σ4 : St, CW σ4 h3 ∧ INV σ4 ∧ σ4.rw 0 = row ∧ σ4.p = p ∧ σ4.L.n = n0 := ⟨_, w_3, v_3, rfl, p_2, L_2⟩
          have h_row_4 : h3[a_row]? = some (cA 0 row) := (fc3).get h_row_2 (by omega)
          have hlen_4 : 70 ≤ h3.length := by rw [fc3.1]; exact hlen_2
          refine x_pop2 (dT U_L_isGame 69 rfl) ?_
          refine x_aload_n (dT U_L_isGame 70 rfl) rfl ?_
          refine x_iconst (dT U_L_isGame 71 rfl) ?_
          refine x_iload (dT U_L_isGame 72 rfl) rfl ?_
          have m_pp := mulg (a := (p : Int)) (b := (p : Int)) (m := 23) (n := 23) (by omega) (by omega)
          have m_ppp := mulg (a := (p : Int) * p) (b := (p : Int)) (m := 529) (n := 23) (by omega) (by omega)
          have m_qq := mulg (a := (p : Int) - 1) (b := (p : Int) - 1) (m := 22) (n := 22) (by omega) (by omega)
          have m_qqq := mulg (a := ((p : Int) - 1) * ((p : Int) - 1)) (b := (p : Int) - 1) (m := 484) (n := 22) (by omega) (by omega)
          refine x_invokestaticT (rc' := rc + 1197) (rs' := rs + 10782) (rc2 := 0 + 2) (rs2 := 0 + 12) (As := [_, _, _]) (st := _) M_L_play K_L_316 (dT U_L_isGame 73 rfl) rfl (by decide) rfl rfl (Nat.le_of_ble_eq_true rfl) rfl (by decide) (Nat.le_of_ble_eq_true rfl) (by first | rfl | omega) (by first | rfl | omega) ?_
          refine S_L_play w4 v4 (by first | assumption | (unfold xr; omega)) (by first | assumption | (unfold xr; omega)) (fun  z8 => absurd (show inb _ _ from by omega) z8) (fun _ z8 => absurd (show inb _ _ from by have := p_4; omega) z8) (fun _ _ z5 e5 hz5 i9_5 q9_5 h5 fc5 w_5 v_5 => ?_)
          refine xRet_some ?_
          have e5 : z5 = if claim = sum then ((p : Int) * p * p) else ((p : Int) * p * p) - (((p : Int) - 1) * ((p : Int) - 1) * ((p : Int) - 1)) := by
            rw [e5]
            show wnn σ4.p (σ4.rw 0) 0 0 claim _ _ = _
            rw [p_4, r0_4, play_is hpr, e_sum]
          obtain ⟨σ6, w6, v6, g_b_6, g_s_6, g_c_6, g_r_6, g_l_6, r0_6, p_6, L_6⟩ : ∃ σ6 : St, CW σ6 h5 ∧ INV σ6 ∧ σ6.g.b = 1 ∧ σ6.g.s = 0 ∧ σ6.g.c = claim ∧ σ6.g.r = 0 ∧ σ6.g.l = row ∧ σ6.rw 0 = row ∧ σ6.p = p ∧ σ6.L.n = n0 := ⟨_, w_5, v_5, rfl, rfl, rfl, rfl, r0_4, r0_4, p_4, L_4⟩
          have h_row_6 : h5[a_row]? = some (cA 0 row) := (fc5).get h_row_4 (by omega)
          have hlen_6 : 70 ≤ h5.length := by rw [fc5.1]; exact hlen_4
          have M144 : ∀ (exq : Bool), X G m_L_isGame (d + 10) (rc + 1100) (rs + 9900) exq 144 [some (.ref 3), some (.ref 0), some (vi (f : Int)), some (vi (p : Int)), some (.ref a_row), some (vi sum), none, some (vi claim), some (vi ((p : Int) * p * p)), some (vi (((p : Int) - 1) * ((p : Int) - 1) * ((p : Int) - 1))), none, none, none, none, none, none] [] h5 Q := by
            intro exq
            refine x_aload_n (dT U_L_isGame 85 rfl) rfl ?_
            refine x_iconst (dT U_L_isGame 86 rfl) ?_
            refine x_invokestaticT (rc' := rc + 1099) (rs' := rs + 9894) (rc2 := 0 + 1) (rs2 := 0 + 6) (As := [_, _]) (st := _) M_L_total K_L_318 (dT U_L_isGame 87 rfl) rfl (by decide) rfl rfl (Nat.le_of_ble_eq_true rfl) rfl (by decide) (Nat.le_of_ble_eq_true rfl) (by first | rfl | omega) (by first | rfl | omega) ?_
            refine S_L_total w6 v6 (by first | assumption | (unfold xr; omega)) (fun  z8 => absurd (show inb _ _ from by omega) z8) (fun _ z7 e7 hz7 => ?_)
            refine xRet_some ?_
            have e7 : z7 = sum := by
              simp only [tn0, tn1, tn2, tn3, tn4, tn5, tn6, tn7, tn8, Int.toNat_natCast, p_6, r0_6] at e7; exact e7.trans e_sum
            refine x_iload (dT U_L_isGame 88 rfl) rfl ?_
            refine x_i2l (dT U_L_isGame 89 rfl) (by first | assumption | (unfold xr; omega)) ?_
            refine x_lif_eq (tgt := 158) (dT U_L_isGame 90 rfl) (dT U_L_isGame 91 rfl) (by decide) (xrl_of hz7) (xrl_of (by first | assumption | (unfold xr; omega))) (fun c152 => ?_) (fun c152 => ?_)
            · skip
              refine x_iconst (dT U_L_isGame 94 rfl) ?_
              refine x_newL (rc' := rc + 1098) (rs' := rs + 9891) 3 (by have := hlen_6; omega) (dT U_L_isGame 95 rfl) rfl (by omega) (by omega) (by omega) (fun h8 a_at u8 ga8 ge8 h_at8 => ?_)
              have Fl_at : L3 (List.replicate 3 0) := ⟨rfl, trivial⟩
              have g_at : 70 ≤ a_at := by have := hlen_6; omega
              have w8 := (w6).up u8
              have h_row_8 := u8 _ _ h_row_6
              have ne_at_row : a_at ≠ a_row := by have := (List.getElem?_eq_some_iff.mp h_row_6).1; omega
              have hlen_8 : 70 ≤ h8.length := by have := u8.len; have := hlen_6; omega
              refine x_astore (ls' := [some (.ref _), some (.ref _), some (vi _), some (vi _), some (.ref _), some (vi _), none, some (vi _), some (vi _), some (vi _), some (.ref _), none, none, none, none, none]) (dT U_L_isGame 96 rfl) (by decide) rfl ?_
              refine x_iconst (dT U_L_isGame 97 rfl) ?_
              refine x_istore (ls' := [some (.ref _), some (.ref _), some (vi _), some (vi _), some (.ref _), some (vi _), none, some (vi _), some (vi _), some (vi _), some (.ref _), some (vi _), none, none, none, none]) (dT U_L_isGame 98 rfl) (by decide) rfl ?_
              refine x_iload (dT U_L_isGame 99 rfl) rfl ?_
              refine x_iconst (dT U_L_isGame 100 rfl) ?_
              refine x_icmp_ge (tgt := 331) (dT U_L_isGame 101 rfl) (by decide) (by unfold xr; omega) (by unfold xr; omega) (fun c169 => ?_) (fun c169 => ?_)
              · exfalso
                omega
              · skip
                refine x_aload_n (dT U_L_isGame 102 rfl) rfl ?_
                refine x_invokestaticT (rc' := rc + 1097) (rs' := rs + 9885) (rc2 := 0 + 1) (rs2 := 0 + 6) (As := [_]) (st := _) M_L_honest K_L_320 (dT U_L_isGame 103 rfl) rfl (by decide) rfl rfl (Nat.le_of_ble_eq_true rfl) rfl (by decide) (Nat.le_of_ble_eq_true rfl) (by first | rfl | omega) (by first | rfl | omega) ?_
                refine S_L_honest w8 v6  (fun  z8 => absurd (⟨g_b_6, g_s_6, by have := g_r_6; omega⟩) z8) (fun _ z9 e9 hz9 => ?_)
                refine xRet_some ?_
                obtain ⟨A0, B0, bA0, bB0, e_AB0⟩ : ∃ A B : Int, (0 ≤ A ∧ A < (p : Int)) ∧ (0 ≤ B ∧ B < (p : Int)) ∧ z9 = 32 * A + B := ⟨_, _, by rw [← p_6]; exact modb (by have := p_6; omega), by rw [← p_6]; exact modb (by have := p_6; omega), e9⟩
                refine x_lstore (ls' := [some (.ref _), some (.ref _), some (vi _), some (vi _), some (.ref _), some (vi _), none, some (vi _), some (vi _), some (vi _), some (.ref _), some (vi _), some (vl _), none, none, none]) (dT U_L_isGame 104 rfl) (by decide) rfl ?_
                have MG10 : ∀ (exq : Bool) (z_0 : Int) (b_z_0 : 0 ≤ z_0 ∧ z_0 < (p : Int)), X G m_L_isGame (d + 10) (rc + 900) (rs + 8100) exq 220 [some (.ref 3), some (.ref 0), some (vi (f : Int)), some (vi (p : Int)), some (.ref a_row), some (vi sum), none, some (vi claim), some (vi ((p : Int) * p * p)), some (vi (((p : Int) - 1) * ((p : Int) - 1) * ((p : Int) - 1))), some (.ref a_at), some (vi 0), none, none, none, none] [vi z_0] h8 Q := by
                  intro exq z_0 b_z_0
                  refine x_istore (ls' := [some (.ref _), some (.ref _), some (vi _), some (vi _), some (.ref _), some (vi _), none, some (vi _), some (vi _), some (vi _), some (.ref _), some (vi _), none, none, some (vi _), none]) (dT U_L_isGame 129 rfl) (by decide) rfl ?_
                  refine x_iload (dT U_L_isGame 130 rfl) rfl ?_
                  refine x_iload (dT U_L_isGame 131 rfl) rfl ?_
                  refine x_isub (dT U_L_isGame 132 rfl) ?_
                  refine x_iload_n (dT U_L_isGame 133 rfl) rfl ?_
                  refine x_invokestatic (rc' := rc + 900) (rs' := rs + 8100) (rc2 := 0 + 0) (rs2 := 0 + 0) (As := [_, _]) (st := _) M_L_rest K_L_292 (dT U_L_isGame 134 rfl) rfl rfl rfl rfl (Nat.le_of_ble_eq_true rfl) rfl (by decide) (Nat.le_of_ble_eq_true rfl) (by omega) (by omega) ?_
                  refine S_L_rest (by unfold xr; omega) (by omega) ?_
                  obtain ⟨one0, e_one0⟩ : ∃ x : Int, (claim - z_0) % (p : Int) = x := ⟨_, rfl⟩
                  rw [e_one0]
                  have b_one0 : 0 ≤ one0 ∧ one0 < (p : Int) := by rw [← e_one0]; exact modb (by omega)
                  refine xRet_some ?_
                  refine x_istore (ls' := [some (.ref _), some (.ref _), some (vi _), some (vi _), some (.ref _), some (vi _), none, some (vi _), some (vi _), some (vi _), some (.ref _), some (vi _), none, none, some (vi _), some (vi _)]) (dT U_L_isGame 135 rfl) (by decide) rfl ?_
                  refine x_aload_n (dT U_L_isGame 136 rfl) rfl ?_
                  refine x_iload (dT U_L_isGame 137 rfl) rfl ?_
                  refine x_iload (dT U_L_isGame 138 rfl) rfl ?_
                  refine x_iconst (dT U_L_isGame 139 rfl) ?_
                  refine x_iadd (dT U_L_isGame 140 rfl) ?_
                  refine x_iload_n (dT U_L_isGame 141 rfl) rfl ?_
                  refine x_irem (dT U_L_isGame 142 rfl) (by unfold xr; omega) (by unfold xr; omega) (by omega) ?_
                  rw [Int.tmod_eq_emod_of_nonneg (by omega)]
                  have b_no0 := modb (z := one0 + 1) (p := (p : Int)) (by omega)
                  refine x_invokestaticT (rc' := rc + 896) (rs' := rs + 8076) (rc2 := 0 + 4) (rs2 := 0 + 24) (As := [_, _, _]) (st := _) M_L_send K_L_323 (dT U_L_isGame 143 rfl) rfl (by decide) rfl rfl (Nat.le_of_ble_eq_true rfl) rfl (by decide) (Nat.le_of_ble_eq_true rfl) (by omega) (by omega) ?_
                  refine S_L_send w8 v6 (by unfold xr; omega) (by unfold xr; omega) (fun z8 => absurd (show inb _ _ ∧ inb _ _ from by have := p_6; omega) z8) (fun _ z8 => absurd (show _ ∧ _ ∧ _ from ⟨g_b_6, g_s_6, by have := g_r_6; omega⟩) z8) (fun _ _ _ => ?_) (fun _ _ z8 => absurd z8 (by rw [p_6, g_c_6, ← e_one0]; exact send_ne (by omega) (by omega)))
                  refine xRet_some ?_
                  refine x_ldc2 C_L_60 (dT U_L_isGame 144 rfl) ?_
                  refine x_lif_ne (tgt := 265) (dT U_L_isGame 145 rfl) (dT U_L_isGame 146 rfl) (by decide) (show xrl _ by unfold xrl; omega) (show xrl _ by unfold xrl; omega) (fun c248 => ?_) (fun c248 => ?_)
                  · exfalso
                    exact absurd rfl c248
                  · skip
                    refine x_aload_n (dT U_L_isGame 147 rfl) rfl ?_
                    refine x_iload (dT U_L_isGame 148 rfl) rfl ?_
                    refine x_iload (dT U_L_isGame 149 rfl) rfl ?_
                    refine x_invokestaticT (rc' := rc + 892) (rs' := rs + 8052) (rc2 := 0 + 4) (rs2 := 0 + 24) (As := [_, _, _]) (st := _) M_L_send K_L_323 (dT U_L_isGame 150 rfl) rfl (by decide) rfl rfl (Nat.le_of_ble_eq_true rfl) rfl (by decide) (Nat.le_of_ble_eq_true rfl) (by first | rfl | omega) (by first | rfl | omega) ?_
                    refine S_L_send w8 v6 (by first | assumption | (unfold xr; omega)) (by first | assumption | (unfold xr; omega)) (fun  z8 => absurd (show inb _ _ ∧ inb _ _ from by have := p_6; omega) z8) (fun _ z8 => absurd (⟨g_b_6, g_s_6, by have := g_r_6; omega⟩) z8) (fun _ _ z8 => absurd ((by rw [p_6, g_c_6, ← e_one0]; exact send_eq (by omega))) z8) (fun _ _ _ z11 e11 hz11 i9_11 q9_11 h11 fc11 w_11 v_11 => ?_)
                    refine xRet_some ?_
                    have e11 : z11 = wnn p σ6.g.l σ6.g.r 1 σ6.g.c z_0 one0 := by
                      rw [p_6] at e11; exact e11
                    obtain ⟨σ12, w12, v12, g_b_12, g_s_12, g_c_12, g_r_12, g_z_12, g_o_12, g_l_12, r0_12, p_12, L_12⟩ : ∃ σ12 : St, CW σ12 h11 ∧ INV σ12 ∧ σ12.g.b = 1 ∧ σ12.g.s = 1 ∧ σ12.g.c = claim ∧ σ12.g.r = 0 ∧ σ12.g.z = z_0 ∧ σ12.g.o = one0 ∧ σ12.g.l = row ∧ σ12.rw 0 = row ∧ σ12.p = p ∧ σ12.L.n = n0 := ⟨_, w_11, v_11, g_b_6, rfl, g_c_6, g_r_6, rfl, rfl, g_l_6, r0_6, p_6, L_6⟩
                    have h_row_12 : h11[a_row]? = some (cA 0 row) := (fc11).get h_row_8 (by omega)
                    have h_at_12 : h11[a_at]? = some (cA 0 (List.replicate 3 0)) := (fc11).get h_at8 (by omega)
                    have hlen_12 : 70 ≤ h11.length := by rw [fc11.1]; exact hlen_8
                    have nn0 : 0 ≤ z11 := by rw [e11]; exact wnn_nn hpr
                    refine x_lconst (z := 0) (dT U_L_isGame 151 rfl) rfl ?_
                    refine x_lif_ge (tgt := 267) (dT U_L_isGame 152 rfl) (dT U_L_isGame 153 rfl) (by decide) (xrl_of hz11) (xrl_of (by unfold xr; omega)) (fun c261 => ?_) (fun c261 => ?_)
                    · skip
                      refine x_aload (dT U_L_isGame 156 rfl) rfl ?_
                      refine x_iload (dT U_L_isGame 157 rfl) rfl ?_
                      refine x_aload_n (dT U_L_isGame 158 rfl) rfl ?_
                      refine x_iload_n (dT U_L_isGame 159 rfl) rfl ?_
                      refine x_bipush (dT U_L_isGame 160 rfl) (by decide) ?_
                      refine x_iadd (dT U_L_isGame 161 rfl) ?_
                      refine x_iload (dT U_L_isGame 162 rfl) rfl ?_
                      refine x_iadd (dT U_L_isGame 163 rfl) ?_
                      rw [show (f : Int) + 16 + 0 = ((f + 16 + 0 : Nat) : Int) by omega]
                      refine x_invokestatic (rc' := rc + 892) (rs' := rs + 8052) (rc2 := 0 + 0) (rs2 := 0 + 0) (As := [_, _]) (st := _) M_L_cell K_L_221 (dT U_L_isGame 164 rfl) rfl rfl rfl rfl (Nat.le_of_ble_eq_true rfl) rfl (by decide) (Nat.le_of_ble_eq_true rfl) (by first | rfl | omega) (by first | rfl | omega) ?_
                      refine S_L_cell (k := f + 16 + 0) hL (by omega) (fun z279 => ?_)
                      refine xRet_some ?_
                      refine x_iload_n (dT U_L_isGame 165 rfl) rfl ?_
                      refine x_invokestatic (rc' := rc + 892) (rs' := rs + 8052) (rc2 := 0 + 0) (rs2 := 0 + 0) (As := [_, _]) (st := _) M_L_chosen K_L_225 (dT U_L_isGame 166 rfl) rfl rfl rfl rfl (Nat.le_of_ble_eq_true rfl) rfl (by decide) (Nat.le_of_ble_eq_true rfl) (by first | rfl | omega) (by first | rfl | omega) ?_
                      refine S_L_chosen (by omega) (fun at0 b_at0 => ?_)
                      refine xRet_some ?_
                      refine x_iastoreL (0) w12 g_at (dT U_L_isGame 167 rfl) h_at_12 rfl (by have := (Fl_at).1; omega) (by have := (Fl_at).1; omega) (fun h13 l13 el13 len13 w13 nb13 h_at_13 => ?_)
                      have hlen_13 : 70 ≤ h13.length := by rw [len13]; exact hlen_12
                      have h_row_13 := nb13 _ _ (by omega) h_row_12
                      have F_l13 : L3 l13 := ⟨by rw [el13, List.length_set]; exact (Fl_at).1, trivial⟩
                      have q0_0 : l13.getD 0 0 = at0 := by rw [el13, gset_e (by rw [(Fl_at).1]; decide)]
                      refine x_iload (dT U_L_isGame 168 rfl) rfl ?_
                      refine x_aload (dT U_L_isGame 169 rfl) rfl ?_
                      refine x_iload (dT U_L_isGame 170 rfl) rfl ?_
                      refine x_iaload (0) (dT U_L_isGame 171 rfl) h_at_13 (by omega) rfl (by have := (F_l13).1; omega) (by have := (F_l13).1; omega) ?_
                      refine x_iload (dT U_L_isGame 172 rfl) rfl ?_
                      refine x_iload (dT U_L_isGame 173 rfl) rfl ?_
                      refine x_isub (dT U_L_isGame 174 rfl) ?_
                      refine x_imul (dT U_L_isGame 175 rfl) ?_
                      refine x_iadd (dT U_L_isGame 176 rfl) ?_
                      refine x_iload_n (dT U_L_isGame 177 rfl) rfl ?_
                      rw [q0_0]
                      have m_at0 := mulb2 (a := one0 - z_0) (b := at0) (p := (p : Int)) (by omega) (by omega) (by omega)
                      rw [Int.mul_comm] at m_at0
                      refine x_invokestatic (rc' := rc + 892) (rs' := rs + 8052) (rc2 := 0 + 0) (rs2 := 0 + 0) (As := [_, _]) (st := _) M_L_rest K_L_292 (dT U_L_isGame 178 rfl) rfl rfl rfl rfl (Nat.le_of_ble_eq_true rfl) rfl (by decide) (Nat.le_of_ble_eq_true rfl) (by omega) (by omega) ?_
                      refine S_L_rest (by unfold xr; omega) (by omega) ?_
                      obtain ⟨claim1, e_claim1⟩ : ∃ x : Int, (z_0 + at0 * (one0 - z_0)) % (p : Int) = x := ⟨_, rfl⟩
                      rw [e_claim1]
                      have b_claim1 : 0 ≤ claim1 ∧ claim1 < (p : Int) := by rw [← e_claim1]; exact modb (by omega)
                      refine xRet_some ?_
                      refine x_istore (ls' := [some (.ref _), some (.ref _), some (vi _), some (vi _), some (.ref _), some (vi _), none, some (vi _), some (vi _), some (vi _), some (.ref _), some (vi _), none, none, some (vi _), some (vi _)]) (dT U_L_isGame 179 rfl) (by decide) rfl ?_
                      refine x_aload_n (dT U_L_isGame 180 rfl) rfl ?_
                      refine x_aload (dT U_L_isGame 181 rfl) rfl ?_
                      refine x_iload (dT U_L_isGame 182 rfl) rfl ?_
                      refine x_iaload (0) (dT U_L_isGame 183 rfl) h_at_13 (by omega) rfl (by have := (F_l13).1; omega) (by have := (F_l13).1; omega) ?_
                      rw [q0_0]
                      refine x_invokestaticT (rc' := rc + 890) (rs' := rs + 8040) (rc2 := 0 + 2) (rs2 := 0 + 12) (As := [_, _]) (st := _) M_L_draw K_L_325 (dT U_L_isGame 184 rfl) rfl (by decide) rfl rfl (Nat.le_of_ble_eq_true rfl) rfl (by decide) (Nat.le_of_ble_eq_true rfl) (by first | rfl | omega) (by first | rfl | omega) ?_
                      refine S_L_draw w13 v12 (by first | assumption | (unfold xr; omega)) (fun  z8 => absurd (show inb _ _ from by have := p_12; omega) z8) (fun _ z8 => absurd (⟨g_b_12, g_s_12⟩) z8) (fun _ _ z14 e14 hz14 h14 fc14 w_14 v_14 => ?_)
                      refine xRet_some ?_
                      have e14 : z14 = claim1 := by
                        rw [e14]
                        show ln σ12.p σ12.g.z σ12.g.o _ = _
                        rw [p_12, g_z_12, g_o_12]
                        exact e_claim1
                      obtain ⟨σ15, w15, v15, g_b_15, g_s_15, g_c_15, g_r_15, g_l_15, r0_15, p_15, L_15⟩ : ∃ σ15 : St, CW σ15 h14 ∧ INV σ15 ∧ σ15.g.b = 1 ∧ σ15.g.s = 0 ∧ σ15.g.c = claim1 ∧ σ15.g.r = 1 ∧ σ15.g.l = (bnd (p : Int) row 0 at0) ∧ σ15.rw 0 = row ∧ σ15.p = p ∧ σ15.L.n = n0 := ⟨_, w_14, v_14, g_b_12, rfl, (by show ln σ12.p σ12.g.z σ12.g.o _ = _; rw [p_12, g_z_12, g_o_12]; exact e_claim1), (by show σ12.g.r + 1 = _; rw [g_r_12]), (by show bnd σ12.p σ12.g.l σ12.g.r _ = _; rw [p_12, g_l_12, g_r_12]), r0_12, p_12, L_12⟩
                      have h_row_15 : h14[a_row]? = some (cA 0 row) := (fc14).get h_row_13 (by omega)
                      have h_at_15 : h14[a_at]? = some (cA 0 l13) := (fc14).get h_at_13 (by omega)
                      have hlen_15 : 70 ≤ h14.length := by rw [fc14.1]; exact hlen_13
                      refine x_iload (dT U_L_isGame 185 rfl) rfl ?_
                      refine x_i2l (dT U_L_isGame 186 rfl) (by first | assumption | (unfold xr; omega)) ?_
                      refine x_lif_eq (tgt := 325) (dT U_L_isGame 187 rfl) (dT U_L_isGame 188 rfl) (by decide) (xrl_of hz14) (xrl_of (by first | assumption | (unfold xr; omega))) (fun c319 => ?_) (fun c319 => ?_)
                      · skip
                        refine x_iinc (ls' := [some (.ref _), some (.ref _), some (vi _), some (vi _), some (.ref _), some (vi _), none, some (vi _), some (vi _), some (vi _), some (.ref _), some (vi _), none, none, some (vi _), some (vi _)]) (dT U_L_isGame 191 rfl) (by decide) rfl rfl ?_
                        rw [show ((0 : Int) + 1) = 1 from rfl]
                        refine x_goto (tgt := 166) (dT U_L_isGame 192 rfl) (by decide) ?_
                        refine x_iload (dT U_L_isGame 99 rfl) rfl ?_
                        refine x_iconst (dT U_L_isGame 100 rfl) ?_
                        refine x_icmp_ge (tgt := 331) (dT U_L_isGame 101 rfl) (by decide) (by unfold xr; omega) (by unfold xr; omega) (fun c169 => ?_) (fun c169 => ?_)
                        · exfalso
                          omega
                        · skip
                          refine x_aload_n (dT U_L_isGame 102 rfl) rfl ?_
                          refine x_invokestaticT (rc' := rc + 889) (rs' := rs + 8034) (rc2 := 0 + 1) (rs2 := 0 + 6) (As := [_]) (st := _) M_L_honest K_L_320 (dT U_L_isGame 103 rfl) rfl (by decide) rfl rfl (Nat.le_of_ble_eq_true rfl) rfl (by decide) (Nat.le_of_ble_eq_true rfl) (by first | rfl | omega) (by first | rfl | omega) ?_
                          refine S_L_honest w15 v15  (fun  z8 => absurd (⟨g_b_15, g_s_15, by have := g_r_15; omega⟩) z8) (fun _ z16 e16 hz16 => ?_)
                          refine xRet_some ?_
                          obtain ⟨A1, B1, bA1, bB1, e_AB1⟩ : ∃ A B : Int, (0 ≤ A ∧ A < (p : Int)) ∧ (0 ≤ B ∧ B < (p : Int)) ∧ z16 = 32 * A + B := ⟨_, _, by rw [← p_15]; exact modb (by have := p_15; omega), by rw [← p_15]; exact modb (by have := p_15; omega), e16⟩
                          refine x_lstore (ls' := [some (.ref _), some (.ref _), some (vi _), some (vi _), some (.ref _), some (vi _), none, some (vi _), some (vi _), some (vi _), some (.ref _), some (vi _), some (vl _), none, some (vi _), some (vi _)]) (dT U_L_isGame 104 rfl) (by decide) rfl ?_
                          have MG17 : ∀ (exq : Bool) (z_1 : Int) (b_z_1 : 0 ≤ z_1 ∧ z_1 < (p : Int)), X G m_L_isGame (d + 10) (rc + 700) (rs + 6300) exq 220 [some (.ref 3), some (.ref 0), some (vi (f : Int)), some (vi (p : Int)), some (.ref a_row), some (vi sum), none, some (vi claim1), some (vi ((p : Int) * p * p)), some (vi (((p : Int) - 1) * ((p : Int) - 1) * ((p : Int) - 1))), some (.ref a_at), some (vi 1), none, none, none, none] [vi z_1] h14 Q := by
                            intro exq z_1 b_z_1
                            refine x_istore (ls' := [some (.ref _), some (.ref _), some (vi _), some (vi _), some (.ref _), some (vi _), none, some (vi _), some (vi _), some (vi _), some (.ref _), some (vi _), none, none, some (vi _), none]) (dT U_L_isGame 129 rfl) (by decide) rfl ?_
                            refine x_iload (dT U_L_isGame 130 rfl) rfl ?_
                            refine x_iload (dT U_L_isGame 131 rfl) rfl ?_
                            refine x_isub (dT U_L_isGame 132 rfl) ?_
                            refine x_iload_n (dT U_L_isGame 133 rfl) rfl ?_
                            refine x_invokestatic (rc' := rc + 700) (rs' := rs + 6300) (rc2 := 0 + 0) (rs2 := 0 + 0) (As := [_, _]) (st := _) M_L_rest K_L_292 (dT U_L_isGame 134 rfl) rfl rfl rfl rfl (Nat.le_of_ble_eq_true rfl) rfl (by decide) (Nat.le_of_ble_eq_true rfl) (by omega) (by omega) ?_
                            refine S_L_rest (by unfold xr; omega) (by omega) ?_
                            obtain ⟨one1, e_one1⟩ : ∃ x : Int, (claim1 - z_1) % (p : Int) = x := ⟨_, rfl⟩
                            rw [e_one1]
                            have b_one1 : 0 ≤ one1 ∧ one1 < (p : Int) := by rw [← e_one1]; exact modb (by omega)
                            refine xRet_some ?_
                            refine x_istore (ls' := [some (.ref _), some (.ref _), some (vi _), some (vi _), some (.ref _), some (vi _), none, some (vi _), some (vi _), some (vi _), some (.ref _), some (vi _), none, none, some (vi _), some (vi _)]) (dT U_L_isGame 135 rfl) (by decide) rfl ?_
                            refine x_aload_n (dT U_L_isGame 136 rfl) rfl ?_
                            refine x_iload (dT U_L_isGame 137 rfl) rfl ?_
                            refine x_iload (dT U_L_isGame 138 rfl) rfl ?_
                            refine x_iconst (dT U_L_isGame 139 rfl) ?_
                            refine x_iadd (dT U_L_isGame 140 rfl) ?_
                            refine x_iload_n (dT U_L_isGame 141 rfl) rfl ?_
                            refine x_irem (dT U_L_isGame 142 rfl) (by unfold xr; omega) (by unfold xr; omega) (by omega) ?_
                            rw [Int.tmod_eq_emod_of_nonneg (by omega)]
                            have b_no1 := modb (z := one1 + 1) (p := (p : Int)) (by omega)
                            refine x_invokestaticT (rc' := rc + 696) (rs' := rs + 6276) (rc2 := 0 + 4) (rs2 := 0 + 24) (As := [_, _, _]) (st := _) M_L_send K_L_323 (dT U_L_isGame 143 rfl) rfl (by decide) rfl rfl (Nat.le_of_ble_eq_true rfl) rfl (by decide) (Nat.le_of_ble_eq_true rfl) (by omega) (by omega) ?_
                            refine S_L_send w15 v15 (by unfold xr; omega) (by unfold xr; omega) (fun z8 => absurd (show inb _ _ ∧ inb _ _ from by have := p_15; omega) z8) (fun _ z8 => absurd (show _ ∧ _ ∧ _ from ⟨g_b_15, g_s_15, by have := g_r_15; omega⟩) z8) (fun _ _ _ => ?_) (fun _ _ z8 => absurd z8 (by rw [p_15, g_c_15, ← e_one1]; exact send_ne (by omega) (by omega)))
                            refine xRet_some ?_
                            refine x_ldc2 C_L_60 (dT U_L_isGame 144 rfl) ?_
                            refine x_lif_ne (tgt := 265) (dT U_L_isGame 145 rfl) (dT U_L_isGame 146 rfl) (by decide) (show xrl _ by unfold xrl; omega) (show xrl _ by unfold xrl; omega) (fun c248 => ?_) (fun c248 => ?_)
                            · exfalso
                              exact absurd rfl c248
                            · skip
                              refine x_aload_n (dT U_L_isGame 147 rfl) rfl ?_
                              refine x_iload (dT U_L_isGame 148 rfl) rfl ?_
                              refine x_iload (dT U_L_isGame 149 rfl) rfl ?_
                              refine x_invokestaticT (rc' := rc + 692) (rs' := rs + 6252) (rc2 := 0 + 4) (rs2 := 0 + 24) (As := [_, _, _]) (st := _) M_L_send K_L_323 (dT U_L_isGame 150 rfl) rfl (by decide) rfl rfl (Nat.le_of_ble_eq_true rfl) rfl (by decide) (Nat.le_of_ble_eq_true rfl) (by first | rfl | omega) (by first | rfl | omega) ?_
                              refine S_L_send w15 v15 (by first | assumption | (unfold xr; omega)) (by first | assumption | (unfold xr; omega)) (fun  z8 => absurd (show inb _ _ ∧ inb _ _ from by have := p_15; omega) z8) (fun _ z8 => absurd (⟨g_b_15, g_s_15, by have := g_r_15; omega⟩) z8) (fun _ _ z8 => absurd ((by rw [p_15, g_c_15, ← e_one1]; exact send_eq (by omega))) z8) (fun _ _ _ z18 e18 hz18 i9_18 q9_18 h18 fc18 w_18 v_18 => ?_)
                              refine xRet_some ?_
                              have e18 : z18 = wnn p σ15.g.l σ15.g.r 1 σ15.g.c z_1 one1 := by
                                rw [p_15] at e18; exact e18
                              obtain ⟨σ19, w19, v19, g_b_19, g_s_19, g_c_19, g_r_19, g_z_19, g_o_19, g_l_19, r0_19, p_19, L_19⟩ : ∃ σ19 : St, CW σ19 h18 ∧ INV σ19 ∧ σ19.g.b = 1 ∧ σ19.g.s = 1 ∧ σ19.g.c = claim1 ∧ σ19.g.r = 1 ∧ σ19.g.z = z_1 ∧ σ19.g.o = one1 ∧ σ19.g.l = (bnd (p : Int) row 0 at0) ∧ σ19.rw 0 = row ∧ σ19.p = p ∧ σ19.L.n = n0 := ⟨_, w_18, v_18, g_b_15, rfl, g_c_15, g_r_15, rfl, rfl, g_l_15, r0_15, p_15, L_15⟩
                              have h_row_19 : h18[a_row]? = some (cA 0 row) := (fc18).get h_row_15 (by omega)
                              have h_at_19 : h18[a_at]? = some (cA 0 l13) := (fc18).get h_at_15 (by omega)
                              have hlen_19 : 70 ≤ h18.length := by rw [fc18.1]; exact hlen_15
                              have nn1 : 0 ≤ z18 := by rw [e18]; exact wnn_nn hpr
                              refine x_lconst (z := 0) (dT U_L_isGame 151 rfl) rfl ?_
                              refine x_lif_ge (tgt := 267) (dT U_L_isGame 152 rfl) (dT U_L_isGame 153 rfl) (by decide) (xrl_of hz18) (xrl_of (by unfold xr; omega)) (fun c261 => ?_) (fun c261 => ?_)
                              · skip
                                refine x_aload (dT U_L_isGame 156 rfl) rfl ?_
                                refine x_iload (dT U_L_isGame 157 rfl) rfl ?_
                                refine x_aload_n (dT U_L_isGame 158 rfl) rfl ?_
                                refine x_iload_n (dT U_L_isGame 159 rfl) rfl ?_
                                refine x_bipush (dT U_L_isGame 160 rfl) (by decide) ?_
                                refine x_iadd (dT U_L_isGame 161 rfl) ?_
                                refine x_iload (dT U_L_isGame 162 rfl) rfl ?_
                                refine x_iadd (dT U_L_isGame 163 rfl) ?_
                                rw [show (f : Int) + 16 + 1 = ((f + 16 + 1 : Nat) : Int) by omega]
                                refine x_invokestatic (rc' := rc + 692) (rs' := rs + 6252) (rc2 := 0 + 0) (rs2 := 0 + 0) (As := [_, _]) (st := _) M_L_cell K_L_221 (dT U_L_isGame 164 rfl) rfl rfl rfl rfl (Nat.le_of_ble_eq_true rfl) rfl (by decide) (Nat.le_of_ble_eq_true rfl) (by first | rfl | omega) (by first | rfl | omega) ?_
                                refine S_L_cell (k := f + 16 + 1) hL (by omega) (fun z279 => ?_)
                                refine xRet_some ?_
                                refine x_iload_n (dT U_L_isGame 165 rfl) rfl ?_
                                refine x_invokestatic (rc' := rc + 692) (rs' := rs + 6252) (rc2 := 0 + 0) (rs2 := 0 + 0) (As := [_, _]) (st := _) M_L_chosen K_L_225 (dT U_L_isGame 166 rfl) rfl rfl rfl rfl (Nat.le_of_ble_eq_true rfl) rfl (by decide) (Nat.le_of_ble_eq_true rfl) (by first | rfl | omega) (by first | rfl | omega) ?_
                                refine S_L_chosen (by omega) (fun at1 b_at1 => ?_)
                                refine xRet_some ?_
                                refine x_iastoreL (1) w19 g_at (dT U_L_isGame 167 rfl) h_at_19 rfl (by have := (F_l13).1; omega) (by have := (F_l13).1; omega) (fun h20 l20 el20 len20 w20 nb20 h_at_20 => ?_)
                                have hlen_20 : 70 ≤ h20.length := by rw [len20]; exact hlen_19
                                have h_row_20 := nb20 _ _ (by omega) h_row_19
                                have F_l20 : L3 l20 := ⟨by rw [el20, List.length_set]; exact (F_l13).1, trivial⟩
                                have q1_1 : l20.getD 1 0 = at1 := by rw [el20, gset_e (by rw [(F_l13).1]; decide)]
                                have q0_1 : l20.getD 0 0 = at0 := by rw [el20, gset_n (by decide)]; exact q0_0
                                refine x_iload (dT U_L_isGame 168 rfl) rfl ?_
                                refine x_aload (dT U_L_isGame 169 rfl) rfl ?_
                                refine x_iload (dT U_L_isGame 170 rfl) rfl ?_
                                refine x_iaload (1) (dT U_L_isGame 171 rfl) h_at_20 (by omega) rfl (by have := (F_l20).1; omega) (by have := (F_l20).1; omega) ?_
                                refine x_iload (dT U_L_isGame 172 rfl) rfl ?_
                                refine x_iload (dT U_L_isGame 173 rfl) rfl ?_
                                refine x_isub (dT U_L_isGame 174 rfl) ?_
                                refine x_imul (dT U_L_isGame 175 rfl) ?_
                                refine x_iadd (dT U_L_isGame 176 rfl) ?_
                                refine x_iload_n (dT U_L_isGame 177 rfl) rfl ?_
                                rw [q1_1]
                                have m_at1 := mulb2 (a := one1 - z_1) (b := at1) (p := (p : Int)) (by omega) (by omega) (by omega)
                                rw [Int.mul_comm] at m_at1
                                refine x_invokestatic (rc' := rc + 692) (rs' := rs + 6252) (rc2 := 0 + 0) (rs2 := 0 + 0) (As := [_, _]) (st := _) M_L_rest K_L_292 (dT U_L_isGame 178 rfl) rfl rfl rfl rfl (Nat.le_of_ble_eq_true rfl) rfl (by decide) (Nat.le_of_ble_eq_true rfl) (by omega) (by omega) ?_
                                refine S_L_rest (by unfold xr; omega) (by omega) ?_
                                obtain ⟨claim2, e_claim2⟩ : ∃ x : Int, (z_1 + at1 * (one1 - z_1)) % (p : Int) = x := ⟨_, rfl⟩
                                rw [e_claim2]
                                have b_claim2 : 0 ≤ claim2 ∧ claim2 < (p : Int) := by rw [← e_claim2]; exact modb (by omega)
                                refine xRet_some ?_
                                refine x_istore (ls' := [some (.ref _), some (.ref _), some (vi _), some (vi _), some (.ref _), some (vi _), none, some (vi _), some (vi _), some (vi _), some (.ref _), some (vi _), none, none, some (vi _), some (vi _)]) (dT U_L_isGame 179 rfl) (by decide) rfl ?_
                                refine x_aload_n (dT U_L_isGame 180 rfl) rfl ?_
                                refine x_aload (dT U_L_isGame 181 rfl) rfl ?_
                                refine x_iload (dT U_L_isGame 182 rfl) rfl ?_
                                refine x_iaload (1) (dT U_L_isGame 183 rfl) h_at_20 (by omega) rfl (by have := (F_l20).1; omega) (by have := (F_l20).1; omega) ?_
                                rw [q1_1]
                                refine x_invokestaticT (rc' := rc + 690) (rs' := rs + 6240) (rc2 := 0 + 2) (rs2 := 0 + 12) (As := [_, _]) (st := _) M_L_draw K_L_325 (dT U_L_isGame 184 rfl) rfl (by decide) rfl rfl (Nat.le_of_ble_eq_true rfl) rfl (by decide) (Nat.le_of_ble_eq_true rfl) (by first | rfl | omega) (by first | rfl | omega) ?_
                                refine S_L_draw w20 v19 (by first | assumption | (unfold xr; omega)) (fun  z8 => absurd (show inb _ _ from by have := p_19; omega) z8) (fun _ z8 => absurd (⟨g_b_19, g_s_19⟩) z8) (fun _ _ z21 e21 hz21 h21 fc21 w_21 v_21 => ?_)
                                refine xRet_some ?_
                                have e21 : z21 = claim2 := by
                                  rw [e21]
                                  show ln σ19.p σ19.g.z σ19.g.o _ = _
                                  rw [p_19, g_z_19, g_o_19]
                                  exact e_claim2
                                obtain ⟨σ22, w22, v22, g_b_22, g_s_22, g_c_22, g_r_22, g_l_22, r0_22, p_22, L_22⟩ : ∃ σ22 : St, CW σ22 h21 ∧ INV σ22 ∧ σ22.g.b = 1 ∧ σ22.g.s = 0 ∧ σ22.g.c = claim2 ∧ σ22.g.r = 2 ∧ σ22.g.l = (bnd (p : Int) (bnd (p : Int) row 0 at0) 1 at1) ∧ σ22.rw 0 = row ∧ σ22.p = p ∧ σ22.L.n = n0 := ⟨_, w_21, v_21, g_b_19, rfl, (by show ln σ19.p σ19.g.z σ19.g.o _ = _; rw [p_19, g_z_19, g_o_19]; exact e_claim2), (by show σ19.g.r + 1 = _; rw [g_r_19]), (by show bnd σ19.p σ19.g.l σ19.g.r _ = _; rw [p_19, g_l_19, g_r_19]), r0_19, p_19, L_19⟩
                                have h_row_22 : h21[a_row]? = some (cA 0 row) := (fc21).get h_row_20 (by omega)
                                have h_at_22 : h21[a_at]? = some (cA 0 l20) := (fc21).get h_at_20 (by omega)
                                have hlen_22 : 70 ≤ h21.length := by rw [fc21.1]; exact hlen_20
                                refine x_iload (dT U_L_isGame 185 rfl) rfl ?_
                                refine x_i2l (dT U_L_isGame 186 rfl) (by first | assumption | (unfold xr; omega)) ?_
                                refine x_lif_eq (tgt := 325) (dT U_L_isGame 187 rfl) (dT U_L_isGame 188 rfl) (by decide) (xrl_of hz21) (xrl_of (by first | assumption | (unfold xr; omega))) (fun c319 => ?_) (fun c319 => ?_)
                                · skip
                                  refine x_iinc (ls' := [some (.ref _), some (.ref _), some (vi _), some (vi _), some (.ref _), some (vi _), none, some (vi _), some (vi _), some (vi _), some (.ref _), some (vi _), none, none, some (vi _), some (vi _)]) (dT U_L_isGame 191 rfl) (by decide) rfl rfl ?_
                                  rw [show ((1 : Int) + 1) = 2 from rfl]
                                  refine x_goto (tgt := 166) (dT U_L_isGame 192 rfl) (by decide) ?_
                                  refine x_iload (dT U_L_isGame 99 rfl) rfl ?_
                                  refine x_iconst (dT U_L_isGame 100 rfl) ?_
                                  refine x_icmp_ge (tgt := 331) (dT U_L_isGame 101 rfl) (by decide) (by unfold xr; omega) (by unfold xr; omega) (fun c169 => ?_) (fun c169 => ?_)
                                  · exfalso
                                    omega
                                  · skip
                                    refine x_aload_n (dT U_L_isGame 102 rfl) rfl ?_
                                    refine x_invokestaticT (rc' := rc + 689) (rs' := rs + 6234) (rc2 := 0 + 1) (rs2 := 0 + 6) (As := [_]) (st := _) M_L_honest K_L_320 (dT U_L_isGame 103 rfl) rfl (by decide) rfl rfl (Nat.le_of_ble_eq_true rfl) rfl (by decide) (Nat.le_of_ble_eq_true rfl) (by first | rfl | omega) (by first | rfl | omega) ?_
                                    refine S_L_honest w22 v22  (fun  z8 => absurd (⟨g_b_22, g_s_22, by have := g_r_22; omega⟩) z8) (fun _ z23 e23 hz23 => ?_)
                                    refine xRet_some ?_
                                    obtain ⟨A2, B2, bA2, bB2, e_AB2⟩ : ∃ A B : Int, (0 ≤ A ∧ A < (p : Int)) ∧ (0 ≤ B ∧ B < (p : Int)) ∧ z23 = 32 * A + B := ⟨_, _, by rw [← p_22]; exact modb (by have := p_22; omega), by rw [← p_22]; exact modb (by have := p_22; omega), e23⟩
                                    refine x_lstore (ls' := [some (.ref _), some (.ref _), some (vi _), some (vi _), some (.ref _), some (vi _), none, some (vi _), some (vi _), some (vi _), some (.ref _), some (vi _), some (vl _), none, some (vi _), some (vi _)]) (dT U_L_isGame 104 rfl) (by decide) rfl ?_
                                    have MG24 : ∀ (exq : Bool) (z_2 : Int) (b_z_2 : 0 ≤ z_2 ∧ z_2 < (p : Int)), X G m_L_isGame (d + 10) (rc + 500) (rs + 4500) exq 220 [some (.ref 3), some (.ref 0), some (vi (f : Int)), some (vi (p : Int)), some (.ref a_row), some (vi sum), none, some (vi claim2), some (vi ((p : Int) * p * p)), some (vi (((p : Int) - 1) * ((p : Int) - 1) * ((p : Int) - 1))), some (.ref a_at), some (vi 2), none, none, none, none] [vi z_2] h21 Q := by
                                      intro exq z_2 b_z_2
                                      refine x_istore (ls' := [some (.ref _), some (.ref _), some (vi _), some (vi _), some (.ref _), some (vi _), none, some (vi _), some (vi _), some (vi _), some (.ref _), some (vi _), none, none, some (vi _), none]) (dT U_L_isGame 129 rfl) (by decide) rfl ?_
                                      refine x_iload (dT U_L_isGame 130 rfl) rfl ?_
                                      refine x_iload (dT U_L_isGame 131 rfl) rfl ?_
                                      refine x_isub (dT U_L_isGame 132 rfl) ?_
                                      refine x_iload_n (dT U_L_isGame 133 rfl) rfl ?_
                                      refine x_invokestatic (rc' := rc + 500) (rs' := rs + 4500) (rc2 := 0 + 0) (rs2 := 0 + 0) (As := [_, _]) (st := _) M_L_rest K_L_292 (dT U_L_isGame 134 rfl) rfl rfl rfl rfl (Nat.le_of_ble_eq_true rfl) rfl (by decide) (Nat.le_of_ble_eq_true rfl) (by omega) (by omega) ?_
                                      refine S_L_rest (by unfold xr; omega) (by omega) ?_
                                      obtain ⟨one2, e_one2⟩ : ∃ x : Int, (claim2 - z_2) % (p : Int) = x := ⟨_, rfl⟩
                                      rw [e_one2]
                                      have b_one2 : 0 ≤ one2 ∧ one2 < (p : Int) := by rw [← e_one2]; exact modb (by omega)
                                      refine xRet_some ?_
                                      refine x_istore (ls' := [some (.ref _), some (.ref _), some (vi _), some (vi _), some (.ref _), some (vi _), none, some (vi _), some (vi _), some (vi _), some (.ref _), some (vi _), none, none, some (vi _), some (vi _)]) (dT U_L_isGame 135 rfl) (by decide) rfl ?_
                                      refine x_aload_n (dT U_L_isGame 136 rfl) rfl ?_
                                      refine x_iload (dT U_L_isGame 137 rfl) rfl ?_
                                      refine x_iload (dT U_L_isGame 138 rfl) rfl ?_
                                      refine x_iconst (dT U_L_isGame 139 rfl) ?_
                                      refine x_iadd (dT U_L_isGame 140 rfl) ?_
                                      refine x_iload_n (dT U_L_isGame 141 rfl) rfl ?_
                                      refine x_irem (dT U_L_isGame 142 rfl) (by unfold xr; omega) (by unfold xr; omega) (by omega) ?_
                                      rw [Int.tmod_eq_emod_of_nonneg (by omega)]
                                      have b_no2 := modb (z := one2 + 1) (p := (p : Int)) (by omega)
                                      refine x_invokestaticT (rc' := rc + 496) (rs' := rs + 4476) (rc2 := 0 + 4) (rs2 := 0 + 24) (As := [_, _, _]) (st := _) M_L_send K_L_323 (dT U_L_isGame 143 rfl) rfl (by decide) rfl rfl (Nat.le_of_ble_eq_true rfl) rfl (by decide) (Nat.le_of_ble_eq_true rfl) (by omega) (by omega) ?_
                                      refine S_L_send w22 v22 (by unfold xr; omega) (by unfold xr; omega) (fun z8 => absurd (show inb _ _ ∧ inb _ _ from by have := p_22; omega) z8) (fun _ z8 => absurd (show _ ∧ _ ∧ _ from ⟨g_b_22, g_s_22, by have := g_r_22; omega⟩) z8) (fun _ _ _ => ?_) (fun _ _ z8 => absurd z8 (by rw [p_22, g_c_22, ← e_one2]; exact send_ne (by omega) (by omega)))
                                      refine xRet_some ?_
                                      refine x_ldc2 C_L_60 (dT U_L_isGame 144 rfl) ?_
                                      refine x_lif_ne (tgt := 265) (dT U_L_isGame 145 rfl) (dT U_L_isGame 146 rfl) (by decide) (show xrl _ by unfold xrl; omega) (show xrl _ by unfold xrl; omega) (fun c248 => ?_) (fun c248 => ?_)
                                      · exfalso
                                        exact absurd rfl c248
                                      · skip
                                        refine x_aload_n (dT U_L_isGame 147 rfl) rfl ?_
                                        refine x_iload (dT U_L_isGame 148 rfl) rfl ?_
                                        refine x_iload (dT U_L_isGame 149 rfl) rfl ?_
                                        refine x_invokestaticT (rc' := rc + 492) (rs' := rs + 4452) (rc2 := 0 + 4) (rs2 := 0 + 24) (As := [_, _, _]) (st := _) M_L_send K_L_323 (dT U_L_isGame 150 rfl) rfl (by decide) rfl rfl (Nat.le_of_ble_eq_true rfl) rfl (by decide) (Nat.le_of_ble_eq_true rfl) (by first | rfl | omega) (by first | rfl | omega) ?_
                                        refine S_L_send w22 v22 (by first | assumption | (unfold xr; omega)) (by first | assumption | (unfold xr; omega)) (fun  z8 => absurd (show inb _ _ ∧ inb _ _ from by have := p_22; omega) z8) (fun _ z8 => absurd (⟨g_b_22, g_s_22, by have := g_r_22; omega⟩) z8) (fun _ _ z8 => absurd ((by rw [p_22, g_c_22, ← e_one2]; exact send_eq (by omega))) z8) (fun _ _ _ z25 e25 hz25 i9_25 q9_25 h25 fc25 w_25 v_25 => ?_)
                                        refine xRet_some ?_
                                        have e25 : z25 = wnn p σ22.g.l σ22.g.r 1 σ22.g.c z_2 one2 := by
                                          rw [p_22] at e25; exact e25
                                        obtain ⟨σ26, w26, v26, g_b_26, g_s_26, g_c_26, g_r_26, g_z_26, g_o_26, g_l_26, r0_26, p_26, L_26⟩ : ∃ σ26 : St, CW σ26 h25 ∧ INV σ26 ∧ σ26.g.b = 1 ∧ σ26.g.s = 1 ∧ σ26.g.c = claim2 ∧ σ26.g.r = 2 ∧ σ26.g.z = z_2 ∧ σ26.g.o = one2 ∧ σ26.g.l = (bnd (p : Int) (bnd (p : Int) row 0 at0) 1 at1) ∧ σ26.rw 0 = row ∧ σ26.p = p ∧ σ26.L.n = n0 := ⟨_, w_25, v_25, g_b_22, rfl, g_c_22, g_r_22, rfl, rfl, g_l_22, r0_22, p_22, L_22⟩
                                        have h_row_26 : h25[a_row]? = some (cA 0 row) := (fc25).get h_row_22 (by omega)
                                        have h_at_26 : h25[a_at]? = some (cA 0 l20) := (fc25).get h_at_22 (by omega)
                                        have hlen_26 : 70 ≤ h25.length := by rw [fc25.1]; exact hlen_22
                                        have nn2 : 0 ≤ z25 := by rw [e25]; exact wnn_nn hpr
                                        refine x_lconst (z := 0) (dT U_L_isGame 151 rfl) rfl ?_
                                        refine x_lif_ge (tgt := 267) (dT U_L_isGame 152 rfl) (dT U_L_isGame 153 rfl) (by decide) (xrl_of hz25) (xrl_of (by unfold xr; omega)) (fun c261 => ?_) (fun c261 => ?_)
                                        · skip
                                          refine x_aload (dT U_L_isGame 156 rfl) rfl ?_
                                          refine x_iload (dT U_L_isGame 157 rfl) rfl ?_
                                          refine x_aload_n (dT U_L_isGame 158 rfl) rfl ?_
                                          refine x_iload_n (dT U_L_isGame 159 rfl) rfl ?_
                                          refine x_bipush (dT U_L_isGame 160 rfl) (by decide) ?_
                                          refine x_iadd (dT U_L_isGame 161 rfl) ?_
                                          refine x_iload (dT U_L_isGame 162 rfl) rfl ?_
                                          refine x_iadd (dT U_L_isGame 163 rfl) ?_
                                          rw [show (f : Int) + 16 + 2 = ((f + 16 + 2 : Nat) : Int) by omega]
                                          refine x_invokestatic (rc' := rc + 492) (rs' := rs + 4452) (rc2 := 0 + 0) (rs2 := 0 + 0) (As := [_, _]) (st := _) M_L_cell K_L_221 (dT U_L_isGame 164 rfl) rfl rfl rfl rfl (Nat.le_of_ble_eq_true rfl) rfl (by decide) (Nat.le_of_ble_eq_true rfl) (by first | rfl | omega) (by first | rfl | omega) ?_
                                          refine S_L_cell (k := f + 16 + 2) hL (by omega) (fun z279 => ?_)
                                          refine xRet_some ?_
                                          refine x_iload_n (dT U_L_isGame 165 rfl) rfl ?_
                                          refine x_invokestatic (rc' := rc + 492) (rs' := rs + 4452) (rc2 := 0 + 0) (rs2 := 0 + 0) (As := [_, _]) (st := _) M_L_chosen K_L_225 (dT U_L_isGame 166 rfl) rfl rfl rfl rfl (Nat.le_of_ble_eq_true rfl) rfl (by decide) (Nat.le_of_ble_eq_true rfl) (by first | rfl | omega) (by first | rfl | omega) ?_
                                          refine S_L_chosen (by omega) (fun at2 b_at2 => ?_)
                                          refine xRet_some ?_
                                          refine x_iastoreL (2) w26 g_at (dT U_L_isGame 167 rfl) h_at_26 rfl (by have := (F_l20).1; omega) (by have := (F_l20).1; omega) (fun h27 l27 el27 len27 w27 nb27 h_at_27 => ?_)
                                          have hlen_27 : 70 ≤ h27.length := by rw [len27]; exact hlen_26
                                          have h_row_27 := nb27 _ _ (by omega) h_row_26
                                          have F_l27 : L3 l27 := ⟨by rw [el27, List.length_set]; exact (F_l20).1, trivial⟩
                                          have q2_2 : l27.getD 2 0 = at2 := by rw [el27, gset_e (by rw [(F_l20).1]; decide)]
                                          have q0_2 : l27.getD 0 0 = at0 := by rw [el27, gset_n (by decide)]; exact q0_1
                                          have q1_2 : l27.getD 1 0 = at1 := by rw [el27, gset_n (by decide)]; exact q1_1
                                          refine x_iload (dT U_L_isGame 168 rfl) rfl ?_
                                          refine x_aload (dT U_L_isGame 169 rfl) rfl ?_
                                          refine x_iload (dT U_L_isGame 170 rfl) rfl ?_
                                          refine x_iaload (2) (dT U_L_isGame 171 rfl) h_at_27 (by omega) rfl (by have := (F_l27).1; omega) (by have := (F_l27).1; omega) ?_
                                          refine x_iload (dT U_L_isGame 172 rfl) rfl ?_
                                          refine x_iload (dT U_L_isGame 173 rfl) rfl ?_
                                          refine x_isub (dT U_L_isGame 174 rfl) ?_
                                          refine x_imul (dT U_L_isGame 175 rfl) ?_
                                          refine x_iadd (dT U_L_isGame 176 rfl) ?_
                                          refine x_iload_n (dT U_L_isGame 177 rfl) rfl ?_
                                          rw [q2_2]
                                          have m_at2 := mulb2 (a := one2 - z_2) (b := at2) (p := (p : Int)) (by omega) (by omega) (by omega)
                                          rw [Int.mul_comm] at m_at2
                                          refine x_invokestatic (rc' := rc + 492) (rs' := rs + 4452) (rc2 := 0 + 0) (rs2 := 0 + 0) (As := [_, _]) (st := _) M_L_rest K_L_292 (dT U_L_isGame 178 rfl) rfl rfl rfl rfl (Nat.le_of_ble_eq_true rfl) rfl (by decide) (Nat.le_of_ble_eq_true rfl) (by omega) (by omega) ?_
                                          refine S_L_rest (by unfold xr; omega) (by omega) ?_
                                          obtain ⟨claim3, e_claim3⟩ : ∃ x : Int, (z_2 + at2 * (one2 - z_2)) % (p : Int) = x := ⟨_, rfl⟩
                                          rw [e_claim3]
                                          have b_claim3 : 0 ≤ claim3 ∧ claim3 < (p : Int) := by rw [← e_claim3]; exact modb (by omega)
                                          refine xRet_some ?_
                                          refine x_istore (ls' := [some (.ref _), some (.ref _), some (vi _), some (vi _), some (.ref _), some (vi _), none, some (vi _), some (vi _), some (vi _), some (.ref _), some (vi _), none, none, some (vi _), some (vi _)]) (dT U_L_isGame 179 rfl) (by decide) rfl ?_
                                          refine x_aload_n (dT U_L_isGame 180 rfl) rfl ?_
                                          refine x_aload (dT U_L_isGame 181 rfl) rfl ?_
                                          refine x_iload (dT U_L_isGame 182 rfl) rfl ?_
                                          refine x_iaload (2) (dT U_L_isGame 183 rfl) h_at_27 (by omega) rfl (by have := (F_l27).1; omega) (by have := (F_l27).1; omega) ?_
                                          rw [q2_2]
                                          refine x_invokestaticT (rc' := rc + 490) (rs' := rs + 4440) (rc2 := 0 + 2) (rs2 := 0 + 12) (As := [_, _]) (st := _) M_L_draw K_L_325 (dT U_L_isGame 184 rfl) rfl (by decide) rfl rfl (Nat.le_of_ble_eq_true rfl) rfl (by decide) (Nat.le_of_ble_eq_true rfl) (by first | rfl | omega) (by first | rfl | omega) ?_
                                          refine S_L_draw w27 v26 (by first | assumption | (unfold xr; omega)) (fun  z8 => absurd (show inb _ _ from by have := p_26; omega) z8) (fun _ z8 => absurd (⟨g_b_26, g_s_26⟩) z8) (fun _ _ z28 e28 hz28 h28 fc28 w_28 v_28 => ?_)
                                          refine xRet_some ?_
                                          have e28 : z28 = claim3 := by
                                            rw [e28]
                                            show ln σ26.p σ26.g.z σ26.g.o _ = _
                                            rw [p_26, g_z_26, g_o_26]
                                            exact e_claim3
                                          obtain ⟨σ29, w29, v29, g_b_29, g_s_29, g_c_29, g_r_29, g_l_29, r0_29, p_29, L_29⟩ : ∃ σ29 : St, CW σ29 h28 ∧ INV σ29 ∧ σ29.g.b = 1 ∧ σ29.g.s = 0 ∧ σ29.g.c = claim3 ∧ σ29.g.r = 3 ∧ σ29.g.l = (bnd (p : Int) (bnd (p : Int) (bnd (p : Int) row 0 at0) 1 at1) 2 at2) ∧ σ29.rw 0 = row ∧ σ29.p = p ∧ σ29.L.n = n0 := ⟨_, w_28, v_28, g_b_26, rfl, (by show ln σ26.p σ26.g.z σ26.g.o _ = _; rw [p_26, g_z_26, g_o_26]; exact e_claim3), (by show σ26.g.r + 1 = _; rw [g_r_26]), (by show bnd σ26.p σ26.g.l σ26.g.r _ = _; rw [p_26, g_l_26, g_r_26]), r0_26, p_26, L_26⟩
                                          have h_row_29 : h28[a_row]? = some (cA 0 row) := (fc28).get h_row_27 (by omega)
                                          have h_at_29 : h28[a_at]? = some (cA 0 l27) := (fc28).get h_at_27 (by omega)
                                          have hlen_29 : 70 ≤ h28.length := by rw [fc28.1]; exact hlen_27
                                          refine x_iload (dT U_L_isGame 185 rfl) rfl ?_
                                          refine x_i2l (dT U_L_isGame 186 rfl) (by first | assumption | (unfold xr; omega)) ?_
                                          refine x_lif_eq (tgt := 325) (dT U_L_isGame 187 rfl) (dT U_L_isGame 188 rfl) (by decide) (xrl_of hz28) (xrl_of (by first | assumption | (unfold xr; omega))) (fun c319 => ?_) (fun c319 => ?_)
                                          · skip
                                            refine x_iinc (ls' := [some (.ref _), some (.ref _), some (vi _), some (vi _), some (.ref _), some (vi _), none, some (vi _), some (vi _), some (vi _), some (.ref _), some (vi _), none, none, some (vi _), some (vi _)]) (dT U_L_isGame 191 rfl) (by decide) rfl rfl ?_
                                            rw [show ((2 : Int) + 1) = 3 from rfl]
                                            refine x_goto (tgt := 166) (dT U_L_isGame 192 rfl) (by decide) ?_
                                            refine x_iload (dT U_L_isGame 99 rfl) rfl ?_
                                            refine x_iconst (dT U_L_isGame 100 rfl) ?_
                                            refine x_icmp_ge (tgt := 331) (dT U_L_isGame 101 rfl) (by decide) (by unfold xr; omega) (by unfold xr; omega) (fun c169 => ?_) (fun c169 => ?_)
                                            · skip
                                              refine x_aload_n (dT U_L_isGame 193 rfl) rfl ?_
                                              refine x_iconst (dT U_L_isGame 194 rfl) ?_
                                              refine x_aload (dT U_L_isGame 195 rfl) rfl ?_
                                              refine x_iconst (dT U_L_isGame 196 rfl) ?_
                                              refine x_iaload (0) (dT U_L_isGame 197 rfl) h_at_29 (by omega) rfl (by have := (F_l27).1; omega) (by have := (F_l27).1; omega) ?_
                                              refine x_aload (dT U_L_isGame 198 rfl) rfl ?_
                                              refine x_iconst (dT U_L_isGame 199 rfl) ?_
                                              refine x_iaload (1) (dT U_L_isGame 200 rfl) h_at_29 (by omega) rfl (by have := (F_l27).1; omega) (by have := (F_l27).1; omega) ?_
                                              refine x_aload (dT U_L_isGame 201 rfl) rfl ?_
                                              refine x_iconst (dT U_L_isGame 202 rfl) ?_
                                              refine x_iaload (2) (dT U_L_isGame 203 rfl) h_at_29 (by omega) rfl (by have := (F_l27).1; omega) (by have := (F_l27).1; omega) ?_
                                              rw [q0_2, q1_2, q2_2]
                                              have FlX : Fl (p : Int) (bnd (p : Int) (bnd (p : Int) (bnd (p : Int) row 0 at0) 1 at1) 2 at2) := bnd_F (by omega) (bnd_F (by omega) (bnd_F (by omega) Fl_row))
                                              refine x_invokestaticT (rc' := rc + 486) (rs' := rs + 4416) (rc2 := 0 + 4) (rs2 := 0 + 24) (As := [_, _, _, _, _]) (st := _) M_L_extend K_L_327 (dT U_L_isGame 204 rfl) rfl (by decide) rfl rfl (Nat.le_of_ble_eq_true rfl) rfl (by decide) (Nat.le_of_ble_eq_true rfl) (by first | rfl | omega) (by first | rfl | omega) ?_
                                              refine S_L_extend w29 v29 (by first | assumption | (unfold xr; omega)) (by first | assumption | (unfold xr; omega)) (by first | assumption | (unfold xr; omega)) (by first | assumption | (unfold xr; omega)) (fun  z8 => absurd (show inb _ _ from by omega) z8) (fun _ z8 => absurd (show inb _ _ ∧ inb _ _ ∧ inb _ _ from by have := p_29; omega) z8) (fun _ _ z30 e30 hz30 h30 fc30 w_30 v_30 => ?_)
                                              refine xRet_some ?_
                                              have e30 : z30 = ((bnd (p : Int) (bnd (p : Int) (bnd (p : Int) row 0 at0) 1 at1) 2 at2).getD 0 0) := by
                                                simp only [tn0, tn1, tn2, tn3, tn4, tn5, tn6, tn7, tn8, Int.toNat_natCast, p_29, r0_29] at e30; exact e30
                                              have h_row_30 : h30[a_row]? = some (cA 0 row) := (fc30).get h_row_29 (by omega)
                                              have h_at_30 : h30[a_at]? = some (cA 0 l27) := (fc30).get h_at_29 (by omega)
                                              have hlen_30 : 70 ≤ h30.length := by rw [fc30.1]; exact hlen_29
                                              refine x_iload (dT U_L_isGame 205 rfl) rfl ?_
                                              refine x_i2l (dT U_L_isGame 206 rfl) (by first | assumption | (unfold xr; omega)) ?_
                                              refine x_lif_ne (tgt := 359) (dT U_L_isGame 207 rfl) (dT U_L_isGame 208 rfl) (by decide) (xrl_of hz30) (xrl_of (by first | assumption | (unfold xr; omega))) (fun c351 => ?_) (fun c351 => ?_)
                                              · skip
                                                refine x_iconst (dT U_L_isGame 211 rfl) ?_
                                                refine x_istore (ls' := [some (.ref _), some (.ref _), some (vi _), some (vi _), some (.ref _), some (vi _), none, some (vi _), some (vi _), some (vi _), some (.ref _), some (vi _), none, none, some (vi _), some (vi _)]) (dT U_L_isGame 212 rfl) (by decide) rfl ?_
                                                refine x_aload_n (dT U_L_isGame 213 rfl) rfl ?_
                                                refine x_invokestaticT (rc' := rc + 485) (rs' := rs + 4410) (rc2 := 0 + 1) (rs2 := 0 + 6) (As := [_]) (st := _) M_L_isWon K_L_329 (dT U_L_isGame 214 rfl) rfl (by decide) rfl rfl (Nat.le_of_ble_eq_true rfl) rfl (by decide) (Nat.le_of_ble_eq_true rfl) (by first | rfl | omega) (by first | rfl | omega) ?_
                                                refine S_L_isWon w_30 v_30  (fun  z8 => absurd (g_b_29) z8) (fun _ z8 => absurd z8 ((by rw [p_29, g_l_29, g_c_29, g_r_29]; rw [cr_3 FlX, ← e30]; exact fun z => c351 z.2.symm))) (fun _ _ => ?_)
                                                refine xRet_some ?_
                                                refine x_iload (dT U_L_isGame 215 rfl) rfl ?_
                                                refine x_if_eq (tgt := 375) (dT U_L_isGame 216 rfl) (by decide) (by unfold xr; omega) (fun c368 => ?_) (fun c368 => ?_)
                                                · skip
                                                  refine x_lconst (z := 0) (dT U_L_isGame 219 rfl) rfl ?_
                                                  refine x_lif_ne (tgt := 402) (dT U_L_isGame 220 rfl) (dT U_L_isGame 221 rfl) (by decide) (xrl_of (by unfold xr; omega)) (xrl_of (by unfold xr; omega)) (fun c376 => ?_) (fun c376 => ?_)
                                                  · exfalso
                                                    omega
                                                  · skip
                                                    refine x_aload_n (dT U_L_isGame 222 rfl) rfl ?_
                                                    refine x_invokestaticT (rc' := rc + 484) (rs' := rs + 4404) (rc2 := 0 + 1) (rs2 := 0 + 6) (As := [_]) (st := _) M_L_chances K_L_331 (dT U_L_isGame 223 rfl) rfl (by decide) rfl rfl (Nat.le_of_ble_eq_true rfl) rfl (by decide) (Nat.le_of_ble_eq_true rfl) (by first | rfl | omega) (by first | rfl | omega) ?_
                                                    refine S_L_chances w_30 v_30  (fun  z8 => absurd (g_b_29) z8) (fun _ z32 e32 hz32 => ?_)
                                                    refine xRet_some ?_
                                                    have e32 : z32 = 0 := by
                                                      rw [e32, p_29, g_l_29, g_r_29, g_s_29, g_c_29, chance_is FlX, ← e30]
                                                      rw [if_neg (fun z => c351 z.symm)]
                                                    refine x_iload (dT U_L_isGame 224 rfl) rfl ?_
                                                    refine x_if_eq (tgt := 393) (dT U_L_isGame 225 rfl) (by decide) (by unfold xr; omega) (fun c386 => ?_) (fun c386 => ?_)
                                                    · skip
                                                      refine x_lconst (z := 0) (dT U_L_isGame 228 rfl) rfl ?_
                                                      refine x_lif_ne (tgt := 402) (dT U_L_isGame 229 rfl) (dT U_L_isGame 230 rfl) (by decide) (xrl_of hz32) (xrl_of (by unfold xr; omega)) (fun c394 => ?_) (fun c394 => ?_)
                                                      · exfalso
                                                        exact c394 e32
                                                      · skip
                                                        refine x_iconst (dT U_L_isGame 231 rfl) ?_
                                                        refine x_goto (tgt := 403) (dT U_L_isGame 232 rfl) (by decide) ?_
                                                        refine x_zreturn (dT U_L_isGame 234 rfl) rfl (by omega) ?_
                                                        exact kk _ _ _ w_30 v_30 p_29 L_29 hlen_30
                                                    · exfalso
                                                      omega
                                                · exfalso
                                                  omega
                                              · skip
                                                refine x_iconst (dT U_L_isGame 209 rfl) ?_
                                                refine x_goto (tgt := 360) (dT U_L_isGame 210 rfl) (by decide) ?_
                                                refine x_istore (ls' := [some (.ref _), some (.ref _), some (vi _), some (vi _), some (.ref _), some (vi _), none, some (vi _), some (vi _), some (vi _), some (.ref _), some (vi _), none, none, some (vi _), some (vi _)]) (dT U_L_isGame 212 rfl) (by decide) rfl ?_
                                                refine x_aload_n (dT U_L_isGame 213 rfl) rfl ?_
                                                refine x_invokestaticT (rc' := rc + 485) (rs' := rs + 4410) (rc2 := 0 + 1) (rs2 := 0 + 6) (As := [_]) (st := _) M_L_isWon K_L_329 (dT U_L_isGame 214 rfl) rfl (by decide) rfl rfl (Nat.le_of_ble_eq_true rfl) rfl (by decide) (Nat.le_of_ble_eq_true rfl) (by first | rfl | omega) (by first | rfl | omega) ?_
                                                refine S_L_isWon w_30 v_30  (fun  z8 => absurd (g_b_29) z8) (fun _ _ => ?_) (fun _ z8 => absurd ((by rw [p_29, g_l_29, g_c_29, g_r_29]; exact ⟨rfl, by rw [cr_3 FlX, ← e30]; exact c351.symm⟩)) z8)
                                                refine xRet_some ?_
                                                refine x_iload (dT U_L_isGame 215 rfl) rfl ?_
                                                refine x_if_eq (tgt := 375) (dT U_L_isGame 216 rfl) (by decide) (by unfold xr; omega) (fun c368 => ?_) (fun c368 => ?_)
                                                · exfalso
                                                  omega
                                                · skip
                                                  refine x_lconst (z := 1) (dT U_L_isGame 217 rfl) rfl ?_
                                                  refine x_goto (tgt := 376) (dT U_L_isGame 218 rfl) (by decide) ?_
                                                  refine x_lif_ne (tgt := 402) (dT U_L_isGame 220 rfl) (dT U_L_isGame 221 rfl) (by decide) (xrl_of (by unfold xr; omega)) (xrl_of (by unfold xr; omega)) (fun c376 => ?_) (fun c376 => ?_)
                                                  · exfalso
                                                    omega
                                                  · skip
                                                    refine x_aload_n (dT U_L_isGame 222 rfl) rfl ?_
                                                    refine x_invokestaticT (rc' := rc + 484) (rs' := rs + 4404) (rc2 := 0 + 1) (rs2 := 0 + 6) (As := [_]) (st := _) M_L_chances K_L_331 (dT U_L_isGame 223 rfl) rfl (by decide) rfl rfl (Nat.le_of_ble_eq_true rfl) rfl (by decide) (Nat.le_of_ble_eq_true rfl) (by first | rfl | omega) (by first | rfl | omega) ?_
                                                    refine S_L_chances w_30 v_30  (fun  z8 => absurd (g_b_29) z8) (fun _ z34 e34 hz34 => ?_)
                                                    refine xRet_some ?_
                                                    have e34 : z34 = 1 := by
                                                      rw [e34, p_29, g_l_29, g_r_29, g_s_29, g_c_29, chance_is FlX, ← e30]
                                                      rw [if_pos c351.symm]
                                                    refine x_iload (dT U_L_isGame 224 rfl) rfl ?_
                                                    refine x_if_eq (tgt := 393) (dT U_L_isGame 225 rfl) (by decide) (by unfold xr; omega) (fun c386 => ?_) (fun c386 => ?_)
                                                    · exfalso
                                                      omega
                                                    · skip
                                                      refine x_lconst (z := 1) (dT U_L_isGame 226 rfl) rfl ?_
                                                      refine x_goto (tgt := 394) (dT U_L_isGame 227 rfl) (by decide) ?_
                                                      refine x_lif_ne (tgt := 402) (dT U_L_isGame 229 rfl) (dT U_L_isGame 230 rfl) (by decide) (xrl_of hz34) (xrl_of (by unfold xr; omega)) (fun c394 => ?_) (fun c394 => ?_)
                                                      · exfalso
                                                        exact c394 e34
                                                      · skip
                                                        refine x_iconst (dT U_L_isGame 231 rfl) ?_
                                                        refine x_goto (tgt := 403) (dT U_L_isGame 232 rfl) (by decide) ?_
                                                        refine x_zreturn (dT U_L_isGame 234 rfl) rfl (by omega) ?_
                                                        exact kk _ _ _ w_30 v_30 p_29 L_29 hlen_30
                                            · exfalso
                                              omega
                                          · exfalso
                                            exact c319 e28
                                        · exfalso
                                          omega
                                    refine x_aload_n (dT U_L_isGame 105 rfl) rfl ?_
                                    refine x_iload_n (dT U_L_isGame 106 rfl) rfl ?_
                                    refine x_bipush (dT U_L_isGame 107 rfl) (by decide) ?_
                                    refine x_iadd (dT U_L_isGame 108 rfl) ?_
                                    refine x_iload (dT U_L_isGame 109 rfl) rfl ?_
                                    refine x_iadd (dT U_L_isGame 110 rfl) ?_
                                    rw [show (f : Int) + 10 + 2 = ((f + 10 + 2 : Nat) : Int) by omega]
                                    refine x_invokestatic (rc' := rc + 689) (rs' := rs + 6234) (rc2 := 0 + 0) (rs2 := 0 + 0) (As := [_, _]) (st := _) M_L_cell K_L_221 (dT U_L_isGame 111 rfl) rfl rfl rfl rfl (Nat.le_of_ble_eq_true rfl) rfl (by decide) (Nat.le_of_ble_eq_true rfl) (by first | rfl | omega) (by first | rfl | omega) ?_
                                    refine S_L_cell (k := f + 10 + 2) hL (by omega) (fun z186 => ?_)
                                    refine xRet_some ?_
                                    refine x_iconst (dT U_L_isGame 112 rfl) ?_
                                    refine x_invokestatic (rc' := rc + 689) (rs' := rs + 6234) (rc2 := 0 + 0) (rs2 := 0 + 0) (As := [_, _]) (st := _) M_L_chosen K_L_225 (dT U_L_isGame 113 rfl) rfl rfl rfl rfl (Nat.le_of_ble_eq_true rfl) rfl (by decide) (Nat.le_of_ble_eq_true rfl) (by first | rfl | omega) (by first | rfl | omega) ?_
                                    refine S_L_chosen (by omega) (fun bq2 b_bq2 => ?_)
                                    refine xRet_some ?_
                                    refine x_if_ne (tgt := 205) (dT U_L_isGame 114 rfl) (by decide) (by unfold xr; omega) (fun c193 => ?_) (fun c193 => ?_)
                                    · skip
                                      refine x_aload_n (dT U_L_isGame 120 rfl) rfl ?_
                                      refine x_iload_n (dT U_L_isGame 121 rfl) rfl ?_
                                      refine x_bipush (dT U_L_isGame 122 rfl) (by decide) ?_
                                      refine x_iadd (dT U_L_isGame 123 rfl) ?_
                                      refine x_iload (dT U_L_isGame 124 rfl) rfl ?_
                                      refine x_iadd (dT U_L_isGame 125 rfl) ?_
                                      rw [show (f : Int) + 13 + 2 = ((f + 13 + 2 : Nat) : Int) by omega]
                                      refine x_invokestatic (rc' := rc + 689) (rs' := rs + 6234) (rc2 := 0 + 0) (rs2 := 0 + 0) (As := [_, _]) (st := _) M_L_cell K_L_221 (dT U_L_isGame 126 rfl) rfl rfl rfl rfl (Nat.le_of_ble_eq_true rfl) rfl (by decide) (Nat.le_of_ble_eq_true rfl) (by first | rfl | omega) (by first | rfl | omega) ?_
                                      refine S_L_cell (k := f + 13 + 2) hL (by omega) (fun z213 => ?_)
                                      refine xRet_some ?_
                                      refine x_iload_n (dT U_L_isGame 127 rfl) rfl ?_
                                      refine x_invokestatic (rc' := rc + 689) (rs' := rs + 6234) (rc2 := 0 + 0) (rs2 := 0 + 0) (As := [_, _]) (st := _) M_L_chosen K_L_225 (dT U_L_isGame 128 rfl) rfl rfl rfl rfl (Nat.le_of_ble_eq_true rfl) rfl (by decide) (Nat.le_of_ble_eq_true rfl) (by first | rfl | omega) (by first | rfl | omega) ?_
                                      refine S_L_chosen (by omega) (fun w_2 b_w_2 => ?_)
                                      refine xRet_some ?_
                                      refine X_room (by omega) (by omega) (x_drop ?_ (MG24 _ _ (by first | exact b_w_2 | (rw [Int.tdiv_eq_ediv_of_nonneg (by omega)]; omega))))
                                      repeat (first | exact trivial | refine ⟨rfl, ?_⟩ | refine ⟨trivial, ?_⟩)
                                    · skip
                                      refine x_lload (dT U_L_isGame 115 rfl) rfl ?_
                                      refine x_l2i (dT U_L_isGame 116 rfl) ?_
                                      refine x_bipush (dT U_L_isGame 117 rfl) (by decide) ?_
                                      refine x_idiv (dT U_L_isGame 118 rfl) (by unfold xr; omega) (by omega) ?_
                                      refine x_goto (tgt := 220) (dT U_L_isGame 119 rfl) (by decide) ?_
                                      refine X_room (by omega) (by omega) (x_drop ?_ (MG24 _ _ (by first | exact b_w_2 | (rw [Int.tdiv_eq_ediv_of_nonneg (by omega)]; omega))))
                                      repeat (first | exact trivial | refine ⟨rfl, ?_⟩ | refine ⟨trivial, ?_⟩)
                                · exfalso
                                  exact c319 e21
                              · exfalso
                                omega
                          refine x_aload_n (dT U_L_isGame 105 rfl) rfl ?_
                          refine x_iload_n (dT U_L_isGame 106 rfl) rfl ?_
                          refine x_bipush (dT U_L_isGame 107 rfl) (by decide) ?_
                          refine x_iadd (dT U_L_isGame 108 rfl) ?_
                          refine x_iload (dT U_L_isGame 109 rfl) rfl ?_
                          refine x_iadd (dT U_L_isGame 110 rfl) ?_
                          rw [show (f : Int) + 10 + 1 = ((f + 10 + 1 : Nat) : Int) by omega]
                          refine x_invokestatic (rc' := rc + 889) (rs' := rs + 8034) (rc2 := 0 + 0) (rs2 := 0 + 0) (As := [_, _]) (st := _) M_L_cell K_L_221 (dT U_L_isGame 111 rfl) rfl rfl rfl rfl (Nat.le_of_ble_eq_true rfl) rfl (by decide) (Nat.le_of_ble_eq_true rfl) (by first | rfl | omega) (by first | rfl | omega) ?_
                          refine S_L_cell (k := f + 10 + 1) hL (by omega) (fun z186 => ?_)
                          refine xRet_some ?_
                          refine x_iconst (dT U_L_isGame 112 rfl) ?_
                          refine x_invokestatic (rc' := rc + 889) (rs' := rs + 8034) (rc2 := 0 + 0) (rs2 := 0 + 0) (As := [_, _]) (st := _) M_L_chosen K_L_225 (dT U_L_isGame 113 rfl) rfl rfl rfl rfl (Nat.le_of_ble_eq_true rfl) rfl (by decide) (Nat.le_of_ble_eq_true rfl) (by first | rfl | omega) (by first | rfl | omega) ?_
                          refine S_L_chosen (by omega) (fun bq1 b_bq1 => ?_)
                          refine xRet_some ?_
                          refine x_if_ne (tgt := 205) (dT U_L_isGame 114 rfl) (by decide) (by unfold xr; omega) (fun c193 => ?_) (fun c193 => ?_)
                          · skip
                            refine x_aload_n (dT U_L_isGame 120 rfl) rfl ?_
                            refine x_iload_n (dT U_L_isGame 121 rfl) rfl ?_
                            refine x_bipush (dT U_L_isGame 122 rfl) (by decide) ?_
                            refine x_iadd (dT U_L_isGame 123 rfl) ?_
                            refine x_iload (dT U_L_isGame 124 rfl) rfl ?_
                            refine x_iadd (dT U_L_isGame 125 rfl) ?_
                            rw [show (f : Int) + 13 + 1 = ((f + 13 + 1 : Nat) : Int) by omega]
                            refine x_invokestatic (rc' := rc + 889) (rs' := rs + 8034) (rc2 := 0 + 0) (rs2 := 0 + 0) (As := [_, _]) (st := _) M_L_cell K_L_221 (dT U_L_isGame 126 rfl) rfl rfl rfl rfl (Nat.le_of_ble_eq_true rfl) rfl (by decide) (Nat.le_of_ble_eq_true rfl) (by first | rfl | omega) (by first | rfl | omega) ?_
                            refine S_L_cell (k := f + 13 + 1) hL (by omega) (fun z213 => ?_)
                            refine xRet_some ?_
                            refine x_iload_n (dT U_L_isGame 127 rfl) rfl ?_
                            refine x_invokestatic (rc' := rc + 889) (rs' := rs + 8034) (rc2 := 0 + 0) (rs2 := 0 + 0) (As := [_, _]) (st := _) M_L_chosen K_L_225 (dT U_L_isGame 128 rfl) rfl rfl rfl rfl (Nat.le_of_ble_eq_true rfl) rfl (by decide) (Nat.le_of_ble_eq_true rfl) (by first | rfl | omega) (by first | rfl | omega) ?_
                            refine S_L_chosen (by omega) (fun w_1 b_w_1 => ?_)
                            refine xRet_some ?_
                            refine X_room (by omega) (by omega) (x_drop ?_ (MG17 _ _ (by first | exact b_w_1 | (rw [Int.tdiv_eq_ediv_of_nonneg (by omega)]; omega))))
                            repeat (first | exact trivial | refine ⟨rfl, ?_⟩ | refine ⟨trivial, ?_⟩)
                          · skip
                            refine x_lload (dT U_L_isGame 115 rfl) rfl ?_
                            refine x_l2i (dT U_L_isGame 116 rfl) ?_
                            refine x_bipush (dT U_L_isGame 117 rfl) (by decide) ?_
                            refine x_idiv (dT U_L_isGame 118 rfl) (by unfold xr; omega) (by omega) ?_
                            refine x_goto (tgt := 220) (dT U_L_isGame 119 rfl) (by decide) ?_
                            refine X_room (by omega) (by omega) (x_drop ?_ (MG17 _ _ (by first | exact b_w_1 | (rw [Int.tdiv_eq_ediv_of_nonneg (by omega)]; omega))))
                            repeat (first | exact trivial | refine ⟨rfl, ?_⟩ | refine ⟨trivial, ?_⟩)
                      · exfalso
                        exact c319 e14
                    · exfalso
                      omega
                refine x_aload_n (dT U_L_isGame 105 rfl) rfl ?_
                refine x_iload_n (dT U_L_isGame 106 rfl) rfl ?_
                refine x_bipush (dT U_L_isGame 107 rfl) (by decide) ?_
                refine x_iadd (dT U_L_isGame 108 rfl) ?_
                refine x_iload (dT U_L_isGame 109 rfl) rfl ?_
                refine x_iadd (dT U_L_isGame 110 rfl) ?_
                rw [show (f : Int) + 10 + 0 = ((f + 10 + 0 : Nat) : Int) by omega]
                refine x_invokestatic (rc' := rc + 1097) (rs' := rs + 9885) (rc2 := 0 + 0) (rs2 := 0 + 0) (As := [_, _]) (st := _) M_L_cell K_L_221 (dT U_L_isGame 111 rfl) rfl rfl rfl rfl (Nat.le_of_ble_eq_true rfl) rfl (by decide) (Nat.le_of_ble_eq_true rfl) (by first | rfl | omega) (by first | rfl | omega) ?_
                refine S_L_cell (k := f + 10 + 0) hL (by omega) (fun z186 => ?_)
                refine xRet_some ?_
                refine x_iconst (dT U_L_isGame 112 rfl) ?_
                refine x_invokestatic (rc' := rc + 1097) (rs' := rs + 9885) (rc2 := 0 + 0) (rs2 := 0 + 0) (As := [_, _]) (st := _) M_L_chosen K_L_225 (dT U_L_isGame 113 rfl) rfl rfl rfl rfl (Nat.le_of_ble_eq_true rfl) rfl (by decide) (Nat.le_of_ble_eq_true rfl) (by first | rfl | omega) (by first | rfl | omega) ?_
                refine S_L_chosen (by omega) (fun bq0 b_bq0 => ?_)
                refine xRet_some ?_
                refine x_if_ne (tgt := 205) (dT U_L_isGame 114 rfl) (by decide) (by unfold xr; omega) (fun c193 => ?_) (fun c193 => ?_)
                · skip
                  refine x_aload_n (dT U_L_isGame 120 rfl) rfl ?_
                  refine x_iload_n (dT U_L_isGame 121 rfl) rfl ?_
                  refine x_bipush (dT U_L_isGame 122 rfl) (by decide) ?_
                  refine x_iadd (dT U_L_isGame 123 rfl) ?_
                  refine x_iload (dT U_L_isGame 124 rfl) rfl ?_
                  refine x_iadd (dT U_L_isGame 125 rfl) ?_
                  rw [show (f : Int) + 13 + 0 = ((f + 13 + 0 : Nat) : Int) by omega]
                  refine x_invokestatic (rc' := rc + 1097) (rs' := rs + 9885) (rc2 := 0 + 0) (rs2 := 0 + 0) (As := [_, _]) (st := _) M_L_cell K_L_221 (dT U_L_isGame 126 rfl) rfl rfl rfl rfl (Nat.le_of_ble_eq_true rfl) rfl (by decide) (Nat.le_of_ble_eq_true rfl) (by first | rfl | omega) (by first | rfl | omega) ?_
                  refine S_L_cell (k := f + 13 + 0) hL (by omega) (fun z213 => ?_)
                  refine xRet_some ?_
                  refine x_iload_n (dT U_L_isGame 127 rfl) rfl ?_
                  refine x_invokestatic (rc' := rc + 1097) (rs' := rs + 9885) (rc2 := 0 + 0) (rs2 := 0 + 0) (As := [_, _]) (st := _) M_L_chosen K_L_225 (dT U_L_isGame 128 rfl) rfl rfl rfl rfl (Nat.le_of_ble_eq_true rfl) rfl (by decide) (Nat.le_of_ble_eq_true rfl) (by first | rfl | omega) (by first | rfl | omega) ?_
                  refine S_L_chosen (by omega) (fun w_0 b_w_0 => ?_)
                  refine xRet_some ?_
                  refine X_room (by omega) (by omega) (x_drop ?_ (MG10 _ _ (by first | exact b_w_0 | (rw [Int.tdiv_eq_ediv_of_nonneg (by omega)]; omega))))
                  repeat (first | exact trivial | refine ⟨rfl, ?_⟩ | refine ⟨trivial, ?_⟩)
                · skip
                  refine x_lload (dT U_L_isGame 115 rfl) rfl ?_
                  refine x_l2i (dT U_L_isGame 116 rfl) ?_
                  refine x_bipush (dT U_L_isGame 117 rfl) (by decide) ?_
                  refine x_idiv (dT U_L_isGame 118 rfl) (by unfold xr; omega) (by omega) ?_
                  refine x_goto (tgt := 220) (dT U_L_isGame 119 rfl) (by decide) ?_
                  refine X_room (by omega) (by omega) (x_drop ?_ (MG10 _ _ (by first | exact b_w_0 | (rw [Int.tdiv_eq_ediv_of_nonneg (by omega)]; omega))))
                  repeat (first | exact trivial | refine ⟨rfl, ?_⟩ | refine ⟨trivial, ?_⟩)
            · exfalso
              exact c152 e7
          refine x_iload (dT U_L_isGame 74 rfl) rfl ?_
          refine x_iload (dT U_L_isGame 75 rfl) rfl ?_
          refine x_icmp_ne (tgt := 134) (dT U_L_isGame 76 rfl) (by decide) (by unfold xr; omega) (by unfold xr; omega) (fun c126 => ?_) (fun c126 => ?_)
          · skip
            refine x_iload (dT U_L_isGame 79 rfl) rfl ?_
            refine x_iload (dT U_L_isGame 80 rfl) rfl ?_
            refine x_isub (dT U_L_isGame 81 rfl) ?_
            refine x_i2l (dT U_L_isGame 82 rfl) (by unfold xr; omega) ?_
            refine x_lif_ne (tgt := 156) (dT U_L_isGame 83 rfl) (dT U_L_isGame 84 rfl) (by decide) (xrl_of hz5) (xrl_of (by unfold xr; omega)) (fun c140 => ?_) (fun c140 => ?_)
            · exfalso
              exact c140 (by rw [e5]; first | rw [if_neg c126] | rw [if_pos c126])
            · skip
              refine X_room (by omega) (by omega) (x_drop ?_ (M144 _ ))
              repeat (first | exact trivial | refine ⟨rfl, ?_⟩ | refine ⟨trivial, ?_⟩)
          · skip
            refine x_iload (dT U_L_isGame 77 rfl) rfl ?_
            refine x_goto (tgt := 139) (dT U_L_isGame 78 rfl) (by decide) ?_
            refine x_i2l (dT U_L_isGame 82 rfl) (by unfold xr; omega) ?_
            refine x_lif_ne (tgt := 156) (dT U_L_isGame 83 rfl) (dT U_L_isGame 84 rfl) (by decide) (xrl_of hz5) (xrl_of (by unfold xr; omega)) (fun c140 => ?_) (fun c140 => ?_)
            · exfalso
              exact c140 (by rw [e5]; first | rw [if_neg c126] | rw [if_pos c126])
            · skip
              refine X_room (by omega) (by omega) (x_drop ?_ (M144 _ ))
              repeat (first | exact trivial | refine ⟨rfl, ?_⟩ | refine ⟨trivial, ?_⟩)
        refine x_aload_n (dT U_L_isGame 23 rfl) rfl ?_
        refine x_iload_n (dT U_L_isGame 24 rfl) rfl ?_
        refine x_bipush (dT U_L_isGame 25 rfl) (by decide) ?_
        refine x_iadd (dT U_L_isGame 26 rfl) ?_
        rw [show (f : Int) + 8 = ((f + 8 : Nat) : Int) by omega]
        refine x_invokestatic (rc' := rc + 1300) (rs' := rs + 11700) (rc2 := 0 + 0) (rs2 := 0 + 0) (As := [_, _]) (st := _) M_L_cell K_L_221 (dT U_L_isGame 27 rfl) rfl rfl rfl rfl (Nat.le_of_ble_eq_true rfl) rfl (by decide) (Nat.le_of_ble_eq_true rfl) (by first | rfl | omega) (by first | rfl | omega) ?_
        refine S_L_cell (k := f + 8) hL (by omega) (fun z46 => ?_)
        refine xRet_some ?_
        refine x_iconst (dT U_L_isGame 28 rfl) ?_
        refine x_invokestatic (rc' := rc + 1300) (rs' := rs + 11700) (rc2 := 0 + 0) (rs2 := 0 + 0) (As := [_, _]) (st := _) M_L_chosen K_L_225 (dT U_L_isGame 29 rfl) rfl rfl rfl rfl (Nat.le_of_ble_eq_true rfl) rfl (by decide) (Nat.le_of_ble_eq_true rfl) (by first | rfl | omega) (by first | rfl | omega) ?_
        refine S_L_chosen (by omega) (fun bt b_bt => ?_)
        refine xRet_some ?_
        refine x_if_ne (tgt := 60) (dT U_L_isGame 30 rfl) (by decide) (by unfold xr; omega) (fun c53 => ?_) (fun c53 => ?_)
        · skip
          refine x_iconst (dT U_L_isGame 33 rfl) ?_
          refine x_istore (ls' := [some (.ref _), some (.ref _), some (vi _), some (vi _), some (.ref _), some (vi _), some (vi _), none, none, none, none, none, none, none, none, none]) (dT U_L_isGame 34 rfl) (by decide) rfl ?_
          refine x_iload (dT U_L_isGame 35 rfl) rfl ?_
          refine x_if_eq (tgt := 73) (dT U_L_isGame 36 rfl) (by decide) (by unfold xr; omega) (fun c65 => ?_) (fun c65 => ?_)
          · skip
            refine x_aload_n (dT U_L_isGame 39 rfl) rfl ?_
            refine x_iload_n (dT U_L_isGame 40 rfl) rfl ?_
            refine x_bipush (dT U_L_isGame 41 rfl) (by decide) ?_
            refine x_iadd (dT U_L_isGame 42 rfl) ?_
            rw [show (f : Int) + 9 = ((f + 9 : Nat) : Int) by omega]
            refine x_invokestatic (rc' := rc + 1300) (rs' := rs + 11700) (rc2 := 0 + 0) (rs2 := 0 + 0) (As := [_, _]) (st := _) M_L_cell K_L_221 (dT U_L_isGame 43 rfl) rfl rfl rfl rfl (Nat.le_of_ble_eq_true rfl) rfl (by decide) (Nat.le_of_ble_eq_true rfl) (by first | rfl | omega) (by first | rfl | omega) ?_
            refine S_L_cell (k := f + 9) hL (by omega) (fun z78 => ?_)
            refine xRet_some ?_
            refine x_iload_n (dT U_L_isGame 44 rfl) rfl ?_
            refine x_invokestatic (rc' := rc + 1300) (rs' := rs + 11700) (rc2 := 0 + 0) (rs2 := 0 + 0) (As := [_, _]) (st := _) M_L_chosen K_L_225 (dT U_L_isGame 45 rfl) rfl rfl rfl rfl (Nat.le_of_ble_eq_true rfl) rfl (by decide) (Nat.le_of_ble_eq_true rfl) (by first | rfl | omega) (by first | rfl | omega) ?_
            refine S_L_chosen (by omega) (fun cl0 b_cl0 => ?_)
            refine xRet_some ?_
            refine X_room (by omega) (by omega) (x_drop ?_ (M85 _ _ (by first | exact b_cl0 | exact b_sum)))
            repeat (first | exact trivial | refine ⟨rfl, ?_⟩ | refine ⟨trivial, ?_⟩)
          · exfalso
            omega
        · skip
          refine x_iconst (dT U_L_isGame 31 rfl) ?_
          refine x_goto (tgt := 61) (dT U_L_isGame 32 rfl) (by decide) ?_
          refine x_istore (ls' := [some (.ref _), some (.ref _), some (vi _), some (vi _), some (.ref _), some (vi _), some (vi _), none, none, none, none, none, none, none, none, none]) (dT U_L_isGame 34 rfl) (by decide) rfl ?_
          refine x_iload (dT U_L_isGame 35 rfl) rfl ?_
          refine x_if_eq (tgt := 73) (dT U_L_isGame 36 rfl) (by decide) (by unfold xr; omega) (fun c65 => ?_) (fun c65 => ?_)
          · exfalso
            omega
          · skip
            refine x_iload (dT U_L_isGame 37 rfl) rfl ?_
            refine x_goto (tgt := 85) (dT U_L_isGame 38 rfl) (by decide) ?_
            refine X_room (by omega) (by omega) (x_drop ?_ (M85 _ _ (by first | exact b_cl0 | exact b_sum)))
            repeat (first | exact trivial | refine ⟨rfl, ?_⟩ | refine ⟨trivial, ?_⟩)
      · exfalso
        omega
    | succ n9 ih =>
      intro i hi9 h2 ex2 σ2 w2 v2 hlen_2 p_2 L_2 h_row_2
      refine x_iload (dT U_L_isGame 10 rfl) rfl ?_
      refine x_bipush (dT U_L_isGame 11 rfl) (by decide) ?_
      refine x_icmp_ge (tgt := 41) (dT U_L_isGame 12 rfl) (by decide) (by first | assumption | (unfold xr; omega)) (by unfold xr; omega) (fun c20 => ?_) (fun c20 => ?_)
      · exfalso
        omega
      · skip
        refine x_iload (dT U_L_isGame 13 rfl) rfl ?_
        refine x_aload (dT U_L_isGame 14 rfl) rfl ?_
        refine x_iload (dT U_L_isGame 15 rfl) rfl ?_
        refine x_iaload (i) (dT U_L_isGame 16 rfl) h_row_2 (by omega) rfl (by have := (Fl_row).1; omega) (by have := (Fl_row).1; omega) ?_
        have b_s := modb (z := sm (gf row) i) (p := (p : Int)) (by omega)
        have b_r := Fl_row.2 i
        refine x_iadd (dT U_L_isGame 17 rfl) ?_
        refine x_iload_n (dT U_L_isGame 18 rfl) rfl ?_
        refine x_irem (dT U_L_isGame 19 rfl) (by unfold xr; omega) (by unfold xr; omega) (by omega) ?_
        rw [Int.tmod_eq_emod_of_nonneg (by omega), am_l]
        refine x_istore (ls' := [some (.ref _), some (.ref _), some (vi _), some (vi _), some (.ref _), some (vi _), some (vi _), none, none, none, none, none, none, none, none, none]) (dT U_L_isGame 20 rfl) (by decide) rfl ?_
        refine x_iinc (ls' := [some (.ref _), some (.ref _), some (vi _), some (vi _), some (.ref _), some (vi _), some (vi _), none, none, none, none, none, none, none, none, none]) (dT U_L_isGame 21 rfl) (by decide) rfl rfl ?_
        refine x_goto (tgt := 16) (dT U_L_isGame 22 rfl) (by decide) ?_
        
        refine X_room (by omega) (by omega) (x_drop ?_ (ih (i + 1) (by omega) _ _ _ w2 v2 hlen_2 p_2 L_2 h_row_2))
        repeat (first | exact trivial | refine ⟨rfl, ?_⟩ | refine ⟨trivial, ?_⟩)
  refine X_room (by omega) (by omega) (x_drop ?_ (L2 8 0 (by omega) _ _ _ w1 v hlen_1 hpp hn0 h_row1))
  repeat (first | exact trivial | refine ⟨rfl, ?_⟩ | refine ⟨trivial, ?_⟩)

