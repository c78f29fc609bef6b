set_option maxRecDepth 20000 in
set_option maxHeartbeats 60000000 in
theorem S_L_areNotes {G : xG} {d rc rs : Nat} {ex : Bool} {h : xH} {Q : xQ} {σ : St} {p n0 : Nat} (hL : gL G < 100000) (w : CW σ h) (v : INV σ) (hpp : σ.p = p) (hn0 : σ.L.n = n0) (hlen : 70 ≤ h.length) (hn4 : n0 + 4 ≤ 16) (kk : ∀ (σ2 : St) (h2 : xH) (ex2 : Bool), CW σ2 h2 → INV σ2 → σ2.p = p → 70 ≤ h2.length → Q (.inl (some (vi 1))) ex2 h2) : X G m_L_areNotes (d + 10) (rc + 200) (rs + 1500) ex 0 (xe m_L_areNotes.2.2.1 [.ref 3, .ref 0, vi (p : Int), vi (gq p : Int)]) [] h Q := by
  show X G m_L_areNotes _ _ _ _ 0 [some (.ref 3), some (.ref 0), some (vi (p : Int)), some (vi (gq p : Int)), none, none, none, none, none, none, none, none, none, none, none, none, none, none, none, none, none, none, none] [] h Q
  have hpr : p ∈ PR := hpp ▸ v.p
  have hp := PRb hpr
  have hq := gq_b hpr
  refine x_bipush (dT U_L_areNotes 0 rfl) (by decide) ?_
  refine x_newL (rc' := rc + 199) (rs' := rs + 1492) 8 (by have := hlen; omega) (dT U_L_areNotes 1 rfl) rfl (by omega) (by omega) (by omega) (fun h1 a_row u1 ga1 ge1 h_row1 => ?_)
  have Fl_row : Fl (p : Int) (List.replicate 8 0) := Fl_0 (by omega)
  have g_row : 70 ≤ a_row := by have := hlen; omega
  have w1 := (w).up u1
  have hlen_1 : 70 ≤ h1.length := by have := u1.len; have := hlen; omega
  refine x_astore (ls' := [some (.ref _), some (.ref _), some (vi _), some (vi _), some (.ref _), none, none, none, none, none, none, none, none, none, none, none, none, none, none, none, none, none, none]) (dT U_L_areNotes 2 rfl) (by decide) rfl ?_
  refine x_aload (dT U_L_areNotes 3 rfl) rfl ?_
  refine x_iconst (dT U_L_areNotes 4 rfl) ?_
  refine x_aload_n (dT U_L_areNotes 5 rfl) rfl ?_
  refine x_sipush (dT U_L_areNotes 6 rfl) (by decide) ?_
  refine x_invokestatic (rc' := rc + 199) (rs' := rs + 1492) (rc2 := 0 + 0) (rs2 := 0 + 0) (As := [_, _]) (st := _) M_L_cell K_L_221 (dT U_L_areNotes 7 rfl) rfl rfl rfl rfl (Nat.le_of_ble_eq_true rfl) rfl (by decide) (Nat.le_of_ble_eq_true rfl) (by first | rfl | omega) (by first | rfl | omega) ?_
  refine S_L_cell (k := 220) hL (by omega) (fun z13 => ?_)
  refine xRet_some ?_
  refine x_iload_n (dT U_L_areNotes 8 rfl) rfl ?_
  refine x_invokestatic (rc' := rc + 199) (rs' := rs + 1492) (rc2 := 0 + 0) (rs2 := 0 + 0) (As := [_, _]) (st := _) M_L_chosen K_L_225 (dT U_L_areNotes 9 rfl) rfl rfl rfl rfl (Nat.le_of_ble_eq_true rfl) rfl (by decide) (Nat.le_of_ble_eq_true rfl) (by first | rfl | omega) (by first | rfl | omega) ?_
  refine S_L_chosen (by omega) (fun amt b_amt => ?_)
  refine xRet_some ?_
  refine x_iastoreL (0) w1 g_row (dT U_L_areNotes 10 rfl) h_row1 rfl (by have := (Fl_row).1; omega) (by have := (Fl_row).1; omega) (fun h2 l2 el2 len2 w2 nb2 h_row_2 => ?_)
  have hlen_2 : 70 ≤ h2.length := by rw [len2]; exact hlen_1
  have F_l2 : Fl (p : Int) l2 := by rw [el2]; exact Fl.set Fl_row (by omega)
  refine x_aload_n (dT U_L_areNotes 11 rfl) rfl ?_
  refine x_sipush (dT U_L_areNotes 12 rfl) (by decide) ?_
  refine x_invokestatic (rc' := rc + 199) (rs' := rs + 1492) (rc2 := 0 + 0) (rs2 := 0 + 0) (As := [_, _]) (st := _) M_L_cell K_L_221 (dT U_L_areNotes 13 rfl) rfl rfl rfl rfl (Nat.le_of_ble_eq_true rfl) rfl (by decide) (Nat.le_of_ble_eq_true rfl) (by first | rfl | omega) (by first | rfl | omega) ?_
  refine S_L_cell (k := 221) hL (by omega) (fun z25 => ?_)
  refine xRet_some ?_
  refine x_iload_n (dT U_L_areNotes 14 rfl) rfl ?_
  refine x_invokestatic (rc' := rc + 199) (rs' := rs + 1492) (rc2 := 0 + 0) (rs2 := 0 + 0) (As := [_, _]) (st := _) M_L_chosen K_L_225 (dT U_L_areNotes 15 rfl) rfl rfl rfl rfl (Nat.le_of_ble_eq_true rfl) rfl (by decide) (Nat.le_of_ble_eq_true rfl) (by first | rfl | omega) (by first | rfl | omega) ?_
  refine S_L_chosen (by omega) (fun blind b_blind => ?_)
  refine xRet_some ?_
  refine x_istore (ls' := [some (.ref _), some (.ref _), some (vi _), some (vi _), some (.ref _), some (vi _), none, none, none, none, none, none, none, none, none, none, none, none, none, none, none, none, none]) (dT U_L_areNotes 16 rfl) (by decide) rfl ?_
  refine x_aload_n (dT U_L_areNotes 17 rfl) rfl ?_
  refine x_aload (dT U_L_areNotes 18 rfl) rfl ?_
  refine x_iload (dT U_L_areNotes 19 rfl) rfl ?_
  refine x_iload_n (dT U_L_areNotes 20 rfl) rfl ?_
  refine x_invokestatic (rc' := rc + 190) (rs' := rs + 1438) (rc2 := 0 + 9) (rs2 := 0 + 54) (As := [_, _, _, _]) (st := _) M_L_commits K_L_247 (dT U_L_areNotes 21 rfl) rfl rfl rfl rfl (Nat.le_of_ble_eq_true rfl) rfl (by decide) (Nat.le_of_ble_eq_true rfl) (by first | rfl | omega) (by first | rfl | omega) ?_
  refine S_L_commits w2 v hpp h_row_2 (by omega) F_l2 (by omega) ?_
  refine xRet_some ?_
  obtain ⟨y, e_y⟩ : ∃ r : Int, MM p (cm p l2 blind) = r := ⟨_, rfl⟩
  rw [e_y]
  have hz_y : xr y := by rw [← e_y]; exact xr_MM hpr
  refine x_istore (ls' := [some (.ref _), some (.ref _), some (vi _), some (vi _), some (.ref _), some (vi _), some (vi _), none, none, none, none, none, none, none, none, none, none, none, none, none, none, none, none]) (dT U_L_areNotes 22 rfl) (by decide) rfl ?_
  have hE := cm1_b (p := p) (n := amt) (b := blind) (by omega)
  have hEne : cm1 p amt blind ≠ -1 := by omega
  have e_lR : l2 = (List.replicate 8 0).set 0 amt := el2
  have cmE : cm p l2 blind = cm1 p amt blind := by rw [el2, cm_bit]
  rw [cmE] at e_y
  have q_amt : (l2).getD 0 0 = amt := by rw [el2, gset_e (by decide)]
  obtain ⟨S0, e_S0⟩ : ∃ x : Int, stnd p (gf σ.L.nn) σ.L.n = x := ⟨_, rfl⟩
  have b_S0 : 0 ≤ S0 ∧ S0 < (p : Int) := by rw [← e_S0]; exact st_b (by omega)
  refine x_aload_n (dT U_L_areNotes 23 rfl) rfl ?_
  refine x_invokestatic (rc' := rc + 190) (rs' := rs + 1438) (rc2 := 0 + 0) (rs2 := 0 + 0) (As := [_]) (st := _) M_L_standing K_L_351 (dT U_L_areNotes 24 rfl) rfl rfl rfl rfl (Nat.le_of_ble_eq_true rfl) rfl (by decide) (Nat.le_of_ble_eq_true rfl) (by first | rfl | omega) (by first | rfl | omega) ?_
  refine S_L_standing w2 v   (fun z3 e3 hz3 => ?_)
  refine xRet_some ?_
  have e3 : z3 = MM p S0 := by
    rw [hpp] at e3
    rw [e3, e_S0]
  refine x_lstore (ls' := [some (.ref _), some (.ref _), some (vi _), some (vi _), some (.ref _), some (vi _), some (vi _), some (vl _), none, none, none, none, none, none, none, none, none, none, none, none, none, none, none]) (dT U_L_areNotes 25 rfl) (by decide) rfl ?_
  refine x_aload_n (dT U_L_areNotes 26 rfl) rfl ?_
  refine x_aload (dT U_L_areNotes 27 rfl) rfl ?_
  refine x_iconst (dT U_L_areNotes 28 rfl) ?_
  refine x_iaload (0) (dT U_L_areNotes 29 rfl) h_row_2 (by omega) rfl (by have := (F_l2).1; omega) (by have := (F_l2).1; omega) ?_
  rw [q_amt]
  refine x_iload (dT U_L_areNotes 30 rfl) rfl ?_
  refine x_invokestaticT (rc' := rc + 187) (rs' := rs + 1420) (rc2 := 0 + 3) (rs2 := 0 + 18) (As := [_, _, _]) (st := _) M_L_mint K_L_353 (dT U_L_areNotes 31 rfl) rfl (by decide) rfl rfl (Nat.le_of_ble_eq_true rfl) rfl (by decide) (Nat.le_of_ble_eq_true rfl) (by first | rfl | omega) (by first | rfl | omega) ?_
  refine S_L_mint w2 v (by first | assumption | (unfold xr; omega)) (by first | assumption | (unfold xr; omega)) (fun  z8 => absurd (show inb _ _ ∧ inb _ _ from by have := hpp; omega) z8) (fun _ z8 => absurd (show _ + 1 ≤ 16 from by have := hn0; omega) z8) (fun _ _ z4 e4 hz4 h4 fc4 w_4 v_4 => ?_)
  refine xRet_some ?_
  have e4 : z4 = ((n0 : Nat) : Int) := by
    rw [e4, hn0]
  obtain ⟨σ5, w5, v5, L_5, S_5, e0_5, p_5⟩ : ∃ σ5 : St, CW σ5 h4 ∧ INV σ5 ∧ σ5.L.n = n0 + 1 ∧ stnd p (gf σ5.L.nn) σ5.L.n = ((S0 + (cm1 p amt blind)) % (p : Int)) ∧ σ5.L.nn.getD n0 0 = (cm1 p amt blind) ∧ σ5.p = p := ⟨_, w_4, v_4, (by show σ.L.n + 1 = _; rw [hn0]), (by show stnd p (gf (σ.L.nn.set σ.L.n (cm1 σ.p amt blind))) (σ.L.n + 1) = _; rw [hpp, st_new (by rw [v.L.2.1]; have := hn0; omega) hEne, e_S0]), (by show (σ.L.nn.set σ.L.n (cm1 σ.p amt blind)).getD n0 0 = _; rw [hpp, hn0, gset_e (by rw [v.L.2.1]; omega)]), hpp⟩
  have h_row_5 : h4[a_row]? = some (cA 0 l2) := (fc4).get h_row_2 (by omega)
  have hlen_5 : 70 ≤ h4.length := by rw [fc4.1]; exact hlen_2
  subst e4
  have m_b := MM_r (e := S0) hpr
  have m_y := MM_b hpr hE
  rw [e_y] at m_y
  rw [← e3] at m_b
  have m_by := mulg (a := z3) (b := y) (m := 191) (n := 191) (by omega) (by omega)
  have e_by : (z3 * y).tmod (gq p : Int) = MM p ((S0 + (cm1 p amt blind)) % (p : Int)) := by
    rw [Int.tmod_eq_emod_of_nonneg m_by.1, e3, ← e_y, MM_mul hpr b_S0 hE]
  refine x_lstore (ls' := [some (.ref _), some (.ref _), some (vi _), some (vi _), some (.ref _), some (vi _), some (vi _), some (vl _), none, some (vl _), none, none, none, none, none, none, none, none, none, none, none, none, none]) (dT U_L_areNotes 32 rfl) (by decide) rfl ?_
  refine x_lload (dT U_L_areNotes 33 rfl) rfl ?_
  refine x_lconst (z := 0) (dT U_L_areNotes 34 rfl) rfl ?_
  refine x_lif_lt (tgt := 101) (dT U_L_areNotes 35 rfl) (dT U_L_areNotes 36 rfl) (by decide) (xrl_of hz4) (xrl_of (by unfold xr; omega)) (fun c66 => ?_) (fun c66 => ?_)
  · skip
    refine x_iconst (dT U_L_areNotes 56 rfl) ?_
    refine x_zreturn (dT U_L_areNotes 57 rfl) rfl (by omega) ?_
    exact k
  · skip
    refine x_aload_n (dT U_L_areNotes 37 rfl) rfl ?_
    refine x_lload (dT U_L_areNotes 38 rfl) rfl ?_
    refine x_l2i (dT U_L_areNotes 39 rfl) ?_
    refine x_invokestaticT (rc' := rc + 186) (rs' := rs + 1414) (rc2 := 0 + 1) (rs2 := 0 + 6) (As := [_, _]) (st := _) M_L_note K_L_355 (dT U_L_areNotes 40 rfl) rfl (by decide) rfl rfl (Nat.le_of_ble_eq_true rfl) rfl (by decide) (Nat.le_of_ble_eq_true rfl) (by first | rfl | omega) (by first | rfl | omega) ?_
    refine S_L_note w5 v5 (by first | assumption | (unfold xr; omega)) (fun  z8 => absurd (show inb _ _ from by have := L_5; omega) z8) (fun _ z6 e6 hz6 => ?_)
    refine xRet_some ?_
    have e6 : z6 = y := by
      simp only [tn0, tn1, tn2, tn3, tn4, tn5, tn6, tn7, tn8, Int.toNat_natCast, p_5, e0_5] at e6
      rw [e6]
      unfold nv
      rw [if_neg hEne]
      exact e_y
    refine x_iload (dT U_L_areNotes 41 rfl) rfl ?_
    refine x_i2l (dT U_L_areNotes 42 rfl) hz_y ?_
    refine x_lif_ne (tgt := 101) (dT U_L_areNotes 43 rfl) (dT U_L_areNotes 44 rfl) (by decide) (xrl_of hz6) (xrl_of hz_y) (fun c80 => ?_) (fun c80 => ?_)
    · exfalso
      exact c80 e6
    · skip
      refine x_aload_n (dT U_L_areNotes 45 rfl) rfl ?_
      refine x_invokestatic (rc' := rc + 186) (rs' := rs + 1414) (rc2 := 0 + 0) (rs2 := 0 + 0) (As := [_]) (st := _) M_L_standing K_L_351 (dT U_L_areNotes 46 rfl) rfl rfl rfl rfl (Nat.le_of_ble_eq_true rfl) rfl (by decide) (Nat.le_of_ble_eq_true rfl) (by first | rfl | omega) (by first | rfl | omega) ?_
      refine S_L_standing w5 v5   (fun z7 e7 hz7 => ?_)
      refine xRet_some ?_
      have e7 : z7 = MM p ((S0 + (cm1 p amt blind)) % (p : Int)) := by
        rw [p_5] at e7
        rw [e7, S_5]
      refine x_lload (dT U_L_areNotes 47 rfl) rfl ?_
      refine x_iload (dT U_L_areNotes 48 rfl) rfl ?_
      refine x_i2l (dT U_L_areNotes 49 rfl) hz_y ?_
      refine x_lmul (dT U_L_areNotes 50 rfl) ?_
      refine x_iload_n (dT U_L_areNotes 51 rfl) rfl ?_
      refine x_i2l (dT U_L_areNotes 52 rfl) (by unfold xr; omega) ?_
      refine x_lrem (dT U_L_areNotes 53 rfl) (by unfold xrl; omega) (by unfold xrl; omega) (by omega) ?_
      rw [e_by]
      refine x_lif_eq (tgt := 103) (dT U_L_areNotes 54 rfl) (dT U_L_areNotes 55 rfl) (by decide) (xrl_of hz7) (xrl_of (xr_MM hpr)) (fun c97 => ?_) (fun c97 => ?_)
      · skip
        refine x_aload_n (dT U_L_areNotes 58 rfl) rfl ?_
        refine x_lload (dT U_L_areNotes 59 rfl) rfl ?_
        refine x_l2i (dT U_L_areNotes 60 rfl) ?_
        refine x_aload_n (dT U_L_areNotes 61 rfl) rfl ?_
        refine x_sipush (dT U_L_areNotes 62 rfl) (by decide) ?_
        refine x_invokestatic (rc' := rc + 186) (rs' := rs + 1414) (rc2 := 0 + 0) (rs2 := 0 + 0) (As := [_, _]) (st := _) M_L_cell K_L_221 (dT U_L_areNotes 63 rfl) rfl rfl rfl rfl (Nat.le_of_ble_eq_true rfl) rfl (by decide) (Nat.le_of_ble_eq_true rfl) (by first | rfl | omega) (by first | rfl | omega) ?_
        refine S_L_cell (k := 222) hL (by omega) (fun z111 => ?_)
        refine xRet_some ?_
        refine x_iload_n (dT U_L_areNotes 64 rfl) rfl ?_
        refine x_invokestatic (rc' := rc + 186) (rs' := rs + 1414) (rc2 := 0 + 0) (rs2 := 0 + 0) (As := [_, _]) (st := _) M_L_chosen K_L_225 (dT U_L_areNotes 65 rfl) rfl rfl rfl rfl (Nat.le_of_ble_eq_true rfl) rfl (by decide) (Nat.le_of_ble_eq_true rfl) (by first | rfl | omega) (by first | rfl | omega) ?_
        refine S_L_chosen (by omega) (fun a2 b_a2 => ?_)
        refine xRet_some ?_
        refine x_aload_n (dT U_L_areNotes 66 rfl) rfl ?_
        refine x_sipush (dT U_L_areNotes 67 rfl) (by decide) ?_
        refine x_invokestatic (rc' := rc + 186) (rs' := rs + 1414) (rc2 := 0 + 0) (rs2 := 0 + 0) (As := [_, _]) (st := _) M_L_cell K_L_221 (dT U_L_areNotes 68 rfl) rfl rfl rfl rfl (Nat.le_of_ble_eq_true rfl) rfl (by decide) (Nat.le_of_ble_eq_true rfl) (by first | rfl | omega) (by first | rfl | omega) ?_
        refine S_L_cell (k := 223) hL (by omega) (fun z122 => ?_)
        refine xRet_some ?_
        refine x_iload_n (dT U_L_areNotes 69 rfl) rfl ?_
        refine x_invokestatic (rc' := rc + 186) (rs' := rs + 1414) (rc2 := 0 + 0) (rs2 := 0 + 0) (As := [_, _]) (st := _) M_L_chosen K_L_225 (dT U_L_areNotes 70 rfl) rfl rfl rfl rfl (Nat.le_of_ble_eq_true rfl) rfl (by decide) (Nat.le_of_ble_eq_true rfl) (by first | rfl | omega) (by first | rfl | omega) ?_
        refine S_L_chosen (by omega) (fun b2 b_b2 => ?_)
        refine xRet_some ?_
        obtain ⟨A, e_A⟩ : ∃ x : Int, cm1 p a2 b2 = x := ⟨_, rfl⟩
        have hA : 0 ≤ A ∧ A < (p : Int) := by rw [← e_A]; exact cm1_b (by omega)
        obtain ⟨B, e_B⟩ : ∃ x : Int, ((cm1 p amt blind) - A) % (p : Int) = x := ⟨_, rfl⟩
        have hB : 0 ≤ B ∧ B < (p : Int) := by rw [← e_B]; exact modb (by omega)
        refine x_invokestaticT (rc' := rc + 181) (rs' := rs + 1384) (rc2 := 0 + 5) (rs2 := 0 + 30) (As := [_, _, _, _]) (st := _) M_L_split K_L_357 (dT U_L_areNotes 71 rfl) rfl (by decide) rfl rfl (Nat.le_of_ble_eq_true rfl) rfl (by decide) (Nat.le_of_ble_eq_true rfl) (by first | rfl | omega) (by first | rfl | omega) ?_
        refine S_L_split w5 v5 (by first | assumption | (unfold xr; omega)) (by first | assumption | (unfold xr; omega)) (by first | assumption | (unfold xr; omega)) (fun  z8 => absurd (show inb _ _ from by have := L_5; omega) z8) (fun _ z8 => absurd (show inb _ _ ∧ inb _ _ from by have := p_5; omega) z8) (fun _ _ z8 => absurd (⟨by rw [show (σ5.L.nn.getD _ 0) = _ from e0_5]; exact hEne, by have := L_5; omega⟩) z8) (fun _ _ _ z8 e8 hz8 h8 fc8 w_8 v_8 => ?_)
        refine xRet_some ?_
        have e8 : z8 = ((n0 + 1 : Nat) : Int) := by
          rw [e8, L_5]
        obtain ⟨σ9, w9, v9, L_9, S_9, e0_9, e1_9, e2_9, p_9⟩ : ∃ σ9 : St, CW σ9 h8 ∧ INV σ9 ∧ σ9.L.n = n0 + 3 ∧ stnd p (gf σ9.L.nn) σ9.L.n = ((S0 + (cm1 p amt blind)) % (p : Int)) ∧ σ9.L.nn.getD n0 0 = -1 ∧ σ9.L.nn.getD (n0 + 1) 0 = A ∧ σ9.L.nn.getD (n0 + 2) 0 = B ∧ σ9.p = p := ⟨_, w_8, v_8, (by show σ5.L.n + 2 = _; rw [L_5]), (by show stnd p (gf (((σ5.L.nn.set n0 (-1)).set σ5.L.n (cm1 σ5.p a2 b2)).set (σ5.L.n + 1) ((σ5.L.nn.getD n0 0 - cm1 σ5.p a2 b2) % (σ5.p : Int)))) (σ5.L.n + 2) = _; rw [p_5, e0_5]; exact st_split (by omega) v5.L.2.1 (by have := L_5; omega) (by have := L_5; omega) e0_5 hEne (by rw [e_A]; omega) S_5), (by show (((σ5.L.nn.set n0 (-1)).set σ5.L.n (cm1 σ5.p a2 b2)).set (σ5.L.n + 1) ((σ5.L.nn.getD n0 0 - cm1 σ5.p a2 b2) % (σ5.p : Int))).getD n0 0 = _; rw [L_5, gset_n (by omega), gset_n (by omega), gset_e (by rw [v5.L.2.1]; omega)]), (by show (((σ5.L.nn.set n0 (-1)).set σ5.L.n (cm1 σ5.p a2 b2)).set (σ5.L.n + 1) ((σ5.L.nn.getD n0 0 - cm1 σ5.p a2 b2) % (σ5.p : Int))).getD (n0 + 1) 0 = _; rw [L_5, gset_n (by omega), gset_e (by rw [List.length_set, v5.L.2.1]; omega), p_5]; exact e_A), (by show (((σ5.L.nn.set n0 (-1)).set σ5.L.n (cm1 σ5.p a2 b2)).set (σ5.L.n + 1) ((σ5.L.nn.getD n0 0 - cm1 σ5.p a2 b2) % (σ5.p : Int))).getD (n0 + 2) 0 = _; rw [L_5, gset_e (by rw [List.length_set, List.length_set, v5.L.2.1]; omega), p_5, e0_5, e_A]; exact e_B), p_5⟩
        have h_row_9 : h8[a_row]? = some (cA 0 l2) := (fc8).get h_row_5 (by omega)
        have hlen_9 : 70 ≤ h8.length := by rw [fc8.1]; exact hlen_5
        subst e8
        refine x_lstore (ls' := [some (.ref _), some (.ref _), some (vi _), some (vi _), some (.ref _), some (vi _), some (vi _), some (vl _), none, some (vl _), none, some (vl _), none, none, none, none, none, none, none, none, none, none, none]) (dT U_L_areNotes 72 rfl) (by decide) rfl ?_
        refine x_lload (dT U_L_areNotes 73 rfl) rfl ?_
        refine x_lload (dT U_L_areNotes 74 rfl) rfl ?_
        refine x_lconst (z := 1) (dT U_L_areNotes 75 rfl) rfl ?_
        refine x_ladd (dT U_L_areNotes 76 rfl) ?_
        refine x_lif_ne (tgt := 173) (dT U_L_areNotes 77 rfl) (dT U_L_areNotes 78 rfl) (by decide) (xrl_of hz8) (xrl_of (by unfold xr; omega)) (fun c140 => ?_) (fun c140 => ?_)
        · exfalso
          omega
        · skip
          refine x_aload_n (dT U_L_areNotes 79 rfl) rfl ?_
          refine x_lload (dT U_L_areNotes 80 rfl) rfl ?_
          refine x_l2i (dT U_L_areNotes 81 rfl) ?_
          refine x_invokestaticT (rc' := rc + 180) (rs' := rs + 1378) (rc2 := 0 + 1) (rs2 := 0 + 6) (As := [_, _]) (st := _) M_L_note K_L_355 (dT U_L_areNotes 82 rfl) rfl (by decide) rfl rfl (Nat.le_of_ble_eq_true rfl) rfl (by decide) (Nat.le_of_ble_eq_true rfl) (by first | rfl | omega) (by first | rfl | omega) ?_
          refine S_L_note w9 v9 (by first | assumption | (unfold xr; omega)) (fun  z8 => absurd (show inb _ _ from by have := L_9; omega) z8) (fun _ z10 e10 hz10 => ?_)
          refine xRet_some ?_
          have e10 : z10 = 0 := by
            simp only [tn0, tn1, tn2, tn3, tn4, tn5, tn6, tn7, tn8, Int.toNat_natCast, p_9, e0_9] at e10
            rw [e10]
            rfl
          refine x_lconst (z := 0) (dT U_L_areNotes 83 rfl) rfl ?_
          refine x_lif_ne (tgt := 173) (dT U_L_areNotes 84 rfl) (dT U_L_areNotes 85 rfl) (by decide) (xrl_of hz10) (xrl_of (by unfold xr; omega)) (fun c152 => ?_) (fun c152 => ?_)
          · exfalso
            exact c152 e10
          · skip
            refine x_aload_n (dT U_L_areNotes 86 rfl) rfl ?_
            refine x_invokestatic (rc' := rc + 180) (rs' := rs + 1378) (rc2 := 0 + 0) (rs2 := 0 + 0) (As := [_]) (st := _) M_L_standing K_L_351 (dT U_L_areNotes 87 rfl) rfl rfl rfl rfl (Nat.le_of_ble_eq_true rfl) rfl (by decide) (Nat.le_of_ble_eq_true rfl) (by first | rfl | omega) (by first | rfl | omega) ?_
            refine S_L_standing w9 v9   (fun z11 e11 hz11 => ?_)
            refine xRet_some ?_
            have e11 : z11 = MM p ((S0 + (cm1 p amt blind)) % (p : Int)) := by
              rw [p_9] at e11
              rw [e11, S_9]
            refine x_lload (dT U_L_areNotes 88 rfl) rfl ?_
            refine x_iload (dT U_L_areNotes 89 rfl) rfl ?_
            refine x_i2l (dT U_L_areNotes 90 rfl) hz_y ?_
            refine x_lmul (dT U_L_areNotes 91 rfl) ?_
            refine x_iload_n (dT U_L_areNotes 92 rfl) rfl ?_
            refine x_i2l (dT U_L_areNotes 93 rfl) (by unfold xr; omega) ?_
            refine x_lrem (dT U_L_areNotes 94 rfl) (by unfold xrl; omega) (by unfold xrl; omega) (by omega) ?_
            rw [e_by]
            refine x_lif_eq (tgt := 175) (dT U_L_areNotes 95 rfl) (dT U_L_areNotes 96 rfl) (by decide) (xrl_of hz11) (xrl_of (xr_MM hpr)) (fun c169 => ?_) (fun c169 => ?_)
            · skip
              refine x_aload_n (dT U_L_areNotes 99 rfl) rfl ?_
              refine x_lload (dT U_L_areNotes 100 rfl) rfl ?_
              refine x_l2i (dT U_L_areNotes 101 rfl) ?_
              refine x_lload (dT U_L_areNotes 102 rfl) rfl ?_
              refine x_l2i (dT U_L_areNotes 103 rfl) ?_
              refine x_iconst (dT U_L_areNotes 104 rfl) ?_
              refine x_iadd (dT U_L_areNotes 105 rfl) ?_
              rw [show ((n0 + 1 : Nat) : Int) + 1 = ((n0 + 2 : Nat) : Int) by omega]
              have sAB : (A + B) % (p : Int) = cm1 p amt blind := by rw [← e_B]; exact split_sum hE
              refine x_invokestaticT (rc' := rc + 174) (rs' := rs + 1342) (rc2 := 0 + 6) (rs2 := 0 + 36) (As := [_, _, _]) (st := _) M_L_merge K_L_359 (dT U_L_areNotes 106 rfl) rfl (by decide) rfl rfl (Nat.le_of_ble_eq_true rfl) rfl (by decide) (Nat.le_of_ble_eq_true rfl) (by first | rfl | omega) (by first | rfl | omega) ?_
              refine S_L_merge w9 v9 (by first | assumption | (unfold xr; omega)) (by first | assumption | (unfold xr; omega)) (fun  z8 => absurd (show inb _ _ ∧ inb _ _ from by have := L_9; omega) z8) (fun _ z8 => absurd (show ¬ _ = _ from by omega) z8) (fun _ _ z8 => absurd (⟨fun z8 => absurd (e1_9.symm.trans z8) (by omega), fun z8 => absurd (e2_9.symm.trans z8) (by omega), by have := L_9; omega⟩) z8) (fun _ _ _ z12 e12 hz12 h12 fc12 w_12 v_12 => ?_)
              refine xRet_some ?_
              have e12 : z12 = ((n0 + 3 : Nat) : Int) := by
                rw [e12, L_9]
              obtain ⟨σ13, w13, v13, L_13, S_13, e1_13, e3_13, p_13⟩ : ∃ σ13 : St, CW σ13 h12 ∧ INV σ13 ∧ σ13.L.n = n0 + 4 ∧ stnd p (gf σ13.L.nn) σ13.L.n = ((S0 + (cm1 p amt blind)) % (p : Int)) ∧ σ13.L.nn.getD (n0 + 1) 0 = -1 ∧ σ13.L.nn.getD (n0 + 3) 0 = (cm1 p amt blind) ∧ σ13.p = p := ⟨_, w_12, v_12, (by show σ9.L.n + 1 = _; rw [L_9]), (by show stnd p (gf (((σ9.L.nn.set (n0 + 1) (-1)).set (n0 + 2) (-1)).set σ9.L.n ((σ9.L.nn.getD (n0 + 1) 0 + σ9.L.nn.getD (n0 + 2) 0) % (σ9.p : Int)))) (σ9.L.n + 1) = _; rw [p_9, e1_9, e2_9, sAB]; exact st_merge (by omega) v9.L.2.1 (by have := L_9; omega) (by have := L_9; omega) (by have := L_9; omega) (by omega) e1_9 e2_9 (by omega) (by omega) hEne sAB S_9), (by show (((σ9.L.nn.set (n0 + 1) (-1)).set (n0 + 2) (-1)).set σ9.L.n ((σ9.L.nn.getD (n0 + 1) 0 + σ9.L.nn.getD (n0 + 2) 0) % (σ9.p : Int))).getD (n0 + 1) 0 = _; rw [L_9, gset_n (by omega), gset_n (by omega), gset_e (by rw [v9.L.2.1]; omega)]), (by show (((σ9.L.nn.set (n0 + 1) (-1)).set (n0 + 2) (-1)).set σ9.L.n ((σ9.L.nn.getD (n0 + 1) 0 + σ9.L.nn.getD (n0 + 2) 0) % (σ9.p : Int))).getD (n0 + 3) 0 = _; rw [p_9, e1_9, e2_9, sAB, L_9, gset_e (by rw [List.length_set, List.length_set, v9.L.2.1]; omega)]), p_9⟩
              have h_row_13 : h12[a_row]? = some (cA 0 l2) := (fc12).get h_row_9 (by omega)
              have hlen_13 : 70 ≤ h12.length := by rw [fc12.1]; exact hlen_9
              subst e12
              refine x_lstore (ls' := [some (.ref _), some (.ref _), some (vi _), some (vi _), some (.ref _), some (vi _), some (vi _), some (vl _), none, some (vl _), none, some (vl _), none, some (vl _), none, none, none, none, none, none, none, none, none]) (dT U_L_areNotes 107 rfl) (by decide) rfl ?_
              refine x_aload_n (dT U_L_areNotes 108 rfl) rfl ?_
              refine x_lload (dT U_L_areNotes 109 rfl) rfl ?_
              refine x_l2i (dT U_L_areNotes 110 rfl) ?_
              refine x_invokestaticT (rc' := rc + 173) (rs' := rs + 1336) (rc2 := 0 + 1) (rs2 := 0 + 6) (As := [_, _]) (st := _) M_L_note K_L_355 (dT U_L_areNotes 111 rfl) rfl (by decide) rfl rfl (Nat.le_of_ble_eq_true rfl) rfl (by decide) (Nat.le_of_ble_eq_true rfl) (by first | rfl | omega) (by first | rfl | omega) ?_
              refine S_L_note w13 v13 (by first | assumption | (unfold xr; omega)) (fun  z8 => absurd (show inb _ _ from by have := L_13; omega) z8) (fun _ z14 e14 hz14 => ?_)
              refine xRet_some ?_
              have e14 : z14 = y := by
                simp only [tn0, tn1, tn2, tn3, tn4, tn5, tn6, tn7, tn8, Int.toNat_natCast, p_13, e3_13] at e14
                rw [e14]
                unfold nv
                rw [if_neg hEne]
                exact e_y
              refine x_iload (dT U_L_areNotes 112 rfl) rfl ?_
              refine x_i2l (dT U_L_areNotes 113 rfl) hz_y ?_
              refine x_lif_ne (tgt := 237) (dT U_L_areNotes 114 rfl) (dT U_L_areNotes 115 rfl) (by decide) (xrl_of hz14) (xrl_of hz_y) (fun c199 => ?_) (fun c199 => ?_)
              · exfalso
                exact c199 e14
              · skip
                refine x_aload_n (dT U_L_areNotes 116 rfl) rfl ?_
                refine x_invokestatic (rc' := rc + 173) (rs' := rs + 1336) (rc2 := 0 + 0) (rs2 := 0 + 0) (As := [_]) (st := _) M_L_standing K_L_351 (dT U_L_areNotes 117 rfl) rfl rfl rfl rfl (Nat.le_of_ble_eq_true rfl) rfl (by decide) (Nat.le_of_ble_eq_true rfl) (by first | rfl | omega) (by first | rfl | omega) ?_
                refine S_L_standing w13 v13   (fun z15 e15 hz15 => ?_)
                refine xRet_some ?_
                have e15 : z15 = MM p ((S0 + (cm1 p amt blind)) % (p : Int)) := by
                  rw [p_13] at e15
                  rw [e15, S_13]
                refine x_lload (dT U_L_areNotes 118 rfl) rfl ?_
                refine x_iload (dT U_L_areNotes 119 rfl) rfl ?_
                refine x_i2l (dT U_L_areNotes 120 rfl) hz_y ?_
                refine x_lmul (dT U_L_areNotes 121 rfl) ?_
                refine x_iload_n (dT U_L_areNotes 122 rfl) rfl ?_
                refine x_i2l (dT U_L_areNotes 123 rfl) (by unfold xr; omega) ?_
                refine x_lrem (dT U_L_areNotes 124 rfl) (by unfold xrl; omega) (by unfold xrl; omega) (by omega) ?_
                rw [e_by]
                refine x_lif_ne (tgt := 237) (dT U_L_areNotes 125 rfl) (dT U_L_areNotes 126 rfl) (by decide) (xrl_of hz15) (xrl_of (xr_MM hpr)) (fun c216 => ?_) (fun c216 => ?_)
                · exfalso
                  exact c216 e15
                · skip
                  refine x_aload_n (dT U_L_areNotes 127 rfl) rfl ?_
                  refine x_lload (dT U_L_areNotes 128 rfl) rfl ?_
                  refine x_l2i (dT U_L_areNotes 129 rfl) ?_
                  refine x_lload (dT U_L_areNotes 130 rfl) rfl ?_
                  refine x_l2i (dT U_L_areNotes 131 rfl) ?_
                  refine x_invokestaticT (rc' := rc + 167) (rs' := rs + 1300) (rc2 := 0 + 6) (rs2 := 0 + 36) (As := [_, _, _]) (st := _) M_L_merge K_L_359 (dT U_L_areNotes 132 rfl) rfl (by decide) rfl rfl (Nat.le_of_ble_eq_true rfl) rfl (by decide) (Nat.le_of_ble_eq_true rfl) (by omega) (by omega) ?_
                  refine S_L_merge w13 v13 (by unfold xr; omega) (by unfold xr; omega) (fun z8 => absurd (show inb _ _ ∧ inb _ _ from by have := L_13; omega) z8) (fun _ z8 => absurd (show ¬ _ = _ from by omega) z8) (fun _ _ _ => ?_) (fun _ _ z8 => absurd e1_13 z8.1)
                  refine xRet_some ?_
                  refine x_ldc2 C_L_60 (dT U_L_areNotes 133 rfl) ?_
                  refine x_lif_eq (tgt := 239) (dT U_L_areNotes 134 rfl) (dT U_L_areNotes 135 rfl) (by decide) (show xrl _ by unfold xrl; omega) (show xrl _ by unfold xrl; omega) (fun c233 => ?_) (fun c233 => ?_)
                  · skip
                    refine x_bipush (dT U_L_areNotes 138 rfl) (by decide) ?_
                    refine x_newL (rc' := rc + 166) (rs' := rs + 1292) 8 (by have := hlen_13; omega) (dT U_L_areNotes 139 rfl) rfl (by omega) (by omega) (by omega) (fun h16 a_fm u16 ga16 ge16 h_fm16 => ?_)
                    have Fl_fm : Fl (p : Int) (List.replicate 8 0) := Fl_0 (by omega)
                    have g_fm : 70 ≤ a_fm := by have := hlen_13; omega
                    have w16 := (w13).up u16
                    have h_row_16 := u16 _ _ h_row_13
                    have ne_fm_row : a_fm ≠ a_row := by have := (List.getElem?_eq_some_iff.mp h_row_13).1; omega
                    have hlen_16 : 70 ≤ h16.length := by have := u16.len; have := hlen_13; omega
                    refine x_astore (ls' := [some (.ref _), some (.ref _), some (vi _), some (vi _), some (.ref _), some (vi _), some (vi _), some (vl _), none, some (vl _), none, some (vl _), none, some (vl _), none, some (.ref _), none, none, none, none, none, none, none]) (dT U_L_areNotes 140 rfl) (by decide) rfl ?_
                    refine x_aload (dT U_L_areNotes 141 rfl) rfl ?_
                    refine x_iconst (dT U_L_areNotes 142 rfl) ?_
                    refine x_iconst (dT U_L_areNotes 143 rfl) ?_
                    refine x_iastoreL (0) w16 g_fm (dT U_L_areNotes 144 rfl) h_fm16 rfl (by have := (Fl_fm).1; omega) (by have := (Fl_fm).1; omega) (fun h17 l17 el17 len17 w17 nb17 h_fm_17 => ?_)
                    have hlen_17 : 70 ≤ h17.length := by rw [len17]; exact hlen_16
                    have h_row_17 := nb17 _ _ (by omega) h_row_16
                    have F_l17 : Fl (p : Int) l17 := by rw [el17]; exact Fl.set Fl_fm (by omega)
                    have e_lF : l17 = (List.replicate 8 0).set 0 1 := el17
                    have inE : inn l17 l2 % (p : Int) = amt := by rw [e_lF, e_lR, inn_one]; exact modr b_amt
                    refine x_aload_n (dT U_L_areNotes 145 rfl) rfl ?_
                    refine x_iconst (dT U_L_areNotes 146 rfl) ?_
                    refine x_aload (dT U_L_areNotes 147 rfl) rfl ?_
                    refine x_invokestatic (rc' := rc + 165) (rs' := rs + 1286) (rc2 := 0 + 1) (rs2 := 0 + 6) (As := [_, _, _]) (st := _) M_L_lays K_L_238 (dT U_L_areNotes 148 rfl) rfl rfl rfl rfl (Nat.le_of_ble_eq_true rfl) rfl (by decide) (Nat.le_of_ble_eq_true rfl) (by first | rfl | omega) (by first | rfl | omega) ?_
                    refine S_L_lays w17 v13 (by omega) h_row_17 (by omega) (by rw [p_13]; exact F_l2) (fun z18 hz18 h18 fc18 w_18 v_18 => ?_)
                    refine xRet_some ?_
                    obtain ⟨σ19, w19, v19, r0_19, L_19, S_19, e1_19, e3_19, p_19⟩ : ∃ σ19 : St, CW σ19 h18 ∧ INV σ19 ∧ σ19.rw 0 = l2 ∧ σ19.L.n = n0 + 4 ∧ stnd p (gf σ19.L.nn) σ19.L.n = ((S0 + (cm1 p amt blind)) % (p : Int)) ∧ σ19.L.nn.getD (n0 + 1) 0 = -1 ∧ σ19.L.nn.getD (n0 + 3) 0 = (cm1 p amt blind) ∧ σ19.p = p := ⟨_, w_18, v_18, rfl, L_13, S_13, e1_13, e3_13, p_13⟩
                    have h_row_19 : h18[a_row]? = some (cA 0 l2) := (fc18).get h_row_17 (by omega)
                    have h_fm_19 : h18[a_fm]? = some (cA 0 l17) := (fc18).get h_fm_17 (by omega)
                    have hlen_19 : 70 ≤ h18.length := by rw [fc18.1]; exact hlen_17
                    refine x_pop2 (dT U_L_areNotes 149 rfl) ?_
                    refine x_aload_n (dT U_L_areNotes 150 rfl) rfl ?_
                    refine x_iconst (dT U_L_areNotes 151 rfl) ?_
                    refine x_aload_n (dT U_L_areNotes 152 rfl) rfl ?_
                    refine x_sipush (dT U_L_areNotes 153 rfl) (by decide) ?_
                    refine x_iload_n (dT U_L_areNotes 154 rfl) rfl ?_
                    refine x_bipush (dT U_L_areNotes 155 rfl) (by decide) ?_
                    refine x_invokestatic (rc' := rc + 164) (rs' := rs + 1278) (rc2 := 0 + 1) (rs2 := 0 + 8) (As := [_, _, _, _]) (st := _) M_L_made K_L_234 (dT U_L_areNotes 156 rfl) rfl rfl rfl rfl (Nat.le_of_ble_eq_true rfl) rfl (by decide) (Nat.le_of_ble_eq_true rfl) (by first | rfl | omega) (by first | rfl | omega) ?_
                    refine S_L_made (f := 224) (m := 8) hL (by have := hlen_19; omega) (by omega) (by omega) (by omega) (fun h20 a_mk mk u20 ga20 ge20 h_mk20 Fl_mk Z_mk => ?_)
                    refine xRet_some ?_
                    have g_mk : 70 ≤ a_mk := by have := hlen_19; omega
                    have w20 := (w19).up u20
                    have h_row_20 := u20 _ _ h_row_19
                    have ne_mk_row : a_mk ≠ a_row := by have := (List.getElem?_eq_some_iff.mp h_row_19).1; omega
                    have h_fm_20 := u20 _ _ h_fm_19
                    have ne_mk_fm : a_mk ≠ a_fm := by have := (List.getElem?_eq_some_iff.mp h_fm_19).1; omega
                    have hlen_20 : 70 ≤ h20.length := by have := u20.len; have := hlen_19; omega
                    refine x_invokestatic (rc' := rc + 163) (rs' := rs + 1272) (rc2 := 0 + 1) (rs2 := 0 + 6) (As := [_, _, _]) (st := _) M_L_lays K_L_238 (dT U_L_areNotes 157 rfl) rfl rfl rfl rfl (Nat.le_of_ble_eq_true rfl) rfl (by decide) (Nat.le_of_ble_eq_true rfl) (by first | rfl | omega) (by first | rfl | omega) ?_
                    refine S_L_lays w20 v19 (by omega) h_mk20 (by omega) (by rw [p_19]; exact Fl_mk) (fun z21 hz21 h21 fc21 w_21 v_21 => ?_)
                    refine xRet_some ?_
                    obtain ⟨σ22, w22, v22, r1_22, r0_22, L_22, S_22, e1_22, e3_22, p_22⟩ : ∃ σ22 : St, CW σ22 h21 ∧ INV σ22 ∧ σ22.rw 1 = mk ∧ σ22.rw 0 = l2 ∧ σ22.L.n = n0 + 4 ∧ stnd p (gf σ22.L.nn) σ22.L.n = ((S0 + (cm1 p amt blind)) % (p : Int)) ∧ σ22.L.nn.getD (n0 + 1) 0 = -1 ∧ σ22.L.nn.getD (n0 + 3) 0 = (cm1 p amt blind) ∧ σ22.p = p := ⟨_, w_21, v_21, rfl, r0_19, L_19, S_19, e1_19, e3_19, p_19⟩
                    have h_row_22 : h21[a_row]? = some (cA 0 l2) := (fc21).get h_row_20 (by omega)
                    have h_fm_22 : h21[a_fm]? = some (cA 0 l17) := (fc21).get h_fm_20 (by omega)
                    have h_mk_22 : h21[a_mk]? = some (cA 0 mk) := (fc21).get h_mk20 (by omega)
                    have hlen_22 : 70 ≤ h21.length := by rw [fc21.1]; exact hlen_20
                    refine x_pop2 (dT U_L_areNotes 158 rfl) ?_
                    refine x_aload_n (dT U_L_areNotes 159 rfl) rfl ?_
                    refine x_iconst (dT U_L_areNotes 160 rfl) ?_
                    refine x_aload (dT U_L_areNotes 161 rfl) rfl ?_
                    refine x_invokestatic (rc' := rc + 162) (rs' := rs + 1266) (rc2 := 0 + 1) (rs2 := 0 + 6) (As := [_, _, _]) (st := _) M_L_lays K_L_238 (dT U_L_areNotes 162 rfl) rfl rfl rfl rfl (Nat.le_of_ble_eq_true rfl) rfl (by decide) (Nat.le_of_ble_eq_true rfl) (by first | rfl | omega) (by first | rfl | omega) ?_
                    refine S_L_lays w22 v22 (by omega) h_fm_22 (by omega) (by rw [p_22]; exact F_l17) (fun z23 hz23 h23 fc23 w_23 v_23 => ?_)
                    refine xRet_some ?_
                    obtain ⟨σ24, w24, v24, r2_24, r1_24, r0_24, L_24, S_24, e1_24, e3_24, p_24⟩ : ∃ σ24 : St, CW σ24 h23 ∧ INV σ24 ∧ σ24.rw 2 = l17 ∧ σ24.rw 1 = mk ∧ σ24.rw 0 = l2 ∧ σ24.L.n = n0 + 4 ∧ stnd p (gf σ24.L.nn) σ24.L.n = ((S0 + (cm1 p amt blind)) % (p : Int)) ∧ σ24.L.nn.getD (n0 + 1) 0 = -1 ∧ σ24.L.nn.getD (n0 + 3) 0 = (cm1 p amt blind) ∧ σ24.p = p := ⟨_, w_23, v_23, rfl, r1_22, r0_22, L_22, S_22, e1_22, e3_22, p_22⟩
                    have h_row_24 : h23[a_row]? = some (cA 0 l2) := (fc23).get h_row_22 (by omega)
                    have h_fm_24 : h23[a_fm]? = some (cA 0 l17) := (fc23).get h_fm_22 (by omega)
                    have h_mk_24 : h23[a_mk]? = some (cA 0 mk) := (fc23).get h_mk_22 (by omega)
                    have hlen_24 : 70 ≤ h23.length := by rw [fc23.1]; exact hlen_22
                    refine x_pop2 (dT U_L_areNotes 163 rfl) ?_
                    refine x_aload_n (dT U_L_areNotes 164 rfl) rfl ?_
                    refine x_iconst (dT U_L_areNotes 165 rfl) ?_
                    refine x_iload (dT U_L_areNotes 166 rfl) rfl ?_
                    refine x_iconst (dT U_L_areNotes 167 rfl) ?_
                    refine x_aload (dT U_L_areNotes 168 rfl) rfl ?_
                    refine x_iconst (dT U_L_areNotes 169 rfl) ?_
                    refine x_iaload (0) (dT U_L_areNotes 170 rfl) h_row_24 (by omega) rfl (by have := (F_l2).1; omega) (by have := (F_l2).1; omega) ?_
                    rw [q_amt]
                    refine x_invokestaticT (rc' := rc + 158) (rs' := rs + 1242) (rc2 := 0 + 4) (rs2 := 0 + 24) (As := [_, _, _, _, _]) (st := _) M_L_state K_L_261 (dT U_L_areNotes 171 rfl) rfl (by decide) rfl rfl (Nat.le_of_ble_eq_true rfl) rfl (by decide) (Nat.le_of_ble_eq_true rfl) (by first | rfl | omega) (by first | rfl | omega) ?_
                    refine S_L_state w24 v24 (by first | assumption | (unfold xr; omega)) (by first | assumption | (unfold xr; omega)) (by first | assumption | (unfold xr; omega)) (by first | assumption | (unfold xr; omega)) (fun  z8 => absurd (show inb _ _ ∧ inb _ _ from by omega) z8) (fun _ z8 => absurd (show _ ∧ inb _ _ from ⟨by rw [p_24, ← e_y, exI_MM hpr hE]; omega, by have := p_24; omega⟩) z8) (fun _ _ z25 e25 hz25 h25 fc25 w_25 v_25 => ?_)
                    refine xRet_some ?_
                    have e25 : z25 = y := by
                      exact e25
                    obtain ⟨σ26, w26, v26, R0_st_26, R0_e_26, R0_v_26, R0_form_26, r2_26, r1_26, r0_26, L_26, S_26, e1_26, e3_26, p_26⟩ : ∃ σ26 : St, CW σ26 h25 ∧ INV σ26 ∧ (σ26.R 0).st = 1 ∧ (σ26.R 0).e = (cm1 p amt blind) ∧ (σ26.R 0).v = amt ∧ (σ26.R 0).form = l17 ∧ σ26.rw 2 = l17 ∧ σ26.rw 1 = mk ∧ σ26.rw 0 = l2 ∧ σ26.L.n = n0 + 4 ∧ stnd p (gf σ26.L.nn) σ26.L.n = ((S0 + (cm1 p amt blind)) % (p : Int)) ∧ σ26.L.nn.getD (n0 + 1) 0 = -1 ∧ σ26.L.nn.getD (n0 + 3) 0 = (cm1 p amt blind) ∧ σ26.p = p := ⟨_, w_25, v_25, rfl, (by show exI σ24.p y = _; rw [p_24, ← e_y, exI_MM hpr hE]), rfl, r2_24, r2_24, r1_24, r0_24, L_24, S_24, e1_24, e3_24, p_24⟩
                    have h_row_26 : h25[a_row]? = some (cA 0 l2) := (fc25).get h_row_24 (by omega)
                    have h_fm_26 : h25[a_fm]? = some (cA 0 l17) := (fc25).get h_fm_24 (by omega)
                    have h_mk_26 : h25[a_mk]? = some (cA 0 mk) := (fc25).get h_mk_24 (by omega)
                    have hlen_26 : 70 ≤ h25.length := by rw [fc25.1]; exact hlen_24
                    refine x_pop2 (dT U_L_areNotes 172 rfl) ?_
                    refine x_aload_n (dT U_L_areNotes 173 rfl) rfl ?_
                    refine x_iconst (dT U_L_areNotes 174 rfl) ?_
                    refine x_iconst (dT U_L_areNotes 175 rfl) ?_
                    refine x_aload_n (dT U_L_areNotes 176 rfl) rfl ?_
                    refine x_sipush (dT U_L_areNotes 177 rfl) (by decide) ?_
                    refine x_invokestatic (rc' := rc + 158) (rs' := rs + 1242) (rc2 := 0 + 0) (rs2 := 0 + 0) (As := [_, _]) (st := _) M_L_cell K_L_221 (dT U_L_areNotes 178 rfl) rfl rfl rfl rfl (Nat.le_of_ble_eq_true rfl) rfl (by decide) (Nat.le_of_ble_eq_true rfl) (by first | rfl | omega) (by first | rfl | omega) ?_
                    refine S_L_cell (k := 232) hL (by omega) (fun z302 => ?_)
                    refine xRet_some ?_
                    refine x_iload_n (dT U_L_areNotes 179 rfl) rfl ?_
                    refine x_invokestatic (rc' := rc + 158) (rs' := rs + 1242) (rc2 := 0 + 0) (rs2 := 0 + 0) (As := [_, _]) (st := _) M_L_chosen K_L_225 (dT U_L_areNotes 180 rfl) rfl rfl rfl rfl (Nat.le_of_ble_eq_true rfl) rfl (by decide) (Nat.le_of_ble_eq_true rfl) (by first | rfl | omega) (by first | rfl | omega) ?_
                    refine S_L_chosen (by omega) (fun mb b_mb => ?_)
                    refine xRet_some ?_
                    refine x_invokestaticT (rc' := rc + 154) (rs' := rs + 1218) (rc2 := 0 + 4) (rs2 := 0 + 24) (As := [_, _, _, _]) (st := _) M_L_open K_L_263 (dT U_L_areNotes 181 rfl) rfl (by decide) rfl rfl (Nat.le_of_ble_eq_true rfl) rfl (by decide) (Nat.le_of_ble_eq_true rfl) (by first | rfl | omega) (by first | rfl | omega) ?_
                    refine S_L_open w26 v26 (by first | assumption | (unfold xr; omega)) (by first | assumption | (unfold xr; omega)) (by first | assumption | (unfold xr; omega)) (fun  z8 => absurd (show inb _ _ ∧ inb _ _ from by omega) z8) (fun _ z8 => absurd (show inb _ _ from by have := p_26; omega) z8) (fun _ _ z8 => absurd (R0_st_26) z8) (fun _ _ _ z27 e27 hz27 h27 fc27 w_27 v_27 => ?_)
                    refine xRet_some ?_
                    have e27 : z27 = MM p (cm p mk mb) := by
                      simp only [tn0, tn1, tn2, tn3, tn4, tn5, tn6, tn7, tn8, Int.toNat_natCast, p_26, r1_26] at e27; exact e27
                    obtain ⟨σ28, w28, v28, R0_st_28, R0_fa_28, R0_w_28, R0_mb_28, R0_mk_28, R0_mask_28, R0_e_28, R0_v_28, R0_form_28, r2_28, r1_28, r0_28, L_28, S_28, e1_28, e3_28, p_28⟩ : ∃ σ28 : St, CW σ28 h27 ∧ INV σ28 ∧ (σ28.R 0).st = 2 ∧ (σ28.R 0).fa = cm p mk mb ∧ (σ28.R 0).w = inn l17 mk % (p : Int) ∧ (σ28.R 0).mb = mb ∧ (σ28.R 0).mk = true ∧ (σ28.R 0).mask = mk ∧ (σ28.R 0).e = (cm1 p amt blind) ∧ (σ28.R 0).v = amt ∧ (σ28.R 0).form = l17 ∧ σ28.rw 2 = l17 ∧ σ28.rw 1 = mk ∧ σ28.rw 0 = l2 ∧ σ28.L.n = n0 + 4 ∧ stnd p (gf σ28.L.nn) σ28.L.n = ((S0 + (cm1 p amt blind)) % (p : Int)) ∧ σ28.L.nn.getD (n0 + 1) 0 = -1 ∧ σ28.L.nn.getD (n0 + 3) 0 = (cm1 p amt blind) ∧ σ28.p = p := ⟨_, w_27, v_27, rfl, (by show cm σ26.p (σ26.rw 1) _ = _; rw [p_26, r1_26]), (by show inn (σ26.R 0).form (σ26.rw 1) % (σ26.p : Int) = _; rw [R0_form_26, r1_26, p_26]), rfl, rfl, r1_26, R0_e_26, R0_v_26, R0_form_26, r2_26, r1_26, r0_26, L_26, S_26, e1_26, e3_26, p_26⟩
                    have h_row_28 : h27[a_row]? = some (cA 0 l2) := (fc27).get h_row_26 (by omega)
                    have h_fm_28 : h27[a_fm]? = some (cA 0 l17) := (fc27).get h_fm_26 (by omega)
                    have h_mk_28 : h27[a_mk]? = some (cA 0 mk) := (fc27).get h_mk_26 (by omega)
                    have hlen_28 : 70 ≤ h27.length := by rw [fc27.1]; exact hlen_26
                    refine x_pop2 (dT U_L_areNotes 182 rfl) ?_
                    obtain ⟨TR, e_TR⟩ : ∃ x : Int, trs p (σ28.R 0) = x := ⟨_, rfl⟩
                    have b_TR : 0 ≤ TR ∧ TR < 251 := by rw [← e_TR]; exact sl_b _ _
                    refine x_aload_n (dT U_L_areNotes 183 rfl) rfl ?_
                    refine x_iconst (dT U_L_areNotes 184 rfl) ?_
                    refine x_bipush (dT U_L_areNotes 185 rfl) (by decide) ?_
                    refine x_invokestaticT (rc' := rc + 152) (rs' := rs + 1206) (rc2 := 0 + 2) (rs2 := 0 + 12) (As := [_, _, _]) (st := _) M_L_told K_L_265 (dT U_L_areNotes 186 rfl) rfl (by decide) rfl rfl (Nat.le_of_ble_eq_true rfl) rfl (by decide) (Nat.le_of_ble_eq_true rfl) (by first | rfl | omega) (by first | rfl | omega) ?_
                    refine S_L_told w28 v28 (by first | assumption | (unfold xr; omega)) (by first | assumption | (unfold xr; omega)) (fun  z8 => absurd (show inb _ _ from by omega) z8) (fun _ z8 => absurd (show inb _ _ from by omega) z8) (fun _ _ z29 e29 hz29 => ?_)
                    refine xRet_some ?_
                    have e29 : z29 = TR := by
                      simp only [tn0, tn1, tn2, tn3, tn4, tn5, tn6, tn7, tn8, Int.toNat_natCast, p_28] at e29
                      rw [e29, if_pos rfl, if_pos (by rw [R0_st_28]; decide)]
                      exact e_TR
                    have e9 := e29.symm
                    subst e9
                    refine x_iload_n (dT U_L_areNotes 187 rfl) rfl ?_
                    refine x_i2l (dT U_L_areNotes 188 rfl) (by unfold xr; omega) ?_
                    refine x_lrem (dT U_L_areNotes 189 rfl) (by unfold xrl; omega) (by unfold xrl; omega) (by omega) ?_
                    rw [Int.tmod_eq_emod_of_nonneg (by omega)]
                    obtain ⟨due, e_due⟩ : ∃ x : Int, TR % (p : Int) = x := ⟨_, rfl⟩
                    rw [e_due]
                    have b_due : 0 ≤ due ∧ due < (p : Int) := by rw [← e_due]; exact modb (by omega)
                    refine x_lstore (ls' := [some (.ref _), some (.ref _), some (vi _), some (vi _), some (.ref _), some (vi _), some (vi _), some (vl _), none, some (vl _), none, some (vl _), none, some (vl _), none, some (.ref _), some (vl _), none, none, none, none, none, none]) (dT U_L_areNotes 190 rfl) (by decide) rfl ?_
                    refine x_aload_n (dT U_L_areNotes 191 rfl) rfl ?_
                    refine x_sipush (dT U_L_areNotes 192 rfl) (by decide) ?_
                    refine x_invokestatic (rc' := rc + 152) (rs' := rs + 1206) (rc2 := 0 + 0) (rs2 := 0 + 0) (As := [_, _]) (st := _) M_L_cell K_L_221 (dT U_L_areNotes 193 rfl) rfl rfl rfl rfl (Nat.le_of_ble_eq_true rfl) rfl (by decide) (Nat.le_of_ble_eq_true rfl) (by first | rfl | omega) (by first | rfl | omega) ?_
                    refine S_L_cell (k := 233) hL (by omega) (fun z329 => ?_)
                    refine xRet_some ?_
                    refine x_iconst (dT U_L_areNotes 194 rfl) ?_
                    refine x_invokestatic (rc' := rc + 152) (rs' := rs + 1206) (rc2 := 0 + 0) (rs2 := 0 + 0) (As := [_, _]) (st := _) M_L_chosen K_L_225 (dT U_L_areNotes 195 rfl) rfl rfl rfl rfl (Nat.le_of_ble_eq_true rfl) rfl (by decide) (Nat.le_of_ble_eq_true rfl) (by first | rfl | omega) (by first | rfl | omega) ?_
                    refine S_L_chosen (by omega) (fun as_ b_as_ => ?_)
                    refine xRet_some ?_
                    refine x_if_ne (tgt := 343) (dT U_L_areNotes 196 rfl) (by decide) (by unfold xr; omega) (fun c336 => ?_) (fun c336 => ?_)
                    · skip
                      refine x_iconst (dT U_L_areNotes 199 rfl) ?_
                      refine x_istore (ls' := [some (.ref _), some (.ref _), some (vi _), some (vi _), some (.ref _), some (vi _), some (vi _), some (vl _), none, some (vl _), none, some (vl _), none, some (vl _), none, some (.ref _), some (vl _), none, some (vi _), none, none, none, none]) (dT U_L_areNotes 200 rfl) (by decide) rfl ?_
                      refine x_iload (dT U_L_areNotes 201 rfl) rfl ?_
                      refine x_if_eq (tgt := 359) (dT U_L_areNotes 202 rfl) (by decide) (by unfold xr; omega) (fun c348 => ?_) (fun c348 => ?_)
                      · skip
                        refine x_aload_n (dT U_L_areNotes 207 rfl) rfl ?_
                        refine x_iconst (dT U_L_areNotes 208 rfl) ?_
                        refine x_aload_n (dT U_L_areNotes 209 rfl) rfl ?_
                        refine x_sipush (dT U_L_areNotes 210 rfl) (by decide) ?_
                        refine x_invokestatic (rc' := rc + 152) (rs' := rs + 1206) (rc2 := 0 + 0) (rs2 := 0 + 0) (As := [_, _]) (st := _) M_L_cell K_L_221 (dT U_L_areNotes 211 rfl) rfl rfl rfl rfl (Nat.le_of_ble_eq_true rfl) rfl (by decide) (Nat.le_of_ble_eq_true rfl) (by first | rfl | omega) (by first | rfl | omega) ?_
                        refine S_L_cell (k := 234) hL (by omega) (fun z365 => ?_)
                        refine xRet_some ?_
                        refine x_iload_n (dT U_L_areNotes 212 rfl) rfl ?_
                        refine x_invokestatic (rc' := rc + 152) (rs' := rs + 1206) (rc2 := 0 + 0) (rs2 := 0 + 0) (As := [_, _]) (st := _) M_L_chosen K_L_225 (dT U_L_areNotes 213 rfl) rfl rfl rfl rfl (Nat.le_of_ble_eq_true rfl) rfl (by decide) (Nat.le_of_ble_eq_true rfl) (by first | rfl | omega) (by first | rfl | omega) ?_
                        refine S_L_chosen (by omega) (fun dc b_dc => ?_)
                        refine xRet_some ?_
                        refine x_invokestaticT (rc' := rc + 149) (rs' := rs + 1188) (rc2 := 0 + 3) (rs2 := 0 + 18) (As := [_, _, _]) (st := _) M_L_dare K_L_267 (dT U_L_areNotes 214 rfl) rfl (by decide) rfl rfl (Nat.le_of_ble_eq_true rfl) rfl (by decide) (Nat.le_of_ble_eq_true rfl) (by first | rfl | omega) (by first | rfl | omega) ?_
                        refine S_L_dare w28 v28 (by first | assumption | (unfold xr; omega)) (by first | assumption | (unfold xr; omega)) (fun  z8 => absurd (show inb _ _ from by omega) z8) (fun _ z8 => absurd (show inb _ _ from by have := p_28; omega) z8) (fun _ _ z8 => absurd (R0_st_28) z8) (fun _ _ _ z30 e30 hz30 h30 fc30 w_30 v_30 => ?_)
                        refine xRet_some ?_
                        have e30 : z30 = dc := by
                          exact e30
                        obtain ⟨σ31, w31, v31, R0_st_31, R0_c_31, R0_fa_31, R0_w_31, R0_mb_31, R0_mk_31, R0_mask_31, R0_e_31, R0_v_31, R0_form_31, r2_31, r1_31, r0_31, L_31, S_31, e1_31, e3_31, p_31, R0_tr_31⟩ : ∃ σ31 : St, CW σ31 h30 ∧ INV σ31 ∧ (σ31.R 0).st = 3 ∧ (σ31.R 0).c = dc ∧ (σ31.R 0).fa = cm p mk mb ∧ (σ31.R 0).w = inn l17 mk % (p : Int) ∧ (σ31.R 0).mb = mb ∧ (σ31.R 0).mk = true ∧ (σ31.R 0).mask = mk ∧ (σ31.R 0).e = (cm1 p amt blind) ∧ (σ31.R 0).v = amt ∧ (σ31.R 0).form = l17 ∧ σ31.rw 2 = l17 ∧ σ31.rw 1 = mk ∧ σ31.rw 0 = l2 ∧ σ31.L.n = n0 + 4 ∧ stnd p (gf σ31.L.nn) σ31.L.n = ((S0 + (cm1 p amt blind)) % (p : Int)) ∧ σ31.L.nn.getD (n0 + 1) 0 = -1 ∧ σ31.L.nn.getD (n0 + 3) 0 = (cm1 p amt blind) ∧ σ31.p = p ∧ trs p (σ31.R 0) = TR := ⟨_, w_30, v_30, rfl, rfl, R0_fa_28, R0_w_28, R0_mb_28, R0_mk_28, R0_mask_28, R0_e_28, R0_v_28, R0_form_28, r2_28, r1_28, r0_28, L_28, S_28, e1_28, e3_28, p_28, e_TR⟩
                        have h_row_31 : h30[a_row]? = some (cA 0 l2) := (fc30).get h_row_28 (by omega)
                        have h_fm_31 : h30[a_fm]? = some (cA 0 l17) := (fc30).get h_fm_28 (by omega)
                        have h_mk_31 : h30[a_mk]? = some (cA 0 mk) := (fc30).get h_mk_28 (by omega)
                        have hlen_31 : 70 ≤ h30.length := by rw [fc30.1]; exact hlen_28
                        refine x_lstore (ls' := [some (.ref _), some (.ref _), some (vi _), some (vi _), some (.ref _), some (vi _), some (vi _), some (vl _), none, some (vl _), none, some (vl _), none, some (vl _), none, some (.ref _), some (vl _), none, some (vi _), some (vl _), none, none, none]) (dT U_L_areNotes 215 rfl) (by decide) rfl ?_
                        refine x_aload_n (dT U_L_areNotes 216 rfl) rfl ?_
                        refine x_iconst (dT U_L_areNotes 217 rfl) ?_
                        refine x_iconst (dT U_L_areNotes 218 rfl) ?_
                        refine x_iload (dT U_L_areNotes 219 rfl) rfl ?_
                        refine x_invokestaticT (rc' := rc + 144) (rs' := rs + 1158) (rc2 := 0 + 5) (rs2 := 0 + 30) (As := [_, _, _, _]) (st := _) M_L_reply K_L_269 (dT U_L_areNotes 220 rfl) rfl (by decide) rfl rfl (Nat.le_of_ble_eq_true rfl) rfl (by decide) (Nat.le_of_ble_eq_true rfl) (by first | rfl | omega) (by first | rfl | omega) ?_
                        refine S_L_reply w31 v31 (by first | assumption | (unfold xr; omega)) (by first | assumption | (unfold xr; omega)) (by first | assumption | (unfold xr; omega)) (fun  z8 => absurd (show inb _ _ ∧ inb _ _ from by omega) z8) (fun _ z8 => absurd (show inb _ _ from by have := p_31; omega) z8) (fun _ _ z8 => absurd (⟨R0_mk_31, R0_st_31⟩) z8) (fun _ _ _ z32 e32 hz32 h32 fc32 w_32 v_32 => ?_)
                        refine xRet_some ?_
                        have e32 : z32 = (mb + dc * blind) % (p : Int) := by
                          simp only [tn0, tn1, tn2, tn3, tn4, tn5, tn6, tn7, tn8, Int.toNat_natCast, p_31, R0_mb_31, R0_c_31] at e32; exact e32
                        obtain ⟨σ33, w33, v33, R0_st_33, R0_t_33, R0_answer_33, R0_c_33, R0_fa_33, R0_w_33, R0_mb_33, R0_mk_33, R0_mask_33, R0_e_33, R0_v_33, R0_form_33, r2_33, r1_33, r0_33, L_33, S_33, e1_33, e3_33, p_33, R0_tr_33⟩ : ∃ σ33 : St, CW σ33 h32 ∧ INV σ33 ∧ (σ33.R 0).st = 4 ∧ (σ33.R 0).t = (mb + dc * blind) % (p : Int) ∧ (σ33.R 0).answer = tab (fun j => (mk.getD j 0 + dc * l2.getD j 0) % (p : Int)) 8 ∧ (σ33.R 0).c = dc ∧ (σ33.R 0).fa = cm p mk mb ∧ (σ33.R 0).w = inn l17 mk % (p : Int) ∧ (σ33.R 0).mb = mb ∧ (σ33.R 0).mk = true ∧ (σ33.R 0).mask = mk ∧ (σ33.R 0).e = (cm1 p amt blind) ∧ (σ33.R 0).v = amt ∧ (σ33.R 0).form = l17 ∧ σ33.rw 2 = l17 ∧ σ33.rw 1 = mk ∧ σ33.rw 0 = l2 ∧ σ33.L.n = n0 + 4 ∧ stnd p (gf σ33.L.nn) σ33.L.n = ((S0 + (cm1 p amt blind)) % (p : Int)) ∧ σ33.L.nn.getD (n0 + 1) 0 = -1 ∧ σ33.L.nn.getD (n0 + 3) 0 = (cm1 p amt blind) ∧ σ33.p = p ∧ trs p (σ33.R 0) = TR := ⟨_, w_32, v_32, rfl, (by show ((σ31.R 0).mb + (σ31.R 0).c * _) % (σ31.p : Int) = _; rw [R0_mb_31, R0_c_31, p_31]), (by show tab (fun j => ((σ31.R 0).mask.getD j 0 + (σ31.R 0).c * (σ31.rw 0).getD j 0) % (σ31.p : Int)) 8 = _; rw [R0_mask_31, R0_c_31, r0_31, p_31]), R0_c_31, R0_fa_31, R0_w_31, R0_mb_31, R0_mk_31, R0_mask_31, R0_e_31, R0_v_31, R0_form_31, r2_31, r1_31, r0_31, L_31, S_31, e1_31, e3_31, p_31, R0_tr_31⟩
                        have h_row_33 : h32[a_row]? = some (cA 0 l2) := (fc32).get h_row_31 (by omega)
                        have h_fm_33 : h32[a_fm]? = some (cA 0 l17) := (fc32).get h_fm_31 (by omega)
                        have h_mk_33 : h32[a_mk]? = some (cA 0 mk) := (fc32).get h_mk_31 (by omega)
                        have hlen_33 : 70 ≤ h32.length := by rw [fc32.1]; exact hlen_31
                        refine x_pop2 (dT U_L_areNotes 221 rfl) ?_
                        by_cases hdc : dc = due
                        · skip
                          refine x_aload_n (dT U_L_areNotes 222 rfl) rfl ?_
                          refine x_lload (dT U_L_areNotes 223 rfl) rfl ?_
                          refine x_l2i (dT U_L_areNotes 224 rfl) ?_
                          refine x_iconst (dT U_L_areNotes 225 rfl) ?_
                          refine x_invokestaticT (rc' := rc + 140) (rs' := rs + 1134) (rc2 := 0 + 4) (rs2 := 0 + 24) (As := [_, _, _]) (st := _) M_L_pay K_L_363 (dT U_L_areNotes 226 rfl) rfl (by decide) rfl rfl (Nat.le_of_ble_eq_true rfl) rfl (by decide) (Nat.le_of_ble_eq_true rfl) (by first | rfl | omega) (by first | rfl | omega) ?_
                          refine S_L_pay w33 v33 (by first | assumption | (unfold xr; omega)) (by first | assumption | (unfold xr; omega)) (fun  z8 => absurd (show inb _ _ ∧ inb _ _ from by have := L_33; omega) z8) (fun _ z8 => absurd ((by rw [p_33]; exact (show ¬ (σ33.L.nn.getD (n0 + 3) 0) = -1 ∧ opn p (σ33.R 0) (σ33.L.nn.getD (n0 + 3) 0) from ⟨fun z8 => hEne (e3_33.symm.trans z8), (acc_ok (S := l2) (F := l17) (M := mk) (c := dc) (m := mb) (b := blind) R0_st_33 (R0_e_33.trans cmE.symm) (R0_v_33.trans inE.symm) R0_form_33 R0_fa_33 R0_w_33 R0_c_33 R0_t_33 R0_answer_33), R0_e_33.trans e3_33.symm, by rw [R0_form_33, e_lF]; rfl, by rw [R0_form_33, e_lF]; decide, (by rw [R0_c_33, R0_tr_33]; exact hdc.trans e_due.symm)⟩))) z8) (fun _ _ z34 e34 hz34 h34 fc34 w_34 v_34 => ?_)
                          refine xRet_some ?_
                          have e34 : z34 = amt := by
                            rw [e34]
                            exact R0_v_33
                          obtain ⟨σ35, w35, v35, L_35, S_35, e3_35, R0_st_35, R0_t_35, R0_answer_35, R0_c_35, R0_fa_35, R0_w_35, R0_mb_35, R0_mk_35, R0_mask_35, R0_e_35, R0_v_35, R0_form_35, r2_35, r1_35, r0_35, e1_35, p_35, R0_tr_35⟩ : ∃ σ35 : St, CW σ35 h34 ∧ INV σ35 ∧ σ35.L.n = n0 + 4 ∧ stnd p (gf σ35.L.nn) σ35.L.n = S0 ∧ σ35.L.nn.getD (n0 + 3) 0 = -1 ∧ (σ35.R 0).st = 4 ∧ (σ35.R 0).t = (mb + dc * blind) % (p : Int) ∧ (σ35.R 0).answer = tab (fun j => (mk.getD j 0 + dc * l2.getD j 0) % (p : Int)) 8 ∧ (σ35.R 0).c = dc ∧ (σ35.R 0).fa = cm p mk mb ∧ (σ35.R 0).w = inn l17 mk % (p : Int) ∧ (σ35.R 0).mb = mb ∧ (σ35.R 0).mk = true ∧ (σ35.R 0).mask = mk ∧ (σ35.R 0).e = (cm1 p amt blind) ∧ (σ35.R 0).v = amt ∧ (σ35.R 0).form = l17 ∧ σ35.rw 2 = l17 ∧ σ35.rw 1 = mk ∧ σ35.rw 0 = l2 ∧ σ35.L.nn.getD (n0 + 1) 0 = -1 ∧ σ35.p = p ∧ trs p (σ35.R 0) = TR := ⟨_, w_34, v_34, L_33, (by show stnd p (gf (σ33.L.nn.set (n0 + 3) (-1))) σ33.L.n = _; rw [st_gone (by have := L_33; omega) (by rw [v33.L.2.1]; omega) e3_33 hEne, S_33]; exact pay_back b_S0), (by show (σ33.L.nn.set (n0 + 3) (-1)).getD (n0 + 3) 0 = _; rw [gset_e (by rw [v33.L.2.1]; omega)]), R0_st_33, R0_t_33, R0_answer_33, R0_c_33, R0_fa_33, R0_w_33, R0_mb_33, R0_mk_33, R0_mask_33, R0_e_33, R0_v_33, R0_form_33, r2_33, r1_33, r0_33, e1_33, p_33, R0_tr_33⟩
                          have h_row_35 : h34[a_row]? = some (cA 0 l2) := (fc34).get h_row_33 (by omega)
                          have h_fm_35 : h34[a_fm]? = some (cA 0 l17) := (fc34).get h_fm_33 (by omega)
                          have h_mk_35 : h34[a_mk]? = some (cA 0 mk) := (fc34).get h_mk_33 (by omega)
                          have hlen_35 : 70 ≤ h34.length := by rw [fc34.1]; exact hlen_33
                          refine x_lstore (ls' := [some (.ref _), some (.ref _), some (vi _), some (vi _), some (.ref _), some (vi _), some (vi _), some (vl _), none, some (vl _), none, some (vl _), none, some (vl _), none, some (.ref _), some (vl _), none, some (vi _), some (vl _), none, some (vl _), none]) (dT U_L_areNotes 227 rfl) (by decide) rfl ?_
                          refine x_lload (dT U_L_areNotes 228 rfl) rfl ?_
                          refine x_lload (dT U_L_areNotes 229 rfl) rfl ?_
                          refine x_lif_eq (tgt := 438) (dT U_L_areNotes 230 rfl) (dT U_L_areNotes 231 rfl) (by decide) (xrl_of hz30) (xrl_of (by first | assumption | (unfold xr; omega))) (fun c400 => ?_) (fun c400 => ?_)
                          · skip
                            refine x_lload (dT U_L_areNotes 250 rfl) rfl ?_
                            refine x_aload (dT U_L_areNotes 251 rfl) rfl ?_
                            refine x_iconst (dT U_L_areNotes 252 rfl) ?_
                            refine x_iaload (0) (dT U_L_areNotes 253 rfl) h_row_35 (by omega) rfl (by have := (F_l2).1; omega) (by have := (F_l2).1; omega) ?_
                            rw [q_amt]
                            refine x_i2l (dT U_L_areNotes 254 rfl) (by unfold xr; omega) ?_
                            refine x_lif_ne (tgt := 475) (dT U_L_areNotes 255 rfl) (dT U_L_areNotes 256 rfl) (by decide) (xrl_of hz34) (xrl_of (by unfold xr; omega)) (fun c445 => ?_) (fun c445 => ?_)
                            · exfalso
                              exact c445 e34
                            · skip
                              refine x_aload_n (dT U_L_areNotes 257 rfl) rfl ?_
                              refine x_lload (dT U_L_areNotes 258 rfl) rfl ?_
                              refine x_l2i (dT U_L_areNotes 259 rfl) ?_
                              refine x_invokestaticT (rc' := rc + 139) (rs' := rs + 1128) (rc2 := 0 + 1) (rs2 := 0 + 6) (As := [_, _]) (st := _) M_L_note K_L_355 (dT U_L_areNotes 260 rfl) rfl (by decide) rfl rfl (Nat.le_of_ble_eq_true rfl) rfl (by decide) (Nat.le_of_ble_eq_true rfl) (by first | rfl | omega) (by first | rfl | omega) ?_
                              refine S_L_note w35 v35 (by first | assumption | (unfold xr; omega)) (fun  z8 => absurd (show inb _ _ from by have := L_35; omega) z8) (fun _ z36 e36 hz36 => ?_)
                              refine xRet_some ?_
                              have e36 : z36 = 0 := by
                                simp only [tn0, tn1, tn2, tn3, tn4, tn5, tn6, tn7, tn8, Int.toNat_natCast, p_35, e3_35] at e36
                                rw [e36]
                                rfl
                              refine x_lconst (z := 0) (dT U_L_areNotes 261 rfl) rfl ?_
                              refine x_lif_ne (tgt := 475) (dT U_L_areNotes 262 rfl) (dT U_L_areNotes 263 rfl) (by decide) (xrl_of hz36) (xrl_of (by unfold xr; omega)) (fun c457 => ?_) (fun c457 => ?_)
                              · exfalso
                                exact c457 e36
                              · skip
                                refine x_aload_n (dT U_L_areNotes 264 rfl) rfl ?_
                                refine x_invokestatic (rc' := rc + 139) (rs' := rs + 1128) (rc2 := 0 + 0) (rs2 := 0 + 0) (As := [_]) (st := _) M_L_standing K_L_351 (dT U_L_areNotes 265 rfl) rfl rfl rfl rfl (Nat.le_of_ble_eq_true rfl) rfl (by decide) (Nat.le_of_ble_eq_true rfl) (by first | rfl | omega) (by first | rfl | omega) ?_
                                refine S_L_standing w35 v35   (fun z37 e37 hz37 => ?_)
                                refine xRet_some ?_
                                have e37 : z37 = MM p S0 := by
                                  rw [p_35] at e37
                                  rw [e37, S_35]
                                refine x_lload (dT U_L_areNotes 266 rfl) rfl ?_
                                refine x_lif_ne (tgt := 475) (dT U_L_areNotes 267 rfl) (dT U_L_areNotes 268 rfl) (by decide) (xrl_of hz37) (xrl_of hz3) (fun c467 => ?_) (fun c467 => ?_)
                                · exfalso
                                  exact c467 (e37.trans e3.symm)
                                · skip
                                  refine x_iconst (dT U_L_areNotes 269 rfl) ?_
                                  refine x_goto (tgt := 476) (dT U_L_areNotes 270 rfl) (by decide) ?_
                                  refine x_zreturn (dT U_L_areNotes 272 rfl) rfl (by omega) ?_
                                  exact kk _ _ _ w35 v35 p_35 hlen_35
                          · exfalso
                            exact c400 (e30.trans hdc)
                        · skip
                          refine x_aload_n (dT U_L_areNotes 222 rfl) rfl ?_
                          refine x_lload (dT U_L_areNotes 223 rfl) rfl ?_
                          refine x_l2i (dT U_L_areNotes 224 rfl) ?_
                          refine x_iconst (dT U_L_areNotes 225 rfl) ?_
                          refine x_invokestaticT (rc' := rc + 140) (rs' := rs + 1134) (rc2 := 0 + 4) (rs2 := 0 + 24) (As := [_, _, _]) (st := _) M_L_pay K_L_363 (dT U_L_areNotes 226 rfl) rfl (by decide) rfl rfl (Nat.le_of_ble_eq_true rfl) rfl (by decide) (Nat.le_of_ble_eq_true rfl) (by omega) (by omega) ?_
                          refine S_L_pay w33 v33 (by unfold xr; omega) (by unfold xr; omega) (fun z8 => absurd (show inb _ _ ∧ inb _ _ from by have := L_33; omega) z8) (fun _ _ => ?_) (fun _ z8 => absurd (show dc = due from by have z7 := z8.2.2.2.2.2; rw [p_33] at z7; exact R0_c_33.symm.trans (z7.trans (by rw [show trs p (σ33.R 0) = TR from R0_tr_33]; exact e_due))) hdc)
                          refine xRet_some ?_
                          refine x_lstore (ls' := [some (.ref _), some (.ref _), some (vi _), some (vi _), some (.ref _), some (vi _), some (vi _), some (vl _), none, some (vl _), none, some (vl _), none, some (vl _), none, some (.ref _), some (vl _), none, some (vi _), some (vl _), none, some (vl _), none]) (dT U_L_areNotes 227 rfl) (by decide) rfl ?_
                          refine x_lload (dT U_L_areNotes 228 rfl) rfl ?_
                          refine x_lload (dT U_L_areNotes 229 rfl) rfl ?_
                          refine x_lif_eq (tgt := 438) (dT U_L_areNotes 230 rfl) (dT U_L_areNotes 231 rfl) (by decide) (xrl_of hz30) (xrl_of (by first | assumption | (unfold xr; omega))) (fun c400 => ?_) (fun c400 => ?_)
                          · exfalso
                            exact hdc (e30.symm.trans c400)
                          · skip
                            refine x_iload (dT U_L_areNotes 232 rfl) rfl ?_
                            refine x_if_ne (tgt := 436) (dT U_L_areNotes 233 rfl) (by decide) (by unfold xr; omega) (fun c406 => ?_) (fun c406 => ?_)
                            · exfalso
                              omega
                            · skip
                              refine x_lload (dT U_L_areNotes 234 rfl) rfl ?_
                              refine x_ldc2 C_L_43 (dT U_L_areNotes 235 rfl) ?_
                              refine x_lif_ne (tgt := 436) (dT U_L_areNotes 236 rfl) (dT U_L_areNotes 237 rfl) (by decide) (show xrl _ by unfold xrl; omega) (show xrl _ by unfold xrl; omega) (fun c414 => ?_) (fun c414 => ?_)
                              · exfalso
                                exact absurd rfl c414
                              · skip
                                refine x_aload_n (dT U_L_areNotes 238 rfl) rfl ?_
                                refine x_lload (dT U_L_areNotes 239 rfl) rfl ?_
                                refine x_l2i (dT U_L_areNotes 240 rfl) ?_
                                refine x_invokestaticT (rc' := rc + 139) (rs' := rs + 1128) (rc2 := 0 + 1) (rs2 := 0 + 6) (As := [_, _]) (st := _) M_L_note K_L_355 (dT U_L_areNotes 241 rfl) rfl (by decide) rfl rfl (Nat.le_of_ble_eq_true rfl) rfl (by decide) (Nat.le_of_ble_eq_true rfl) (by first | rfl | omega) (by first | rfl | omega) ?_
                                refine S_L_note w33 v33 (by first | assumption | (unfold xr; omega)) (fun  z8 => absurd (show inb _ _ from by have := L_33; omega) z8) (fun _ z38 e38 hz38 => ?_)
                                refine xRet_some ?_
                                have e38 : z38 = y := by
                                  simp only [tn0, tn1, tn2, tn3, tn4, tn5, tn6, tn7, tn8, Int.toNat_natCast, p_33, e3_33] at e38
                                  rw [e38]
                                  unfold nv
                                  rw [if_neg hEne]
                                  exact e_y
                                refine x_iload (dT U_L_areNotes 242 rfl) rfl ?_
                                refine x_i2l (dT U_L_areNotes 243 rfl) hz_y ?_
                                refine x_lif_ne (tgt := 436) (dT U_L_areNotes 244 rfl) (dT U_L_areNotes 245 rfl) (by decide) (xrl_of hz38) (xrl_of hz_y) (fun c428 => ?_) (fun c428 => ?_)
                                · exfalso
                                  exact c428 e38
                                · skip
                                  refine x_iconst (dT U_L_areNotes 246 rfl) ?_
                                  refine x_goto (tgt := 437) (dT U_L_areNotes 247 rfl) (by decide) ?_
                                  refine x_zreturn (dT U_L_areNotes 249 rfl) rfl (by omega) ?_
                                  exact kk _ _ _ w33 v33 p_33 hlen_33
                      · exfalso
                        omega
                    · skip
                      refine x_iconst (dT U_L_areNotes 197 rfl) ?_
                      refine x_goto (tgt := 344) (dT U_L_areNotes 198 rfl) (by decide) ?_
                      refine x_istore (ls' := [some (.ref _), some (.ref _), some (vi _), some (vi _), some (.ref _), some (vi _), some (vi _), some (vl _), none, some (vl _), none, some (vl _), none, some (vl _), none, some (.ref _), some (vl _), none, some (vi _), none, none, none, none]) (dT U_L_areNotes 200 rfl) (by decide) rfl ?_
                      refine x_iload (dT U_L_areNotes 201 rfl) rfl ?_
                      refine x_if_eq (tgt := 359) (dT U_L_areNotes 202 rfl) (by decide) (by unfold xr; omega) (fun c348 => ?_) (fun c348 => ?_)
                      · exfalso
                        omega
                      · skip
                        refine x_aload_n (dT U_L_areNotes 203 rfl) rfl ?_
                        refine x_iconst (dT U_L_areNotes 204 rfl) ?_
                        refine x_invokestaticT (rc' := rc + 150) (rs' := rs + 1194) (rc2 := 0 + 2) (rs2 := 0 + 12) (As := [_, _]) (st := _) M_L_ask K_L_361 (dT U_L_areNotes 205 rfl) rfl (by decide) rfl rfl (Nat.le_of_ble_eq_true rfl) rfl (by decide) (Nat.le_of_ble_eq_true rfl) (by first | rfl | omega) (by first | rfl | omega) ?_
                        refine S_L_ask w28 v28 (by first | assumption | (unfold xr; omega)) (fun  z8 => absurd (show inb _ _ from by omega) z8) (fun _ z8 => absurd (R0_st_28) z8) (fun _ _ z39 e39 hz39 h39 fc39 w_39 v_39 => ?_)
                        refine xRet_some ?_
                        have e39 : z39 = due := by
                          simp only [tn0, tn1, tn2, tn3, tn4, tn5, tn6, tn7, tn8, Int.toNat_natCast, p_28] at e39
                          rw [e39, e_TR]
                          exact e_due
                        obtain ⟨σ40, w40, v40, R0_st_40, R0_c_40, R0_fa_40, R0_w_40, R0_mb_40, R0_mk_40, R0_mask_40, R0_e_40, R0_v_40, R0_form_40, r2_40, r1_40, r0_40, L_40, S_40, e1_40, e3_40, p_40, R0_tr_40⟩ : ∃ σ40 : St, CW σ40 h39 ∧ INV σ40 ∧ (σ40.R 0).st = 3 ∧ (σ40.R 0).c = due ∧ (σ40.R 0).fa = cm p mk mb ∧ (σ40.R 0).w = inn l17 mk % (p : Int) ∧ (σ40.R 0).mb = mb ∧ (σ40.R 0).mk = true ∧ (σ40.R 0).mask = mk ∧ (σ40.R 0).e = (cm1 p amt blind) ∧ (σ40.R 0).v = amt ∧ (σ40.R 0).form = l17 ∧ σ40.rw 2 = l17 ∧ σ40.rw 1 = mk ∧ σ40.rw 0 = l2 ∧ σ40.L.n = n0 + 4 ∧ stnd p (gf σ40.L.nn) σ40.L.n = ((S0 + (cm1 p amt blind)) % (p : Int)) ∧ σ40.L.nn.getD (n0 + 1) 0 = -1 ∧ σ40.L.nn.getD (n0 + 3) 0 = (cm1 p amt blind) ∧ σ40.p = p ∧ trs p (σ40.R 0) = TR := ⟨_, w_39, v_39, rfl, (by show trs σ28.p (σ28.R 0) % (σ28.p : Int) = due; rw [p_28, e_TR]; exact e_due), R0_fa_28, R0_w_28, R0_mb_28, R0_mk_28, R0_mask_28, R0_e_28, R0_v_28, R0_form_28, r2_28, r1_28, r0_28, L_28, S_28, e1_28, e3_28, p_28, e_TR⟩
                        have h_row_40 : h39[a_row]? = some (cA 0 l2) := (fc39).get h_row_28 (by omega)
                        have h_fm_40 : h39[a_fm]? = some (cA 0 l17) := (fc39).get h_fm_28 (by omega)
                        have h_mk_40 : h39[a_mk]? = some (cA 0 mk) := (fc39).get h_mk_28 (by omega)
                        have hlen_40 : 70 ≤ h39.length := by rw [fc39.1]; exact hlen_28
                        refine x_goto (tgt := 375) (dT U_L_areNotes 206 rfl) (by decide) ?_
                        refine x_lstore (ls' := [some (.ref _), some (.ref _), some (vi _), some (vi _), some (.ref _), some (vi _), some (vi _), some (vl _), none, some (vl _), none, some (vl _), none, some (vl _), none, some (.ref _), some (vl _), none, some (vi _), some (vl _), none, none, none]) (dT U_L_areNotes 215 rfl) (by decide) rfl ?_
                        refine x_aload_n (dT U_L_areNotes 216 rfl) rfl ?_
                        refine x_iconst (dT U_L_areNotes 217 rfl) ?_
                        refine x_iconst (dT U_L_areNotes 218 rfl) ?_
                        refine x_iload (dT U_L_areNotes 219 rfl) rfl ?_
                        refine x_invokestaticT (rc' := rc + 145) (rs' := rs + 1164) (rc2 := 0 + 5) (rs2 := 0 + 30) (As := [_, _, _, _]) (st := _) M_L_reply K_L_269 (dT U_L_areNotes 220 rfl) rfl (by decide) rfl rfl (Nat.le_of_ble_eq_true rfl) rfl (by decide) (Nat.le_of_ble_eq_true rfl) (by first | rfl | omega) (by first | rfl | omega) ?_
                        refine S_L_reply w40 v40 (by first | assumption | (unfold xr; omega)) (by first | assumption | (unfold xr; omega)) (by first | assumption | (unfold xr; omega)) (fun  z8 => absurd (show inb _ _ ∧ inb _ _ from by omega) z8) (fun _ z8 => absurd (show inb _ _ from by have := p_40; omega) z8) (fun _ _ z8 => absurd (⟨R0_mk_40, R0_st_40⟩) z8) (fun _ _ _ z41 e41 hz41 h41 fc41 w_41 v_41 => ?_)
                        refine xRet_some ?_
                        have e41 : z41 = (mb + due * blind) % (p : Int) := by
                          simp only [tn0, tn1, tn2, tn3, tn4, tn5, tn6, tn7, tn8, Int.toNat_natCast, p_40, R0_mb_40, R0_c_40] at e41; exact e41
                        obtain ⟨σ42, w42, v42, R0_st_42, R0_t_42, R0_answer_42, R0_c_42, R0_fa_42, R0_w_42, R0_mb_42, R0_mk_42, R0_mask_42, R0_e_42, R0_v_42, R0_form_42, r2_42, r1_42, r0_42, L_42, S_42, e1_42, e3_42, p_42, R0_tr_42⟩ : ∃ σ42 : St, CW σ42 h41 ∧ INV σ42 ∧ (σ42.R 0).st = 4 ∧ (σ42.R 0).t = (mb + due * blind) % (p : Int) ∧ (σ42.R 0).answer = tab (fun j => (mk.getD j 0 + due * l2.getD j 0) % (p : Int)) 8 ∧ (σ42.R 0).c = due ∧ (σ42.R 0).fa = cm p mk mb ∧ (σ42.R 0).w = inn l17 mk % (p : Int) ∧ (σ42.R 0).mb = mb ∧ (σ42.R 0).mk = true ∧ (σ42.R 0).mask = mk ∧ (σ42.R 0).e = (cm1 p amt blind) ∧ (σ42.R 0).v = amt ∧ (σ42.R 0).form = l17 ∧ σ42.rw 2 = l17 ∧ σ42.rw 1 = mk ∧ σ42.rw 0 = l2 ∧ σ42.L.n = n0 + 4 ∧ stnd p (gf σ42.L.nn) σ42.L.n = ((S0 + (cm1 p amt blind)) % (p : Int)) ∧ σ42.L.nn.getD (n0 + 1) 0 = -1 ∧ σ42.L.nn.getD (n0 + 3) 0 = (cm1 p amt blind) ∧ σ42.p = p ∧ trs p (σ42.R 0) = TR := ⟨_, w_41, v_41, rfl, (by show ((σ40.R 0).mb + (σ40.R 0).c * _) % (σ40.p : Int) = _; rw [R0_mb_40, R0_c_40, p_40]), (by show tab (fun j => ((σ40.R 0).mask.getD j 0 + (σ40.R 0).c * (σ40.rw 0).getD j 0) % (σ40.p : Int)) 8 = _; rw [R0_mask_40, R0_c_40, r0_40, p_40]), R0_c_40, R0_fa_40, R0_w_40, R0_mb_40, R0_mk_40, R0_mask_40, R0_e_40, R0_v_40, R0_form_40, r2_40, r1_40, r0_40, L_40, S_40, e1_40, e3_40, p_40, R0_tr_40⟩
                        have h_row_42 : h41[a_row]? = some (cA 0 l2) := (fc41).get h_row_40 (by omega)
                        have h_fm_42 : h41[a_fm]? = some (cA 0 l17) := (fc41).get h_fm_40 (by omega)
                        have h_mk_42 : h41[a_mk]? = some (cA 0 mk) := (fc41).get h_mk_40 (by omega)
                        have hlen_42 : 70 ≤ h41.length := by rw [fc41.1]; exact hlen_40
                        refine x_pop2 (dT U_L_areNotes 221 rfl) ?_
                        refine x_aload_n (dT U_L_areNotes 222 rfl) rfl ?_
                        refine x_lload (dT U_L_areNotes 223 rfl) rfl ?_
                        refine x_l2i (dT U_L_areNotes 224 rfl) ?_
                        refine x_iconst (dT U_L_areNotes 225 rfl) ?_
                        refine x_invokestaticT (rc' := rc + 141) (rs' := rs + 1140) (rc2 := 0 + 4) (rs2 := 0 + 24) (As := [_, _, _]) (st := _) M_L_pay K_L_363 (dT U_L_areNotes 226 rfl) rfl (by decide) rfl rfl (Nat.le_of_ble_eq_true rfl) rfl (by decide) (Nat.le_of_ble_eq_true rfl) (by first | rfl | omega) (by first | rfl | omega) ?_
                        refine S_L_pay w42 v42 (by first | assumption | (unfold xr; omega)) (by first | assumption | (unfold xr; omega)) (fun  z8 => absurd (show inb _ _ ∧ inb _ _ from by have := L_42; omega) z8) (fun _ z8 => absurd ((by rw [p_42]; exact (show ¬ (σ42.L.nn.getD (n0 + 3) 0) = -1 ∧ opn p (σ42.R 0) (σ42.L.nn.getD (n0 + 3) 0) from ⟨fun z8 => hEne (e3_42.symm.trans z8), (acc_ok (S := l2) (F := l17) (M := mk) (c := due) (m := mb) (b := blind) R0_st_42 (R0_e_42.trans cmE.symm) (R0_v_42.trans inE.symm) R0_form_42 R0_fa_42 R0_w_42 R0_c_42 R0_t_42 R0_answer_42), R0_e_42.trans e3_42.symm, by rw [R0_form_42, e_lF]; rfl, by rw [R0_form_42, e_lF]; decide, (by rw [R0_c_42, R0_tr_42]; exact e_due.symm)⟩))) z8) (fun _ _ z43 e43 hz43 h43 fc43 w_43 v_43 => ?_)
                        refine xRet_some ?_
                        have e43 : z43 = amt := by
                          rw [e43]
                          exact R0_v_42
                        obtain ⟨σ44, w44, v44, L_44, S_44, e3_44, R0_st_44, R0_t_44, R0_answer_44, R0_c_44, R0_fa_44, R0_w_44, R0_mb_44, R0_mk_44, R0_mask_44, R0_e_44, R0_v_44, R0_form_44, r2_44, r1_44, r0_44, e1_44, p_44, R0_tr_44⟩ : ∃ σ44 : St, CW σ44 h43 ∧ INV σ44 ∧ σ44.L.n = n0 + 4 ∧ stnd p (gf σ44.L.nn) σ44.L.n = S0 ∧ σ44.L.nn.getD (n0 + 3) 0 = -1 ∧ (σ44.R 0).st = 4 ∧ (σ44.R 0).t = (mb + due * blind) % (p : Int) ∧ (σ44.R 0).answer = tab (fun j => (mk.getD j 0 + due * l2.getD j 0) % (p : Int)) 8 ∧ (σ44.R 0).c = due ∧ (σ44.R 0).fa = cm p mk mb ∧ (σ44.R 0).w = inn l17 mk % (p : Int) ∧ (σ44.R 0).mb = mb ∧ (σ44.R 0).mk = true ∧ (σ44.R 0).mask = mk ∧ (σ44.R 0).e = (cm1 p amt blind) ∧ (σ44.R 0).v = amt ∧ (σ44.R 0).form = l17 ∧ σ44.rw 2 = l17 ∧ σ44.rw 1 = mk ∧ σ44.rw 0 = l2 ∧ σ44.L.nn.getD (n0 + 1) 0 = -1 ∧ σ44.p = p ∧ trs p (σ44.R 0) = TR := ⟨_, w_43, v_43, L_42, (by show stnd p (gf (σ42.L.nn.set (n0 + 3) (-1))) σ42.L.n = _; rw [st_gone (by have := L_42; omega) (by rw [v42.L.2.1]; omega) e3_42 hEne, S_42]; exact pay_back b_S0), (by show (σ42.L.nn.set (n0 + 3) (-1)).getD (n0 + 3) 0 = _; rw [gset_e (by rw [v42.L.2.1]; omega)]), R0_st_42, R0_t_42, R0_answer_42, R0_c_42, R0_fa_42, R0_w_42, R0_mb_42, R0_mk_42, R0_mask_42, R0_e_42, R0_v_42, R0_form_42, r2_42, r1_42, r0_42, e1_42, p_42, R0_tr_42⟩
                        have h_row_44 : h43[a_row]? = some (cA 0 l2) := (fc43).get h_row_42 (by omega)
                        have h_fm_44 : h43[a_fm]? = some (cA 0 l17) := (fc43).get h_fm_42 (by omega)
                        have h_mk_44 : h43[a_mk]? = some (cA 0 mk) := (fc43).get h_mk_42 (by omega)
                        have hlen_44 : 70 ≤ h43.length := by rw [fc43.1]; exact hlen_42
                        refine x_lstore (ls' := [some (.ref _), some (.ref _), some (vi _), some (vi _), some (.ref _), some (vi _), some (vi _), some (vl _), none, some (vl _), none, some (vl _), none, some (vl _), none, some (.ref _), some (vl _), none, some (vi _), some (vl _), none, some (vl _), none]) (dT U_L_areNotes 227 rfl) (by decide) rfl ?_
                        refine x_lload (dT U_L_areNotes 228 rfl) rfl ?_
                        refine x_lload (dT U_L_areNotes 229 rfl) rfl ?_
                        refine x_lif_eq (tgt := 438) (dT U_L_areNotes 230 rfl) (dT U_L_areNotes 231 rfl) (by decide) (xrl_of hz39) (xrl_of (by first | assumption | (unfold xr; omega))) (fun c400 => ?_) (fun c400 => ?_)
                        · skip
                          refine x_lload (dT U_L_areNotes 250 rfl) rfl ?_
                          refine x_aload (dT U_L_areNotes 251 rfl) rfl ?_
                          refine x_iconst (dT U_L_areNotes 252 rfl) ?_
                          refine x_iaload (0) (dT U_L_areNotes 253 rfl) h_row_44 (by omega) rfl (by have := (F_l2).1; omega) (by have := (F_l2).1; omega) ?_
                          rw [q_amt]
                          refine x_i2l (dT U_L_areNotes 254 rfl) (by unfold xr; omega) ?_
                          refine x_lif_ne (tgt := 475) (dT U_L_areNotes 255 rfl) (dT U_L_areNotes 256 rfl) (by decide) (xrl_of hz43) (xrl_of (by unfold xr; omega)) (fun c445 => ?_) (fun c445 => ?_)
                          · exfalso
                            exact c445 e43
                          · skip
                            refine x_aload_n (dT U_L_areNotes 257 rfl) rfl ?_
                            refine x_lload (dT U_L_areNotes 258 rfl) rfl ?_
                            refine x_l2i (dT U_L_areNotes 259 rfl) ?_
                            refine x_invokestaticT (rc' := rc + 140) (rs' := rs + 1134) (rc2 := 0 + 1) (rs2 := 0 + 6) (As := [_, _]) (st := _) M_L_note K_L_355 (dT U_L_areNotes 260 rfl) rfl (by decide) rfl rfl (Nat.le_of_ble_eq_true rfl) rfl (by decide) (Nat.le_of_ble_eq_true rfl) (by first | rfl | omega) (by first | rfl | omega) ?_
                            refine S_L_note w44 v44 (by first | assumption | (unfold xr; omega)) (fun  z8 => absurd (show inb _ _ from by have := L_44; omega) z8) (fun _ z45 e45 hz45 => ?_)
                            refine xRet_some ?_
                            have e45 : z45 = 0 := by
                              simp only [tn0, tn1, tn2, tn3, tn4, tn5, tn6, tn7, tn8, Int.toNat_natCast, p_44, e3_44] at e45
                              rw [e45]
                              rfl
                            refine x_lconst (z := 0) (dT U_L_areNotes 261 rfl) rfl ?_
                            refine x_lif_ne (tgt := 475) (dT U_L_areNotes 262 rfl) (dT U_L_areNotes 263 rfl) (by decide) (xrl_of hz45) (xrl_of (by unfold xr; omega)) (fun c457 => ?_) (fun c457 => ?_)
                            · exfalso
                              exact c457 e45
                            · skip
                              refine x_aload_n (dT U_L_areNotes 264 rfl) rfl ?_
                              refine x_invokestatic (rc' := rc + 140) (rs' := rs + 1134) (rc2 := 0 + 0) (rs2 := 0 + 0) (As := [_]) (st := _) M_L_standing K_L_351 (dT U_L_areNotes 265 rfl) rfl rfl rfl rfl (Nat.le_of_ble_eq_true rfl) rfl (by decide) (Nat.le_of_ble_eq_true rfl) (by first | rfl | omega) (by first | rfl | omega) ?_
                              refine S_L_standing w44 v44   (fun z46 e46 hz46 => ?_)
                              refine xRet_some ?_
                              have e46 : z46 = MM p S0 := by
                                rw [p_44] at e46
                                rw [e46, S_44]
                              refine x_lload (dT U_L_areNotes 266 rfl) rfl ?_
                              refine x_lif_ne (tgt := 475) (dT U_L_areNotes 267 rfl) (dT U_L_areNotes 268 rfl) (by decide) (xrl_of hz46) (xrl_of hz3) (fun c467 => ?_) (fun c467 => ?_)
                              · exfalso
                                exact c467 (e46.trans e3.symm)
                              · skip
                                refine x_iconst (dT U_L_areNotes 269 rfl) ?_
                                refine x_goto (tgt := 476) (dT U_L_areNotes 270 rfl) (by decide) ?_
                                refine x_zreturn (dT U_L_areNotes 272 rfl) rfl (by omega) ?_
                                exact kk _ _ _ w44 v44 p_44 hlen_44
                        · exfalso
                          exact c400 e39
                  · exfalso
                    exact absurd rfl c233
            · exfalso
              exact c169 e11
      · exfalso
        exact c97 e7

