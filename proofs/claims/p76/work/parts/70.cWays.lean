set_option maxRecDepth 20000 in
set_option maxHeartbeats 1000000 in
theorem S_L_climbed {G : xG} {d rc rs : Nat} {ex : Bool} {h : xH} {Q : xQ} {σ : St} {t : Nat} {vv a b : Int} (w : CW σ h) (v : INV σ) (ht : t < 8) (hv : 0 ≤ vv ∧ vv < 251) (ha : 0 ≤ a ∧ a < 251) (hb : 0 ≤ b ∧ b < 251) (kk : Q (.inl (some (vl (ws t vv a b 0 2)))) ex h) : X G m_L_climbed (d + 9) (rc + 6) (rs + 36) ex 0 (xe m_L_climbed.2.2.1 [.ref 3, vi (t : Int), vi vv, vi a, vi b]) [] h Q := by
  show X G m_L_climbed _ _ _ _ 0 [some (.ref 3), some (vi (t : Int)), some (vi vv), some (vi a), some (vi b), none, none] [] h Q
  refine x_aload_n (dT U_L_climbed 0 rfl) rfl ?_
  refine x_iload_n (dT U_L_climbed 1 rfl) rfl ?_
  refine x_iload_n (dT U_L_climbed 2 rfl) rfl ?_
  refine x_invokestaticT (rc' := rc + 4) (rs' := rs + 24) (rc2 := 0 + 2) (rs2 := 0 + 12) (As := [_, _, _]) (st := _) M_L_seal K_L_337 (dT U_L_climbed 3 rfl) rfl (by decide) rfl rfl (Nat.le_of_ble_eq_true rfl) rfl (by decide) (Nat.le_of_ble_eq_true rfl) (by first | rfl | omega) (by first | rfl | omega) ?_
  refine S_L_seal w v (by first | assumption | (unfold xr; omega)) (by first | assumption | (unfold xr; omega)) (fun  z8 => absurd (show inb _ _ ∧ inb _ _ from by omega) z8) (fun _ z1 e1 hz1 => ?_)
  refine xRet_some ?_
  have e1 : z1 = sl vv (t : Int) := by
    exact e1
  have bbz1 := sl_b (vv) ((t : Int))
  rw [← e1] at bbz1
  refine x_lstore (ls' := [some (.ref _), some (vi _), some (vi _), some (vi _), some (vi _), some (vl _), none]) (dT U_L_climbed 4 rfl) (by decide) rfl ?_
  refine x_iload_n (dT U_L_climbed 5 rfl) rfl ?_
  refine x_iconst (dT U_L_climbed 6 rfl) ?_
  refine x_irem (dT U_L_climbed 7 rfl) (by unfold xr; omega) (by unfold xr; omega) (by omega) ?_
  rw [show ((t : Int)).tmod 2 = ((t % 2 : Nat) : Int) from by rw [Int.tmod_eq_emod_of_nonneg (by omega)]; omega]
  refine x_if_ne (tgt := 25) (dT U_L_climbed 8 rfl) (by decide) (by first | assumption | (unfold xr; omega)) (fun c11 => ?_) (fun c11 => ?_)
  · skip
    refine x_aload_n (dT U_L_climbed 15 rfl) rfl ?_
    refine x_iload_n (dT U_L_climbed 16 rfl) rfl ?_
    refine x_lload (dT U_L_climbed 17 rfl) rfl ?_
    refine x_l2i (dT U_L_climbed 18 rfl) ?_
    refine x_invokestaticT (rc' := rc + 2) (rs' := rs + 12) (rc2 := 0 + 2) (rs2 := 0 + 12) (As := [_, _, _]) (st := _) M_L_seal K_L_337 (dT U_L_climbed 19 rfl) rfl (by decide) rfl rfl (Nat.le_of_ble_eq_true rfl) rfl (by decide) (Nat.le_of_ble_eq_true rfl) (by first | rfl | omega) (by first | rfl | omega) ?_
    refine S_L_seal w v (by first | assumption | (unfold xr; omega)) (by first | assumption | (unfold xr; omega)) (fun  z8 => absurd (show inb _ _ ∧ inb _ _ from by omega) z8) (fun _ z2 e2 hz2 => ?_)
    refine xRet_some ?_
    have e2 : z2 = sl a z1 := by
      exact e2
    have bbz2 := sl_b (a) (z1)
    rw [← e2] at bbz2
    refine x_lstore (ls' := [some (.ref _), some (vi _), some (vi _), some (vi _), some (vi _), some (vl _), none]) (dT U_L_climbed 20 rfl) (by decide) rfl ?_
    refine x_iload_n (dT U_L_climbed 21 rfl) rfl ?_
    refine x_iconst (dT U_L_climbed 22 rfl) ?_
    refine x_idiv (dT U_L_climbed 23 rfl) (by unfold xr; omega) (by omega) ?_
    rw [show ((t : Int)).tdiv 2 = ((t / 2 : Nat) : Int) from by rw [Int.tdiv_eq_ediv_of_nonneg (by omega)]; omega]
    refine x_iconst (dT U_L_climbed 24 rfl) ?_
    refine x_irem (dT U_L_climbed 25 rfl) (by unfold xr; omega) (by unfold xr; omega) (by omega) ?_
    rw [show (((t / 2 : Nat) : Int)).tmod 2 = ((t / 2 % 2 : Nat) : Int) from by rw [Int.tmod_eq_emod_of_nonneg (by omega)]; omega]
    refine x_if_ne (tgt := 55) (dT U_L_climbed 26 rfl) (by decide) (by first | assumption | (unfold xr; omega)) (fun c40 => ?_) (fun c40 => ?_)
    · skip
      refine x_aload_n (dT U_L_climbed 33 rfl) rfl ?_
      refine x_iload (dT U_L_climbed 34 rfl) rfl ?_
      refine x_lload (dT U_L_climbed 35 rfl) rfl ?_
      refine x_l2i (dT U_L_climbed 36 rfl) ?_
      refine x_invokestaticT (rc' := rc) (rs' := rs) (rc2 := 0 + 2) (rs2 := 0 + 12) (As := [_, _, _]) (st := _) M_L_seal K_L_337 (dT U_L_climbed 37 rfl) rfl (by decide) rfl rfl (Nat.le_of_ble_eq_true rfl) rfl (by decide) (Nat.le_of_ble_eq_true rfl) (by first | rfl | omega) (by first | rfl | omega) ?_
      refine S_L_seal w v (by first | assumption | (unfold xr; omega)) (by first | assumption | (unfold xr; omega)) (fun  z8 => absurd (show inb _ _ ∧ inb _ _ from by omega) z8) (fun _ z3 e3 hz3 => ?_)
      refine xRet_some ?_
      have e3 : z3 = sl b z2 := by
        exact e3
      have bbz3 := sl_b (b) (z2)
      rw [← e3] at bbz3
      refine x_lreturn (dT U_L_climbed 38 rfl) rfl ?_
      rw [show z3 = ws t vv a b 0 2 from by rw [cl2]; split <;> split <;> first | (exfalso; omega) | rw [e3, e2, e1]]
      exact kk
    · skip
      refine x_aload_n (dT U_L_climbed 27 rfl) rfl ?_
      refine x_lload (dT U_L_climbed 28 rfl) rfl ?_
      refine x_l2i (dT U_L_climbed 29 rfl) ?_
      refine x_iload (dT U_L_climbed 30 rfl) rfl ?_
      refine x_invokestaticT (rc' := rc) (rs' := rs) (rc2 := 0 + 2) (rs2 := 0 + 12) (As := [_, _, _]) (st := _) M_L_seal K_L_337 (dT U_L_climbed 31 rfl) rfl (by decide) rfl rfl (Nat.le_of_ble_eq_true rfl) rfl (by decide) (Nat.le_of_ble_eq_true rfl) (by first | rfl | omega) (by first | rfl | omega) ?_
      refine S_L_seal w v (by first | assumption | (unfold xr; omega)) (by first | assumption | (unfold xr; omega)) (fun  z8 => absurd (show inb _ _ ∧ inb _ _ from by omega) z8) (fun _ z4 e4 hz4 => ?_)
      refine xRet_some ?_
      have e4 : z4 = sl z2 b := by
        exact e4
      have bbz4 := sl_b (z2) (b)
      rw [← e4] at bbz4
      refine x_goto (tgt := 64) (dT U_L_climbed 32 rfl) (by decide) ?_
      refine x_lreturn (dT U_L_climbed 38 rfl) rfl ?_
      rw [show z4 = ws t vv a b 0 2 from by rw [cl2]; split <;> split <;> first | (exfalso; omega) | rw [e4, e2, e1]]
      exact kk
  · skip
    refine x_aload_n (dT U_L_climbed 9 rfl) rfl ?_
    refine x_lload (dT U_L_climbed 10 rfl) rfl ?_
    refine x_l2i (dT U_L_climbed 11 rfl) ?_
    refine x_iload_n (dT U_L_climbed 12 rfl) rfl ?_
    refine x_invokestaticT (rc' := rc + 2) (rs' := rs + 12) (rc2 := 0 + 2) (rs2 := 0 + 12) (As := [_, _, _]) (st := _) M_L_seal K_L_337 (dT U_L_climbed 13 rfl) rfl (by decide) rfl rfl (Nat.le_of_ble_eq_true rfl) rfl (by decide) (Nat.le_of_ble_eq_true rfl) (by first | rfl | omega) (by first | rfl | omega) ?_
    refine S_L_seal w v (by first | assumption | (unfold xr; omega)) (by first | assumption | (unfold xr; omega)) (fun  z8 => absurd (show inb _ _ ∧ inb _ _ from by omega) z8) (fun _ z5 e5 hz5 => ?_)
    refine xRet_some ?_
    have e5 : z5 = sl z1 a := by
      exact e5
    have bbz5 := sl_b (z1) (a)
    rw [← e5] at bbz5
    refine x_goto (tgt := 33) (dT U_L_climbed 14 rfl) (by decide) ?_
    refine x_lstore (ls' := [some (.ref _), some (vi _), some (vi _), some (vi _), some (vi _), some (vl _), none]) (dT U_L_climbed 20 rfl) (by decide) rfl ?_
    refine x_iload_n (dT U_L_climbed 21 rfl) rfl ?_
    refine x_iconst (dT U_L_climbed 22 rfl) ?_
    refine x_idiv (dT U_L_climbed 23 rfl) (by unfold xr; omega) (by omega) ?_
    rw [show ((t : Int)).tdiv 2 = ((t / 2 : Nat) : Int) from by rw [Int.tdiv_eq_ediv_of_nonneg (by omega)]; omega]
    refine x_iconst (dT U_L_climbed 24 rfl) ?_
    refine x_irem (dT U_L_climbed 25 rfl) (by unfold xr; omega) (by unfold xr; omega) (by omega) ?_
    rw [show (((t / 2 : Nat) : Int)).tmod 2 = ((t / 2 % 2 : Nat) : Int) from by rw [Int.tmod_eq_emod_of_nonneg (by omega)]; omega]
    refine x_if_ne (tgt := 55) (dT U_L_climbed 26 rfl) (by decide) (by first | assumption | (unfold xr; omega)) (fun c40 => ?_) (fun c40 => ?_)
    · skip
      refine x_aload_n (dT U_L_climbed 33 rfl) rfl ?_
      refine x_iload (dT U_L_climbed 34 rfl) rfl ?_
      refine x_lload (dT U_L_climbed 35 rfl) rfl ?_
      refine x_l2i (dT U_L_climbed 36 rfl) ?_
      refine x_invokestaticT (rc' := rc) (rs' := rs) (rc2 := 0 + 2) (rs2 := 0 + 12) (As := [_, _, _]) (st := _) M_L_seal K_L_337 (dT U_L_climbed 37 rfl) rfl (by decide) rfl rfl (Nat.le_of_ble_eq_true rfl) rfl (by decide) (Nat.le_of_ble_eq_true rfl) (by first | rfl | omega) (by first | rfl | omega) ?_
      refine S_L_seal w v (by first | assumption | (unfold xr; omega)) (by first | assumption | (unfold xr; omega)) (fun  z8 => absurd (show inb _ _ ∧ inb _ _ from by omega) z8) (fun _ z6 e6 hz6 => ?_)
      refine xRet_some ?_
      have e6 : z6 = sl b z5 := by
        exact e6
      have bbz6 := sl_b (b) (z5)
      rw [← e6] at bbz6
      refine x_lreturn (dT U_L_climbed 38 rfl) rfl ?_
      rw [show z6 = ws t vv a b 0 2 from by rw [cl2]; split <;> split <;> first | (exfalso; omega) | rw [e6, e5, e1]]
      exact kk
    · skip
      refine x_aload_n (dT U_L_climbed 27 rfl) rfl ?_
      refine x_lload (dT U_L_climbed 28 rfl) rfl ?_
      refine x_l2i (dT U_L_climbed 29 rfl) ?_
      refine x_iload (dT U_L_climbed 30 rfl) rfl ?_
      refine x_invokestaticT (rc' := rc) (rs' := rs) (rc2 := 0 + 2) (rs2 := 0 + 12) (As := [_, _, _]) (st := _) M_L_seal K_L_337 (dT U_L_climbed 31 rfl) rfl (by decide) rfl rfl (Nat.le_of_ble_eq_true rfl) rfl (by decide) (Nat.le_of_ble_eq_true rfl) (by first | rfl | omega) (by first | rfl | omega) ?_
      refine S_L_seal w v (by first | assumption | (unfold xr; omega)) (by first | assumption | (unfold xr; omega)) (fun  z8 => absurd (show inb _ _ ∧ inb _ _ from by omega) z8) (fun _ z7 e7 hz7 => ?_)
      refine xRet_some ?_
      have e7 : z7 = sl z5 b := by
        exact e7
      have bbz7 := sl_b (z5) (b)
      rw [← e7] at bbz7
      refine x_goto (tgt := 64) (dT U_L_climbed 32 rfl) (by decide) ?_
      refine x_lreturn (dT U_L_climbed 38 rfl) rfl ?_
      rw [show z7 = ws t vv a b 0 2 from by rw [cl2]; split <;> split <;> first | (exfalso; omega) | rw [e7, e5, e1]]
      exact kk

set_option maxRecDepth 20000 in
set_option maxHeartbeats 60000000 in
theorem S_L_areWays {G : xG} {d rc rs : Nat} {ex : Bool} {h : xH} {Q : xQ} {σ : St} {p n0 : Nat} (hL : gL G < 100000) (w : CW σ h) (v : INV σ) (hpp : σ.p = p) (hn0 : σ.L.n = n0) (hlen : 70 ≤ h.length) (kk : ∀ (σ2 : St) (h2 : xH) (ex2 : Bool), CW σ2 h2 → INV σ2 → σ2.p = p → σ2.L.n = n0 → 70 ≤ h2.length → Q (.inl (some (vi 1))) ex2 h2) : X G m_L_areWays (d + 10) (rc + 580) (rs + 3600) ex 0 (xe m_L_areWays.2.2.1 [.ref 3, .ref 0, vi (p : Int)]) [] h Q := by
  show X G m_L_areWays _ _ _ _ 0 [some (.ref 3), some (.ref 0), some (vi (p : Int)), none, none, none, none, none, none, none, none, none, none, none] [] h Q
  have hpr : p ∈ PR := hpp ▸ v.p
  have hp := PRb hpr
  have hq := gq_b hpr
  refine x_aload_n (dT U_L_areWays 0 rfl) rfl ?_
  refine x_sipush (dT U_L_areWays 1 rfl) (by decide) ?_
  refine x_iload_n (dT U_L_areWays 2 rfl) rfl ?_
  refine x_bipush (dT U_L_areWays 3 rfl) (by decide) ?_
  refine x_invokestatic (rc' := rc + 579) (rs' := rs + 3592) (rc2 := 0 + 1) (rs2 := 0 + 8) (As := [_, _, _, _]) (st := _) M_L_made K_L_234 (dT U_L_areWays 4 rfl) rfl rfl rfl rfl (Nat.le_of_ble_eq_true rfl) rfl (by decide) (Nat.le_of_ble_eq_true rfl) (by first | rfl | omega) (by first | rfl | omega) ?_
  refine S_L_made (f := 200) (m := 8) hL (by have := hlen; omega) (by omega) (by omega) (by omega) (fun h1 a_row row u1 ga1 ge1 h_row1 Fl_row Z_row => ?_)
  refine xRet_some ?_
  have g_row : 70 ≤ a_row := by have := hlen; omega
  have w1 := (w).up u1
  have hlen_1 : 70 ≤ h1.length := by have := u1.len; have := hlen; omega
  refine x_astore_n (ls' := [some (.ref _), some (.ref _), some (vi _), some (.ref _), none, none, none, none, none, none, none, none, none, none]) (dT U_L_areWays 5 rfl) (by decide) rfl ?_
  refine x_aload_n (dT U_L_areWays 6 rfl) rfl ?_
  refine x_iconst (dT U_L_areWays 7 rfl) ?_
  refine x_aload_n (dT U_L_areWays 8 rfl) rfl ?_
  refine x_invokestatic (rc' := rc + 578) (rs' := rs + 3586) (rc2 := 0 + 1) (rs2 := 0 + 6) (As := [_, _, _]) (st := _) M_L_lays K_L_238 (dT U_L_areWays 9 rfl) rfl rfl rfl rfl (Nat.le_of_ble_eq_true rfl) rfl (by decide) (Nat.le_of_ble_eq_true rfl) (by first | rfl | omega) (by first | rfl | omega) ?_
  refine S_L_lays w1 v (by omega) h_row1 (by omega) (by rw [hpp]; exact Fl_row) (fun z2 hz2 h2 fc2 w_2 v_2 => ?_)
  refine xRet_some ?_
  obtain ⟨σ3, w3, v3, r0_3, p_3, L_3⟩ : ∃ σ3 : St, CW σ3 h2 ∧ INV σ3 ∧ σ3.rw 0 = row ∧ σ3.p = p ∧ σ3.L.n = n0 := ⟨_, w_2, v_2, rfl, hpp, hn0⟩
  have h_row_3 : h2[a_row]? = some (cA 0 row) := (fc2).get h_row1 (by omega)
  have hlen_3 : 70 ≤ h2.length := by rw [fc2.1]; exact hlen_1
  refine x_pop2 (dT U_L_areWays 10 rfl) ?_
  refine x_aload_n (dT U_L_areWays 11 rfl) rfl ?_
  refine x_iconst (dT U_L_areWays 12 rfl) ?_
  refine x_invokestaticT (rc' := rc + 577) (rs' := rs + 3580) (rc2 := 0 + 1) (rs2 := 0 + 6) (As := [_, _]) (st := _) M_L_root K_L_333 (dT U_L_areWays 13 rfl) rfl (by decide) rfl rfl (Nat.le_of_ble_eq_true rfl) rfl (by decide) (Nat.le_of_ble_eq_true rfl) (by first | rfl | omega) (by first | rfl | omega) ?_
  refine S_L_root w3 v3 (by first | assumption | (unfold xr; omega)) (fun  z8 => absurd (show inb _ _ from by omega) z8) (fun _ z4 e4 hz4 h4 fc4 w_4 v_4 => ?_)
  refine xRet_some ?_
  have e4 : z4 = gs (gf row) 1 := by
    simp only [tn0, tn1, tn2, tn3, tn4, tn5, tn6, tn7, tn8, Int.toNat_natCast, r0_3] at e4; exact e4
  have h_row_4 : h4[a_row]? = some (cA 0 row) := (fc4).get h_row_3 (by omega)
  have hlen_4 : 70 ≤ h4.length := by rw [fc4.1]; exact hlen_3
  refine x_lstore (ls' := [some (.ref _), some (.ref _), some (vi _), some (.ref _), some (vl _), none, none, none, none, none, none, none, none, none]) (dT U_L_areWays 14 rfl) (by decide) rfl ?_
  refine x_iconst (dT U_L_areWays 15 rfl) ?_
  refine x_istore (ls' := [some (.ref _), some (.ref _), some (vi _), some (.ref _), some (vl _), none, some (vi _), none, none, none, none, none, none, none]) (dT U_L_areWays 16 rfl) (by decide) rfl ?_
  have L5 : ∀ (n9 i : Nat), i + n9 = 8 → ∀ (h5 : xH) (ex5 : Bool) (σ5 : St), CW σ5 h5 → INV σ5 → 70 ≤ h5.length → σ5.rw 0 = row → σ5.p = p → σ5.L.n = n0 → h5[a_row]? = some (cA 0 row) → X G m_L_areWays (d + 10) (rc + 5 + 70 * n9) (rs + 40 + 420 * n9) ex5 28 [some (.ref 3), some (.ref 0), some (vi (p : Int)), some (.ref a_row), some (vl z4), none, some (vi (i : Int)), none, none, none, none, none, none, none] [] h5 Q := by
    intro n9
    induction n9 with
    | zero =>
      intro i hi9 h5 ex5 σ5 w5 v5 hlen_5 r0_5 p_5 L_5 h_row_5
      refine x_iload (dT U_L_areWays 17 rfl) rfl ?_
      refine x_bipush (dT U_L_areWays 18 rfl) (by decide) ?_
      refine x_icmp_ge (tgt := 283) (dT U_L_areWays 19 rfl) (by decide) (by first | assumption | (unfold xr; omega)) (by unfold xr; omega) (fun c32 => ?_) (fun c32 => ?_)
      · skip
        refine x_iconst (dT U_L_areWays 161 rfl) ?_
        refine x_zreturn (dT U_L_areWays 162 rfl) rfl (by omega) ?_
        exact kk _ _ _ w5 v5 p_5 L_5 hlen_5
      · exfalso
        omega
    | succ n9 ih =>
      intro i hi9 h5 ex5 σ5 w5 v5 hlen_5 r0_5 p_5 L_5 h_row_5
      refine x_iload (dT U_L_areWays 17 rfl) rfl ?_
      refine x_bipush (dT U_L_areWays 18 rfl) (by decide) ?_
      refine x_icmp_ge (tgt := 283) (dT U_L_areWays 19 rfl) (by decide) (by first | assumption | (unfold xr; omega)) (by unfold xr; omega) (fun c32 => ?_) (fun c32 => ?_)
      · exfalso
        omega
      · skip
        refine x_aload_n (dT U_L_areWays 20 rfl) rfl ?_
        refine x_iconst (dT U_L_areWays 21 rfl) ?_
        refine x_iload (dT U_L_areWays 22 rfl) rfl ?_
        refine x_iconst (dT U_L_areWays 23 rfl) ?_
        refine x_invokestaticT (rc' := rc + 5 + 70 * n9 + 67) (rs' := rs + 40 + 420 * n9 + 402) (rc2 := 0 + 3) (rs2 := 0 + 18) (As := [_, _, _, _]) (st := _) M_L_beside K_L_335 (dT U_L_areWays 24 rfl) rfl (by decide) rfl rfl (Nat.le_of_ble_eq_true rfl) rfl (by decide) (Nat.le_of_ble_eq_true rfl) (by first | rfl | omega) (by first | rfl | omega) ?_
        refine S_L_beside w5 v5 (by first | assumption | (unfold xr; omega)) (by first | assumption | (unfold xr; omega)) (by first | assumption | (unfold xr; omega)) (fun  z8 => absurd (show inb _ _ ∧ inb _ _ ∧ inb _ _ from by omega) z8) (fun _ z6 e6 hz6 h6 fc6 w_6 v_6 => ?_)
        refine xRet_some ?_
        have e6 : z6 = gs (gf row) (bsd i 0) := by
          simp only [tn0, tn1, tn2, tn3, tn4, tn5, tn6, tn7, tn8, Int.toNat_natCast, r0_5] at e6; exact e6
        have h_row_6 : h6[a_row]? = some (cA 0 row) := (fc6).get h_row_5 (by omega)
        have hlen_6 : 70 ≤ h6.length := by rw [fc6.1]; exact hlen_5
        have b_a := gs_b (gf row) (bsd i 0)
        rw [← e6] at b_a
        refine x_l2i (dT U_L_areWays 25 rfl) ?_
        refine x_istore (ls' := [some (.ref _), some (.ref _), some (vi _), some (.ref _), some (vl _), none, some (vi _), some (vi _), none, none, none, none, none, none]) (dT U_L_areWays 26 rfl) (by decide) rfl ?_
        refine x_aload_n (dT U_L_areWays 27 rfl) rfl ?_
        refine x_iconst (dT U_L_areWays 28 rfl) ?_
        refine x_iload (dT U_L_areWays 29 rfl) rfl ?_
        refine x_iconst (dT U_L_areWays 30 rfl) ?_
        refine x_invokestaticT (rc' := rc + 5 + 70 * n9 + 64) (rs' := rs + 40 + 420 * n9 + 384) (rc2 := 0 + 3) (rs2 := 0 + 18) (As := [_, _, _, _]) (st := _) M_L_beside K_L_335 (dT U_L_areWays 31 rfl) rfl (by decide) rfl rfl (Nat.le_of_ble_eq_true rfl) rfl (by decide) (Nat.le_of_ble_eq_true rfl) (by first | rfl | omega) (by first | rfl | omega) ?_
        refine S_L_beside w_6 v_6 (by first | assumption | (unfold xr; omega)) (by first | assumption | (unfold xr; omega)) (by first | assumption | (unfold xr; omega)) (fun  z8 => absurd (show inb _ _ ∧ inb _ _ ∧ inb _ _ from by omega) z8) (fun _ z7 e7 hz7 h7 fc7 w_7 v_7 => ?_)
        refine xRet_some ?_
        have e7 : z7 = gs (gf row) (bsd i 1) := by
          simp only [tn0, tn1, tn2, tn3, tn4, tn5, tn6, tn7, tn8, Int.toNat_natCast, r0_5] at e7; exact e7
        have h_row_7 : h7[a_row]? = some (cA 0 row) := (fc7).get h_row_6 (by omega)
        have hlen_7 : 70 ≤ h7.length := by rw [fc7.1]; exact hlen_6
        have b_b := gs_b (gf row) (bsd i 1)
        rw [← e7] at b_b
        refine x_l2i (dT U_L_areWays 32 rfl) ?_
        refine x_istore (ls' := [some (.ref _), some (.ref _), some (vi _), some (.ref _), some (vl _), none, some (vi _), some (vi _), some (vi _), none, none, none, none, none]) (dT U_L_areWays 33 rfl) (by decide) rfl ?_
        refine x_aload_n (dT U_L_areWays 34 rfl) rfl ?_
        refine x_iconst (dT U_L_areWays 35 rfl) ?_
        refine x_iload (dT U_L_areWays 36 rfl) rfl ?_
        refine x_iconst (dT U_L_areWays 37 rfl) ?_
        refine x_invokestaticT (rc' := rc + 5 + 70 * n9 + 61) (rs' := rs + 40 + 420 * n9 + 366) (rc2 := 0 + 3) (rs2 := 0 + 18) (As := [_, _, _, _]) (st := _) M_L_beside K_L_335 (dT U_L_areWays 38 rfl) rfl (by decide) rfl rfl (Nat.le_of_ble_eq_true rfl) rfl (by decide) (Nat.le_of_ble_eq_true rfl) (by first | rfl | omega) (by first | rfl | omega) ?_
        refine S_L_beside w_7 v_7 (by first | assumption | (unfold xr; omega)) (by first | assumption | (unfold xr; omega)) (by first | assumption | (unfold xr; omega)) (fun  z8 => absurd (show inb _ _ ∧ inb _ _ ∧ inb _ _ from by omega) z8) (fun _ z8 e8 hz8 h8 fc8 w_8 v_8 => ?_)
        refine xRet_some ?_
        have e8 : z8 = gs (gf row) (bsd i 2) := by
          simp only [tn0, tn1, tn2, tn3, tn4, tn5, tn6, tn7, tn8, Int.toNat_natCast, r0_5] at e8; exact e8
        have h_row_8 : h8[a_row]? = some (cA 0 row) := (fc8).get h_row_7 (by omega)
        have hlen_8 : 70 ≤ h8.length := by rw [fc8.1]; exact hlen_7
        have b_c := gs_b (gf row) (bsd i 2)
        rw [← e8] at b_c
        refine x_l2i (dT U_L_areWays 39 rfl) ?_
        refine x_istore (ls' := [some (.ref _), some (.ref _), some (vi _), some (.ref _), some (vl _), none, some (vi _), some (vi _), some (vi _), some (vi _), none, none, none, none]) (dT U_L_areWays 40 rfl) (by decide) rfl ?_
        have hnx := nx_b (i := i) (by omega)
        have m_x := Fl_row.2 (nx i)
        have m_i := Fl_row.2 i
        refine x_iload (dT U_L_areWays 41 rfl) rfl ?_
        refine x_i2l (dT U_L_areWays 42 rfl) hz6 ?_
        refine x_aload_n (dT U_L_areWays 43 rfl) rfl ?_
        refine x_aload_n (dT U_L_areWays 44 rfl) rfl ?_
        refine x_iload (dT U_L_areWays 45 rfl) rfl ?_
        refine x_iconst (dT U_L_areWays 46 rfl) ?_
        refine x_ixor (r := ((nx i : Nat) : Int)) (dT U_L_areWays 47 rfl) (xor_ok (by omega)) ?_
        refine x_iaload (nx i) (dT U_L_areWays 48 rfl) h_row_8 (by omega) rfl (by have := (Fl_row).1; omega) (by have := (Fl_row).1; omega) ?_
        refine x_iload (dT U_L_areWays 49 rfl) rfl ?_
        refine x_iconst (dT U_L_areWays 50 rfl) ?_
        refine x_ixor (r := ((nx i : Nat) : Int)) (dT U_L_areWays 51 rfl) (xor_ok (by omega)) ?_
        refine x_invokestaticT (rc' := rc + 5 + 70 * n9 + 59) (rs' := rs + 40 + 420 * n9 + 354) (rc2 := 0 + 2) (rs2 := 0 + 12) (As := [_, _, _]) (st := _) M_L_seal K_L_337 (dT U_L_areWays 52 rfl) rfl (by decide) rfl rfl (Nat.le_of_ble_eq_true rfl) rfl (by decide) (Nat.le_of_ble_eq_true rfl) (by first | rfl | omega) (by first | rfl | omega) ?_
        refine S_L_seal w_8 v_8 (by first | assumption | (unfold xr; omega)) (by first | assumption | (unfold xr; omega)) (fun  z8 => absurd (show inb _ _ ∧ inb _ _ from by omega) z8) (fun _ z9 e9 hz9 => ?_)
        refine xRet_some ?_
        have e9 : z9 = gs (gf row) (bsd i 0) := by
          rw [e9]
          exact way_a (r := gf row) (by omega)
        refine x_lif_ne (tgt := 111) (dT U_L_areWays 53 rfl) (dT U_L_areWays 54 rfl) (by decide) (xrl_of hz6) (xrl_of hz9) (fun c85 => ?_) (fun c85 => ?_)
        · exfalso
          exact c85 (e6.trans e9.symm)
        · skip
          refine x_aload_n (dT U_L_areWays 55 rfl) rfl ?_
          refine x_iload (dT U_L_areWays 56 rfl) rfl ?_
          refine x_aload_n (dT U_L_areWays 57 rfl) rfl ?_
          refine x_iload (dT U_L_areWays 58 rfl) rfl ?_
          refine x_iaload (i) (dT U_L_areWays 59 rfl) h_row_8 (by omega) rfl (by have := (Fl_row).1; omega) (by have := (Fl_row).1; omega) ?_
          refine x_iload (dT U_L_areWays 60 rfl) rfl ?_
          refine x_iload (dT U_L_areWays 61 rfl) rfl ?_
          refine x_iload (dT U_L_areWays 62 rfl) rfl ?_
          refine x_invokestaticT (rc' := rc + 5 + 70 * n9 + 54) (rs' := rs + 40 + 420 * n9 + 324) (rc2 := 0 + 5) (rs2 := 0 + 30) (As := [_, _, _, _, _, _]) (st := _) M_L_climb K_L_339 (dT U_L_areWays 63 rfl) rfl (by decide) rfl rfl (Nat.le_of_ble_eq_true rfl) rfl (by decide) (Nat.le_of_ble_eq_true rfl) (by first | rfl | omega) (by first | rfl | omega) ?_
          refine S_L_climb w_8 v_8 (by first | assumption | (unfold xr; omega)) (by first | assumption | (unfold xr; omega)) (by first | assumption | (unfold xr; omega)) (by first | assumption | (unfold xr; omega)) (by first | assumption | (unfold xr; omega)) (fun  z8 => absurd (show inb _ _ from by omega) z8) (fun _ z8 => absurd (show inb _ _ ∧ inb _ _ ∧ inb _ _ ∧ inb _ _ from by have := p_5; omega) z8) (fun _ _ z10 e10 hz10 h10 fc10 w_10 v_10 => ?_)
          refine xRet_some ?_
          have e10 : z10 = gs (gf row) 1 := by
            simp only [tn0, tn1, tn2, tn3, tn4, tn5, tn6, tn7, tn8, Int.toNat_natCast] at e10
            rw [e10, e6, e7, e8]
            exact way_top0 (r := gf row) (by omega)
          have h_row_10 : h10[a_row]? = some (cA 0 row) := (fc10).get h_row_8 (by omega)
          have hlen_10 : 70 ≤ h10.length := by rw [fc10.1]; exact hlen_8
          refine x_lload (dT U_L_areWays 64 rfl) rfl ?_
          refine x_lif_eq (tgt := 113) (dT U_L_areWays 65 rfl) (dT U_L_areWays 66 rfl) (by decide) (xrl_of hz10) (xrl_of hz4) (fun c107 => ?_) (fun c107 => ?_)
          · skip
            refine x_aload_n (dT U_L_areWays 69 rfl) rfl ?_
            refine x_iload (dT U_L_areWays 70 rfl) rfl ?_
            refine x_aload_n (dT U_L_areWays 71 rfl) rfl ?_
            refine x_iload (dT U_L_areWays 72 rfl) rfl ?_
            refine x_iaload (i) (dT U_L_areWays 73 rfl) h_row_10 (by omega) rfl (by have := (Fl_row).1; omega) (by have := (Fl_row).1; omega) ?_
            refine x_iload (dT U_L_areWays 74 rfl) rfl ?_
            refine x_iload (dT U_L_areWays 75 rfl) rfl ?_
            refine x_iload (dT U_L_areWays 76 rfl) rfl ?_
            refine x_aload_n (dT U_L_areWays 77 rfl) rfl ?_
            refine x_iload (dT U_L_areWays 78 rfl) rfl ?_
            refine x_iaload (i) (dT U_L_areWays 79 rfl) h_row_10 (by omega) rfl (by have := (Fl_row).1; omega) (by have := (Fl_row).1; omega) ?_
            refine x_iload (dT U_L_areWays 80 rfl) rfl ?_
            refine x_iload (dT U_L_areWays 81 rfl) rfl ?_
            refine x_iload (dT U_L_areWays 82 rfl) rfl ?_
            refine x_invokestaticT (rc' := rc + 5 + 70 * n9 + 45) (rs' := rs + 40 + 420 * n9 + 270) (rc2 := 0 + 9) (rs2 := 0 + 54) (As := [_, _, _, _, _, _, _, _, _, _]) (st := _) M_L_parts K_L_342 (dT U_L_areWays 83 rfl) rfl (by decide) rfl rfl (Nat.le_of_ble_eq_true rfl) rfl (by decide) (Nat.le_of_ble_eq_true rfl) (by first | rfl | omega) (by first | rfl | omega) ?_
            refine S_L_parts w_10 v_10 (by first | assumption | (unfold xr; omega)) (by first | assumption | (unfold xr; omega)) (by first | assumption | (unfold xr; omega)) (by first | assumption | (unfold xr; omega)) (by first | assumption | (unfold xr; omega)) (by first | assumption | (unfold xr; omega)) (by first | assumption | (unfold xr; omega)) (by first | assumption | (unfold xr; omega)) (by first | assumption | (unfold xr; omega)) (fun  z8 => absurd (show inb _ _ from by omega) z8) (fun _ z8 => absurd (show (inb _ _ ∧ inb _ _ ∧ inb _ _ ∧ inb _ _) ∧ (inb _ _ ∧ inb _ _ ∧ inb _ _ ∧ inb _ _) from by have := p_5; omega) z8) (fun _ _ z11 e11 hz11 h11 fc11 w_11 v_11 => ?_)
            refine xRet_some ?_
            have e11 : z11 = -1 := by
              rw [e11, if_pos rfl]
              exact ff_no 4 0 (fun j _ _ z => z.2 ⟨rfl, rfl⟩)
            have h_row_11 : h11[a_row]? = some (cA 0 row) := (fc11).get h_row_10 (by omega)
            have hlen_11 : 70 ≤ h11.length := by rw [fc11.1]; exact hlen_10
            refine x_ldc2 C_L_344 (dT U_L_areWays 84 rfl) ?_
            refine x_lif_eq (tgt := 148) (dT U_L_areWays 85 rfl) (dT U_L_areWays 86 rfl) (by decide) (xrl_of hz11) (show xrl _ by unfold xrl; omega) (fun c142 => ?_) (fun c142 => ?_)
            · skip
              refine x_iload (dT U_L_areWays 89 rfl) rfl ?_
              refine x_iconst (dT U_L_areWays 90 rfl) ?_
              refine x_icmp_ge (tgt := 172) (dT U_L_areWays 91 rfl) (by decide) (by first | assumption | (unfold xr; omega)) (by unfold xr; omega) (fun c151 => ?_) (fun c151 => ?_)
              · skip
                refine x_iload (dT U_L_areWays 102 rfl) rfl ?_
                refine x_istore (ls' := [some (.ref _), some (.ref _), some (vi _), some (.ref _), some (vl _), none, some (vi _), some (vi _), some (vi _), some (vi _), some (vi _), none, none, none]) (dT U_L_areWays 103 rfl) (by decide) rfl ?_
                refine x_iload (dT U_L_areWays 104 rfl) rfl ?_
                refine x_iconst (dT U_L_areWays 105 rfl) ?_
                refine x_icmp_ge (tgt := 187) (dT U_L_areWays 106 rfl) (by decide) (by first | assumption | (unfold xr; omega)) (by unfold xr; omega) (fun c179 => ?_) (fun c179 => ?_)
                · skip
                  refine x_aload_n (dT U_L_areWays 109 rfl) rfl ?_
                  refine x_iload (dT U_L_areWays 110 rfl) rfl ?_
                  refine x_aload_n (dT U_L_areWays 111 rfl) rfl ?_
                  refine x_iload (dT U_L_areWays 112 rfl) rfl ?_
                  refine x_iaload (i) (dT U_L_areWays 113 rfl) h_row_11 (by omega) rfl (by have := (Fl_row).1; omega) (by have := (Fl_row).1; omega) ?_
                  refine x_iload (dT U_L_areWays 114 rfl) rfl ?_
                  refine x_iload (dT U_L_areWays 115 rfl) rfl ?_
                  refine x_invokestatic (rc' := rc + 5 + 70 * n9 + 39) (rs' := rs + 40 + 420 * n9 + 234) (rc2 := 0 + 6) (rs2 := 0 + 36) (As := [_, _, _, _, _]) (st := _) M_L_climbed K_L_346 (dT U_L_areWays 116 rfl) rfl rfl rfl rfl (Nat.le_of_ble_eq_true rfl) rfl (by decide) (Nat.le_of_ble_eq_true rfl) (by first | rfl | omega) (by first | rfl | omega) ?_
                  refine S_L_climbed w_11 v_11 (t := i) (by omega) (by have := Fl_row.2 i; omega) (by omega) (by omega) ?_
                  refine xRet_some ?_
                  obtain ⟨cl, e_cl⟩ : ∃ x : Int, ws i (row.getD i 0) z6 z7 0 2 = x := ⟨_, rfl⟩
                  rw [e_cl]
                  have b_cl : 0 ≤ cl ∧ cl < 251 := by rw [← e_cl]; exact sl_b _ _
                  refine x_l2i (dT U_L_areWays 117 rfl) ?_
                  refine x_istore (ls' := [some (.ref _), some (.ref _), some (vi _), some (.ref _), some (vl _), none, some (vi _), some (vi _), some (vi _), some (vi _), some (vi _), some (vi _), none, none]) (dT U_L_areWays 118 rfl) (by decide) rfl ?_
                  refine x_aload_n (dT U_L_areWays 119 rfl) rfl ?_
                  refine x_iload (dT U_L_areWays 120 rfl) rfl ?_
                  refine x_iload (dT U_L_areWays 121 rfl) rfl ?_
                  refine x_invokestaticT (rc' := rc + 5 + 70 * n9 + 37) (rs' := rs + 40 + 420 * n9 + 222) (rc2 := 0 + 2) (rs2 := 0 + 12) (As := [_, _, _]) (st := _) M_L_twin K_L_349 (dT U_L_areWays 122 rfl) rfl (by decide) rfl rfl (Nat.le_of_ble_eq_true rfl) rfl (by decide) (Nat.le_of_ble_eq_true rfl) (by first | rfl | omega) (by first | rfl | omega) ?_
                  refine S_L_twin w_11 v_11 (by first | assumption | (unfold xr; omega)) (by first | assumption | (unfold xr; omega)) (fun  z8 => absurd (show inb _ _ ∧ inb _ _ from by omega) z8) (fun _ z12 e12 hz12 => ?_)
                  refine xRet_some ?_
                  obtain ⟨m_t, hm_t, e_t, ne_t, sl_t⟩ := tw_spec z8 cl
                  have ez : z12 = (m_t : Int) := e12.trans e_t
                  refine x_lstore (ls' := [some (.ref _), some (.ref _), some (vi _), some (.ref _), some (vl _), none, some (vi _), some (vi _), some (vi _), some (vi _), some (vi _), some (vi _), some (vl _), none]) (dT U_L_areWays 123 rfl) (by decide) rfl ?_
                  refine x_aload_n (dT U_L_areWays 124 rfl) rfl ?_
                  refine x_iload (dT U_L_areWays 125 rfl) rfl ?_
                  refine x_iload (dT U_L_areWays 126 rfl) rfl ?_
                  have hs_ : sl z8 cl = gs (gf row) 1 := by
                    rw [← e_cl, way_hi (by omega) (by omega), e6, e7, e8]
                    exact way_top0 (r := gf row) (by omega)
                  refine x_invokestaticT (rc' := rc + 5 + 70 * n9 + 35) (rs' := rs + 40 + 420 * n9 + 210) (rc2 := 0 + 2) (rs2 := 0 + 12) (As := [_, _, _]) (st := _) M_L_seal K_L_337 (dT U_L_areWays 127 rfl) rfl (by decide) rfl rfl (Nat.le_of_ble_eq_true rfl) rfl (by decide) (Nat.le_of_ble_eq_true rfl) (by first | rfl | omega) (by first | rfl | omega) ?_
                  refine S_L_seal w_11 v_11 (by first | assumption | (unfold xr; omega)) (by first | assumption | (unfold xr; omega)) (fun  z8 => absurd (show inb _ _ ∧ inb _ _ from by omega) z8) (fun _ z13 e13 hz13 => ?_)
                  refine xRet_some ?_
                  have e13 : z13 = gs (gf row) 1 := by
                    rw [e13]
                    exact hs_
                  refine x_lload (dT U_L_areWays 128 rfl) rfl ?_
                  refine x_lif_ne (tgt := 275) (dT U_L_areWays 129 rfl) (dT U_L_areWays 130 rfl) (by decide) (xrl_of hz13) (xrl_of hz4) (fun c224 => ?_) (fun c224 => ?_)
                  · exfalso
                    exact c224 (e13.trans e4.symm)
                  · skip
                    refine x_lload (dT U_L_areWays 131 rfl) rfl ?_
                    refine x_lconst (z := 0) (dT U_L_areWays 132 rfl) rfl ?_
                    refine x_lif_lt (tgt := 275) (dT U_L_areWays 133 rfl) (dT U_L_areWays 134 rfl) (by decide) (xrl_of hz12) (xrl_of (by unfold xr; omega)) (fun c231 => ?_) (fun c231 => ?_)
                    · exfalso
                      omega
                    · skip
                      refine x_aload_n (dT U_L_areWays 135 rfl) rfl ?_
                      refine x_lload (dT U_L_areWays 136 rfl) rfl ?_
                      refine x_l2i (dT U_L_areWays 137 rfl) ?_
                      refine x_sipush (dT U_L_areWays 138 rfl) (by decide) ?_
                      refine x_idiv (dT U_L_areWays 139 rfl) (by unfold xr; omega) (by omega) ?_
                      rw [show (z12).tdiv 251 = ((m_t / 251 : Nat) : Int) from by rw [ez, Int.tdiv_eq_ediv_of_nonneg (by omega)]; omega]
                      refine x_lload (dT U_L_areWays 140 rfl) rfl ?_
                      refine x_l2i (dT U_L_areWays 141 rfl) ?_
                      refine x_sipush (dT U_L_areWays 142 rfl) (by decide) ?_
                      refine x_irem (dT U_L_areWays 143 rfl) (by unfold xr; omega) (by unfold xr; omega) (by omega) ?_
                      rw [show (z12).tmod 251 = ((m_t % 251 : Nat) : Int) from by rw [ez, Int.tmod_eq_emod_of_nonneg (by omega)]; omega]
                      refine x_invokestaticT (rc' := rc + 5 + 70 * n9 + 33) (rs' := rs + 40 + 420 * n9 + 198) (rc2 := 0 + 2) (rs2 := 0 + 12) (As := [_, _, _]) (st := _) M_L_seal K_L_337 (dT U_L_areWays 144 rfl) rfl (by decide) rfl rfl (Nat.le_of_ble_eq_true rfl) rfl (by decide) (Nat.le_of_ble_eq_true rfl) (by first | rfl | omega) (by first | rfl | omega) ?_
                      refine S_L_seal w_11 v_11 (by first | assumption | (unfold xr; omega)) (by first | assumption | (unfold xr; omega)) (fun  z8 => absurd (show inb _ _ ∧ inb _ _ from by omega) z8) (fun _ z14 e14 hz14 => ?_)
                      refine xRet_some ?_
                      have e14 : z14 = gs (gf row) 1 := by
                        rw [e14, sl_t]
                        exact hs_
                      refine x_lload (dT U_L_areWays 145 rfl) rfl ?_
                      refine x_lif_ne (tgt := 275) (dT U_L_areWays 146 rfl) (dT U_L_areWays 147 rfl) (by decide) (xrl_of hz14) (xrl_of hz4) (fun c255 => ?_) (fun c255 => ?_)
                      · exfalso
                        exact c255 (e14.trans e4.symm)
                      · skip
                        refine x_lload (dT U_L_areWays 148 rfl) rfl ?_
                        refine x_sipush (dT U_L_areWays 149 rfl) (by decide) ?_
                        refine x_iload (dT U_L_areWays 150 rfl) rfl ?_
                        refine x_imul (dT U_L_areWays 151 rfl) ?_
                        refine x_iload (dT U_L_areWays 152 rfl) rfl ?_
                        refine x_iadd (dT U_L_areWays 153 rfl) ?_
                        refine x_i2l (dT U_L_areWays 154 rfl) (by unfold xr; omega) ?_
                        refine x_lif_ne (tgt := 277) (dT U_L_areWays 155 rfl) (dT U_L_areWays 156 rfl) (by decide) (xrl_of hz12) (xrl_of (by unfold xr; omega)) (fun c271 => ?_) (fun c271 => ?_)
                        · skip
                          refine x_iinc (ls' := [some (.ref _), some (.ref _), some (vi _), some (.ref _), some (vl _), none, some (vi _), some (vi _), some (vi _), some (vi _), some (vi _), some (vi _), some (vl _), none]) (dT U_L_areWays 159 rfl) (by decide) rfl rfl ?_
                          refine x_goto (tgt := 28) (dT U_L_areWays 160 rfl) (by decide) ?_
                          
                          refine X_room (by omega) (by omega) (x_drop ?_ (ih (i + 1) (by omega) _ _ _ w_11 v_11 hlen_11 r0_5 p_5 L_5 h_row_11))
                          repeat (first | exact trivial | refine ⟨rfl, ?_⟩ | refine ⟨trivial, ?_⟩)
                        · exfalso
                          exact ne_t (by rw [← ez]; exact c271)
                · exfalso
                  omega
              · skip
                refine x_aload_n (dT U_L_areWays 92 rfl) rfl ?_
                refine x_iload (dT U_L_areWays 93 rfl) rfl ?_
                refine x_aload_n (dT U_L_areWays 94 rfl) rfl ?_
                refine x_iload (dT U_L_areWays 95 rfl) rfl ?_
                refine x_iaload (i) (dT U_L_areWays 96 rfl) h_row_11 (by omega) rfl (by have := (Fl_row).1; omega) (by have := (Fl_row).1; omega) ?_
                refine x_iload (dT U_L_areWays 97 rfl) rfl ?_
                refine x_iload (dT U_L_areWays 98 rfl) rfl ?_
                refine x_invokestatic (rc' := rc + 5 + 70 * n9 + 39) (rs' := rs + 40 + 420 * n9 + 234) (rc2 := 0 + 6) (rs2 := 0 + 36) (As := [_, _, _, _, _]) (st := _) M_L_climbed K_L_346 (dT U_L_areWays 99 rfl) rfl rfl rfl rfl (Nat.le_of_ble_eq_true rfl) rfl (by decide) (Nat.le_of_ble_eq_true rfl) (by first | rfl | omega) (by first | rfl | omega) ?_
                refine S_L_climbed w_11 v_11 (t := i) (by omega) (by have := Fl_row.2 i; omega) (by omega) (by omega) ?_
                refine xRet_some ?_
                obtain ⟨cl, e_cl⟩ : ∃ x : Int, ws i (row.getD i 0) z6 z7 0 2 = x := ⟨_, rfl⟩
                rw [e_cl]
                have b_cl : 0 ≤ cl ∧ cl < 251 := by rw [← e_cl]; exact sl_b _ _
                refine x_l2i (dT U_L_areWays 100 rfl) ?_
                refine x_goto (tgt := 174) (dT U_L_areWays 101 rfl) (by decide) ?_
                refine x_istore (ls' := [some (.ref _), some (.ref _), some (vi _), some (.ref _), some (vl _), none, some (vi _), some (vi _), some (vi _), some (vi _), some (vi _), none, none, none]) (dT U_L_areWays 103 rfl) (by decide) rfl ?_
                refine x_iload (dT U_L_areWays 104 rfl) rfl ?_
                refine x_iconst (dT U_L_areWays 105 rfl) ?_
                refine x_icmp_ge (tgt := 187) (dT U_L_areWays 106 rfl) (by decide) (by first | assumption | (unfold xr; omega)) (by unfold xr; omega) (fun c179 => ?_) (fun c179 => ?_)
                · exfalso
                  omega
                · skip
                  refine x_iload (dT U_L_areWays 107 rfl) rfl ?_
                  refine x_goto (tgt := 202) (dT U_L_areWays 108 rfl) (by decide) ?_
                  refine x_istore (ls' := [some (.ref _), some (.ref _), some (vi _), some (.ref _), some (vl _), none, some (vi _), some (vi _), some (vi _), some (vi _), some (vi _), some (vi _), none, none]) (dT U_L_areWays 118 rfl) (by decide) rfl ?_
                  refine x_aload_n (dT U_L_areWays 119 rfl) rfl ?_
                  refine x_iload (dT U_L_areWays 120 rfl) rfl ?_
                  refine x_iload (dT U_L_areWays 121 rfl) rfl ?_
                  refine x_invokestaticT (rc' := rc + 5 + 70 * n9 + 37) (rs' := rs + 40 + 420 * n9 + 222) (rc2 := 0 + 2) (rs2 := 0 + 12) (As := [_, _, _]) (st := _) M_L_twin K_L_349 (dT U_L_areWays 122 rfl) rfl (by decide) rfl rfl (Nat.le_of_ble_eq_true rfl) rfl (by decide) (Nat.le_of_ble_eq_true rfl) (by first | rfl | omega) (by first | rfl | omega) ?_
                  refine S_L_twin w_11 v_11 (by first | assumption | (unfold xr; omega)) (by first | assumption | (unfold xr; omega)) (fun  z8 => absurd (show inb _ _ ∧ inb _ _ from by omega) z8) (fun _ z15 e15 hz15 => ?_)
                  refine xRet_some ?_
                  obtain ⟨m_t, hm_t, e_t, ne_t, sl_t⟩ := tw_spec cl z8
                  have ez : z15 = (m_t : Int) := e15.trans e_t
                  refine x_lstore (ls' := [some (.ref _), some (.ref _), some (vi _), some (.ref _), some (vl _), none, some (vi _), some (vi _), some (vi _), some (vi _), some (vi _), some (vi _), some (vl _), none]) (dT U_L_areWays 123 rfl) (by decide) rfl ?_
                  refine x_aload_n (dT U_L_areWays 124 rfl) rfl ?_
                  refine x_iload (dT U_L_areWays 125 rfl) rfl ?_
                  refine x_iload (dT U_L_areWays 126 rfl) rfl ?_
                  have hs_ : sl cl z8 = gs (gf row) 1 := by
                    rw [← e_cl, way_lo (by omega), e6, e7, e8]
                    exact way_top0 (r := gf row) (by omega)
                  refine x_invokestaticT (rc' := rc + 5 + 70 * n9 + 35) (rs' := rs + 40 + 420 * n9 + 210) (rc2 := 0 + 2) (rs2 := 0 + 12) (As := [_, _, _]) (st := _) M_L_seal K_L_337 (dT U_L_areWays 127 rfl) rfl (by decide) rfl rfl (Nat.le_of_ble_eq_true rfl) rfl (by decide) (Nat.le_of_ble_eq_true rfl) (by first | rfl | omega) (by first | rfl | omega) ?_
                  refine S_L_seal w_11 v_11 (by first | assumption | (unfold xr; omega)) (by first | assumption | (unfold xr; omega)) (fun  z8 => absurd (show inb _ _ ∧ inb _ _ from by omega) z8) (fun _ z16 e16 hz16 => ?_)
                  refine xRet_some ?_
                  have e16 : z16 = gs (gf row) 1 := by
                    rw [e16]
                    exact hs_
                  refine x_lload (dT U_L_areWays 128 rfl) rfl ?_
                  refine x_lif_ne (tgt := 275) (dT U_L_areWays 129 rfl) (dT U_L_areWays 130 rfl) (by decide) (xrl_of hz16) (xrl_of hz4) (fun c224 => ?_) (fun c224 => ?_)
                  · exfalso
                    exact c224 (e16.trans e4.symm)
                  · skip
                    refine x_lload (dT U_L_areWays 131 rfl) rfl ?_
                    refine x_lconst (z := 0) (dT U_L_areWays 132 rfl) rfl ?_
                    refine x_lif_lt (tgt := 275) (dT U_L_areWays 133 rfl) (dT U_L_areWays 134 rfl) (by decide) (xrl_of hz15) (xrl_of (by unfold xr; omega)) (fun c231 => ?_) (fun c231 => ?_)
                    · exfalso
                      omega
                    · skip
                      refine x_aload_n (dT U_L_areWays 135 rfl) rfl ?_
                      refine x_lload (dT U_L_areWays 136 rfl) rfl ?_
                      refine x_l2i (dT U_L_areWays 137 rfl) ?_
                      refine x_sipush (dT U_L_areWays 138 rfl) (by decide) ?_
                      refine x_idiv (dT U_L_areWays 139 rfl) (by unfold xr; omega) (by omega) ?_
                      rw [show (z15).tdiv 251 = ((m_t / 251 : Nat) : Int) from by rw [ez, Int.tdiv_eq_ediv_of_nonneg (by omega)]; omega]
                      refine x_lload (dT U_L_areWays 140 rfl) rfl ?_
                      refine x_l2i (dT U_L_areWays 141 rfl) ?_
                      refine x_sipush (dT U_L_areWays 142 rfl) (by decide) ?_
                      refine x_irem (dT U_L_areWays 143 rfl) (by unfold xr; omega) (by unfold xr; omega) (by omega) ?_
                      rw [show (z15).tmod 251 = ((m_t % 251 : Nat) : Int) from by rw [ez, Int.tmod_eq_emod_of_nonneg (by omega)]; omega]
                      refine x_invokestaticT (rc' := rc + 5 + 70 * n9 + 33) (rs' := rs + 40 + 420 * n9 + 198) (rc2 := 0 + 2) (rs2 := 0 + 12) (As := [_, _, _]) (st := _) M_L_seal K_L_337 (dT U_L_areWays 144 rfl) rfl (by decide) rfl rfl (Nat.le_of_ble_eq_true rfl) rfl (by decide) (Nat.le_of_ble_eq_true rfl) (by first | rfl | omega) (by first | rfl | omega) ?_
                      refine S_L_seal w_11 v_11 (by first | assumption | (unfold xr; omega)) (by first | assumption | (unfold xr; omega)) (fun  z8 => absurd (show inb _ _ ∧ inb _ _ from by omega) z8) (fun _ z17 e17 hz17 => ?_)
                      refine xRet_some ?_
                      have e17 : z17 = gs (gf row) 1 := by
                        rw [e17, sl_t]
                        exact hs_
                      refine x_lload (dT U_L_areWays 145 rfl) rfl ?_
                      refine x_lif_ne (tgt := 275) (dT U_L_areWays 146 rfl) (dT U_L_areWays 147 rfl) (by decide) (xrl_of hz17) (xrl_of hz4) (fun c255 => ?_) (fun c255 => ?_)
                      · exfalso
                        exact c255 (e17.trans e4.symm)
                      · skip
                        refine x_lload (dT U_L_areWays 148 rfl) rfl ?_
                        refine x_sipush (dT U_L_areWays 149 rfl) (by decide) ?_
                        refine x_iload (dT U_L_areWays 150 rfl) rfl ?_
                        refine x_imul (dT U_L_areWays 151 rfl) ?_
                        refine x_iload (dT U_L_areWays 152 rfl) rfl ?_
                        refine x_iadd (dT U_L_areWays 153 rfl) ?_
                        refine x_i2l (dT U_L_areWays 154 rfl) (by unfold xr; omega) ?_
                        refine x_lif_ne (tgt := 277) (dT U_L_areWays 155 rfl) (dT U_L_areWays 156 rfl) (by decide) (xrl_of hz15) (xrl_of (by unfold xr; omega)) (fun c271 => ?_) (fun c271 => ?_)
                        · skip
                          refine x_iinc (ls' := [some (.ref _), some (.ref _), some (vi _), some (.ref _), some (vl _), none, some (vi _), some (vi _), some (vi _), some (vi _), some (vi _), some (vi _), some (vl _), none]) (dT U_L_areWays 159 rfl) (by decide) rfl rfl ?_
                          refine x_goto (tgt := 28) (dT U_L_areWays 160 rfl) (by decide) ?_
                          
                          refine X_room (by omega) (by omega) (x_drop ?_ (ih (i + 1) (by omega) _ _ _ w_11 v_11 hlen_11 r0_5 p_5 L_5 h_row_11))
                          repeat (first | exact trivial | refine ⟨rfl, ?_⟩ | refine ⟨trivial, ?_⟩)
                        · exfalso
                          exact ne_t (by rw [← ez]; exact c271)
            · exfalso
              exact c142 e11
          · exfalso
            exact c107 (e10.trans e4.symm)
  refine X_room (by omega) (by omega) (x_drop ?_ (L5 8 0 (by omega) _ _ _ w_4 v_4 hlen_4 r0_3 p_3 L_3 h_row_4))
  repeat (first | exact trivial | refine ⟨rfl, ?_⟩ | refine ⟨trivial, ?_⟩)

