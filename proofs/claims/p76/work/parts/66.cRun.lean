set_option maxRecDepth 20000 in
set_option maxHeartbeats 1000000 in
theorem S_L_areRuns {G : xG} {d rc rs : Nat} {ex : Bool} {h : xH} {Q : xQ} {σ : St} {p n0 : Nat} {f : Nat} (hL : gL G < 100000) (w : CW σ h) (v : INV σ) (hpp : σ.p = p) (hn0 : σ.L.n = n0) (hlen : 70 ≤ h.length) (hf : f < 900) (kk : ∀ (σ2 : St) (h2 : xH) (ex2 : Bool), CW σ2 h2 → INV σ2 → σ2.p = p → σ2.L.n = n0 → 70 ≤ h2.length → Q (.inl (some (vi 1))) ex2 h2) : X G m_L_areRuns (d + 10) (rc + 900) (rs + 7200) ex 0 (xe m_L_areRuns.2.2.1 [.ref 3, .ref 0, vi (f : Int), vi (p : Int), vi (gq p : Int)]) [] h Q := by
  show X G m_L_areRuns _ _ _ _ 0 [some (.ref 3), some (.ref 0), some (vi (f : Int)), some (vi (p : Int)), some (vi (gq p : Int)), none, none, none, none, none, none, none, none, none, none, none] [] h Q
  have hpr : p ∈ PR := hpp ▸ v.p
  have hp := PRb hpr
  have hq := gq_b hpr
  refine x_aload_n (dT U_L_areRuns 0 rfl) rfl ?_
  refine x_iload_n (dT U_L_areRuns 1 rfl) rfl ?_
  refine x_iload_n (dT U_L_areRuns 2 rfl) rfl ?_
  refine x_bipush (dT U_L_areRuns 3 rfl) (by decide) ?_
  refine x_invokestatic (rc' := rc + 899) (rs' := rs + 7192) (rc2 := 0 + 1) (rs2 := 0 + 8) (As := [_, _, _, _]) (st := _) M_L_made K_L_234 (dT U_L_areRuns 4 rfl) rfl rfl rfl rfl (Nat.le_of_ble_eq_true rfl) rfl (by decide) (Nat.le_of_ble_eq_true rfl) (by omega) (by omega) ?_
  refine S_L_made (f := f) (m := 8) hL (by have := hlen; omega) (by omega) (by omega) (by omega) (fun h1 a_secret secret u1 ga1 ge1 h_secret1 Fl_secret Z_secret => ?_)
  refine xRet_some ?_
  have g_secret : 70 ≤ a_secret := by have := hlen; omega
  have w1 := (w).up u1
  have hlen_1 : 70 ≤ h1.length := by have := u1.len; have := hlen; omega
  refine x_astore (ls' := [some (.ref _), some (.ref _), some (vi _), some (vi _), some (vi _), some (.ref _), none, none, none, none, none, none, none, none, none, none]) (dT U_L_areRuns 5 rfl) (by decide) rfl ?_
  refine x_aload_n (dT U_L_areRuns 6 rfl) rfl ?_
  refine x_iload_n (dT U_L_areRuns 7 rfl) rfl ?_
  refine x_bipush (dT U_L_areRuns 8 rfl) (by decide) ?_
  refine x_iadd (dT U_L_areRuns 9 rfl) ?_
  refine x_iload_n (dT U_L_areRuns 10 rfl) rfl ?_
  refine x_aload_n (dT U_L_areRuns 11 rfl) rfl ?_
  refine x_iload_n (dT U_L_areRuns 12 rfl) rfl ?_
  refine x_bipush (dT U_L_areRuns 13 rfl) (by decide) ?_
  refine x_iadd (dT U_L_areRuns 14 rfl) ?_
  rw [show (f : Int) + 30 = ((f + 30 : Nat) : Int) by omega]
  refine x_invokestatic (rc' := rc + 899) (rs' := rs + 7192) (rc2 := 0 + 0) (rs2 := 0 + 0) (As := [_, _]) (st := _) M_L_cell K_L_221 (dT U_L_areRuns 15 rfl) rfl rfl rfl rfl (Nat.le_of_ble_eq_true rfl) rfl (by decide) (Nat.le_of_ble_eq_true rfl) (by omega) (by omega) ?_
  refine S_L_cell (k := f + 30) hL (by omega) (fun z21 => ?_)
  refine xRet_some ?_
  refine x_bipush (dT U_L_areRuns 16 rfl) (by decide) ?_
  refine x_invokestatic (rc' := rc + 899) (rs' := rs + 7192) (rc2 := 0 + 0) (rs2 := 0 + 0) (As := [_, _]) (st := _) M_L_chosen K_L_225 (dT U_L_areRuns 17 rfl) rfl rfl rfl rfl (Nat.le_of_ble_eq_true rfl) rfl (by decide) (Nat.le_of_ble_eq_true rfl) (by omega) (by omega) ?_
  refine S_L_chosen (by omega) (fun many b_many => ?_)
  refine xRet_some ?_
  obtain ⟨mf, rfl⟩ : ∃ t : Nat, many = (t : Int) := ⟨many.toNat, by omega⟩
  rw [show (f : Int) + 8 = ((f + 8 : Nat) : Int) by omega]
  refine x_invokestatic (rc' := rc + 898) (rs' := rs + 7184) (rc2 := 0 + 1) (rs2 := 0 + 8) (As := [_, _, _, _]) (st := _) M_L_made K_L_234 (dT U_L_areRuns 18 rfl) rfl rfl rfl rfl (Nat.le_of_ble_eq_true rfl) rfl (by decide) (Nat.le_of_ble_eq_true rfl) (by omega) (by omega) ?_
  refine S_L_made (f := f + 8) (m := mf) hL (by have := hlen_1; omega) (by omega) (by omega) (by omega) (fun h2 a_form form u2 ga2 ge2 h_form2 Fl_form Z_form => ?_)
  refine xRet_some ?_
  have g_form : 70 ≤ a_form := by have := hlen_1; omega
  have w2 := (w1).up u2
  have h_secret_2 := u2 _ _ h_secret1
  have ne_form_secret : a_form ≠ a_secret := by have := (List.getElem?_eq_some_iff.mp h_secret1).1; omega
  have hlen_2 : 70 ≤ h2.length := by have := u2.len; have := hlen_1; omega
  refine x_astore (ls' := [some (.ref _), some (.ref _), some (vi _), some (vi _), some (vi _), some (.ref _), some (.ref _), none, none, none, none, none, none, none, none, none]) (dT U_L_areRuns 19 rfl) (by decide) rfl ?_
  refine x_aload_n (dT U_L_areRuns 20 rfl) rfl ?_
  refine x_iload_n (dT U_L_areRuns 21 rfl) rfl ?_
  refine x_bipush (dT U_L_areRuns 22 rfl) (by decide) ?_
  refine x_iadd (dT U_L_areRuns 23 rfl) ?_
  refine x_iload_n (dT U_L_areRuns 24 rfl) rfl ?_
  refine x_bipush (dT U_L_areRuns 25 rfl) (by decide) ?_
  rw [show (f : Int) + 16 = ((f + 16 : Nat) : Int) by omega]
  refine x_invokestatic (rc' := rc + 897) (rs' := rs + 7176) (rc2 := 0 + 1) (rs2 := 0 + 8) (As := [_, _, _, _]) (st := _) M_L_made K_L_234 (dT U_L_areRuns 26 rfl) rfl rfl rfl rfl (Nat.le_of_ble_eq_true rfl) rfl (by decide) (Nat.le_of_ble_eq_true rfl) (by omega) (by omega) ?_
  refine S_L_made (f := f + 16) (m := 8) hL (by have := hlen_2; omega) (by omega) (by omega) (by omega) (fun h3 a_mask mask u3 ga3 ge3 h_mask3 Fl_mask Z_mask => ?_)
  refine xRet_some ?_
  have g_mask : 70 ≤ a_mask := by have := hlen_2; omega
  have w3 := (w2).up u3
  have h_secret_3 := u3 _ _ h_secret_2
  have ne_mask_secret : a_mask ≠ a_secret := by have := (List.getElem?_eq_some_iff.mp h_secret_2).1; omega
  have h_form_3 := u3 _ _ h_form2
  have ne_mask_form : a_mask ≠ a_form := by have := (List.getElem?_eq_some_iff.mp h_form2).1; omega
  have hlen_3 : 70 ≤ h3.length := by have := u3.len; have := hlen_2; omega
  refine x_astore (ls' := [some (.ref _), some (.ref _), some (vi _), some (vi _), some (vi _), some (.ref _), some (.ref _), some (.ref _), none, none, none, none, none, none, none, none]) (dT U_L_areRuns 27 rfl) (by decide) rfl ?_
  refine x_aload_n (dT U_L_areRuns 28 rfl) rfl ?_
  refine x_iload_n (dT U_L_areRuns 29 rfl) rfl ?_
  refine x_bipush (dT U_L_areRuns 30 rfl) (by decide) ?_
  refine x_iadd (dT U_L_areRuns 31 rfl) ?_
  rw [show (f : Int) + 24 = ((f + 24 : Nat) : Int) by omega]
  refine x_invokestatic (rc' := rc + 897) (rs' := rs + 7176) (rc2 := 0 + 0) (rs2 := 0 + 0) (As := [_, _]) (st := _) M_L_cell K_L_221 (dT U_L_areRuns 32 rfl) rfl rfl rfl rfl (Nat.le_of_ble_eq_true rfl) rfl (by decide) (Nat.le_of_ble_eq_true rfl) (by omega) (by omega) ?_
  refine S_L_cell (k := f + 24) hL (by omega) (fun z52 => ?_)
  refine xRet_some ?_
  refine x_iload_n (dT U_L_areRuns 33 rfl) rfl ?_
  refine x_invokestatic (rc' := rc + 897) (rs' := rs + 7176) (rc2 := 0 + 0) (rs2 := 0 + 0) (As := [_, _]) (st := _) M_L_chosen K_L_225 (dT U_L_areRuns 34 rfl) rfl rfl rfl rfl (Nat.le_of_ble_eq_true rfl) rfl (by decide) (Nat.le_of_ble_eq_true rfl) (by omega) (by omega) ?_
  refine S_L_chosen (by omega) (fun blind b_blind => ?_)
  refine xRet_some ?_
  refine x_istore (ls' := [some (.ref _), some (.ref _), some (vi _), some (vi _), some (vi _), some (.ref _), some (.ref _), some (.ref _), some (vi _), none, none, none, none, none, none, none]) (dT U_L_areRuns 35 rfl) (by decide) rfl ?_
  refine x_aload_n (dT U_L_areRuns 36 rfl) rfl ?_
  refine x_iload_n (dT U_L_areRuns 37 rfl) rfl ?_
  refine x_bipush (dT U_L_areRuns 38 rfl) (by decide) ?_
  refine x_iadd (dT U_L_areRuns 39 rfl) ?_
  rw [show (f : Int) + 25 = ((f + 25 : Nat) : Int) by omega]
  refine x_invokestatic (rc' := rc + 897) (rs' := rs + 7176) (rc2 := 0 + 0) (rs2 := 0 + 0) (As := [_, _]) (st := _) M_L_cell K_L_221 (dT U_L_areRuns 40 rfl) rfl rfl rfl rfl (Nat.le_of_ble_eq_true rfl) rfl (by decide) (Nat.le_of_ble_eq_true rfl) (by omega) (by omega) ?_
  refine S_L_cell (k := f + 25) hL (by omega) (fun z66 => ?_)
  refine xRet_some ?_
  refine x_iload_n (dT U_L_areRuns 41 rfl) rfl ?_
  refine x_invokestatic (rc' := rc + 897) (rs' := rs + 7176) (rc2 := 0 + 0) (rs2 := 0 + 0) (As := [_, _]) (st := _) M_L_chosen K_L_225 (dT U_L_areRuns 42 rfl) rfl rfl rfl rfl (Nat.le_of_ble_eq_true rfl) rfl (by decide) (Nat.le_of_ble_eq_true rfl) (by omega) (by omega) ?_
  refine S_L_chosen (by omega) (fun mb b_mb => ?_)
  refine xRet_some ?_
  refine x_istore (ls' := [some (.ref _), some (.ref _), some (vi _), some (vi _), some (vi _), some (.ref _), some (.ref _), some (.ref _), some (vi _), some (vi _), none, none, none, none, none, none]) (dT U_L_areRuns 43 rfl) (by decide) rfl ?_
  refine x_aload_n (dT U_L_areRuns 44 rfl) rfl ?_
  refine x_iload_n (dT U_L_areRuns 45 rfl) rfl ?_
  refine x_bipush (dT U_L_areRuns 46 rfl) (by decide) ?_
  refine x_iadd (dT U_L_areRuns 47 rfl) ?_
  rw [show (f : Int) + 26 = ((f + 26 : Nat) : Int) by omega]
  refine x_invokestatic (rc' := rc + 897) (rs' := rs + 7176) (rc2 := 0 + 0) (rs2 := 0 + 0) (As := [_, _]) (st := _) M_L_cell K_L_221 (dT U_L_areRuns 48 rfl) rfl rfl rfl rfl (Nat.le_of_ble_eq_true rfl) rfl (by decide) (Nat.le_of_ble_eq_true rfl) (by omega) (by omega) ?_
  refine S_L_cell (k := f + 26) hL (by omega) (fun z80 => ?_)
  refine xRet_some ?_
  refine x_iload_n (dT U_L_areRuns 49 rfl) rfl ?_
  refine x_invokestatic (rc' := rc + 897) (rs' := rs + 7176) (rc2 := 0 + 0) (rs2 := 0 + 0) (As := [_, _]) (st := _) M_L_chosen K_L_225 (dT U_L_areRuns 50 rfl) rfl rfl rfl rfl (Nat.le_of_ble_eq_true rfl) rfl (by decide) (Nat.le_of_ble_eq_true rfl) (by omega) (by omega) ?_
  refine S_L_chosen (by omega) (fun c b_c => ?_)
  refine xRet_some ?_
  refine x_istore (ls' := [some (.ref _), some (.ref _), some (vi _), some (vi _), some (vi _), some (.ref _), some (.ref _), some (.ref _), some (vi _), some (vi _), some (vi _), none, none, none, none, none]) (dT U_L_areRuns 51 rfl) (by decide) rfl ?_
  refine x_iload (dT U_L_areRuns 52 rfl) rfl ?_
  refine x_iconst (dT U_L_areRuns 53 rfl) ?_
  refine x_iadd (dT U_L_areRuns 54 rfl) ?_
  refine x_aload_n (dT U_L_areRuns 55 rfl) rfl ?_
  refine x_iload_n (dT U_L_areRuns 56 rfl) rfl ?_
  refine x_bipush (dT U_L_areRuns 57 rfl) (by decide) ?_
  refine x_iadd (dT U_L_areRuns 58 rfl) ?_
  rw [show (f : Int) + 27 = ((f + 27 : Nat) : Int) by omega]
  refine x_invokestatic (rc' := rc + 897) (rs' := rs + 7176) (rc2 := 0 + 0) (rs2 := 0 + 0) (As := [_, _]) (st := _) M_L_cell K_L_221 (dT U_L_areRuns 59 rfl) rfl rfl rfl rfl (Nat.le_of_ble_eq_true rfl) rfl (by decide) (Nat.le_of_ble_eq_true rfl) (by omega) (by omega) ?_
  refine S_L_cell (k := f + 27) hL (by omega) (fun z98 => ?_)
  refine xRet_some ?_
  refine x_iload_n (dT U_L_areRuns 60 rfl) rfl ?_
  refine x_iconst (dT U_L_areRuns 61 rfl) ?_
  refine x_isub (dT U_L_areRuns 62 rfl) ?_
  refine x_invokestatic (rc' := rc + 897) (rs' := rs + 7176) (rc2 := 0 + 0) (rs2 := 0 + 0) (As := [_, _]) (st := _) M_L_chosen K_L_225 (dT U_L_areRuns 63 rfl) rfl rfl rfl rfl (Nat.le_of_ble_eq_true rfl) rfl (by decide) (Nat.le_of_ble_eq_true rfl) (by omega) (by omega) ?_
  refine S_L_chosen (by omega) (fun dc b_dc => ?_)
  refine xRet_some ?_
  refine x_iadd (dT U_L_areRuns 64 rfl) ?_
  refine x_iload_n (dT U_L_areRuns 65 rfl) rfl ?_
  refine x_irem (dT U_L_areRuns 66 rfl) (by unfold xr; omega) (by unfold xr; omega) (by omega) ?_
  obtain ⟨dd, e_dd⟩ : ∃ r : Int, r = (c + 1 + dc) % (p : Int) := ⟨_, rfl⟩
  rw [show (_ : Int).tmod _ = dd from by rw [e_dd]; exact Int.tmod_eq_emod_of_nonneg (by omega)]
  have b_dd : 0 ≤ dd ∧ dd < (p : Int) := by rw [e_dd]; exact modb (by omega)
  have ne_cd : c ≠ dd := by
    intro z
    obtain ⟨k, hk⟩ := emx (a := c + 1 + dc) (p := (p : Int))
    rw [← e_dd, ← z] at hk
    have h1 : (p : Int) * k = 1 + dc := by omega
    rcases Int.lt_trichotomy k 0 with q | q | q
    · have := Int.mul_le_mul_of_nonneg_left (show k ≤ -1 by omega) (show (0 : Int) ≤ p by omega); omega
    · rw [q] at h1; omega
    · have := Int.mul_le_mul_of_nonneg_left (show 1 ≤ k by omega) (show (0 : Int) ≤ p by omega); omega
  refine x_istore (ls' := [some (.ref _), some (.ref _), some (vi _), some (vi _), some (vi _), some (.ref _), some (.ref _), some (.ref _), some (vi _), some (vi _), some (vi _), some (vi _), none, none, none, none]) (dT U_L_areRuns 67 rfl) (by decide) rfl ?_
  refine x_aload_n (dT U_L_areRuns 68 rfl) rfl ?_
  refine x_aload (dT U_L_areRuns 69 rfl) rfl ?_
  refine x_iload (dT U_L_areRuns 70 rfl) rfl ?_
  refine x_iload (dT U_L_areRuns 71 rfl) rfl ?_
  refine x_invokestatic (rc' := rc + 888) (rs' := rs + 7122) (rc2 := 0 + 9) (rs2 := 0 + 54) (As := [_, _, _, _]) (st := _) M_L_commits K_L_247 (dT U_L_areRuns 72 rfl) rfl rfl rfl rfl (Nat.le_of_ble_eq_true rfl) rfl (by decide) (Nat.le_of_ble_eq_true rfl) (by omega) (by omega) ?_
  refine S_L_commits w3 v hpp h_secret_3 (by omega) Fl_secret (by omega) ?_
  refine xRet_some ?_
  obtain ⟨y, e_y⟩ : ∃ r : Int, MM p (cm p secret blind) = r := ⟨_, rfl⟩
  rw [e_y]
  have hz_y : xr y := by rw [← e_y]; exact xr_MM hpr
  refine x_istore (ls' := [some (.ref _), some (.ref _), some (vi _), some (vi _), some (vi _), some (.ref _), some (.ref _), some (.ref _), some (vi _), some (vi _), some (vi _), some (vi _), some (vi _), none, none, none]) (dT U_L_areRuns 73 rfl) (by decide) rfl ?_
  have hcS := cm_b (p := p) (l := secret) (b := blind) (by omega)
  have hcM := cm_b (p := p) (l := mask) (b := mb) (by omega)
  refine x_aload (dT U_L_areRuns 74 rfl) rfl ?_
  refine x_aload (dT U_L_areRuns 75 rfl) rfl ?_
  refine x_iload_n (dT U_L_areRuns 76 rfl) rfl ?_
  refine x_invokestatic (rc' := rc + 888) (rs' := rs + 7122) (rc2 := 0 + 0) (rs2 := 0 + 0) (As := [_, _, _]) (st := _) M_L_inner K_L_257 (dT U_L_areRuns 77 rfl) rfl rfl rfl rfl (Nat.le_of_ble_eq_true rfl) rfl (by decide) (Nat.le_of_ble_eq_true rfl) (by omega) (by omega) ?_
  refine S_L_inner (by omega) h_form_3 (by omega) Fl_form h_secret_3 (by omega) Fl_secret ?_
  refine xRet_some ?_
  obtain ⟨vv, e_vv⟩ : ∃ r : Int, inn form secret % (p : Int) = r := ⟨_, rfl⟩
  rw [e_vv]
  have b_vv : 0 ≤ vv ∧ vv < (p : Int) := by rw [← e_vv]; exact modb (by omega)
  refine x_istore (ls' := [some (.ref _), some (.ref _), some (vi _), some (vi _), some (vi _), some (.ref _), some (.ref _), some (.ref _), some (vi _), some (vi _), some (vi _), some (vi _), some (vi _), some (vi _), none, none]) (dT U_L_areRuns 78 rfl) (by decide) rfl ?_
  refine x_aload_n (dT U_L_areRuns 79 rfl) rfl ?_
  refine x_iconst (dT U_L_areRuns 80 rfl) ?_
  refine x_aload (dT U_L_areRuns 81 rfl) rfl ?_
  refine x_invokestatic (rc' := rc + 887) (rs' := rs + 7116) (rc2 := 0 + 1) (rs2 := 0 + 6) (As := [_, _, _]) (st := _) M_L_lays K_L_238 (dT U_L_areRuns 82 rfl) rfl rfl rfl rfl (Nat.le_of_ble_eq_true rfl) rfl (by decide) (Nat.le_of_ble_eq_true rfl) (by omega) (by omega) ?_
  refine S_L_lays w3 v (by omega) h_secret_3 (by omega) (by rw [hpp]; exact Fl_secret) (fun z5 hz5 h5 fc5 w_5 v_5 => ?_)
  refine xRet_some ?_
  obtain ⟨σ6, w6, v6, r0_6, p_6, L_6⟩ : ∃ σ6 : St, CW σ6 h5 ∧ INV σ6 ∧ σ6.rw 0 = secret ∧ σ6.p = p ∧ σ6.L.n = n0 := ⟨_, w_5, v_5, rfl, hpp, hn0⟩
  have h_secret_6 : h5[a_secret]? = some (cA 0 secret) := (fc5).get h_secret_3 (by omega)
  have h_form_6 : h5[a_form]? = some (cA 0 form) := (fc5).get h_form_3 (by omega)
  have h_mask_6 : h5[a_mask]? = some (cA 0 mask) := (fc5).get h_mask3 (by omega)
  have hlen_6 : 70 ≤ h5.length := by rw [fc5.1]; exact hlen_3
  refine x_pop2 (dT U_L_areRuns 83 rfl) ?_
  refine x_aload_n (dT U_L_areRuns 84 rfl) rfl ?_
  refine x_iconst (dT U_L_areRuns 85 rfl) ?_
  refine x_aload (dT U_L_areRuns 86 rfl) rfl ?_
  refine x_invokestatic (rc' := rc + 886) (rs' := rs + 7110) (rc2 := 0 + 1) (rs2 := 0 + 6) (As := [_, _, _]) (st := _) M_L_lays K_L_238 (dT U_L_areRuns 87 rfl) rfl rfl rfl rfl (Nat.le_of_ble_eq_true rfl) rfl (by decide) (Nat.le_of_ble_eq_true rfl) (by omega) (by omega) ?_
  refine S_L_lays w6 v6 (by omega) h_mask_6 (by omega) (by rw [p_6]; exact Fl_mask) (fun z7 hz7 h7 fc7 w_7 v_7 => ?_)
  refine xRet_some ?_
  obtain ⟨σ8, w8, v8, r1_8, r0_8, p_8, L_8⟩ : ∃ σ8 : St, CW σ8 h7 ∧ INV σ8 ∧ σ8.rw 1 = mask ∧ σ8.rw 0 = secret ∧ σ8.p = p ∧ σ8.L.n = n0 := ⟨_, w_7, v_7, rfl, r0_6, p_6, L_6⟩
  have h_secret_8 : h7[a_secret]? = some (cA 0 secret) := (fc7).get h_secret_6 (by omega)
  have h_form_8 : h7[a_form]? = some (cA 0 form) := (fc7).get h_form_6 (by omega)
  have h_mask_8 : h7[a_mask]? = some (cA 0 mask) := (fc7).get h_mask_6 (by omega)
  have hlen_8 : 70 ≤ h7.length := by rw [fc7.1]; exact hlen_6
  refine x_pop2 (dT U_L_areRuns 88 rfl) ?_
  refine x_aload_n (dT U_L_areRuns 89 rfl) rfl ?_
  refine x_iconst (dT U_L_areRuns 90 rfl) ?_
  refine x_aload (dT U_L_areRuns 91 rfl) rfl ?_
  refine x_invokestatic (rc' := rc + 885) (rs' := rs + 7104) (rc2 := 0 + 1) (rs2 := 0 + 6) (As := [_, _, _]) (st := _) M_L_lays K_L_238 (dT U_L_areRuns 92 rfl) rfl rfl rfl rfl (Nat.le_of_ble_eq_true rfl) rfl (by decide) (Nat.le_of_ble_eq_true rfl) (by omega) (by omega) ?_
  refine S_L_lays w8 v8 (by omega) h_form_8 (by omega) (by rw [p_8]; exact Fl_form) (fun z9 hz9 h9 fc9 w_9 v_9 => ?_)
  refine xRet_some ?_
  obtain ⟨σ10, w10, v10, r2_10, r1_10, r0_10, p_10, L_10⟩ : ∃ σ10 : St, CW σ10 h9 ∧ INV σ10 ∧ σ10.rw 2 = form ∧ σ10.rw 1 = mask ∧ σ10.rw 0 = secret ∧ σ10.p = p ∧ σ10.L.n = n0 := ⟨_, w_9, v_9, rfl, r1_8, r0_8, p_8, L_8⟩
  have h_secret_10 : h9[a_secret]? = some (cA 0 secret) := (fc9).get h_secret_8 (by omega)
  have h_form_10 : h9[a_form]? = some (cA 0 form) := (fc9).get h_form_8 (by omega)
  have h_mask_10 : h9[a_mask]? = some (cA 0 mask) := (fc9).get h_mask_8 (by omega)
  have hlen_10 : 70 ≤ h9.length := by rw [fc9.1]; exact hlen_8
  refine x_pop2 (dT U_L_areRuns 93 rfl) ?_
  have m_cblind := mulg (a := c) (b := blind) (m := 23) (n := 23) (by omega) (by omega)
  have m_ddblind := mulg (a := dd) (b := blind) (m := 23) (n := 23) (by omega) (by omega)
  refine x_iconst (dT U_L_areRuns 94 rfl) ?_
  refine x_istore (ls' := [some (.ref _), some (.ref _), some (vi _), some (vi _), some (vi _), some (.ref _), some (.ref _), some (.ref _), some (vi _), some (vi _), some (vi _), some (vi _), some (vi _), some (vi _), some (vi _), none]) (dT U_L_areRuns 95 rfl) (by decide) rfl ?_
  refine x_iload (dT U_L_areRuns 96 rfl) rfl ?_
  refine x_iconst (dT U_L_areRuns 97 rfl) ?_
  refine x_icmp_ge (tgt := 377) (dT U_L_areRuns 98 rfl) (by decide) (by unfold xr; omega) (by unfold xr; omega) (fun c164 => ?_) (fun c164 => ?_)
  · skip
    exfalso; omega
  · skip
    refine x_aload_n (dT U_L_areRuns 99 rfl) rfl ?_
    refine x_iload (dT U_L_areRuns 100 rfl) rfl ?_
    refine x_iload (dT U_L_areRuns 101 rfl) rfl ?_
    refine x_iconst (dT U_L_areRuns 102 rfl) ?_
    refine x_iload (dT U_L_areRuns 103 rfl) rfl ?_
    refine x_invokestatic (rc' := rc + 881) (rs' := rs + 7080) (rc2 := 0 + 4) (rs2 := 0 + 24) (As := [_, _, _, _, _]) (st := _) M_L_state K_L_261 (dT U_L_areRuns 104 rfl) rfl rfl rfl rfl (Nat.le_of_ble_eq_true rfl) rfl (by decide) (Nat.le_of_ble_eq_true rfl) (by omega) (by omega) ?_
    refine S_L_state w10 v10 (by first | assumption | (unfold xr; omega)) (by first | assumption | (unfold xr; omega)) (by first | assumption | (unfold xr; omega)) (by first | assumption | (unfold xr; omega)) (fun  z8 => absurd (show inb _ _ ∧ inb _ _ from by omega) z8) (fun _ z8 => absurd (show _ ∧ inb _ _ from ⟨by rw [p_10, ← e_y, exI_MM hpr hcS]; omega, by have := p_10; omega⟩) z8) (fun _ _ z11 e11 hz11 h11 fc11 w_11 v_11 => ?_)
    refine xRet_some ?_
    have e11 : z11 = y := by
      exact e11
    obtain ⟨σ12, w12, v12, R0_st_12, R0_e_12, R0_v_12, R0_form_12, r2_12, r1_12, r0_12, p_12, L_12⟩ : ∃ σ12 : St, CW σ12 h11 ∧ INV σ12 ∧ (σ12.R 0).st = 1 ∧ (σ12.R 0).e = cm p secret blind ∧ (σ12.R 0).v = vv ∧ (σ12.R 0).form = form ∧ σ12.rw 2 = form ∧ σ12.rw 1 = mask ∧ σ12.rw 0 = secret ∧ σ12.p = p ∧ σ12.L.n = n0 := ⟨_, w_11, v_11, rfl, (by show exI σ10.p y = _; rw [p_10, ← e_y, exI_MM hpr hcS]), rfl, r2_10, r2_10, r1_10, r0_10, p_10, L_10⟩
    have h_secret_12 : h11[a_secret]? = some (cA 0 secret) := (fc11).get h_secret_10 (by omega)
    have h_form_12 : h11[a_form]? = some (cA 0 form) := (fc11).get h_form_10 (by omega)
    have h_mask_12 : h11[a_mask]? = some (cA 0 mask) := (fc11).get h_mask_10 (by omega)
    have hlen_12 : 70 ≤ h11.length := by rw [fc11.1]; exact hlen_10
    refine x_iload (dT U_L_areRuns 105 rfl) rfl ?_
    refine x_i2l (dT U_L_areRuns 106 rfl) hz_y ?_
    refine x_lif_ne (tgt := 229) (dT U_L_areRuns 107 rfl) (dT U_L_areRuns 108 rfl) (by decide) (xrl_of hz11) (xrl_of hz_y) (fun c181 => ?_) (fun c181 => ?_)
    · skip
      exact c181 e11
    · skip
      refine x_aload_n (dT U_L_areRuns 109 rfl) rfl ?_
      refine x_iload (dT U_L_areRuns 110 rfl) rfl ?_
      refine x_iconst (dT U_L_areRuns 111 rfl) ?_
      refine x_iload (dT U_L_areRuns 112 rfl) rfl ?_
      refine x_invokestatic (rc' := rc + 877) (rs' := rs + 7056) (rc2 := 0 + 4) (rs2 := 0 + 24) (As := [_, _, _, _]) (st := _) M_L_open K_L_263 (dT U_L_areRuns 113 rfl) rfl rfl rfl rfl (Nat.le_of_ble_eq_true rfl) rfl (by decide) (Nat.le_of_ble_eq_true rfl) (by omega) (by omega) ?_
      refine S_L_open w12 v12 (by first | assumption | (unfold xr; omega)) (by first | assumption | (unfold xr; omega)) (by first | assumption | (unfold xr; omega)) (fun  z8 => absurd (show inb _ _ ∧ inb _ _ from by omega) z8) (fun _ z8 => absurd (show inb _ _ from by have := p_12; omega) z8) (fun _ _ z8 => absurd (R0_st_12) z8) (fun _ _ _ z13 e13 hz13 h13 fc13 w_13 v_13 => ?_)
      refine xRet_some ?_
      have e13 : z13 = MM p (cm p mask mb) := by
        simp only [tn0, tn1, tn2, tn3, tn4, tn5, tn6, tn7, tn8, Int.toNat_natCast, p_12, r1_12] at e13; exact e13
      obtain ⟨σ14, w14, v14, R0_st_14, R0_fa_14, R0_w_14, R0_mb_14, R0_mk_14, R0_mask_14, R0_e_14, R0_v_14, R0_form_14, r2_14, r1_14, r0_14, p_14, L_14⟩ : ∃ σ14 : St, CW σ14 h13 ∧ INV σ14 ∧ (σ14.R 0).st = 2 ∧ (σ14.R 0).fa = cm p mask mb ∧ (σ14.R 0).w = inn form mask % (p : Int) ∧ (σ14.R 0).mb = mb ∧ (σ14.R 0).mk = true ∧ (σ14.R 0).mask = mask ∧ (σ14.R 0).e = cm p secret blind ∧ (σ14.R 0).v = vv ∧ (σ14.R 0).form = form ∧ σ14.rw 2 = form ∧ σ14.rw 1 = mask ∧ σ14.rw 0 = secret ∧ σ14.p = p ∧ σ14.L.n = n0 := ⟨_, w_13, v_13, rfl, (by show cm σ12.p (σ12.rw 1) _ = _; rw [p_12, r1_12]), (by show inn (σ12.R 0).form (σ12.rw 1) % (σ12.p : Int) = _; rw [R0_form_12, r1_12, p_12]), rfl, rfl, r1_12, R0_e_12, R0_v_12, R0_form_12, r2_12, r1_12, r0_12, p_12, L_12⟩
      have h_secret_14 : h13[a_secret]? = some (cA 0 secret) := (fc13).get h_secret_12 (by omega)
      have h_form_14 : h13[a_form]? = some (cA 0 form) := (fc13).get h_form_12 (by omega)
      have h_mask_14 : h13[a_mask]? = some (cA 0 mask) := (fc13).get h_mask_12 (by omega)
      have hlen_14 : 70 ≤ h13.length := by rw [fc13.1]; exact hlen_12
      refine x_aload_n (dT U_L_areRuns 114 rfl) rfl ?_
      refine x_aload (dT U_L_areRuns 115 rfl) rfl ?_
      refine x_iload (dT U_L_areRuns 116 rfl) rfl ?_
      refine x_iload (dT U_L_areRuns 117 rfl) rfl ?_
      refine x_invokestatic (rc' := rc + 868) (rs' := rs + 7002) (rc2 := 0 + 9) (rs2 := 0 + 54) (As := [_, _, _, _]) (st := _) M_L_commits K_L_247 (dT U_L_areRuns 118 rfl) rfl rfl rfl rfl (Nat.le_of_ble_eq_true rfl) rfl (by decide) (Nat.le_of_ble_eq_true rfl) (by omega) (by omega) ?_
      refine S_L_commits w14 v14 p_14 h_mask_14 (by omega) Fl_mask (by omega) ?_
      refine xRet_some ?_
      refine x_i2l (dT U_L_areRuns 119 rfl) (xr_MM hpr) ?_
      refine x_lif_ne (tgt := 229) (dT U_L_areRuns 120 rfl) (dT U_L_areRuns 121 rfl) (by decide) (xrl_of hz13) (xrl_of (xr_MM hpr)) (fun c205 => ?_) (fun c205 => ?_)
      · skip
        exact c205 e13
      · skip
        refine x_aload_n (dT U_L_areRuns 122 rfl) rfl ?_
        refine x_iload (dT U_L_areRuns 123 rfl) rfl ?_
        refine x_iconst (dT U_L_areRuns 124 rfl) ?_
        refine x_invokestatic (rc' := rc + 866) (rs' := rs + 6990) (rc2 := 0 + 2) (rs2 := 0 + 12) (As := [_, _, _]) (st := _) M_L_told K_L_265 (dT U_L_areRuns 125 rfl) rfl rfl rfl rfl (Nat.le_of_ble_eq_true rfl) rfl (by decide) (Nat.le_of_ble_eq_true rfl) (by omega) (by omega) ?_
        refine S_L_told w14 v14 (by first | assumption | (unfold xr; omega)) (by first | assumption | (unfold xr; omega)) (fun  z8 => absurd (show inb _ _ from by omega) z8) (fun _ z8 => absurd (show inb _ _ from by omega) z8) (fun _ _ z15 e15 hz15 => ?_)
        refine xRet_some ?_
        have e15 : z15 = inn form mask % (p : Int) := by
          rw [e15, if_neg (by decide)]
          show (if 2 ≤ (σ14.R 0).st then (σ14.R 0).w else -1) = _
          rw [if_pos (by rw [R0_st_14]; decide), R0_w_14]
        refine x_aload (dT U_L_areRuns 126 rfl) rfl ?_
        refine x_aload (dT U_L_areRuns 127 rfl) rfl ?_
        refine x_iload_n (dT U_L_areRuns 128 rfl) rfl ?_
        refine x_invokestatic (rc' := rc + 866) (rs' := rs + 6990) (rc2 := 0 + 0) (rs2 := 0 + 0) (As := [_, _, _]) (st := _) M_L_inner K_L_257 (dT U_L_areRuns 129 rfl) rfl rfl rfl rfl (Nat.le_of_ble_eq_true rfl) rfl (by decide) (Nat.le_of_ble_eq_true rfl) (by omega) (by omega) ?_
        refine S_L_inner (by omega) h_form_14 (by omega) Fl_form h_mask_14 (by omega) Fl_mask ?_
        refine xRet_some ?_
        refine x_i2l (dT U_L_areRuns 130 rfl) (xr_md ⟨by omega, by omega⟩) ?_
        refine x_lif_eq (tgt := 231) (dT U_L_areRuns 131 rfl) (dT U_L_areRuns 132 rfl) (by decide) (xrl_of hz15) (xrl_of (xr_md ⟨by omega, by omega⟩)) (fun c225 => ?_) (fun c225 => ?_)
        · skip
          refine x_aload_n (dT U_L_areRuns 135 rfl) rfl ?_
          refine x_iload (dT U_L_areRuns 136 rfl) rfl ?_
          refine x_iload (dT U_L_areRuns 137 rfl) rfl ?_
          refine x_if_ne (tgt := 244) (dT U_L_areRuns 138 rfl) (by decide) (by unfold xr; omega) (fun c236 => ?_) (fun c236 => ?_)
          · skip
            exfalso; omega
          · skip
            refine x_iload (dT U_L_areRuns 139 rfl) rfl ?_
            refine x_goto (tgt := 246) (dT U_L_areRuns 140 rfl) (by decide) ?_
            refine x_invokestatic (rc' := rc + 863) (rs' := rs + 6972) (rc2 := 0 + 3) (rs2 := 0 + 18) (As := [_, _, _]) (st := _) M_L_dare K_L_267 (dT U_L_areRuns 142 rfl) rfl rfl rfl rfl (Nat.le_of_ble_eq_true rfl) rfl (by decide) (Nat.le_of_ble_eq_true rfl) (by omega) (by omega) ?_
            refine S_L_dare w14 v14 (by first | assumption | (unfold xr; omega)) (by first | assumption | (unfold xr; omega)) (fun  z8 => absurd (show inb _ _ from by omega) z8) (fun _ z8 => absurd (show inb _ _ from by have := p_14; omega) z8) (fun _ _ z8 => absurd (R0_st_14) z8) (fun _ _ _ z16 e16 hz16 h16 fc16 w_16 v_16 => ?_)
            refine xRet_some ?_
            have e16 : z16 = c := by
              exact e16
            obtain ⟨σ17, w17, v17, R0_st_17, R0_c_17, R0_fa_17, R0_w_17, R0_mb_17, R0_mk_17, R0_mask_17, R0_e_17, R0_v_17, R0_form_17, r2_17, r1_17, r0_17, p_17, L_17⟩ : ∃ σ17 : St, CW σ17 h16 ∧ INV σ17 ∧ (σ17.R 0).st = 3 ∧ (σ17.R 0).c = c ∧ (σ17.R 0).fa = cm p mask mb ∧ (σ17.R 0).w = inn form mask % (p : Int) ∧ (σ17.R 0).mb = mb ∧ (σ17.R 0).mk = true ∧ (σ17.R 0).mask = mask ∧ (σ17.R 0).e = cm p secret blind ∧ (σ17.R 0).v = vv ∧ (σ17.R 0).form = form ∧ σ17.rw 2 = form ∧ σ17.rw 1 = mask ∧ σ17.rw 0 = secret ∧ σ17.p = p ∧ σ17.L.n = n0 := ⟨_, w_16, v_16, rfl, rfl, R0_fa_14, R0_w_14, R0_mb_14, R0_mk_14, R0_mask_14, R0_e_14, R0_v_14, R0_form_14, r2_14, r1_14, r0_14, p_14, L_14⟩
            have h_secret_17 : h16[a_secret]? = some (cA 0 secret) := (fc16).get h_secret_14 (by omega)
            have h_form_17 : h16[a_form]? = some (cA 0 form) := (fc16).get h_form_14 (by omega)
            have h_mask_17 : h16[a_mask]? = some (cA 0 mask) := (fc16).get h_mask_14 (by omega)
            have hlen_17 : 70 ≤ h16.length := by rw [fc16.1]; exact hlen_14
            refine x_iload (dT U_L_areRuns 143 rfl) rfl ?_
            refine x_if_ne (tgt := 259) (dT U_L_areRuns 144 rfl) (by decide) (by unfold xr; omega) (fun c251 => ?_) (fun c251 => ?_)
            · skip
              exfalso; omega
            · skip
              refine x_iload (dT U_L_areRuns 145 rfl) rfl ?_
              refine x_goto (tgt := 261) (dT U_L_areRuns 146 rfl) (by decide) ?_
              refine x_i2l (dT U_L_areRuns 148 rfl) (by unfold xr; omega) ?_
              refine x_lif_ne (tgt := 311) (dT U_L_areRuns 149 rfl) (dT U_L_areRuns 150 rfl) (by decide) (xrl_of hz16) (xrl_of (by unfold xr; omega)) (fun c262 => ?_) (fun c262 => ?_)
              · skip
                exact c262 e16
              · skip
                refine x_aload_n (dT U_L_areRuns 151 rfl) rfl ?_
                refine x_iload (dT U_L_areRuns 152 rfl) rfl ?_
                refine x_iconst (dT U_L_areRuns 153 rfl) ?_
                refine x_iload (dT U_L_areRuns 154 rfl) rfl ?_
                refine x_invokestatic (rc' := rc + 858) (rs' := rs + 6942) (rc2 := 0 + 5) (rs2 := 0 + 30) (As := [_, _, _, _]) (st := _) M_L_reply K_L_269 (dT U_L_areRuns 155 rfl) rfl rfl rfl rfl (Nat.le_of_ble_eq_true rfl) rfl (by decide) (Nat.le_of_ble_eq_true rfl) (by omega) (by omega) ?_
                refine S_L_reply w17 v17 (by first | assumption | (unfold xr; omega)) (by first | assumption | (unfold xr; omega)) (by first | assumption | (unfold xr; omega)) (fun  z8 => absurd (show inb _ _ ∧ inb _ _ from by omega) z8) (fun _ z8 => absurd (show inb _ _ from by have := p_17; omega) z8) (fun _ _ z8 => absurd (⟨R0_mk_17, R0_st_17⟩) z8) (fun _ _ _ z18 e18 hz18 h18 fc18 w_18 v_18 => ?_)
                refine xRet_some ?_
                have e18 : z18 = (mb + c * blind) % (p : Int) := by
                  simp only [tn0, tn1, tn2, tn3, tn4, tn5, tn6, tn7, tn8, Int.toNat_natCast, p_17, R0_mb_17, R0_c_17] at e18; exact e18
                obtain ⟨σ19, w19, v19, R0_st_19, R0_t_19, R0_answer_19, R0_c_19, R0_fa_19, R0_w_19, R0_mb_19, R0_mk_19, R0_mask_19, R0_e_19, R0_v_19, R0_form_19, r2_19, r1_19, r0_19, p_19, L_19⟩ : ∃ σ19 : St, CW σ19 h18 ∧ INV σ19 ∧ (σ19.R 0).st = 4 ∧ (σ19.R 0).t = (mb + c * blind) % (p : Int) ∧ (σ19.R 0).answer = tab (fun j => (mask.getD j 0 + c * secret.getD j 0) % (p : Int)) 8 ∧ (σ19.R 0).c = c ∧ (σ19.R 0).fa = cm p mask mb ∧ (σ19.R 0).w = inn form mask % (p : Int) ∧ (σ19.R 0).mb = mb ∧ (σ19.R 0).mk = true ∧ (σ19.R 0).mask = mask ∧ (σ19.R 0).e = cm p secret blind ∧ (σ19.R 0).v = vv ∧ (σ19.R 0).form = form ∧ σ19.rw 2 = form ∧ σ19.rw 1 = mask ∧ σ19.rw 0 = secret ∧ σ19.p = p ∧ σ19.L.n = n0 := ⟨_, w_18, v_18, rfl, (by show ((σ17.R 0).mb + (σ17.R 0).c * _) % (σ17.p : Int) = _; rw [R0_mb_17, R0_c_17, p_17]), (by show tab (fun j => ((σ17.R 0).mask.getD j 0 + (σ17.R 0).c * (σ17.rw 0).getD j 0) % (σ17.p : Int)) 8 = _; rw [R0_mask_17, R0_c_17, r0_17, p_17]), R0_c_17, R0_fa_17, R0_w_17, R0_mb_17, R0_mk_17, R0_mask_17, R0_e_17, R0_v_17, R0_form_17, r2_17, r1_17, r0_17, p_17, L_17⟩
                have h_secret_19 : h18[a_secret]? = some (cA 0 secret) := (fc18).get h_secret_17 (by omega)
                have h_form_19 : h18[a_form]? = some (cA 0 form) := (fc18).get h_form_17 (by omega)
                have h_mask_19 : h18[a_mask]? = some (cA 0 mask) := (fc18).get h_mask_17 (by omega)
                have hlen_19 : 70 ≤ h18.length := by rw [fc18.1]; exact hlen_17
                refine x_iload (dT U_L_areRuns 156 rfl) rfl ?_
                refine x_iload (dT U_L_areRuns 157 rfl) rfl ?_
                refine x_if_ne (tgt := 287) (dT U_L_areRuns 158 rfl) (by decide) (by unfold xr; omega) (fun c279 => ?_) (fun c279 => ?_)
                · skip
                  exfalso; omega
                · skip
                  refine x_iload (dT U_L_areRuns 159 rfl) rfl ?_
                  refine x_goto (tgt := 289) (dT U_L_areRuns 160 rfl) (by decide) ?_
                  refine x_iload (dT U_L_areRuns 162 rfl) rfl ?_
                  refine x_imul (dT U_L_areRuns 163 rfl) ?_
                  refine x_iadd (dT U_L_areRuns 164 rfl) ?_
                  refine x_iload_n (dT U_L_areRuns 165 rfl) rfl ?_
                  refine x_irem (dT U_L_areRuns 166 rfl) (by unfold xr; omega) (by unfold xr; omega) (by omega) ?_
                  rw [Int.tmod_eq_emod_of_nonneg (by omega)]
                  refine x_i2l (dT U_L_areRuns 167 rfl) (xr_md ⟨by omega, by omega⟩) ?_
                  refine x_lif_ne (tgt := 311) (dT U_L_areRuns 168 rfl) (dT U_L_areRuns 169 rfl) (by decide) (xrl_of hz18) (xrl_of (xr_md ⟨by omega, by omega⟩)) (fun c296 => ?_) (fun c296 => ?_)
                  · skip
                    exact c296 e18
                  · skip
                    refine x_aload_n (dT U_L_areRuns 170 rfl) rfl ?_
                    refine x_iload (dT U_L_areRuns 171 rfl) rfl ?_
                    refine x_invokestatic (rc' := rc + 857) (rs' := rs + 6936) (rc2 := 0 + 1) (rs2 := 0 + 6) (As := [_, _]) (st := _) M_L_isAccepted K_L_271 (dT U_L_areRuns 172 rfl) rfl rfl rfl rfl (Nat.le_of_ble_eq_true rfl) rfl (by decide) (Nat.le_of_ble_eq_true rfl) (by omega) (by omega) ?_
                    refine S_L_isAccepted w19 v19 (by first | assumption | (unfold xr; omega)) (fun  z8 => absurd (show inb _ _ from by omega) z8) (fun _ _ => ?_) (fun _ z8 => absurd ((by rw [p_19]; exact acc_ok R0_st_19 R0_e_19 (R0_v_19.trans e_vv.symm) R0_form_19 R0_fa_19 R0_w_19 R0_c_19 R0_t_19 R0_answer_19)) z8)
                    refine xRet_some ?_
                    refine x_lconst (z := 1) (dT U_L_areRuns 173 rfl) rfl ?_
                    refine x_lif_eq (tgt := 313) (dT U_L_areRuns 174 rfl) (dT U_L_areRuns 175 rfl) (by decide) (xrl_of (by unfold xr; omega)) (xrl_of (by unfold xr; omega)) (fun c307 => ?_) (fun c307 => ?_)
                    · skip
                      refine x_iconst (dT U_L_areRuns 178 rfl) ?_
                      refine x_istore (ls' := [some (.ref _), some (.ref _), some (vi _), some (vi _), some (vi _), some (.ref _), some (.ref _), some (.ref _), some (vi _), some (vi _), some (vi _), some (vi _), some (vi _), some (vi _), some (vi _), some (vi _)]) (dT U_L_areRuns 179 rfl) (by decide) rfl ?_
                      have L21 : ∀ (n9 i : Nat), i + n9 = 8 → ∀ (h21 : xH) (ex21 : Bool) (σ21 : St), CW σ21 h21 → INV σ21 → 70 ≤ h21.length → (σ21.R 0).st = 4 → (σ21.R 0).t = (mb + c * blind) % (p : Int) → (σ21.R 0).answer = tab (fun j => (mask.getD j 0 + c * secret.getD j 0) % (p : Int)) 8 → (σ21.R 0).c = c → (σ21.R 0).fa = cm p mask mb → (σ21.R 0).w = inn form mask % (p : Int) → (σ21.R 0).mb = mb → (σ21.R 0).mk = true → (σ21.R 0).mask = mask → (σ21.R 0).e = cm p secret blind → (σ21.R 0).v = vv → (σ21.R 0).form = form → σ21.rw 2 = form → σ21.rw 1 = mask → σ21.rw 0 = secret → σ21.p = p → σ21.L.n = n0 → h21[a_secret]? = some (cA 0 secret) → h21[a_form]? = some (cA 0 form) → h21[a_mask]? = some (cA 0 mask) → X G m_L_areRuns (d + 10) (rc + 600 + 6 * n9) (rs + 4800 + 36 * n9) ex21 316 [some (.ref 3), some (.ref 0), some (vi (f : Int)), some (vi (p : Int)), some (vi (gq p : Int)), some (.ref a_secret), some (.ref a_form), some (.ref a_mask), some (vi blind), some (vi mb), some (vi c), some (vi dd), some (vi y), some (vi vv), some (vi 0), some (vi (i : Int))] [] h21 Q := by
                        intro n9
                        induction n9 with
                        | zero =>
                          intro i hi9 h21 ex21 σ21 w21 v21 hlen_21 R0_st_21 R0_t_21 R0_answer_21 R0_c_21 R0_fa_21 R0_w_21 R0_mb_21 R0_mk_21 R0_mask_21 R0_e_21 R0_v_21 R0_form_21 r2_21 r1_21 r0_21 p_21 L_21 h_secret_21 h_form_21 h_mask_21
                          refine x_iload (dT U_L_areRuns 180 rfl) rfl ?_
                          refine x_bipush (dT U_L_areRuns 181 rfl) (by decide) ?_
                          refine x_icmp_ge (tgt := 371) (dT U_L_areRuns 182 rfl) (by decide) (by first | assumption | (unfold xr; omega)) (by unfold xr; omega) (fun c320 => ?_) (fun c320 => ?_)
                          · skip
                            refine x_iinc (ls' := [some (.ref _), some (.ref _), some (vi _), some (vi _), some (vi _), some (.ref _), some (.ref _), some (.ref _), some (vi _), some (vi _), some (vi _), some (vi _), some (vi _), some (vi _), some (vi _), some (vi _)]) (dT U_L_areRuns 210 rfl) (by decide) rfl rfl ?_
                            rw [show ((0 : Int) + 1) = 1 from rfl]
                            refine x_goto (tgt := 161) (dT U_L_areRuns 211 rfl) (by decide) ?_
                            refine x_iload (dT U_L_areRuns 96 rfl) rfl ?_
                            refine x_iconst (dT U_L_areRuns 97 rfl) ?_
                            refine x_icmp_ge (tgt := 377) (dT U_L_areRuns 98 rfl) (by decide) (by unfold xr; omega) (by unfold xr; omega) (fun c164 => ?_) (fun c164 => ?_)
                            · skip
                              exfalso; omega
                            · skip
                              refine x_aload_n (dT U_L_areRuns 99 rfl) rfl ?_
                              refine x_iload (dT U_L_areRuns 100 rfl) rfl ?_
                              refine x_iload (dT U_L_areRuns 101 rfl) rfl ?_
                              refine x_iconst (dT U_L_areRuns 102 rfl) ?_
                              refine x_iload (dT U_L_areRuns 103 rfl) rfl ?_
                              refine x_invokestatic (rc' := rc + 596) (rs' := rs + 4776) (rc2 := 0 + 4) (rs2 := 0 + 24) (As := [_, _, _, _, _]) (st := _) M_L_state K_L_261 (dT U_L_areRuns 104 rfl) rfl rfl rfl rfl (Nat.le_of_ble_eq_true rfl) rfl (by decide) (Nat.le_of_ble_eq_true rfl) (by omega) (by omega) ?_
                              refine S_L_state w21 v21 (by first | assumption | (unfold xr; omega)) (by first | assumption | (unfold xr; omega)) (by first | assumption | (unfold xr; omega)) (by first | assumption | (unfold xr; omega)) (fun  z8 => absurd (show inb _ _ ∧ inb _ _ from by omega) z8) (fun _ z8 => absurd (show _ ∧ inb _ _ from ⟨by rw [p_21, ← e_y, exI_MM hpr hcS]; omega, by have := p_21; omega⟩) z8) (fun _ _ z22 e22 hz22 h22 fc22 w_22 v_22 => ?_)
                              refine xRet_some ?_
                              have e22 : z22 = y := by
                                exact e22
                              obtain ⟨σ23, w23, v23, R1_st_23, R1_e_23, R1_v_23, R1_form_23, R0_st_23, R0_t_23, R0_answer_23, R0_c_23, R0_fa_23, R0_w_23, R0_mb_23, R0_mk_23, R0_mask_23, R0_e_23, R0_v_23, R0_form_23, r2_23, r1_23, r0_23, p_23, L_23⟩ : ∃ σ23 : St, CW σ23 h22 ∧ INV σ23 ∧ (σ23.R 1).st = 1 ∧ (σ23.R 1).e = cm p secret blind ∧ (σ23.R 1).v = vv ∧ (σ23.R 1).form = form ∧ (σ23.R 0).st = 4 ∧ (σ23.R 0).t = (mb + c * blind) % (p : Int) ∧ (σ23.R 0).answer = tab (fun j => (mask.getD j 0 + c * secret.getD j 0) % (p : Int)) 8 ∧ (σ23.R 0).c = c ∧ (σ23.R 0).fa = cm p mask mb ∧ (σ23.R 0).w = inn form mask % (p : Int) ∧ (σ23.R 0).mb = mb ∧ (σ23.R 0).mk = true ∧ (σ23.R 0).mask = mask ∧ (σ23.R 0).e = cm p secret blind ∧ (σ23.R 0).v = vv ∧ (σ23.R 0).form = form ∧ σ23.rw 2 = form ∧ σ23.rw 1 = mask ∧ σ23.rw 0 = secret ∧ σ23.p = p ∧ σ23.L.n = n0 := ⟨_, w_22, v_22, rfl, (by show exI σ21.p y = _; rw [p_21, ← e_y, exI_MM hpr hcS]), rfl, r2_21, R0_st_21, R0_t_21, R0_answer_21, R0_c_21, R0_fa_21, R0_w_21, R0_mb_21, R0_mk_21, R0_mask_21, R0_e_21, R0_v_21, R0_form_21, r2_21, r1_21, r0_21, p_21, L_21⟩
                              have h_secret_23 : h22[a_secret]? = some (cA 0 secret) := (fc22).get h_secret_21 (by omega)
                              have h_form_23 : h22[a_form]? = some (cA 0 form) := (fc22).get h_form_21 (by omega)
                              have h_mask_23 : h22[a_mask]? = some (cA 0 mask) := (fc22).get h_mask_21 (by omega)
                              have hlen_23 : 70 ≤ h22.length := by rw [fc22.1]; exact hlen_21
                              refine x_iload (dT U_L_areRuns 105 rfl) rfl ?_
                              refine x_i2l (dT U_L_areRuns 106 rfl) hz_y ?_
                              refine x_lif_ne (tgt := 229) (dT U_L_areRuns 107 rfl) (dT U_L_areRuns 108 rfl) (by decide) (xrl_of hz22) (xrl_of hz_y) (fun c181 => ?_) (fun c181 => ?_)
                              · skip
                                exact c181 e22
                              · skip
                                refine x_aload_n (dT U_L_areRuns 109 rfl) rfl ?_
                                refine x_iload (dT U_L_areRuns 110 rfl) rfl ?_
                                refine x_iconst (dT U_L_areRuns 111 rfl) ?_
                                refine x_iload (dT U_L_areRuns 112 rfl) rfl ?_
                                refine x_invokestatic (rc' := rc + 592) (rs' := rs + 4752) (rc2 := 0 + 4) (rs2 := 0 + 24) (As := [_, _, _, _]) (st := _) M_L_open K_L_263 (dT U_L_areRuns 113 rfl) rfl rfl rfl rfl (Nat.le_of_ble_eq_true rfl) rfl (by decide) (Nat.le_of_ble_eq_true rfl) (by omega) (by omega) ?_
                                refine S_L_open w23 v23 (by first | assumption | (unfold xr; omega)) (by first | assumption | (unfold xr; omega)) (by first | assumption | (unfold xr; omega)) (fun  z8 => absurd (show inb _ _ ∧ inb _ _ from by omega) z8) (fun _ z8 => absurd (show inb _ _ from by have := p_23; omega) z8) (fun _ _ z8 => absurd (R1_st_23) z8) (fun _ _ _ z24 e24 hz24 h24 fc24 w_24 v_24 => ?_)
                                refine xRet_some ?_
                                have e24 : z24 = MM p (cm p mask mb) := by
                                  simp only [tn0, tn1, tn2, tn3, tn4, tn5, tn6, tn7, tn8, Int.toNat_natCast, p_23, r1_23] at e24; exact e24
                                obtain ⟨σ25, w25, v25, R1_st_25, R1_fa_25, R1_w_25, R1_mb_25, R1_mk_25, R1_mask_25, R1_e_25, R1_v_25, R1_form_25, R0_st_25, R0_t_25, R0_answer_25, R0_c_25, R0_fa_25, R0_w_25, R0_mb_25, R0_mk_25, R0_mask_25, R0_e_25, R0_v_25, R0_form_25, r2_25, r1_25, r0_25, p_25, L_25⟩ : ∃ σ25 : St, CW σ25 h24 ∧ INV σ25 ∧ (σ25.R 1).st = 2 ∧ (σ25.R 1).fa = cm p mask mb ∧ (σ25.R 1).w = inn form mask % (p : Int) ∧ (σ25.R 1).mb = mb ∧ (σ25.R 1).mk = true ∧ (σ25.R 1).mask = mask ∧ (σ25.R 1).e = cm p secret blind ∧ (σ25.R 1).v = vv ∧ (σ25.R 1).form = form ∧ (σ25.R 0).st = 4 ∧ (σ25.R 0).t = (mb + c * blind) % (p : Int) ∧ (σ25.R 0).answer = tab (fun j => (mask.getD j 0 + c * secret.getD j 0) % (p : Int)) 8 ∧ (σ25.R 0).c = c ∧ (σ25.R 0).fa = cm p mask mb ∧ (σ25.R 0).w = inn form mask % (p : Int) ∧ (σ25.R 0).mb = mb ∧ (σ25.R 0).mk = true ∧ (σ25.R 0).mask = mask ∧ (σ25.R 0).e = cm p secret blind ∧ (σ25.R 0).v = vv ∧ (σ25.R 0).form = form ∧ σ25.rw 2 = form ∧ σ25.rw 1 = mask ∧ σ25.rw 0 = secret ∧ σ25.p = p ∧ σ25.L.n = n0 := ⟨_, w_24, v_24, rfl, (by show cm σ23.p (σ23.rw 1) _ = _; rw [p_23, r1_23]), (by show inn (σ23.R 1).form (σ23.rw 1) % (σ23.p : Int) = _; rw [R1_form_23, r1_23, p_23]), rfl, rfl, r1_23, R1_e_23, R1_v_23, R1_form_23, R0_st_23, R0_t_23, R0_answer_23, R0_c_23, R0_fa_23, R0_w_23, R0_mb_23, R0_mk_23, R0_mask_23, R0_e_23, R0_v_23, R0_form_23, r2_23, r1_23, r0_23, p_23, L_23⟩
                                have h_secret_25 : h24[a_secret]? = some (cA 0 secret) := (fc24).get h_secret_23 (by omega)
                                have h_form_25 : h24[a_form]? = some (cA 0 form) := (fc24).get h_form_23 (by omega)
                                have h_mask_25 : h24[a_mask]? = some (cA 0 mask) := (fc24).get h_mask_23 (by omega)
                                have hlen_25 : 70 ≤ h24.length := by rw [fc24.1]; exact hlen_23
                                refine x_aload_n (dT U_L_areRuns 114 rfl) rfl ?_
                                refine x_aload (dT U_L_areRuns 115 rfl) rfl ?_
                                refine x_iload (dT U_L_areRuns 116 rfl) rfl ?_
                                refine x_iload (dT U_L_areRuns 117 rfl) rfl ?_
                                refine x_invokestatic (rc' := rc + 583) (rs' := rs + 4698) (rc2 := 0 + 9) (rs2 := 0 + 54) (As := [_, _, _, _]) (st := _) M_L_commits K_L_247 (dT U_L_areRuns 118 rfl) rfl rfl rfl rfl (Nat.le_of_ble_eq_true rfl) rfl (by decide) (Nat.le_of_ble_eq_true rfl) (by omega) (by omega) ?_
                                refine S_L_commits w25 v25 p_25 h_mask_25 (by omega) Fl_mask (by omega) ?_
                                refine xRet_some ?_
                                refine x_i2l (dT U_L_areRuns 119 rfl) (xr_MM hpr) ?_
                                refine x_lif_ne (tgt := 229) (dT U_L_areRuns 120 rfl) (dT U_L_areRuns 121 rfl) (by decide) (xrl_of hz24) (xrl_of (xr_MM hpr)) (fun c205 => ?_) (fun c205 => ?_)
                                · skip
                                  exact c205 e24
                                · skip
                                  refine x_aload_n (dT U_L_areRuns 122 rfl) rfl ?_
                                  refine x_iload (dT U_L_areRuns 123 rfl) rfl ?_
                                  refine x_iconst (dT U_L_areRuns 124 rfl) ?_
                                  refine x_invokestatic (rc' := rc + 581) (rs' := rs + 4686) (rc2 := 0 + 2) (rs2 := 0 + 12) (As := [_, _, _]) (st := _) M_L_told K_L_265 (dT U_L_areRuns 125 rfl) rfl rfl rfl rfl (Nat.le_of_ble_eq_true rfl) rfl (by decide) (Nat.le_of_ble_eq_true rfl) (by omega) (by omega) ?_
                                  refine S_L_told w25 v25 (by first | assumption | (unfold xr; omega)) (by first | assumption | (unfold xr; omega)) (fun  z8 => absurd (show inb _ _ from by omega) z8) (fun _ z8 => absurd (show inb _ _ from by omega) z8) (fun _ _ z26 e26 hz26 => ?_)
                                  refine xRet_some ?_
                                  have e26 : z26 = inn form mask % (p : Int) := by
                                    rw [e26, if_neg (by decide)]
                                    show (if 2 ≤ (σ25.R 1).st then (σ25.R 1).w else -1) = _
                                    rw [if_pos (by rw [R1_st_25]; decide), R1_w_25]
                                  refine x_aload (dT U_L_areRuns 126 rfl) rfl ?_
                                  refine x_aload (dT U_L_areRuns 127 rfl) rfl ?_
                                  refine x_iload_n (dT U_L_areRuns 128 rfl) rfl ?_
                                  refine x_invokestatic (rc' := rc + 581) (rs' := rs + 4686) (rc2 := 0 + 0) (rs2 := 0 + 0) (As := [_, _, _]) (st := _) M_L_inner K_L_257 (dT U_L_areRuns 129 rfl) rfl rfl rfl rfl (Nat.le_of_ble_eq_true rfl) rfl (by decide) (Nat.le_of_ble_eq_true rfl) (by omega) (by omega) ?_
                                  refine S_L_inner (by omega) h_form_25 (by omega) Fl_form h_mask_25 (by omega) Fl_mask ?_
                                  refine xRet_some ?_
                                  refine x_i2l (dT U_L_areRuns 130 rfl) (xr_md ⟨by omega, by omega⟩) ?_
                                  refine x_lif_eq (tgt := 231) (dT U_L_areRuns 131 rfl) (dT U_L_areRuns 132 rfl) (by decide) (xrl_of hz26) (xrl_of (xr_md ⟨by omega, by omega⟩)) (fun c225 => ?_) (fun c225 => ?_)
                                  · skip
                                    refine x_aload_n (dT U_L_areRuns 135 rfl) rfl ?_
                                    refine x_iload (dT U_L_areRuns 136 rfl) rfl ?_
                                    refine x_iload (dT U_L_areRuns 137 rfl) rfl ?_
                                    refine x_if_ne (tgt := 244) (dT U_L_areRuns 138 rfl) (by decide) (by unfold xr; omega) (fun c236 => ?_) (fun c236 => ?_)
                                    · skip
                                      refine x_iload (dT U_L_areRuns 141 rfl) rfl ?_
                                      refine x_invokestatic (rc' := rc + 578) (rs' := rs + 4668) (rc2 := 0 + 3) (rs2 := 0 + 18) (As := [_, _, _]) (st := _) M_L_dare K_L_267 (dT U_L_areRuns 142 rfl) rfl rfl rfl rfl (Nat.le_of_ble_eq_true rfl) rfl (by decide) (Nat.le_of_ble_eq_true rfl) (by omega) (by omega) ?_
                                      refine S_L_dare w25 v25 (by first | assumption | (unfold xr; omega)) (by first | assumption | (unfold xr; omega)) (fun  z8 => absurd (show inb _ _ from by omega) z8) (fun _ z8 => absurd (show inb _ _ from by have := p_25; omega) z8) (fun _ _ z8 => absurd (R1_st_25) z8) (fun _ _ _ z27 e27 hz27 h27 fc27 w_27 v_27 => ?_)
                                      refine xRet_some ?_
                                      have e27 : z27 = dd := by
                                        exact e27
                                      obtain ⟨σ28, w28, v28, R1_st_28, R1_c_28, R1_fa_28, R1_w_28, R1_mb_28, R1_mk_28, R1_mask_28, R1_e_28, R1_v_28, R1_form_28, R0_st_28, R0_t_28, R0_answer_28, R0_c_28, R0_fa_28, R0_w_28, R0_mb_28, R0_mk_28, R0_mask_28, R0_e_28, R0_v_28, R0_form_28, r2_28, r1_28, r0_28, p_28, L_28⟩ : ∃ σ28 : St, CW σ28 h27 ∧ INV σ28 ∧ (σ28.R 1).st = 3 ∧ (σ28.R 1).c = dd ∧ (σ28.R 1).fa = cm p mask mb ∧ (σ28.R 1).w = inn form mask % (p : Int) ∧ (σ28.R 1).mb = mb ∧ (σ28.R 1).mk = true ∧ (σ28.R 1).mask = mask ∧ (σ28.R 1).e = cm p secret blind ∧ (σ28.R 1).v = vv ∧ (σ28.R 1).form = form ∧ (σ28.R 0).st = 4 ∧ (σ28.R 0).t = (mb + c * blind) % (p : Int) ∧ (σ28.R 0).answer = tab (fun j => (mask.getD j 0 + c * secret.getD j 0) % (p : Int)) 8 ∧ (σ28.R 0).c = c ∧ (σ28.R 0).fa = cm p mask mb ∧ (σ28.R 0).w = inn form mask % (p : Int) ∧ (σ28.R 0).mb = mb ∧ (σ28.R 0).mk = true ∧ (σ28.R 0).mask = mask ∧ (σ28.R 0).e = cm p secret blind ∧ (σ28.R 0).v = vv ∧ (σ28.R 0).form = form ∧ σ28.rw 2 = form ∧ σ28.rw 1 = mask ∧ σ28.rw 0 = secret ∧ σ28.p = p ∧ σ28.L.n = n0 := ⟨_, w_27, v_27, rfl, rfl, R1_fa_25, R1_w_25, R1_mb_25, R1_mk_25, R1_mask_25, R1_e_25, R1_v_25, R1_form_25, R0_st_25, R0_t_25, R0_answer_25, R0_c_25, R0_fa_25, R0_w_25, R0_mb_25, R0_mk_25, R0_mask_25, R0_e_25, R0_v_25, R0_form_25, r2_25, r1_25, r0_25, p_25, L_25⟩
                                      have h_secret_28 : h27[a_secret]? = some (cA 0 secret) := (fc27).get h_secret_25 (by omega)
                                      have h_form_28 : h27[a_form]? = some (cA 0 form) := (fc27).get h_form_25 (by omega)
                                      have h_mask_28 : h27[a_mask]? = some (cA 0 mask) := (fc27).get h_mask_25 (by omega)
                                      have hlen_28 : 70 ≤ h27.length := by rw [fc27.1]; exact hlen_25
                                      refine x_iload (dT U_L_areRuns 143 rfl) rfl ?_
                                      refine x_if_ne (tgt := 259) (dT U_L_areRuns 144 rfl) (by decide) (by unfold xr; omega) (fun c251 => ?_) (fun c251 => ?_)
                                      · skip
                                        refine x_iload (dT U_L_areRuns 147 rfl) rfl ?_
                                        refine x_i2l (dT U_L_areRuns 148 rfl) (by first | assumption | (unfold xr; omega)) ?_
                                        refine x_lif_ne (tgt := 311) (dT U_L_areRuns 149 rfl) (dT U_L_areRuns 150 rfl) (by decide) (xrl_of hz27) (xrl_of (by first | assumption | (unfold xr; omega))) (fun c262 => ?_) (fun c262 => ?_)
                                        · skip
                                          exact c262 e27
                                        · skip
                                          refine x_aload_n (dT U_L_areRuns 151 rfl) rfl ?_
                                          refine x_iload (dT U_L_areRuns 152 rfl) rfl ?_
                                          refine x_iconst (dT U_L_areRuns 153 rfl) ?_
                                          refine x_iload (dT U_L_areRuns 154 rfl) rfl ?_
                                          refine x_invokestatic (rc' := rc + 573) (rs' := rs + 4638) (rc2 := 0 + 5) (rs2 := 0 + 30) (As := [_, _, _, _]) (st := _) M_L_reply K_L_269 (dT U_L_areRuns 155 rfl) rfl rfl rfl rfl (Nat.le_of_ble_eq_true rfl) rfl (by decide) (Nat.le_of_ble_eq_true rfl) (by omega) (by omega) ?_
                                          refine S_L_reply w28 v28 (by first | assumption | (unfold xr; omega)) (by first | assumption | (unfold xr; omega)) (by first | assumption | (unfold xr; omega)) (fun  z8 => absurd (show inb _ _ ∧ inb _ _ from by omega) z8) (fun _ z8 => absurd (show inb _ _ from by have := p_28; omega) z8) (fun _ _ z8 => absurd (⟨R1_mk_28, R1_st_28⟩) z8) (fun _ _ _ z29 e29 hz29 h29 fc29 w_29 v_29 => ?_)
                                          refine xRet_some ?_
                                          have e29 : z29 = (mb + dd * blind) % (p : Int) := by
                                            simp only [tn0, tn1, tn2, tn3, tn4, tn5, tn6, tn7, tn8, Int.toNat_natCast, p_28, R1_mb_28, R1_c_28] at e29; exact e29
                                          obtain ⟨σ30, w30, v30, R1_st_30, R1_t_30, R1_answer_30, R1_c_30, R1_fa_30, R1_w_30, R1_mb_30, R1_mk_30, R1_mask_30, R1_e_30, R1_v_30, R1_form_30, R0_st_30, R0_t_30, R0_answer_30, R0_c_30, R0_fa_30, R0_w_30, R0_mb_30, R0_mk_30, R0_mask_30, R0_e_30, R0_v_30, R0_form_30, r2_30, r1_30, r0_30, p_30, L_30⟩ : ∃ σ30 : St, CW σ30 h29 ∧ INV σ30 ∧ (σ30.R 1).st = 4 ∧ (σ30.R 1).t = (mb + dd * blind) % (p : Int) ∧ (σ30.R 1).answer = tab (fun j => (mask.getD j 0 + dd * secret.getD j 0) % (p : Int)) 8 ∧ (σ30.R 1).c = dd ∧ (σ30.R 1).fa = cm p mask mb ∧ (σ30.R 1).w = inn form mask % (p : Int) ∧ (σ30.R 1).mb = mb ∧ (σ30.R 1).mk = true ∧ (σ30.R 1).mask = mask ∧ (σ30.R 1).e = cm p secret blind ∧ (σ30.R 1).v = vv ∧ (σ30.R 1).form = form ∧ (σ30.R 0).st = 4 ∧ (σ30.R 0).t = (mb + c * blind) % (p : Int) ∧ (σ30.R 0).answer = tab (fun j => (mask.getD j 0 + c * secret.getD j 0) % (p : Int)) 8 ∧ (σ30.R 0).c = c ∧ (σ30.R 0).fa = cm p mask mb ∧ (σ30.R 0).w = inn form mask % (p : Int) ∧ (σ30.R 0).mb = mb ∧ (σ30.R 0).mk = true ∧ (σ30.R 0).mask = mask ∧ (σ30.R 0).e = cm p secret blind ∧ (σ30.R 0).v = vv ∧ (σ30.R 0).form = form ∧ σ30.rw 2 = form ∧ σ30.rw 1 = mask ∧ σ30.rw 0 = secret ∧ σ30.p = p ∧ σ30.L.n = n0 := ⟨_, w_29, v_29, rfl, (by show ((σ28.R 1).mb + (σ28.R 1).c * _) % (σ28.p : Int) = _; rw [R1_mb_28, R1_c_28, p_28]), (by show tab (fun j => ((σ28.R 1).mask.getD j 0 + (σ28.R 1).c * (σ28.rw 0).getD j 0) % (σ28.p : Int)) 8 = _; rw [R1_mask_28, R1_c_28, r0_28, p_28]), R1_c_28, R1_fa_28, R1_w_28, R1_mb_28, R1_mk_28, R1_mask_28, R1_e_28, R1_v_28, R1_form_28, R0_st_28, R0_t_28, R0_answer_28, R0_c_28, R0_fa_28, R0_w_28, R0_mb_28, R0_mk_28, R0_mask_28, R0_e_28, R0_v_28, R0_form_28, r2_28, r1_28, r0_28, p_28, L_28⟩
                                          have h_secret_30 : h29[a_secret]? = some (cA 0 secret) := (fc29).get h_secret_28 (by omega)
                                          have h_form_30 : h29[a_form]? = some (cA 0 form) := (fc29).get h_form_28 (by omega)
                                          have h_mask_30 : h29[a_mask]? = some (cA 0 mask) := (fc29).get h_mask_28 (by omega)
                                          have hlen_30 : 70 ≤ h29.length := by rw [fc29.1]; exact hlen_28
                                          refine x_iload (dT U_L_areRuns 156 rfl) rfl ?_
                                          refine x_iload (dT U_L_areRuns 157 rfl) rfl ?_
                                          refine x_if_ne (tgt := 287) (dT U_L_areRuns 158 rfl) (by decide) (by unfold xr; omega) (fun c279 => ?_) (fun c279 => ?_)
                                          · skip
                                            refine x_iload (dT U_L_areRuns 161 rfl) rfl ?_
                                            refine x_iload (dT U_L_areRuns 162 rfl) rfl ?_
                                            refine x_imul (dT U_L_areRuns 163 rfl) ?_
                                            refine x_iadd (dT U_L_areRuns 164 rfl) ?_
                                            refine x_iload_n (dT U_L_areRuns 165 rfl) rfl ?_
                                            refine x_irem (dT U_L_areRuns 166 rfl) (by unfold xr; omega) (by unfold xr; omega) (by omega) ?_
                                            rw [Int.tmod_eq_emod_of_nonneg (by omega)]
                                            refine x_i2l (dT U_L_areRuns 167 rfl) (xr_md ⟨by omega, by omega⟩) ?_
                                            refine x_lif_ne (tgt := 311) (dT U_L_areRuns 168 rfl) (dT U_L_areRuns 169 rfl) (by decide) (xrl_of hz29) (xrl_of (xr_md ⟨by omega, by omega⟩)) (fun c296 => ?_) (fun c296 => ?_)
                                            · skip
                                              exact c296 e29
                                            · skip
                                              refine x_aload_n (dT U_L_areRuns 170 rfl) rfl ?_
                                              refine x_iload (dT U_L_areRuns 171 rfl) rfl ?_
                                              refine x_invokestatic (rc' := rc + 572) (rs' := rs + 4632) (rc2 := 0 + 1) (rs2 := 0 + 6) (As := [_, _]) (st := _) M_L_isAccepted K_L_271 (dT U_L_areRuns 172 rfl) rfl rfl rfl rfl (Nat.le_of_ble_eq_true rfl) rfl (by decide) (Nat.le_of_ble_eq_true rfl) (by omega) (by omega) ?_
                                              refine S_L_isAccepted w30 v30 (by first | assumption | (unfold xr; omega)) (fun  z8 => absurd (show inb _ _ from by omega) z8) (fun _ _ => ?_) (fun _ z8 => absurd ((by rw [p_30]; exact acc_ok R1_st_30 R1_e_30 (R1_v_30.trans e_vv.symm) R1_form_30 R1_fa_30 R1_w_30 R1_c_30 R1_t_30 R1_answer_30)) z8)
                                              refine xRet_some ?_
                                              refine x_lconst (z := 1) (dT U_L_areRuns 173 rfl) rfl ?_
                                              refine x_lif_eq (tgt := 313) (dT U_L_areRuns 174 rfl) (dT U_L_areRuns 175 rfl) (by decide) (xrl_of (by unfold xr; omega)) (xrl_of (by unfold xr; omega)) (fun c307 => ?_) (fun c307 => ?_)
                                              · skip
                                                refine x_iconst (dT U_L_areRuns 178 rfl) ?_
                                                refine x_istore (ls' := [some (.ref _), some (.ref _), some (vi _), some (vi _), some (vi _), some (.ref _), some (.ref _), some (.ref _), some (vi _), some (vi _), some (vi _), some (vi _), some (vi _), some (vi _), some (vi _), some (vi _)]) (dT U_L_areRuns 179 rfl) (by decide) rfl ?_
                                                have L32 : ∀ (n9 i : Nat), i + n9 = 8 → ∀ (h32 : xH) (ex32 : Bool) (σ32 : St), CW σ32 h32 → INV σ32 → 70 ≤ h32.length → (σ32.R 1).st = 4 → (σ32.R 1).t = (mb + dd * blind) % (p : Int) → (σ32.R 1).answer = tab (fun j => (mask.getD j 0 + dd * secret.getD j 0) % (p : Int)) 8 → (σ32.R 1).c = dd → (σ32.R 1).fa = cm p mask mb → (σ32.R 1).w = inn form mask % (p : Int) → (σ32.R 1).mb = mb → (σ32.R 1).mk = true → (σ32.R 1).mask = mask → (σ32.R 1).e = cm p secret blind → (σ32.R 1).v = vv → (σ32.R 1).form = form → (σ32.R 0).st = 4 → (σ32.R 0).t = (mb + c * blind) % (p : Int) → (σ32.R 0).answer = tab (fun j => (mask.getD j 0 + c * secret.getD j 0) % (p : Int)) 8 → (σ32.R 0).c = c → (σ32.R 0).fa = cm p mask mb → (σ32.R 0).w = inn form mask % (p : Int) → (σ32.R 0).mb = mb → (σ32.R 0).mk = true → (σ32.R 0).mask = mask → (σ32.R 0).e = cm p secret blind → (σ32.R 0).v = vv → (σ32.R 0).form = form → σ32.rw 2 = form → σ32.rw 1 = mask → σ32.rw 0 = secret → σ32.p = p → σ32.L.n = n0 → h32[a_secret]? = some (cA 0 secret) → h32[a_form]? = some (cA 0 form) → h32[a_mask]? = some (cA 0 mask) → X G m_L_areRuns (d + 10) (rc + 300 + 6 * n9) (rs + 2400 + 36 * n9) ex32 316 [some (.ref 3), some (.ref 0), some (vi (f : Int)), some (vi (p : Int)), some (vi (gq p : Int)), some (.ref a_secret), some (.ref a_form), some (.ref a_mask), some (vi blind), some (vi mb), some (vi c), some (vi dd), some (vi y), some (vi vv), some (vi 1), some (vi (i : Int))] [] h32 Q := by
                                                  intro n9
                                                  induction n9 with
                                                  | zero =>
                                                    intro i hi9 h32 ex32 σ32 w32 v32 hlen_32 R1_st_32 R1_t_32 R1_answer_32 R1_c_32 R1_fa_32 R1_w_32 R1_mb_32 R1_mk_32 R1_mask_32 R1_e_32 R1_v_32 R1_form_32 R0_st_32 R0_t_32 R0_answer_32 R0_c_32 R0_fa_32 R0_w_32 R0_mb_32 R0_mk_32 R0_mask_32 R0_e_32 R0_v_32 R0_form_32 r2_32 r1_32 r0_32 p_32 L_32 h_secret_32 h_form_32 h_mask_32
                                                    refine x_iload (dT U_L_areRuns 180 rfl) rfl ?_
                                                    refine x_bipush (dT U_L_areRuns 181 rfl) (by decide) ?_
                                                    refine x_icmp_ge (tgt := 371) (dT U_L_areRuns 182 rfl) (by decide) (by first | assumption | (unfold xr; omega)) (by unfold xr; omega) (fun c320 => ?_) (fun c320 => ?_)
                                                    · skip
                                                      refine x_iinc (ls' := [some (.ref _), some (.ref _), some (vi _), some (vi _), some (vi _), some (.ref _), some (.ref _), some (.ref _), some (vi _), some (vi _), some (vi _), some (vi _), some (vi _), some (vi _), some (vi _), some (vi _)]) (dT U_L_areRuns 210 rfl) (by decide) rfl rfl ?_
                                                      rw [show ((1 : Int) + 1) = 2 from rfl]
                                                      refine x_goto (tgt := 161) (dT U_L_areRuns 211 rfl) (by decide) ?_
                                                      refine x_iload (dT U_L_areRuns 96 rfl) rfl ?_
                                                      refine x_iconst (dT U_L_areRuns 97 rfl) ?_
                                                      refine x_icmp_ge (tgt := 377) (dT U_L_areRuns 98 rfl) (by decide) (by unfold xr; omega) (by unfold xr; omega) (fun c164 => ?_) (fun c164 => ?_)
                                                      · skip
                                                        refine x_aload_n (dT U_L_areRuns 212 rfl) rfl ?_
                                                        refine x_iconst (dT U_L_areRuns 213 rfl) ?_
                                                        refine x_iconst (dT U_L_areRuns 214 rfl) ?_
                                                        refine x_iload (dT U_L_areRuns 215 rfl) rfl ?_
                                                        refine x_invokestatic (rc' := rc + 296) (rs' := rs + 2376) (rc2 := 0 + 4) (rs2 := 0 + 24) (As := [_, _, _, _]) (st := _) M_L_fits K_L_276 (dT U_L_areRuns 216 rfl) rfl rfl rfl rfl (Nat.le_of_ble_eq_true rfl) rfl (by decide) (Nat.le_of_ble_eq_true rfl) (by omega) (by omega) ?_
                                                        refine S_L_fits w32 v32 (by first | assumption | (unfold xr; omega)) (by first | assumption | (unfold xr; omega)) (by first | assumption | (unfold xr; omega)) (fun  z8 => absurd (show inb _ _ ∧ inb _ _ from by omega) z8) (fun _ z8 => absurd (show inb _ _ from by have := p_32; omega) z8) (fun _ _ z8 => absurd (show 1 ≤ (σ32.R _).st from by rw [show (σ32.R _).st = 4 from R0_st_32]; decide) z8) (fun _ _ _ _ => ?_) (fun _ _ _ z8 => absurd (by rw [p_32]; exact ⟨by rw [show (σ32.R _).st = 4 from R0_st_32]; decide, by rw [show (σ32.R _).e = _ from R0_e_32, show σ32.rw _ = _ from r0_32], by rw [show (σ32.R _).form = _ from R0_form_32, show (σ32.R _).v = _ from R0_v_32, show σ32.rw _ = _ from r0_32]; exact e_vv⟩) z8)
                                                        refine xRet_some ?_
                                                        refine x_lconst (z := 1) (dT U_L_areRuns 217 rfl) rfl ?_
                                                        refine x_lif_ne (tgt := 416) (dT U_L_areRuns 218 rfl) (dT U_L_areRuns 219 rfl) (by decide) (xrl_of (by unfold xr; omega)) (xrl_of (by unfold xr; omega)) (fun c386 => ?_) (fun c386 => ?_)
                                                        · skip
                                                          exfalso; omega
                                                        · skip
                                                          refine x_aload_n (dT U_L_areRuns 220 rfl) rfl ?_
                                                          refine x_iconst (dT U_L_areRuns 221 rfl) ?_
                                                          refine x_iconst (dT U_L_areRuns 222 rfl) ?_
                                                          refine x_iload (dT U_L_areRuns 223 rfl) rfl ?_
                                                          refine x_iconst (dT U_L_areRuns 224 rfl) ?_
                                                          refine x_invokestatic (rc' := rc + 291) (rs' := rs + 2346) (rc2 := 0 + 5) (rs2 := 0 + 30) (As := [_, _, _, _, _]) (st := _) M_L_maskFor K_L_278 (dT U_L_areRuns 225 rfl) rfl rfl rfl rfl (Nat.le_of_ble_eq_true rfl) rfl (by decide) (Nat.le_of_ble_eq_true rfl) (by omega) (by omega) ?_
                                                          refine S_L_maskFor w32 v32 (by first | assumption | (unfold xr; omega)) (by first | assumption | (unfold xr; omega)) (by first | assumption | (unfold xr; omega)) (by first | assumption | (unfold xr; omega)) (fun  z8 => absurd (show inb _ _ ∧ inb _ _ ∧ inb _ _ from by omega) z8) (fun _ z8 => absurd (show inb _ _ from by have := p_32; omega) z8) (fun _ _ z8 => absurd ((show acc _ _ ∧ suit _ _ _ _ from ⟨(by rw [p_32]; exact acc_ok R0_st_32 R0_e_32 (R0_v_32.trans e_vv.symm) R0_form_32 R0_fa_32 R0_w_32 R0_c_32 R0_t_32 R0_answer_32), by rw [p_32]; exact ⟨by rw [show (σ32.R _).st = 4 from R0_st_32]; decide, by rw [show (σ32.R _).e = _ from R0_e_32, show σ32.rw _ = _ from r0_32], by rw [show (σ32.R _).form = _ from R0_form_32, show (σ32.R _).v = _ from R0_v_32, show σ32.rw _ = _ from r0_32]; exact e_vv⟩⟩)) z8) (fun _ _ _ z34 e34 hz34 h34 fc34 w_34 v_34 => ?_)
                                                          refine xRet_some ?_
                                                          have e34 : z34 = mb := by
                                                            rw [e34]
                                                            show ((σ32.R 0).t - (σ32.R 0).c * blind) % (σ32.p : Int) = mb
                                                            rw [R0_t_32, R0_c_32, p_32]
                                                            exact unmask2 (by omega)
                                                          obtain ⟨σ35, w35, v35, r3_35, R1_st_35, R1_t_35, R1_answer_35, R1_c_35, R1_fa_35, R1_w_35, R1_mb_35, R1_mk_35, R1_mask_35, R1_e_35, R1_v_35, R1_form_35, R0_st_35, R0_t_35, R0_answer_35, R0_c_35, R0_fa_35, R0_w_35, R0_mb_35, R0_mk_35, R0_mask_35, R0_e_35, R0_v_35, R0_form_35, r2_35, r1_35, r0_35, p_35, L_35⟩ : ∃ σ35 : St, CW σ35 h34 ∧ INV σ35 ∧ σ35.rw 3 = mask ∧ (σ35.R 1).st = 4 ∧ (σ35.R 1).t = (mb + dd * blind) % (p : Int) ∧ (σ35.R 1).answer = tab (fun j => (mask.getD j 0 + dd * secret.getD j 0) % (p : Int)) 8 ∧ (σ35.R 1).c = dd ∧ (σ35.R 1).fa = cm p mask mb ∧ (σ35.R 1).w = inn form mask % (p : Int) ∧ (σ35.R 1).mb = mb ∧ (σ35.R 1).mk = true ∧ (σ35.R 1).mask = mask ∧ (σ35.R 1).e = cm p secret blind ∧ (σ35.R 1).v = vv ∧ (σ35.R 1).form = form ∧ (σ35.R 0).st = 4 ∧ (σ35.R 0).t = (mb + c * blind) % (p : Int) ∧ (σ35.R 0).answer = tab (fun j => (mask.getD j 0 + c * secret.getD j 0) % (p : Int)) 8 ∧ (σ35.R 0).c = c ∧ (σ35.R 0).fa = cm p mask mb ∧ (σ35.R 0).w = inn form mask % (p : Int) ∧ (σ35.R 0).mb = mb ∧ (σ35.R 0).mk = true ∧ (σ35.R 0).mask = mask ∧ (σ35.R 0).e = cm p secret blind ∧ (σ35.R 0).v = vv ∧ (σ35.R 0).form = form ∧ σ35.rw 2 = form ∧ σ35.rw 1 = mask ∧ σ35.rw 0 = secret ∧ σ35.p = p ∧ σ35.L.n = n0 := ⟨_, w_34, v_34, (by show tab (fun t => ((σ32.R 0).answer.getD t 0 + -(σ32.R 0).c * (σ32.rw 0).getD t 0) % (σ32.p : Int)) 8 = _; rw [R0_answer_32, R0_c_32, r0_32, p_32]; exact unmask_ok Fl_mask), R1_st_32, R1_t_32, R1_answer_32, R1_c_32, R1_fa_32, R1_w_32, R1_mb_32, R1_mk_32, R1_mask_32, R1_e_32, R1_v_32, R1_form_32, R0_st_32, R0_t_32, R0_answer_32, R0_c_32, R0_fa_32, R0_w_32, R0_mb_32, R0_mk_32, R0_mask_32, R0_e_32, R0_v_32, R0_form_32, r2_32, r1_32, r0_32, p_32, L_32⟩
                                                          have h_secret_35 : h34[a_secret]? = some (cA 0 secret) := (fc34).get h_secret_32 (by omega)
                                                          have h_form_35 : h34[a_form]? = some (cA 0 form) := (fc34).get h_form_32 (by omega)
                                                          have h_mask_35 : h34[a_mask]? = some (cA 0 mask) := (fc34).get h_mask_32 (by omega)
                                                          have hlen_35 : 70 ≤ h34.length := by rw [fc34.1]; exact hlen_32
                                                          refine x_iload (dT U_L_areRuns 226 rfl) rfl ?_
                                                          refine x_i2l (dT U_L_areRuns 227 rfl) (by unfold xr; omega) ?_
                                                          refine x_lif_ne (tgt := 416) (dT U_L_areRuns 228 rfl) (dT U_L_areRuns 229 rfl) (by decide) (xrl_of hz34) (xrl_of (by unfold xr; omega)) (fun c402 => ?_) (fun c402 => ?_)
                                                          · skip
                                                            exact c402 e34
                                                          · skip
                                                            refine x_aload_n (dT U_L_areRuns 230 rfl) rfl ?_
                                                            refine x_iconst (dT U_L_areRuns 231 rfl) ?_
                                                            refine x_aload (dT U_L_areRuns 232 rfl) rfl ?_
                                                            refine x_invokestatic (rc' := rc + 289) (rs' := rs + 2334) (rc2 := 0 + 2) (rs2 := 0 + 12) (As := [_, _, _]) (st := _) M_L_isRow K_L_280 (dT U_L_areRuns 233 rfl) rfl rfl rfl rfl (Nat.le_of_ble_eq_true rfl) rfl (by decide) (Nat.le_of_ble_eq_true rfl) (by omega) (by omega) ?_
                                                            refine S_L_isRow w35 v35 (by omega) h_mask_35 (by omega) (by rw [p_35]; exact Fl_mask) (r3_35) ?_
                                                            refine xRet_some ?_
                                                            refine x_if_ne (tgt := 418) (dT U_L_areRuns 234 rfl) (by decide) (by unfold xr; omega) (fun c413 => ?_) (fun c413 => ?_)
                                                            · skip
                                                              refine x_aload_n (dT U_L_areRuns 237 rfl) rfl ?_
                                                              refine x_iconst (dT U_L_areRuns 238 rfl) ?_
                                                              refine x_iconst (dT U_L_areRuns 239 rfl) ?_
                                                              refine x_iconst (dT U_L_areRuns 240 rfl) ?_
                                                              refine x_invokestatic (rc' := rc + 285) (rs' := rs + 2310) (rc2 := 0 + 4) (rs2 := 0 + 24) (As := [_, _, _, _]) (st := _) M_L_extract K_L_284 (dT U_L_areRuns 241 rfl) rfl rfl rfl rfl (Nat.le_of_ble_eq_true rfl) rfl (by decide) (Nat.le_of_ble_eq_true rfl) (by omega) (by omega) ?_
                                                              refine S_L_extract w35 v35 (by first | assumption | (unfold xr; omega)) (by first | assumption | (unfold xr; omega)) (by first | assumption | (unfold xr; omega)) (fun  z8 => absurd (show inb _ _ ∧ inb _ _ ∧ inb _ _ from by omega) z8) (fun _ z8 => absurd ((show fork _ _ _ from ⟨(by rw [p_35]; exact acc_ok R0_st_35 R0_e_35 (R0_v_35.trans e_vv.symm) R0_form_35 R0_fa_35 R0_w_35 R0_c_35 R0_t_35 R0_answer_35), (by rw [p_35]; exact acc_ok R1_st_35 R1_e_35 (R1_v_35.trans e_vv.symm) R1_form_35 R1_fa_35 R1_w_35 R1_c_35 R1_t_35 R1_answer_35), R0_e_35.trans R1_e_35.symm, R0_v_35.trans R1_v_35.symm, R0_form_35.trans R1_form_35.symm, R0_fa_35.trans R1_fa_35.symm, R0_w_35.trans R1_w_35.symm, fun z => ne_cd (R0_c_35.symm.trans (z.trans R1_c_35))⟩)) z8) (fun _ _ z36 e36 hz36 h36 fc36 w_36 v_36 => ?_)
                                                              refine xRet_some ?_
                                                              have e36 : z36 = blind := by
                                                                rw [e36]
                                                                show (((σ35.R 0).t - (σ35.R 1).t) * (iv σ35.p (((σ35.R 0).c - (σ35.R 1).c) % (σ35.p : Int)).toNat : Int)) % (σ35.p : Int) = blind
                                                                rw [R0_t_35, R0_c_35, R1_t_35, R1_c_35, p_35]
                                                                exact extr1 hpr (by omega) (by omega) (by omega) ne_cd
                                                              obtain ⟨σ37, w37, v37, r4_37, r3_37, R1_st_37, R1_t_37, R1_answer_37, R1_c_37, R1_fa_37, R1_w_37, R1_mb_37, R1_mk_37, R1_mask_37, R1_e_37, R1_v_37, R1_form_37, R0_st_37, R0_t_37, R0_answer_37, R0_c_37, R0_fa_37, R0_w_37, R0_mb_37, R0_mk_37, R0_mask_37, R0_e_37, R0_v_37, R0_form_37, r2_37, r1_37, r0_37, p_37, L_37⟩ : ∃ σ37 : St, CW σ37 h36 ∧ INV σ37 ∧ σ37.rw 4 = secret ∧ σ37.rw 3 = mask ∧ (σ37.R 1).st = 4 ∧ (σ37.R 1).t = (mb + dd * blind) % (p : Int) ∧ (σ37.R 1).answer = tab (fun j => (mask.getD j 0 + dd * secret.getD j 0) % (p : Int)) 8 ∧ (σ37.R 1).c = dd ∧ (σ37.R 1).fa = cm p mask mb ∧ (σ37.R 1).w = inn form mask % (p : Int) ∧ (σ37.R 1).mb = mb ∧ (σ37.R 1).mk = true ∧ (σ37.R 1).mask = mask ∧ (σ37.R 1).e = cm p secret blind ∧ (σ37.R 1).v = vv ∧ (σ37.R 1).form = form ∧ (σ37.R 0).st = 4 ∧ (σ37.R 0).t = (mb + c * blind) % (p : Int) ∧ (σ37.R 0).answer = tab (fun j => (mask.getD j 0 + c * secret.getD j 0) % (p : Int)) 8 ∧ (σ37.R 0).c = c ∧ (σ37.R 0).fa = cm p mask mb ∧ (σ37.R 0).w = inn form mask % (p : Int) ∧ (σ37.R 0).mb = mb ∧ (σ37.R 0).mk = true ∧ (σ37.R 0).mask = mask ∧ (σ37.R 0).e = cm p secret blind ∧ (σ37.R 0).v = vv ∧ (σ37.R 0).form = form ∧ σ37.rw 2 = form ∧ σ37.rw 1 = mask ∧ σ37.rw 0 = secret ∧ σ37.p = p ∧ σ37.L.n = n0 := ⟨_, w_36, v_36, (by show tab (fun t => ((((σ35.R 0).answer.getD t 0 - (σ35.R 1).answer.getD t 0) * (iv σ35.p (((σ35.R 0).c - (σ35.R 1).c) % (σ35.p : Int)).toNat : Int)) % (σ35.p : Int))) 8 = _; rw [R0_answer_35, R0_c_35, R1_answer_35, R1_c_35, p_35]; exact extr_ok hpr Fl_secret (by omega) (by omega) ne_cd), r3_35, R1_st_35, R1_t_35, R1_answer_35, R1_c_35, R1_fa_35, R1_w_35, R1_mb_35, R1_mk_35, R1_mask_35, R1_e_35, R1_v_35, R1_form_35, R0_st_35, R0_t_35, R0_answer_35, R0_c_35, R0_fa_35, R0_w_35, R0_mb_35, R0_mk_35, R0_mask_35, R0_e_35, R0_v_35, R0_form_35, r2_35, r1_35, r0_35, p_35, L_35⟩
                                                              have h_secret_37 : h36[a_secret]? = some (cA 0 secret) := (fc36).get h_secret_35 (by omega)
                                                              have h_form_37 : h36[a_form]? = some (cA 0 form) := (fc36).get h_form_35 (by omega)
                                                              have h_mask_37 : h36[a_mask]? = some (cA 0 mask) := (fc36).get h_mask_35 (by omega)
                                                              have hlen_37 : 70 ≤ h36.length := by rw [fc36.1]; exact hlen_35
                                                              refine x_iload (dT U_L_areRuns 242 rfl) rfl ?_
                                                              refine x_i2l (dT U_L_areRuns 243 rfl) (by unfold xr; omega) ?_
                                                              refine x_lif_ne (tgt := 442) (dT U_L_areRuns 244 rfl) (dT U_L_areRuns 245 rfl) (by decide) (xrl_of hz36) (xrl_of (by unfold xr; omega)) (fun c428 => ?_) (fun c428 => ?_)
                                                              · skip
                                                                exact c428 e36
                                                              · skip
                                                                refine x_aload_n (dT U_L_areRuns 246 rfl) rfl ?_
                                                                refine x_iconst (dT U_L_areRuns 247 rfl) ?_
                                                                refine x_aload (dT U_L_areRuns 248 rfl) rfl ?_
                                                                refine x_invokestatic (rc' := rc + 283) (rs' := rs + 2298) (rc2 := 0 + 2) (rs2 := 0 + 12) (As := [_, _, _]) (st := _) M_L_isRow K_L_280 (dT U_L_areRuns 249 rfl) rfl rfl rfl rfl (Nat.le_of_ble_eq_true rfl) rfl (by decide) (Nat.le_of_ble_eq_true rfl) (by omega) (by omega) ?_
                                                                refine S_L_isRow w37 v37 (by omega) h_secret_37 (by omega) (by rw [p_37]; exact Fl_secret) (r4_37) ?_
                                                                refine xRet_some ?_
                                                                refine x_if_ne (tgt := 444) (dT U_L_areRuns 250 rfl) (by decide) (by unfold xr; omega) (fun c439 => ?_) (fun c439 => ?_)
                                                                · skip
                                                                  refine x_aload_n (dT U_L_areRuns 253 rfl) rfl ?_
                                                                  refine x_iconst (dT U_L_areRuns 254 rfl) ?_
                                                                  refine x_iconst (dT U_L_areRuns 255 rfl) ?_
                                                                  refine x_iconst (dT U_L_areRuns 256 rfl) ?_
                                                                  refine x_invokestatic (rc' := rc + 279) (rs' := rs + 2274) (rc2 := 0 + 4) (rs2 := 0 + 24) (As := [_, _, _, _]) (st := _) M_L_extract K_L_284 (dT U_L_areRuns 257 rfl) rfl rfl rfl rfl (Nat.le_of_ble_eq_true rfl) rfl (by decide) (Nat.le_of_ble_eq_true rfl) (by omega) (by omega) ?_
                                                                  refine S_L_extract w37 v37 (by unfold xr; omega) (by unfold xr; omega) (by unfold xr; omega) (fun z8 => absurd (show inb _ _ ∧ inb _ _ ∧ inb _ _ from by omega) z8) (fun _ _ => ?_) (fun _ z8 => absurd rfl z8.2.2.2.2.2.2.2)
                                                                  refine xRet_some ?_
                                                                  refine x_ldc2 C_L_43 (dT U_L_areRuns 258 rfl) ?_
                                                                  refine x_lif_eq (tgt := 460) (dT U_L_areRuns 259 rfl) (dT U_L_areRuns 260 rfl) (by decide) (show xrl _ by unfold xrl; omega) (show xrl _ by unfold xrl; omega) (fun c454 => ?_) (fun c454 => ?_)
                                                                  · skip
                                                                    refine x_aload_n (dT U_L_areRuns 263 rfl) rfl ?_
                                                                    refine x_iconst (dT U_L_areRuns 264 rfl) ?_
                                                                    refine x_iload (dT U_L_areRuns 265 rfl) rfl ?_
                                                                    refine x_iconst (dT U_L_areRuns 266 rfl) ?_
                                                                    refine x_iload (dT U_L_areRuns 267 rfl) rfl ?_
                                                                    refine x_invokestatic (rc' := rc + 275) (rs' := rs + 2250) (rc2 := 0 + 4) (rs2 := 0 + 24) (As := [_, _, _, _, _]) (st := _) M_L_state K_L_261 (dT U_L_areRuns 268 rfl) rfl rfl rfl rfl (Nat.le_of_ble_eq_true rfl) rfl (by decide) (Nat.le_of_ble_eq_true rfl) (by omega) (by omega) ?_
                                                                    refine S_L_state w37 v37 (by first | assumption | (unfold xr; omega)) (by first | assumption | (unfold xr; omega)) (by first | assumption | (unfold xr; omega)) (by first | assumption | (unfold xr; omega)) (fun  z8 => absurd (show inb _ _ ∧ inb _ _ from by omega) z8) (fun _ z8 => absurd (show _ ∧ inb _ _ from ⟨by rw [p_37, ← e_y, exI_MM hpr hcS]; omega, by have := p_37; omega⟩) z8) (fun _ _ z38 e38 hz38 h38 fc38 w_38 v_38 => ?_)
                                                                    refine xRet_some ?_
                                                                    have e38 : z38 = y := by
                                                                      exact e38
                                                                    obtain ⟨σ39, w39, v39, R2_st_39, R2_e_39, R2_v_39, R2_form_39, r4_39, r3_39, R1_st_39, R1_t_39, R1_answer_39, R1_c_39, R1_fa_39, R1_w_39, R1_mb_39, R1_mk_39, R1_mask_39, R1_e_39, R1_v_39, R1_form_39, R0_st_39, R0_t_39, R0_answer_39, R0_c_39, R0_fa_39, R0_w_39, R0_mb_39, R0_mk_39, R0_mask_39, R0_e_39, R0_v_39, R0_form_39, r2_39, r1_39, r0_39, p_39, L_39⟩ : ∃ σ39 : St, CW σ39 h38 ∧ INV σ39 ∧ (σ39.R 2).st = 1 ∧ (σ39.R 2).e = cm p secret blind ∧ (σ39.R 2).v = vv ∧ (σ39.R 2).form = form ∧ σ39.rw 4 = secret ∧ σ39.rw 3 = mask ∧ (σ39.R 1).st = 4 ∧ (σ39.R 1).t = (mb + dd * blind) % (p : Int) ∧ (σ39.R 1).answer = tab (fun j => (mask.getD j 0 + dd * secret.getD j 0) % (p : Int)) 8 ∧ (σ39.R 1).c = dd ∧ (σ39.R 1).fa = cm p mask mb ∧ (σ39.R 1).w = inn form mask % (p : Int) ∧ (σ39.R 1).mb = mb ∧ (σ39.R 1).mk = true ∧ (σ39.R 1).mask = mask ∧ (σ39.R 1).e = cm p secret blind ∧ (σ39.R 1).v = vv ∧ (σ39.R 1).form = form ∧ (σ39.R 0).st = 4 ∧ (σ39.R 0).t = (mb + c * blind) % (p : Int) ∧ (σ39.R 0).answer = tab (fun j => (mask.getD j 0 + c * secret.getD j 0) % (p : Int)) 8 ∧ (σ39.R 0).c = c ∧ (σ39.R 0).fa = cm p mask mb ∧ (σ39.R 0).w = inn form mask % (p : Int) ∧ (σ39.R 0).mb = mb ∧ (σ39.R 0).mk = true ∧ (σ39.R 0).mask = mask ∧ (σ39.R 0).e = cm p secret blind ∧ (σ39.R 0).v = vv ∧ (σ39.R 0).form = form ∧ σ39.rw 2 = form ∧ σ39.rw 1 = mask ∧ σ39.rw 0 = secret ∧ σ39.p = p ∧ σ39.L.n = n0 := ⟨_, w_38, v_38, rfl, (by show exI σ37.p y = _; rw [p_37, ← e_y, exI_MM hpr hcS]), rfl, r2_37, r4_37, r3_37, R1_st_37, R1_t_37, R1_answer_37, R1_c_37, R1_fa_37, R1_w_37, R1_mb_37, R1_mk_37, R1_mask_37, R1_e_37, R1_v_37, R1_form_37, R0_st_37, R0_t_37, R0_answer_37, R0_c_37, R0_fa_37, R0_w_37, R0_mb_37, R0_mk_37, R0_mask_37, R0_e_37, R0_v_37, R0_form_37, r2_37, r1_37, r0_37, p_37, L_37⟩
                                                                    have h_secret_39 : h38[a_secret]? = some (cA 0 secret) := (fc38).get h_secret_37 (by omega)
                                                                    have h_form_39 : h38[a_form]? = some (cA 0 form) := (fc38).get h_form_37 (by omega)
                                                                    have h_mask_39 : h38[a_mask]? = some (cA 0 mask) := (fc38).get h_mask_37 (by omega)
                                                                    have hlen_39 : 70 ≤ h38.length := by rw [fc38.1]; exact hlen_37
                                                                    refine x_pop2 (dT U_L_areRuns 269 rfl) ?_
                                                                    refine x_aload_n (dT U_L_areRuns 270 rfl) rfl ?_
                                                                    refine x_iconst (dT U_L_areRuns 271 rfl) ?_
                                                                    refine x_aload_n (dT U_L_areRuns 272 rfl) rfl ?_
                                                                    refine x_aload (dT U_L_areRuns 273 rfl) rfl ?_
                                                                    refine x_iload (dT U_L_areRuns 274 rfl) rfl ?_
                                                                    refine x_iload (dT U_L_areRuns 275 rfl) rfl ?_
                                                                    refine x_invokestatic (rc' := rc + 266) (rs' := rs + 2196) (rc2 := 0 + 9) (rs2 := 0 + 54) (As := [_, _, _, _]) (st := _) M_L_commits K_L_247 (dT U_L_areRuns 276 rfl) rfl rfl rfl rfl (Nat.le_of_ble_eq_true rfl) rfl (by decide) (Nat.le_of_ble_eq_true rfl) (by omega) (by omega) ?_
                                                                    refine S_L_commits w39 v39 p_39 h_mask_39 (by omega) Fl_mask (by omega) ?_
                                                                    refine xRet_some ?_
                                                                    refine x_aload (dT U_L_areRuns 277 rfl) rfl ?_
                                                                    refine x_aload (dT U_L_areRuns 278 rfl) rfl ?_
                                                                    refine x_iload_n (dT U_L_areRuns 279 rfl) rfl ?_
                                                                    refine x_invokestatic (rc' := rc + 266) (rs' := rs + 2196) (rc2 := 0 + 0) (rs2 := 0 + 0) (As := [_, _, _]) (st := _) M_L_inner K_L_257 (dT U_L_areRuns 280 rfl) rfl rfl rfl rfl (Nat.le_of_ble_eq_true rfl) rfl (by decide) (Nat.le_of_ble_eq_true rfl) (by omega) (by omega) ?_
                                                                    refine S_L_inner (by omega) h_form_39 (by omega) Fl_form h_mask_39 (by omega) Fl_mask ?_
                                                                    refine xRet_some ?_
                                                                    obtain ⟨wm, e_wm⟩ : ∃ r : Int, inn form mask % (p : Int) = r := ⟨_, rfl⟩
                                                                    rw [e_wm]
                                                                    have b_wm : 0 ≤ wm ∧ wm < (p : Int) := by rw [← e_wm]; exact modb (by omega)
                                                                    refine x_invokestatic (rc' := rc + 262) (rs' := rs + 2172) (rc2 := 0 + 4) (rs2 := 0 + 24) (As := [_, _, _, _]) (st := _) M_L_say K_L_286 (dT U_L_areRuns 281 rfl) rfl rfl rfl rfl (Nat.le_of_ble_eq_true rfl) rfl (by decide) (Nat.le_of_ble_eq_true rfl) (by omega) (by omega) ?_
                                                                    refine S_L_say w39 v39 (by first | assumption | (unfold xr; omega)) (by first | assumption | (unfold xr; omega)) (by first | assumption | (unfold xr; omega)) (fun  z8 => absurd (show inb _ _ from by omega) z8) (fun _ z8 => absurd (show _ ∧ inb _ _ from ⟨by rw [p_39, exI_MM hpr hcM]; omega, by have := p_39; omega⟩) z8) (fun _ _ z8 => absurd (R2_st_39) z8) (fun _ _ _ z40 e40 hz40 h40 fc40 w_40 v_40 => ?_)
                                                                    refine xRet_some ?_
                                                                    obtain ⟨σ41, w41, v41, R2_st_41, R2_fa_41, R2_w_41, R2_e_41, R2_v_41, R2_form_41, r4_41, r3_41, R1_st_41, R1_t_41, R1_answer_41, R1_c_41, R1_fa_41, R1_w_41, R1_mb_41, R1_mk_41, R1_mask_41, R1_e_41, R1_v_41, R1_form_41, R0_st_41, R0_t_41, R0_answer_41, R0_c_41, R0_fa_41, R0_w_41, R0_mb_41, R0_mk_41, R0_mask_41, R0_e_41, R0_v_41, R0_form_41, r2_41, r1_41, r0_41, p_41, L_41⟩ : ∃ σ41 : St, CW σ41 h40 ∧ INV σ41 ∧ (σ41.R 2).st = 2 ∧ (σ41.R 2).fa = cm p mask mb ∧ (σ41.R 2).w = wm ∧ (σ41.R 2).e = cm p secret blind ∧ (σ41.R 2).v = vv ∧ (σ41.R 2).form = form ∧ σ41.rw 4 = secret ∧ σ41.rw 3 = mask ∧ (σ41.R 1).st = 4 ∧ (σ41.R 1).t = (mb + dd * blind) % (p : Int) ∧ (σ41.R 1).answer = tab (fun j => (mask.getD j 0 + dd * secret.getD j 0) % (p : Int)) 8 ∧ (σ41.R 1).c = dd ∧ (σ41.R 1).fa = cm p mask mb ∧ (σ41.R 1).w = inn form mask % (p : Int) ∧ (σ41.R 1).mb = mb ∧ (σ41.R 1).mk = true ∧ (σ41.R 1).mask = mask ∧ (σ41.R 1).e = cm p secret blind ∧ (σ41.R 1).v = vv ∧ (σ41.R 1).form = form ∧ (σ41.R 0).st = 4 ∧ (σ41.R 0).t = (mb + c * blind) % (p : Int) ∧ (σ41.R 0).answer = tab (fun j => (mask.getD j 0 + c * secret.getD j 0) % (p : Int)) 8 ∧ (σ41.R 0).c = c ∧ (σ41.R 0).fa = cm p mask mb ∧ (σ41.R 0).w = inn form mask % (p : Int) ∧ (σ41.R 0).mb = mb ∧ (σ41.R 0).mk = true ∧ (σ41.R 0).mask = mask ∧ (σ41.R 0).e = cm p secret blind ∧ (σ41.R 0).v = vv ∧ (σ41.R 0).form = form ∧ σ41.rw 2 = form ∧ σ41.rw 1 = mask ∧ σ41.rw 0 = secret ∧ σ41.p = p ∧ σ41.L.n = n0 := ⟨_, w_40, v_40, rfl, (by show exI σ39.p _ = _; rw [p_39, exI_MM hpr hcM]), rfl, R2_e_39, R2_v_39, R2_form_39, r4_39, r3_39, R1_st_39, R1_t_39, R1_answer_39, R1_c_39, R1_fa_39, R1_w_39, R1_mb_39, R1_mk_39, R1_mask_39, R1_e_39, R1_v_39, R1_form_39, R0_st_39, R0_t_39, R0_answer_39, R0_c_39, R0_fa_39, R0_w_39, R0_mb_39, R0_mk_39, R0_mask_39, R0_e_39, R0_v_39, R0_form_39, r2_39, r1_39, r0_39, p_39, L_39⟩
                                                                    have h_secret_41 : h40[a_secret]? = some (cA 0 secret) := (fc40).get h_secret_39 (by omega)
                                                                    have h_form_41 : h40[a_form]? = some (cA 0 form) := (fc40).get h_form_39 (by omega)
                                                                    have h_mask_41 : h40[a_mask]? = some (cA 0 mask) := (fc40).get h_mask_39 (by omega)
                                                                    have hlen_41 : 70 ≤ h40.length := by rw [fc40.1]; exact hlen_39
                                                                    refine x_pop2 (dT U_L_areRuns 282 rfl) ?_
                                                                    refine x_aload_n (dT U_L_areRuns 283 rfl) rfl ?_
                                                                    refine x_iconst (dT U_L_areRuns 284 rfl) ?_
                                                                    refine x_iload (dT U_L_areRuns 285 rfl) rfl ?_
                                                                    refine x_invokestatic (rc' := rc + 259) (rs' := rs + 2154) (rc2 := 0 + 3) (rs2 := 0 + 18) (As := [_, _, _]) (st := _) M_L_dare K_L_267 (dT U_L_areRuns 286 rfl) rfl rfl rfl rfl (Nat.le_of_ble_eq_true rfl) rfl (by decide) (Nat.le_of_ble_eq_true rfl) (by omega) (by omega) ?_
                                                                    refine S_L_dare w41 v41 (by first | assumption | (unfold xr; omega)) (by first | assumption | (unfold xr; omega)) (fun  z8 => absurd (show inb _ _ from by omega) z8) (fun _ z8 => absurd (show inb _ _ from by have := p_41; omega) z8) (fun _ _ z8 => absurd (R2_st_41) z8) (fun _ _ _ z42 e42 hz42 h42 fc42 w_42 v_42 => ?_)
                                                                    refine xRet_some ?_
                                                                    have e42 : z42 = c := by
                                                                      exact e42
                                                                    obtain ⟨σ43, w43, v43, R2_st_43, R2_c_43, R2_fa_43, R2_w_43, R2_e_43, R2_v_43, R2_form_43, r4_43, r3_43, R1_st_43, R1_t_43, R1_answer_43, R1_c_43, R1_fa_43, R1_w_43, R1_mb_43, R1_mk_43, R1_mask_43, R1_e_43, R1_v_43, R1_form_43, R0_st_43, R0_t_43, R0_answer_43, R0_c_43, R0_fa_43, R0_w_43, R0_mb_43, R0_mk_43, R0_mask_43, R0_e_43, R0_v_43, R0_form_43, r2_43, r1_43, r0_43, p_43, L_43⟩ : ∃ σ43 : St, CW σ43 h42 ∧ INV σ43 ∧ (σ43.R 2).st = 3 ∧ (σ43.R 2).c = c ∧ (σ43.R 2).fa = cm p mask mb ∧ (σ43.R 2).w = wm ∧ (σ43.R 2).e = cm p secret blind ∧ (σ43.R 2).v = vv ∧ (σ43.R 2).form = form ∧ σ43.rw 4 = secret ∧ σ43.rw 3 = mask ∧ (σ43.R 1).st = 4 ∧ (σ43.R 1).t = (mb + dd * blind) % (p : Int) ∧ (σ43.R 1).answer = tab (fun j => (mask.getD j 0 + dd * secret.getD j 0) % (p : Int)) 8 ∧ (σ43.R 1).c = dd ∧ (σ43.R 1).fa = cm p mask mb ∧ (σ43.R 1).w = inn form mask % (p : Int) ∧ (σ43.R 1).mb = mb ∧ (σ43.R 1).mk = true ∧ (σ43.R 1).mask = mask ∧ (σ43.R 1).e = cm p secret blind ∧ (σ43.R 1).v = vv ∧ (σ43.R 1).form = form ∧ (σ43.R 0).st = 4 ∧ (σ43.R 0).t = (mb + c * blind) % (p : Int) ∧ (σ43.R 0).answer = tab (fun j => (mask.getD j 0 + c * secret.getD j 0) % (p : Int)) 8 ∧ (σ43.R 0).c = c ∧ (σ43.R 0).fa = cm p mask mb ∧ (σ43.R 0).w = inn form mask % (p : Int) ∧ (σ43.R 0).mb = mb ∧ (σ43.R 0).mk = true ∧ (σ43.R 0).mask = mask ∧ (σ43.R 0).e = cm p secret blind ∧ (σ43.R 0).v = vv ∧ (σ43.R 0).form = form ∧ σ43.rw 2 = form ∧ σ43.rw 1 = mask ∧ σ43.rw 0 = secret ∧ σ43.p = p ∧ σ43.L.n = n0 := ⟨_, w_42, v_42, rfl, rfl, R2_fa_41, R2_w_41, R2_e_41, R2_v_41, R2_form_41, r4_41, r3_41, R1_st_41, R1_t_41, R1_answer_41, R1_c_41, R1_fa_41, R1_w_41, R1_mb_41, R1_mk_41, R1_mask_41, R1_e_41, R1_v_41, R1_form_41, R0_st_41, R0_t_41, R0_answer_41, R0_c_41, R0_fa_41, R0_w_41, R0_mb_41, R0_mk_41, R0_mask_41, R0_e_41, R0_v_41, R0_form_41, r2_41, r1_41, r0_41, p_41, L_41⟩
                                                                    have h_secret_43 : h42[a_secret]? = some (cA 0 secret) := (fc42).get h_secret_41 (by omega)
                                                                    have h_form_43 : h42[a_form]? = some (cA 0 form) := (fc42).get h_form_41 (by omega)
                                                                    have h_mask_43 : h42[a_mask]? = some (cA 0 mask) := (fc42).get h_mask_41 (by omega)
                                                                    have hlen_43 : 70 ≤ h42.length := by rw [fc42.1]; exact hlen_41
                                                                    refine x_pop2 (dT U_L_areRuns 287 rfl) ?_
                                                                    refine x_iconst (dT U_L_areRuns 288 rfl) ?_
                                                                    refine x_istore (ls' := [some (.ref _), some (.ref _), some (vi _), some (vi _), some (vi _), some (.ref _), some (.ref _), some (.ref _), some (vi _), some (vi _), some (vi _), some (vi _), some (vi _), some (vi _), some (vi _), some (vi _)]) (dT U_L_areRuns 289 rfl) (by decide) rfl ?_
                                                                    have L44 : ∀ (n9 i : Nat), i + n9 = 8 → ∀ (h44 : xH) (ex44 : Bool) (σ44 : St), CW σ44 h44 → INV σ44 → 70 ≤ h44.length → (σ44.R 2).st = 3 → (σ44.R 2).c = c → (σ44.R 2).fa = cm p mask mb → (σ44.R 2).w = wm → (σ44.R 2).e = cm p secret blind → (σ44.R 2).v = vv → (σ44.R 2).form = form → σ44.rw 4 = secret → σ44.rw 3 = mask → (σ44.R 1).st = 4 → (σ44.R 1).t = (mb + dd * blind) % (p : Int) → (σ44.R 1).answer = tab (fun j => (mask.getD j 0 + dd * secret.getD j 0) % (p : Int)) 8 → (σ44.R 1).c = dd → (σ44.R 1).fa = cm p mask mb → (σ44.R 1).w = inn form mask % (p : Int) → (σ44.R 1).mb = mb → (σ44.R 1).mk = true → (σ44.R 1).mask = mask → (σ44.R 1).e = cm p secret blind → (σ44.R 1).v = vv → (σ44.R 1).form = form → (σ44.R 0).st = 4 → (σ44.R 0).t = (mb + c * blind) % (p : Int) → (σ44.R 0).answer = tab (fun j => (mask.getD j 0 + c * secret.getD j 0) % (p : Int)) 8 → (σ44.R 0).c = c → (σ44.R 0).fa = cm p mask mb → (σ44.R 0).w = inn form mask % (p : Int) → (σ44.R 0).mb = mb → (σ44.R 0).mk = true → (σ44.R 0).mask = mask → (σ44.R 0).e = cm p secret blind → (σ44.R 0).v = vv → (σ44.R 0).form = form → σ44.rw 2 = form → σ44.rw 1 = mask → σ44.rw 0 = secret → σ44.p = p → σ44.L.n = n0 → h44[a_secret]? = some (cA 0 secret) → h44[a_form]? = some (cA 0 form) → ∀ (mask_44 : List Int), h44[a_mask]? = some (cA 0 mask_44) → Fl (p : Int) mask_44 → (∀ j, j < i → mask_44.getD j 0 = (mask.getD j 0 + c * secret.getD j 0) % (p : Int)) → (∀ j, i ≤ j → mask_44.getD j 0 = mask.getD j 0) → X G m_L_areRuns (d + 10) (rc + 150 + 1 * n9) (rs + 1200 + 6 * n9) ex44 506 [some (.ref 3), some (.ref 0), some (vi (f : Int)), some (vi (p : Int)), some (vi (gq p : Int)), some (.ref a_secret), some (.ref a_form), some (.ref a_mask), some (vi blind), some (vi mb), some (vi c), some (vi dd), some (vi y), some (vi vv), some (vi (i : Int)), none] [] h44 Q := by
                                                                      intro n9
                                                                      induction n9 with
                                                                      | zero =>
                                                                        intro i hi9 h44 ex44 σ44 w44 v44 hlen_44 R2_st_44 R2_c_44 R2_fa_44 R2_w_44 R2_e_44 R2_v_44 R2_form_44 r4_44 r3_44 R1_st_44 R1_t_44 R1_answer_44 R1_c_44 R1_fa_44 R1_w_44 R1_mb_44 R1_mk_44 R1_mask_44 R1_e_44 R1_v_44 R1_form_44 R0_st_44 R0_t_44 R0_answer_44 R0_c_44 R0_fa_44 R0_w_44 R0_mb_44 R0_mk_44 R0_mask_44 R0_e_44 R0_v_44 R0_form_44 r2_44 r1_44 r0_44 p_44 L_44 h_secret_44 h_form_44 mask_44 h_mask_44 Fm_44 lt8_44 ge_44
                                                                        refine x_iload (dT U_L_areRuns 290 rfl) rfl ?_
                                                                        refine x_bipush (dT U_L_areRuns 291 rfl) (by decide) ?_
                                                                        refine x_icmp_ge (tgt := 540) (dT U_L_areRuns 292 rfl) (by decide) (by first | assumption | (unfold xr; omega)) (by unfold xr; omega) (fun c510 => ?_) (fun c510 => ?_)
                                                                        · skip
                                                                          refine x_aload_n (dT U_L_areRuns 309 rfl) rfl ?_
                                                                          have hi8 : i = 8 := by omega
                                                                          subst hi8
                                                                          obtain ⟨AL, e_AL⟩ : ∃ l : List Int, tab (fun j => (mask.getD j 0 + c * secret.getD j 0) % (p : Int)) 8 = l := ⟨_, rfl⟩
                                                                          have lAL : AL.length = 8 := by rw [← e_AL, tab_len]
                                                                          have eq_AL : mask_44 = AL := by
  rw [← e_AL]
  exact list_ext (by rw [tab_len, Fm_44.1]) (fun j hj => by rw [tab_get _ (by rw [Fm_44.1] at hj; omega)]; exact lt8_44 j (by rw [Fm_44.1] at hj; omega))
                                                                          refine x_iload_n (dT U_L_areRuns 310 rfl) rfl ?_
                                                                          refine x_bipush (dT U_L_areRuns 311 rfl) (by decide) ?_
                                                                          refine x_iadd (dT U_L_areRuns 312 rfl) ?_
                                                                          rw [show (f : Int) + 28 = ((f + 28 : Nat) : Int) by omega]
                                                                          refine x_invokestatic (rc' := rc + 150) (rs' := rs + 1200) (rc2 := 0 + 0) (rs2 := 0 + 0) (As := [_, _]) (st := _) M_L_cell K_L_221 (dT U_L_areRuns 313 rfl) rfl rfl rfl rfl (Nat.le_of_ble_eq_true rfl) rfl (by decide) (Nat.le_of_ble_eq_true rfl) (by omega) (by omega) ?_
                                                                          refine S_L_cell (k := f + 28) hL (by omega) (fun z545 => ?_)
                                                                          refine xRet_some ?_
                                                                          refine x_bipush (dT U_L_areRuns 314 rfl) (by decide) ?_
                                                                          refine x_invokestatic (rc' := rc + 150) (rs' := rs + 1200) (rc2 := 0 + 0) (rs2 := 0 + 0) (As := [_, _]) (st := _) M_L_chosen K_L_225 (dT U_L_areRuns 315 rfl) rfl rfl rfl rfl (Nat.le_of_ble_eq_true rfl) rfl (by decide) (Nat.le_of_ble_eq_true rfl) (by omega) (by omega) ?_
                                                                          refine S_L_chosen (by omega) (fun place b_place => ?_)
                                                                          refine xRet_some ?_
                                                                          obtain ⟨t, rfl⟩ : ∃ t : Nat, place = (t : Int) := ⟨place.toNat, by omega⟩
                                                                          refine x_istore (ls' := [some (.ref _), some (.ref _), some (vi _), some (vi _), some (vi _), some (.ref _), some (.ref _), some (.ref _), some (vi _), some (vi _), some (vi _), some (vi _), some (vi _), some (vi _), some (vi _), none]) (dT U_L_areRuns 316 rfl) (by decide) rfl ?_
                                                                          refine x_aload (dT U_L_areRuns 317 rfl) rfl ?_
                                                                          refine x_iload (dT U_L_areRuns 318 rfl) rfl ?_
                                                                          refine x_aload (dT U_L_areRuns 319 rfl) rfl ?_
                                                                          refine x_iload (dT U_L_areRuns 320 rfl) rfl ?_
                                                                          refine x_iaload (t) (dT U_L_areRuns 321 rfl) h_mask_44 (by omega) rfl (by have := (Fm_44).1; omega) (by have := (Fm_44).1; omega) ?_
                                                                          refine x_iconst (dT U_L_areRuns 322 rfl) ?_
                                                                          refine x_iadd (dT U_L_areRuns 323 rfl) ?_
                                                                          refine x_aload_n (dT U_L_areRuns 324 rfl) rfl ?_
                                                                          refine x_iload_n (dT U_L_areRuns 325 rfl) rfl ?_
                                                                          refine x_bipush (dT U_L_areRuns 326 rfl) (by decide) ?_
                                                                          refine x_iadd (dT U_L_areRuns 327 rfl) ?_
                                                                          rw [show (f : Int) + 29 = ((f + 29 : Nat) : Int) by omega]
                                                                          refine x_invokestatic (rc' := rc + 150) (rs' := rs + 1200) (rc2 := 0 + 0) (rs2 := 0 + 0) (As := [_, _]) (st := _) M_L_cell K_L_221 (dT U_L_areRuns 328 rfl) rfl rfl rfl rfl (Nat.le_of_ble_eq_true rfl) rfl (by decide) (Nat.le_of_ble_eq_true rfl) (by omega) (by omega) ?_
                                                                          refine S_L_cell (k := f + 29) hL (by omega) (fun z571 => ?_)
                                                                          refine xRet_some ?_
                                                                          refine x_iload_n (dT U_L_areRuns 329 rfl) rfl ?_
                                                                          refine x_iconst (dT U_L_areRuns 330 rfl) ?_
                                                                          refine x_isub (dT U_L_areRuns 331 rfl) ?_
                                                                          refine x_invokestatic (rc' := rc + 150) (rs' := rs + 1200) (rc2 := 0 + 0) (rs2 := 0 + 0) (As := [_, _]) (st := _) M_L_chosen K_L_225 (dT U_L_areRuns 332 rfl) rfl rfl rfl rfl (Nat.le_of_ble_eq_true rfl) rfl (by decide) (Nat.le_of_ble_eq_true rfl) (by omega) (by omega) ?_
                                                                          refine S_L_chosen (by omega) (fun rc_ b_rc_ => ?_)
                                                                          refine xRet_some ?_
                                                                          refine x_iadd (dT U_L_areRuns 333 rfl) ?_
                                                                          refine x_iload_n (dT U_L_areRuns 334 rfl) rfl ?_
                                                                          refine x_irem (dT U_L_areRuns 335 rfl) (by have := (Fm_44).2 t; unfold xr; omega) (by unfold xr; omega) (by omega) ?_
                                                                          rw [Int.tmod_eq_emod_of_nonneg (by have := (Fm_44).2 t; omega)]
                                                                          refine x_iastoreL (t) w44 g_mask (dT U_L_areRuns 336 rfl) h_mask_44 rfl (by have := (Fm_44).1; omega) (by have := (Fm_44).1; omega) (fun h45 l45 el45 len45 w45 nb45 h_mask_45 => ?_)
                                                                          have hlen_45 : 70 ≤ h45.length := by rw [len45]; exact hlen_44
                                                                          have h_secret_45 := nb45 _ _ (by omega) h_secret_44
                                                                          have h_form_45 := nb45 _ _ (by omega) h_form_44
                                                                          have F_l45 : Fl (p : Int) l45 := by rw [el45]; exact Fl.set Fm_44 (modb (by omega))
                                                                          refine x_aload_n (dT U_L_areRuns 337 rfl) rfl ?_
                                                                          refine x_iconst (dT U_L_areRuns 338 rfl) ?_
                                                                          refine x_aload (dT U_L_areRuns 339 rfl) rfl ?_
                                                                          refine x_invokestatic (rc' := rc + 149) (rs' := rs + 1194) (rc2 := 0 + 1) (rs2 := 0 + 6) (As := [_, _, _]) (st := _) M_L_lays K_L_238 (dT U_L_areRuns 340 rfl) rfl rfl rfl rfl (Nat.le_of_ble_eq_true rfl) rfl (by decide) (Nat.le_of_ble_eq_true rfl) (by omega) (by omega) ?_
                                                                          refine S_L_lays w45 v44 (by omega) h_mask_45 (by omega) (by rw [p_44]; exact F_l45) (fun z46 hz46 h46 fc46 w_46 v_46 => ?_)
                                                                          refine xRet_some ?_
                                                                          obtain ⟨σ47, w47, v47, r5_47, R2_st_47, R2_c_47, R2_fa_47, R2_w_47, R2_e_47, R2_v_47, R2_form_47, r4_47, r3_47, R1_st_47, R1_t_47, R1_answer_47, R1_c_47, R1_fa_47, R1_w_47, R1_mb_47, R1_mk_47, R1_mask_47, R1_e_47, R1_v_47, R1_form_47, R0_st_47, R0_t_47, R0_answer_47, R0_c_47, R0_fa_47, R0_w_47, R0_mb_47, R0_mk_47, R0_mask_47, R0_e_47, R0_v_47, R0_form_47, r2_47, r1_47, r0_47, p_47, L_47⟩ : ∃ σ47 : St, CW σ47 h46 ∧ INV σ47 ∧ σ47.rw 5 = l45 ∧ (σ47.R 2).st = 3 ∧ (σ47.R 2).c = c ∧ (σ47.R 2).fa = cm p mask mb ∧ (σ47.R 2).w = wm ∧ (σ47.R 2).e = cm p secret blind ∧ (σ47.R 2).v = vv ∧ (σ47.R 2).form = form ∧ σ47.rw 4 = secret ∧ σ47.rw 3 = mask ∧ (σ47.R 1).st = 4 ∧ (σ47.R 1).t = (mb + dd * blind) % (p : Int) ∧ (σ47.R 1).answer = tab (fun j => (mask.getD j 0 + dd * secret.getD j 0) % (p : Int)) 8 ∧ (σ47.R 1).c = dd ∧ (σ47.R 1).fa = cm p mask mb ∧ (σ47.R 1).w = inn form mask % (p : Int) ∧ (σ47.R 1).mb = mb ∧ (σ47.R 1).mk = true ∧ (σ47.R 1).mask = mask ∧ (σ47.R 1).e = cm p secret blind ∧ (σ47.R 1).v = vv ∧ (σ47.R 1).form = form ∧ (σ47.R 0).st = 4 ∧ (σ47.R 0).t = (mb + c * blind) % (p : Int) ∧ (σ47.R 0).answer = tab (fun j => (mask.getD j 0 + c * secret.getD j 0) % (p : Int)) 8 ∧ (σ47.R 0).c = c ∧ (σ47.R 0).fa = cm p mask mb ∧ (σ47.R 0).w = inn form mask % (p : Int) ∧ (σ47.R 0).mb = mb ∧ (σ47.R 0).mk = true ∧ (σ47.R 0).mask = mask ∧ (σ47.R 0).e = cm p secret blind ∧ (σ47.R 0).v = vv ∧ (σ47.R 0).form = form ∧ σ47.rw 2 = form ∧ σ47.rw 1 = mask ∧ σ47.rw 0 = secret ∧ σ47.p = p ∧ σ47.L.n = n0 := ⟨_, w_46, v_46, rfl, R2_st_44, R2_c_44, R2_fa_44, R2_w_44, R2_e_44, R2_v_44, R2_form_44, r4_44, r3_44, R1_st_44, R1_t_44, R1_answer_44, R1_c_44, R1_fa_44, R1_w_44, R1_mb_44, R1_mk_44, R1_mask_44, R1_e_44, R1_v_44, R1_form_44, R0_st_44, R0_t_44, R0_answer_44, R0_c_44, R0_fa_44, R0_w_44, R0_mb_44, R0_mk_44, R0_mask_44, R0_e_44, R0_v_44, R0_form_44, r2_44, r1_44, r0_44, p_44, L_44⟩
                                                                          have h_secret_47 : h46[a_secret]? = some (cA 0 secret) := (fc46).get h_secret_45 (by omega)
                                                                          have h_form_47 : h46[a_form]? = some (cA 0 form) := (fc46).get h_form_45 (by omega)
                                                                          have h_mask_47 : h46[a_mask]? = some (cA 0 l45) := (fc46).get h_mask_45 (by omega)
                                                                          have hlen_47 : 70 ≤ h46.length := by rw [fc46.1]; exact hlen_45
                                                                          refine x_pop2 (dT U_L_areRuns 341 rfl) ?_
                                                                          refine x_aload_n (dT U_L_areRuns 342 rfl) rfl ?_
                                                                          refine x_iconst (dT U_L_areRuns 343 rfl) ?_
                                                                          refine x_iconst (dT U_L_areRuns 344 rfl) ?_
                                                                          refine x_iload (dT U_L_areRuns 345 rfl) rfl ?_
                                                                          refine x_iload (dT U_L_areRuns 346 rfl) rfl ?_
                                                                          refine x_iload (dT U_L_areRuns 347 rfl) rfl ?_
                                                                          refine x_imul (dT U_L_areRuns 348 rfl) ?_
                                                                          refine x_iadd (dT U_L_areRuns 349 rfl) ?_
                                                                          refine x_iload_n (dT U_L_areRuns 350 rfl) rfl ?_
                                                                          refine x_irem (dT U_L_areRuns 351 rfl) (by unfold xr; omega) (by unfold xr; omega) (by omega) ?_
                                                                          rw [Int.tmod_eq_emod_of_nonneg (by omega)]
                                                                          have hmt := modb (z := mb + c * blind) (p := (p : Int)) (by omega)
                                                                          refine x_invokestatic (rc' := rc + 145) (rs' := rs + 1170) (rc2 := 0 + 4) (rs2 := 0 + 24) (As := [_, _, _, _]) (st := _) M_L_tell K_L_288 (dT U_L_areRuns 352 rfl) rfl rfl rfl rfl (Nat.le_of_ble_eq_true rfl) rfl (by decide) (Nat.le_of_ble_eq_true rfl) (by omega) (by omega) ?_
                                                                          refine S_L_tell w47 v47 (by first | assumption | (unfold xr; omega)) (by first | assumption | (unfold xr; omega)) (by first | assumption | (unfold xr; omega)) (fun  z8 => absurd (show inb _ _ ∧ inb _ _ from by omega) z8) (fun _ z8 => absurd (show inb _ _ from by have := p_47; omega) z8) (fun _ _ z8 => absurd (R2_st_47) z8) (fun _ _ _ z48 e48 hz48 h48 fc48 w_48 v_48 => ?_)
                                                                          refine xRet_some ?_
                                                                          obtain ⟨σ49, w49, v49, R2_st_49, R2_t_49, R2_answer_49, r5_49, R2_c_49, R2_fa_49, R2_w_49, R2_e_49, R2_v_49, R2_form_49, r4_49, r3_49, R1_st_49, R1_t_49, R1_answer_49, R1_c_49, R1_fa_49, R1_w_49, R1_mb_49, R1_mk_49, R1_mask_49, R1_e_49, R1_v_49, R1_form_49, R0_st_49, R0_t_49, R0_answer_49, R0_c_49, R0_fa_49, R0_w_49, R0_mb_49, R0_mk_49, R0_mask_49, R0_e_49, R0_v_49, R0_form_49, r2_49, r1_49, r0_49, p_49, L_49⟩ : ∃ σ49 : St, CW σ49 h48 ∧ INV σ49 ∧ (σ49.R 2).st = 4 ∧ (σ49.R 2).t = (mb + c * blind) % (p : Int) ∧ (σ49.R 2).answer = AL.set t ((AL.getD t 0 + 1 + rc_) % (p : Int)) ∧ σ49.rw 5 = l45 ∧ (σ49.R 2).c = c ∧ (σ49.R 2).fa = cm p mask mb ∧ (σ49.R 2).w = wm ∧ (σ49.R 2).e = cm p secret blind ∧ (σ49.R 2).v = vv ∧ (σ49.R 2).form = form ∧ σ49.rw 4 = secret ∧ σ49.rw 3 = mask ∧ (σ49.R 1).st = 4 ∧ (σ49.R 1).t = (mb + dd * blind) % (p : Int) ∧ (σ49.R 1).answer = tab (fun j => (mask.getD j 0 + dd * secret.getD j 0) % (p : Int)) 8 ∧ (σ49.R 1).c = dd ∧ (σ49.R 1).fa = cm p mask mb ∧ (σ49.R 1).w = inn form mask % (p : Int) ∧ (σ49.R 1).mb = mb ∧ (σ49.R 1).mk = true ∧ (σ49.R 1).mask = mask ∧ (σ49.R 1).e = cm p secret blind ∧ (σ49.R 1).v = vv ∧ (σ49.R 1).form = form ∧ (σ49.R 0).st = 4 ∧ (σ49.R 0).t = (mb + c * blind) % (p : Int) ∧ (σ49.R 0).answer = tab (fun j => (mask.getD j 0 + c * secret.getD j 0) % (p : Int)) 8 ∧ (σ49.R 0).c = c ∧ (σ49.R 0).fa = cm p mask mb ∧ (σ49.R 0).w = inn form mask % (p : Int) ∧ (σ49.R 0).mb = mb ∧ (σ49.R 0).mk = true ∧ (σ49.R 0).mask = mask ∧ (σ49.R 0).e = cm p secret blind ∧ (σ49.R 0).v = vv ∧ (σ49.R 0).form = form ∧ σ49.rw 2 = form ∧ σ49.rw 1 = mask ∧ σ49.rw 0 = secret ∧ σ49.p = p ∧ σ49.L.n = n0 := ⟨_, w_48, v_48, rfl, rfl, (r5_47.trans (by rw [el45, eq_AL])), r5_47, R2_c_47, R2_fa_47, R2_w_47, R2_e_47, R2_v_47, R2_form_47, r4_47, r3_47, R1_st_47, R1_t_47, R1_answer_47, R1_c_47, R1_fa_47, R1_w_47, R1_mb_47, R1_mk_47, R1_mask_47, R1_e_47, R1_v_47, R1_form_47, R0_st_47, R0_t_47, R0_answer_47, R0_c_47, R0_fa_47, R0_w_47, R0_mb_47, R0_mk_47, R0_mask_47, R0_e_47, R0_v_47, R0_form_47, r2_47, r1_47, r0_47, p_47, L_47⟩
                                                                          have h_secret_49 : h48[a_secret]? = some (cA 0 secret) := (fc48).get h_secret_47 (by omega)
                                                                          have h_form_49 : h48[a_form]? = some (cA 0 form) := (fc48).get h_form_47 (by omega)
                                                                          have h_mask_49 : h48[a_mask]? = some (cA 0 l45) := (fc48).get h_mask_47 (by omega)
                                                                          have hlen_49 : 70 ≤ h48.length := by rw [fc48.1]; exact hlen_47
                                                                          refine x_pop2 (dT U_L_areRuns 353 rfl) ?_
                                                                          refine x_aload_n (dT U_L_areRuns 354 rfl) rfl ?_
                                                                          refine x_iconst (dT U_L_areRuns 355 rfl) ?_
                                                                          refine x_invokestatic (rc' := rc + 144) (rs' := rs + 1164) (rc2 := 0 + 1) (rs2 := 0 + 6) (As := [_, _]) (st := _) M_L_isAccepted K_L_271 (dT U_L_areRuns 356 rfl) rfl rfl rfl rfl (Nat.le_of_ble_eq_true rfl) rfl (by decide) (Nat.le_of_ble_eq_true rfl) (by omega) (by omega) ?_
                                                                          refine S_L_isAccepted w49 v49 (by first | assumption | (unfold xr; omega)) (fun  z8 => absurd (show inb _ _ from by omega) z8) (fun _ z8 => absurd z8 ((by
  rw [p_49]
  intro z
  have q1 := z.2.1
  rw [show (σ49.R _).answer = _ from R2_answer_49, show (σ49.R _).t = _ from R2_t_49, show (σ49.R _).fa = _ from R2_fa_49, show (σ49.R _).c = _ from R2_c_49, show (σ49.R _).e = _ from R2_e_49, ← cm_lin (tab_lin) (Int.emod_emod_of_dvd _ (Int.dvd_refl _)), e_AL] at q1
  exact changed_ne hpr lAL (show t < 8 by omega) b_rc_ q1))) (fun _ _ => ?_)
                                                                          refine xRet_some ?_
                                                                          refine x_lconst (z := 0) (dT U_L_areRuns 357 rfl) rfl ?_
                                                                          refine x_lif_ne (tgt := 623) (dT U_L_areRuns 358 rfl) (dT U_L_areRuns 359 rfl) (by decide) (xrl_of (by unfold xr; omega)) (xrl_of (by unfold xr; omega)) (fun c615 => ?_) (fun c615 => ?_)
                                                                          · skip
                                                                            exfalso; omega
                                                                          · skip
                                                                            refine x_iconst (dT U_L_areRuns 360 rfl) ?_
                                                                            refine x_goto (tgt := 624) (dT U_L_areRuns 361 rfl) (by decide) ?_
                                                                            refine x_zreturn (dT U_L_areRuns 363 rfl) rfl (by omega) ?_
                                                                            exact kk _ _ _ w49 v49 p_49 L_49 hlen_49
                                                                        · skip
                                                                          exfalso; omega
                                                                      | succ n9 ih =>
                                                                        intro i hi9 h44 ex44 σ44 w44 v44 hlen_44 R2_st_44 R2_c_44 R2_fa_44 R2_w_44 R2_e_44 R2_v_44 R2_form_44 r4_44 r3_44 R1_st_44 R1_t_44 R1_answer_44 R1_c_44 R1_fa_44 R1_w_44 R1_mb_44 R1_mk_44 R1_mask_44 R1_e_44 R1_v_44 R1_form_44 R0_st_44 R0_t_44 R0_answer_44 R0_c_44 R0_fa_44 R0_w_44 R0_mb_44 R0_mk_44 R0_mask_44 R0_e_44 R0_v_44 R0_form_44 r2_44 r1_44 r0_44 p_44 L_44 h_secret_44 h_form_44 mask_44 h_mask_44 Fm_44 lt8_44 ge_44
                                                                        refine x_iload (dT U_L_areRuns 290 rfl) rfl ?_
                                                                        refine x_bipush (dT U_L_areRuns 291 rfl) (by decide) ?_
                                                                        refine x_icmp_ge (tgt := 540) (dT U_L_areRuns 292 rfl) (by decide) (by first | assumption | (unfold xr; omega)) (by unfold xr; omega) (fun c510 => ?_) (fun c510 => ?_)
                                                                        · skip
                                                                          exfalso; omega
                                                                        · skip
                                                                          refine x_aload (dT U_L_areRuns 293 rfl) rfl ?_
                                                                          refine x_iload (dT U_L_areRuns 294 rfl) rfl ?_
                                                                          refine x_aload (dT U_L_areRuns 295 rfl) rfl ?_
                                                                          refine x_iload (dT U_L_areRuns 296 rfl) rfl ?_
                                                                          refine x_iaload (i) (dT U_L_areRuns 297 rfl) h_mask_44 (by omega) rfl (by have := (Fm_44).1; omega) (by have := (Fm_44).1; omega) ?_
                                                                          refine x_iload (dT U_L_areRuns 298 rfl) rfl ?_
                                                                          refine x_aload (dT U_L_areRuns 299 rfl) rfl ?_
                                                                          refine x_iload (dT U_L_areRuns 300 rfl) rfl ?_
                                                                          refine x_iaload (i) (dT U_L_areRuns 301 rfl) h_secret_44 (by omega) rfl (by have := (Fl_secret).1; omega) (by have := (Fl_secret).1; omega) ?_
                                                                          have m_i := mulg (a := c) (b := secret.getD i 0) (m := 23) (n := 23) (by omega) (by have := Fl_secret.2 i; omega)
                                                                          have m_j := Fl_mask.2 i
                                                                          have m_k := ge_44 i (by omega)
                                                                          rw [m_k]
                                                                          refine x_imul (dT U_L_areRuns 302 rfl) ?_
                                                                          refine x_iadd (dT U_L_areRuns 303 rfl) ?_
                                                                          refine x_iload_n (dT U_L_areRuns 304 rfl) rfl ?_
                                                                          refine x_irem (dT U_L_areRuns 305 rfl) (by unfold xr; omega) (by unfold xr; omega) (by omega) ?_
                                                                          rw [Int.tmod_eq_emod_of_nonneg (by omega)]
                                                                          refine x_iastoreL (i) w44 g_mask (dT U_L_areRuns 306 rfl) h_mask_44 rfl (by have := (Fm_44).1; omega) (by have := (Fm_44).1; omega) (fun h51 l51 el51 len51 w51 nb51 h_mask_51 => ?_)
                                                                          have hlen_51 : 70 ≤ h51.length := by rw [len51]; exact hlen_44
                                                                          have h_secret_51 := nb51 _ _ (by omega) h_secret_44
                                                                          have h_form_51 := nb51 _ _ (by omega) h_form_44
                                                                          have F_l51 : Fl (p : Int) l51 := by rw [el51]; exact Fl.set Fm_44 (modb (by omega))
                                                                          refine x_iinc (ls' := [some (.ref _), some (.ref _), some (vi _), some (vi _), some (vi _), some (.ref _), some (.ref _), some (.ref _), some (vi _), some (vi _), some (vi _), some (vi _), some (vi _), some (vi _), some (vi _), none]) (dT U_L_areRuns 307 rfl) (by decide) rfl rfl ?_
                                                                          refine x_goto (tgt := 506) (dT U_L_areRuns 308 rfl) (by decide) ?_
                                                                          have nlt : ∀ j, j < i + 1 → l51.getD j 0 = (mask.getD j 0 + c * secret.getD j 0) % (p : Int) := by
                                                                            intro j hj
                                                                            rw [el51]
                                                                            by_cases e : j = i
                                                                            · subst e; rw [gset_e (by rw [Fm_44.1]; omega)]
                                                                            · rw [gset_n e]; exact lt8_44 j (by omega)
                                                                          have nge : ∀ j, i + 1 ≤ j → l51.getD j 0 = mask.getD j 0 := by
                                                                            intro j hj
                                                                            rw [el51, gset_n (by omega)]
                                                                            exact ge_44 j (by omega)
                                                                          refine X_room (by omega) (by omega) (x_drop ?_ (ih (i + 1) (by omega) _ _ _ w51 v44 hlen_51 R2_st_44 R2_c_44 R2_fa_44 R2_w_44 R2_e_44 R2_v_44 R2_form_44 r4_44 r3_44 R1_st_44 R1_t_44 R1_answer_44 R1_c_44 R1_fa_44 R1_w_44 R1_mb_44 R1_mk_44 R1_mask_44 R1_e_44 R1_v_44 R1_form_44 R0_st_44 R0_t_44 R0_answer_44 R0_c_44 R0_fa_44 R0_w_44 R0_mb_44 R0_mk_44 R0_mask_44 R0_e_44 R0_v_44 R0_form_44 r2_44 r1_44 r0_44 p_44 L_44 h_secret_51 h_form_51 _ h_mask_51 F_l51 nlt nge))
                                                                          repeat (first | exact trivial | refine ⟨rfl, ?_⟩ | refine ⟨trivial, ?_⟩)
                                                                    refine X_room (by omega) (by omega) (x_drop ?_ (L44 8 0 (by omega) _ _ _ w43 v43 hlen_43 R2_st_43 R2_c_43 R2_fa_43 R2_w_43 R2_e_43 R2_v_43 R2_form_43 r4_43 r3_43 R1_st_43 R1_t_43 R1_answer_43 R1_c_43 R1_fa_43 R1_w_43 R1_mb_43 R1_mk_43 R1_mask_43 R1_e_43 R1_v_43 R1_form_43 R0_st_43 R0_t_43 R0_answer_43 R0_c_43 R0_fa_43 R0_w_43 R0_mb_43 R0_mk_43 R0_mask_43 R0_e_43 R0_v_43 R0_form_43 r2_43 r1_43 r0_43 p_43 L_43 h_secret_43 h_form_43 _ h_mask_43 Fl_mask (fun j hj => absurd hj (Nat.not_lt_zero j)) (fun j _ => rfl)))
                                                                    repeat (first | exact trivial | refine ⟨rfl, ?_⟩ | refine ⟨trivial, ?_⟩)
                                                                  · skip
                                                                    exfalso; omega
                                                                · skip
                                                                  exfalso; omega
                                                            · skip
                                                              exfalso; omega
                                                      · skip
                                                        exfalso; omega
                                                    · skip
                                                      exfalso; omega
                                                  | succ n9 ih =>
                                                    intro i hi9 h32 ex32 σ32 w32 v32 hlen_32 R1_st_32 R1_t_32 R1_answer_32 R1_c_32 R1_fa_32 R1_w_32 R1_mb_32 R1_mk_32 R1_mask_32 R1_e_32 R1_v_32 R1_form_32 R0_st_32 R0_t_32 R0_answer_32 R0_c_32 R0_fa_32 R0_w_32 R0_mb_32 R0_mk_32 R0_mask_32 R0_e_32 R0_v_32 R0_form_32 r2_32 r1_32 r0_32 p_32 L_32 h_secret_32 h_form_32 h_mask_32
                                                    refine x_iload (dT U_L_areRuns 180 rfl) rfl ?_
                                                    refine x_bipush (dT U_L_areRuns 181 rfl) (by decide) ?_
                                                    refine x_icmp_ge (tgt := 371) (dT U_L_areRuns 182 rfl) (by decide) (by first | assumption | (unfold xr; omega)) (by unfold xr; omega) (fun c320 => ?_) (fun c320 => ?_)
                                                    · skip
                                                      exfalso; omega
                                                    · skip
                                                      refine x_aload_n (dT U_L_areRuns 183 rfl) rfl ?_
                                                      refine x_iload (dT U_L_areRuns 184 rfl) rfl ?_
                                                      refine x_iload (dT U_L_areRuns 185 rfl) rfl ?_
                                                      refine x_iconst (dT U_L_areRuns 186 rfl) ?_
                                                      refine x_invokestatic (rc' := rc + 300 + 6 * n9 + 2) (rs' := rs + 2400 + 36 * n9 + 12) (rc2 := 0 + 4) (rs2 := 0 + 24) (As := [_, _, _, _]) (st := _) M_L_form K_L_273 (dT U_L_areRuns 187 rfl) rfl rfl rfl rfl (Nat.le_of_ble_eq_true rfl) rfl (by decide) (Nat.le_of_ble_eq_true rfl) (by omega) (by omega) ?_
                                                      refine S_L_form w32 v32 (by first | assumption | (unfold xr; omega)) (by first | assumption | (unfold xr; omega)) (by first | assumption | (unfold xr; omega)) (fun  z8 => absurd (show inb _ _ ∧ inb _ _ from by omega) z8) (fun _ z8 => absurd (show 1 ≤ (σ32.R _).st ∧ _ from ⟨by rw [show (σ32.R _).st = 4 from R1_st_32]; decide, fun _ => by rw [show (σ32.R _).st = 4 from R1_st_32]; decide⟩) z8) (fun _ _ z52 e52 hz52 => ?_)
                                                      refine xRet_some ?_
                                                      have e52 : z52 = (mask.getD i 0 + dd * secret.getD i 0) % (p : Int) := by
                                                        rw [if_pos rfl] at e52
                                                        rw [e52]
                                                        show (σ32.R 1).answer.getD i 0 = _
                                                        rw [R1_answer_32, tab_get _ (by omega)]
                                                      have m_i := mulg (a := dd) (b := secret.getD i 0) (m := 23) (n := 23) (by omega) (by have := Fl_secret.2 i; omega)
                                                      have m_j := Fl_mask.2 i
                                                      refine x_aload (dT U_L_areRuns 188 rfl) rfl ?_
                                                      refine x_iload (dT U_L_areRuns 189 rfl) rfl ?_
                                                      refine x_iaload (i) (dT U_L_areRuns 190 rfl) h_mask_32 (by omega) rfl (by have := (Fl_mask).1; omega) (by have := (Fl_mask).1; omega) ?_
                                                      refine x_iload (dT U_L_areRuns 191 rfl) rfl ?_
                                                      refine x_if_ne (tgt := 347) (dT U_L_areRuns 192 rfl) (by decide) (by unfold xr; omega) (fun c339 => ?_) (fun c339 => ?_)
                                                      · skip
                                                        refine x_iload (dT U_L_areRuns 195 rfl) rfl ?_
                                                        refine x_aload (dT U_L_areRuns 196 rfl) rfl ?_
                                                        refine x_iload (dT U_L_areRuns 197 rfl) rfl ?_
                                                        refine x_iaload (i) (dT U_L_areRuns 198 rfl) h_secret_32 (by omega) rfl (by have := (Fl_secret).1; omega) (by have := (Fl_secret).1; omega) ?_
                                                        refine x_imul (dT U_L_areRuns 199 rfl) ?_
                                                        refine x_iadd (dT U_L_areRuns 200 rfl) ?_
                                                        refine x_iload_n (dT U_L_areRuns 201 rfl) rfl ?_
                                                        refine x_irem (dT U_L_areRuns 202 rfl) (by unfold xr; omega) (by unfold xr; omega) (by omega) ?_
                                                        rw [Int.tmod_eq_emod_of_nonneg (by omega)]
                                                        refine x_i2l (dT U_L_areRuns 203 rfl) (xr_md ⟨by omega, by omega⟩) ?_
                                                        refine x_lif_eq (tgt := 365) (dT U_L_areRuns 204 rfl) (dT U_L_areRuns 205 rfl) (by decide) (xrl_of hz52) (xrl_of (xr_md ⟨by omega, by omega⟩)) (fun c359 => ?_) (fun c359 => ?_)
                                                        · skip
                                                          refine x_iinc (ls' := [some (.ref _), some (.ref _), some (vi _), some (vi _), some (vi _), some (.ref _), some (.ref _), some (.ref _), some (vi _), some (vi _), some (vi _), some (vi _), some (vi _), some (vi _), some (vi _), some (vi _)]) (dT U_L_areRuns 208 rfl) (by decide) rfl rfl ?_
                                                          refine x_goto (tgt := 316) (dT U_L_areRuns 209 rfl) (by decide) ?_
                                                          
                                                          refine X_room (by omega) (by omega) (x_drop ?_ (ih (i + 1) (by omega) _ _ _ w32 v32 hlen_32 R1_st_32 R1_t_32 R1_answer_32 R1_c_32 R1_fa_32 R1_w_32 R1_mb_32 R1_mk_32 R1_mask_32 R1_e_32 R1_v_32 R1_form_32 R0_st_32 R0_t_32 R0_answer_32 R0_c_32 R0_fa_32 R0_w_32 R0_mb_32 R0_mk_32 R0_mask_32 R0_e_32 R0_v_32 R0_form_32 r2_32 r1_32 r0_32 p_32 L_32 h_secret_32 h_form_32 h_mask_32))
                                                          repeat (first | exact trivial | refine ⟨rfl, ?_⟩ | refine ⟨trivial, ?_⟩)
                                                        · skip
                                                          exact c359 e52
                                                      · skip
                                                        exfalso; omega
                                                refine X_room (by omega) (by omega) (x_drop ?_ (L32 8 0 (by omega) _ _ _ w30 v30 hlen_30 R1_st_30 R1_t_30 R1_answer_30 R1_c_30 R1_fa_30 R1_w_30 R1_mb_30 R1_mk_30 R1_mask_30 R1_e_30 R1_v_30 R1_form_30 R0_st_30 R0_t_30 R0_answer_30 R0_c_30 R0_fa_30 R0_w_30 R0_mb_30 R0_mk_30 R0_mask_30 R0_e_30 R0_v_30 R0_form_30 r2_30 r1_30 r0_30 p_30 L_30 h_secret_30 h_form_30 h_mask_30))
                                                repeat (first | exact trivial | refine ⟨rfl, ?_⟩ | refine ⟨trivial, ?_⟩)
                                              · skip
                                                exfalso; omega
                                          · skip
                                            exfalso; omega
                                      · skip
                                        exfalso; omega
                                    · skip
                                      exfalso; omega
                                  · skip
                                    exact c225 e26
                          · skip
                            exfalso; omega
                        | succ n9 ih =>
                          intro i hi9 h21 ex21 σ21 w21 v21 hlen_21 R0_st_21 R0_t_21 R0_answer_21 R0_c_21 R0_fa_21 R0_w_21 R0_mb_21 R0_mk_21 R0_mask_21 R0_e_21 R0_v_21 R0_form_21 r2_21 r1_21 r0_21 p_21 L_21 h_secret_21 h_form_21 h_mask_21
                          refine x_iload (dT U_L_areRuns 180 rfl) rfl ?_
                          refine x_bipush (dT U_L_areRuns 181 rfl) (by decide) ?_
                          refine x_icmp_ge (tgt := 371) (dT U_L_areRuns 182 rfl) (by decide) (by first | assumption | (unfold xr; omega)) (by unfold xr; omega) (fun c320 => ?_) (fun c320 => ?_)
                          · skip
                            exfalso; omega
                          · skip
                            refine x_aload_n (dT U_L_areRuns 183 rfl) rfl ?_
                            refine x_iload (dT U_L_areRuns 184 rfl) rfl ?_
                            refine x_iload (dT U_L_areRuns 185 rfl) rfl ?_
                            refine x_iconst (dT U_L_areRuns 186 rfl) ?_
                            refine x_invokestatic (rc' := rc + 600 + 6 * n9 + 2) (rs' := rs + 4800 + 36 * n9 + 12) (rc2 := 0 + 4) (rs2 := 0 + 24) (As := [_, _, _, _]) (st := _) M_L_form K_L_273 (dT U_L_areRuns 187 rfl) rfl rfl rfl rfl (Nat.le_of_ble_eq_true rfl) rfl (by decide) (Nat.le_of_ble_eq_true rfl) (by omega) (by omega) ?_
                            refine S_L_form w21 v21 (by first | assumption | (unfold xr; omega)) (by first | assumption | (unfold xr; omega)) (by first | assumption | (unfold xr; omega)) (fun  z8 => absurd (show inb _ _ ∧ inb _ _ from by omega) z8) (fun _ z8 => absurd (show 1 ≤ (σ21.R _).st ∧ _ from ⟨by rw [show (σ21.R _).st = 4 from R0_st_21]; decide, fun _ => by rw [show (σ21.R _).st = 4 from R0_st_21]; decide⟩) z8) (fun _ _ z53 e53 hz53 => ?_)
                            refine xRet_some ?_
                            have e53 : z53 = (mask.getD i 0 + c * secret.getD i 0) % (p : Int) := by
                              rw [if_pos rfl] at e53
                              rw [e53]
                              show (σ21.R 0).answer.getD i 0 = _
                              rw [R0_answer_21, tab_get _ (by omega)]
                            have m_i := mulg (a := c) (b := secret.getD i 0) (m := 23) (n := 23) (by omega) (by have := Fl_secret.2 i; omega)
                            have m_j := Fl_mask.2 i
                            refine x_aload (dT U_L_areRuns 188 rfl) rfl ?_
                            refine x_iload (dT U_L_areRuns 189 rfl) rfl ?_
                            refine x_iaload (i) (dT U_L_areRuns 190 rfl) h_mask_21 (by omega) rfl (by have := (Fl_mask).1; omega) (by have := (Fl_mask).1; omega) ?_
                            refine x_iload (dT U_L_areRuns 191 rfl) rfl ?_
                            refine x_if_ne (tgt := 347) (dT U_L_areRuns 192 rfl) (by decide) (by unfold xr; omega) (fun c339 => ?_) (fun c339 => ?_)
                            · skip
                              exfalso; omega
                            · skip
                              refine x_iload (dT U_L_areRuns 193 rfl) rfl ?_
                              refine x_goto (tgt := 349) (dT U_L_areRuns 194 rfl) (by decide) ?_
                              refine x_aload (dT U_L_areRuns 196 rfl) rfl ?_
                              refine x_iload (dT U_L_areRuns 197 rfl) rfl ?_
                              refine x_iaload (i) (dT U_L_areRuns 198 rfl) h_secret_21 (by omega) rfl (by have := (Fl_secret).1; omega) (by have := (Fl_secret).1; omega) ?_
                              refine x_imul (dT U_L_areRuns 199 rfl) ?_
                              refine x_iadd (dT U_L_areRuns 200 rfl) ?_
                              refine x_iload_n (dT U_L_areRuns 201 rfl) rfl ?_
                              refine x_irem (dT U_L_areRuns 202 rfl) (by unfold xr; omega) (by unfold xr; omega) (by omega) ?_
                              rw [Int.tmod_eq_emod_of_nonneg (by omega)]
                              refine x_i2l (dT U_L_areRuns 203 rfl) (xr_md ⟨by omega, by omega⟩) ?_
                              refine x_lif_eq (tgt := 365) (dT U_L_areRuns 204 rfl) (dT U_L_areRuns 205 rfl) (by decide) (xrl_of hz53) (xrl_of (xr_md ⟨by omega, by omega⟩)) (fun c359 => ?_) (fun c359 => ?_)
                              · skip
                                refine x_iinc (ls' := [some (.ref _), some (.ref _), some (vi _), some (vi _), some (vi _), some (.ref _), some (.ref _), some (.ref _), some (vi _), some (vi _), some (vi _), some (vi _), some (vi _), some (vi _), some (vi _), some (vi _)]) (dT U_L_areRuns 208 rfl) (by decide) rfl rfl ?_
                                refine x_goto (tgt := 316) (dT U_L_areRuns 209 rfl) (by decide) ?_
                                
                                refine X_room (by omega) (by omega) (x_drop ?_ (ih (i + 1) (by omega) _ _ _ w21 v21 hlen_21 R0_st_21 R0_t_21 R0_answer_21 R0_c_21 R0_fa_21 R0_w_21 R0_mb_21 R0_mk_21 R0_mask_21 R0_e_21 R0_v_21 R0_form_21 r2_21 r1_21 r0_21 p_21 L_21 h_secret_21 h_form_21 h_mask_21))
                                repeat (first | exact trivial | refine ⟨rfl, ?_⟩ | refine ⟨trivial, ?_⟩)
                              · skip
                                exact c359 e53
                      refine X_room (by omega) (by omega) (x_drop ?_ (L21 8 0 (by omega) _ _ _ w19 v19 hlen_19 R0_st_19 R0_t_19 R0_answer_19 R0_c_19 R0_fa_19 R0_w_19 R0_mb_19 R0_mk_19 R0_mask_19 R0_e_19 R0_v_19 R0_form_19 r2_19 r1_19 r0_19 p_19 L_19 h_secret_19 h_form_19 h_mask_19))
                      repeat (first | exact trivial | refine ⟨rfl, ?_⟩ | refine ⟨trivial, ?_⟩)
                    · skip
                      exfalso; omega
        · skip
          exact c225 e15

