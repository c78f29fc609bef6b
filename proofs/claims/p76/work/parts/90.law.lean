def m_L_law : xM := (yL_law, cL_law, 5, (some FieldType.boolean), [])
def B_L_law_0 : ByteArray := .mk #[0xbb, 0x00, 0x0c, 0x59, 0xb7, 0x01, 0x75, 0x4c, 0x03, 0x3d, 0x1c, 0x05, 0xa2, 0x00, 0xbd, 0x2b, 0x2a, 0x11, 0x01, 0x2c, 0x1c, 0x60, 0xb8, 0x00, 0xdd, 0x10, 0x08, 0xb8, 0x00, 0xe1, 0xb8, 0x01, 0x76, 0x88, 0x3e, 0x2b, 0xb8, 0x01, 0x78, 0x88, 0x36, 0x04, 0x15, 0x04, 0x1d, 0xa4, 0x00, 0x0c, 0x15, 0x04, 0x04, 0x64, 0x1d, 0x70, 0x99, 0x00, 0x05, 0x03, 0xac, 0x2b, 0x2a, 0x1d, 0x15, 0x04, 0xb8, 0x01, 0x7a, 0x99, 0x00, 0x19, 0x2b, 0x2a, 0x10, 0x28, 0x1d, 0x15, 0x04, 0xb8, 0x01, 0x7e, 0x99, 0x00, 0x0c, 0x2b, 0xb8, 0x01, 0x82, 0x0a, 0x94, 0x99, 0x00, 0x05, 0x03, 0xac, 0x2b, 0x2a, 0x1d, 0x15, 0x04, 0xb8, 0x01, 0x84, 0x99, 0x00, 0x22, 0x2b, 0x2a, 0x1d, 0x15, 0x04, 0xb8, 0x01, 0x87, 0x99, 0x00, 0x17, 0x2b, 0x2a, 0x1d, 0x15, 0x04, 0xb8, 0x01, 0x8a, 0x99, 0x00, 0x0c, 0x2b]
theorem W_L_law_0 : sameFrom m_L_law.2.1 B_L_law_0 0 := sameFrom_of (by decide +kernel)
def t_L_law_0 : List (Nat × Instr × Nat) := [(0, .new 12, 3), (3, .dup, 1), (4, .invokespecial 373, 3), (7, .astore_n 1, 1), (8, .iconst 0, 1), (9, .istore_n 2, 1), (10, .iload_n 2, 1), (11, .iconst 2, 1), (12, .if_icmp .ge 189, 3), (15, .aload_n 1, 1), (16, .aload_n 0, 1), (17, .sipush 300, 3), (20, .iload_n 2, 1), (21, .iadd, 1), (22, .invokestatic 221, 3), (25, .bipush 8, 2), (27, .invokestatic 225, 3), (30, .invokestatic 374, 3), (33, .l2i, 1), (34, .istore_n 3, 1), (35, .aload_n 1, 1), (36, .invokestatic 376, 3), (39, .l2i, 1), (40, .istore 4, 2), (42, .iload 4, 2), (44, .iload_n 3, 1), (45, .if_icmp .le 12, 3), (48, .iload 4, 2), (50, .iconst 1, 1), (51, .isub, 1), (52, .iload_n 3, 1), (53, .irem, 1), (54, .ifCond .eq 5, 3), (57, .iconst 0, 1), (58, .ireturn, 1), (59, .aload_n 1, 1), (60, .aload_n 0, 1), (61, .iload_n 3, 1), (62, .iload 4, 2), (64, .invokestatic 378, 3), (67, .ifCond .eq 25, 3), (70, .aload_n 1, 1), (71, .aload_n 0, 1), (72, .bipush 40, 2), (74, .iload_n 3, 1), (75, .iload 4, 2), (77, .invokestatic 382, 3), (80, .ifCond .eq 12, 3), (83, .aload_n 1, 1), (84, .invokestatic 386, 3), (87, .lconst 1, 1), (88, .lcmp, 1), (89, .ifCond .eq 5, 3), (92, .iconst 0, 1), (93, .ireturn, 1), (94, .aload_n 1, 1), (95, .aload_n 0, 1), (96, .iload_n 3, 1), (97, .iload 4, 2), (99, .invokestatic 388, 3), (102, .ifCond .eq 34, 3), (105, .aload_n 1, 1), (106, .aload_n 0, 1), (107, .iload_n 3, 1), (108, .iload 4, 2), (110, .invokestatic 391, 3), (113, .ifCond .eq 23, 3), (116, .aload_n 1, 1), (117, .aload_n 0, 1), (118, .iload_n 3, 1), (119, .iload 4, 2), (121, .invokestatic 394, 3), (124, .ifCond .eq 12, 3), (127, .aload_n 1, 1)]
set_option maxRecDepth 20000 in
theorem U_L_law_0 : okT m_L_law.2.1 t_L_law_0 = true := dSt [(0, .new 12, 3), (3, .dup, 1), (4, .invokespecial 373, 3), (7, .astore_n 1, 1), (8, .iconst 0, 1), (9, .istore_n 2, 1), (10, .iload_n 2, 1), (11, .iconst 2, 1), (12, .if_icmp .ge 189, 3), (15, .aload_n 1, 1), (16, .aload_n 0, 1), (17, .sipush 300, 3), (20, .iload_n 2, 1), (21, .iadd, 1), (22, .invokestatic 221, 3), (25, .bipush 8, 2), (27, .invokestatic 225, 3), (30, .invokestatic 374, 3), (33, .l2i, 1), (34, .istore_n 3, 1), (35, .aload_n 1, 1), (36, .invokestatic 376, 3), (39, .l2i, 1), (40, .istore 4, 2), (42, .iload 4, 2), (44, .iload_n 3, 1), (45, .if_icmp .le 12, 3), (48, .iload 4, 2), (50, .iconst 1, 1), (51, .isub, 1), (52, .iload_n 3, 1), (53, .irem, 1), (54, .ifCond .eq 5, 3), (57, .iconst 0, 1), (58, .ireturn, 1), (59, .aload_n 1, 1), (60, .aload_n 0, 1), (61, .iload_n 3, 1), (62, .iload 4, 2), (64, .invokestatic 378, 3), (67, .ifCond .eq 25, 3), (70, .aload_n 1, 1), (71, .aload_n 0, 1), (72, .bipush 40, 2), (74, .iload_n 3, 1), (75, .iload 4, 2), (77, .invokestatic 382, 3), (80, .ifCond .eq 12, 3), (83, .aload_n 1, 1), (84, .invokestatic 386, 3), (87, .lconst 1, 1), (88, .lcmp, 1), (89, .ifCond .eq 5, 3), (92, .iconst 0, 1), (93, .ireturn, 1), (94, .aload_n 1, 1), (95, .aload_n 0, 1), (96, .iload_n 3, 1), (97, .iload 4, 2), (99, .invokestatic 388, 3), (102, .ifCond .eq 34, 3), (105, .aload_n 1, 1), (106, .aload_n 0, 1), (107, .iload_n 3, 1), (108, .iload 4, 2), (110, .invokestatic 391, 3), (113, .ifCond .eq 23, 3), (116, .aload_n 1, 1), (117, .aload_n 0, 1), (118, .iload_n 3, 1), (119, .iload 4, 2), (121, .invokestatic 394, 3), (124, .ifCond .eq 12, 3), (127, .aload_n 1, 1)] W_L_law_0 (by decide +kernel) (by decide +kernel)
def B_L_law_1 : ByteArray := .mk #[0xb8, 0x01, 0x82, 0x0a, 0x94, 0x99, 0x00, 0x05, 0x03, 0xac, 0x2b, 0x2a, 0x11, 0x00, 0x8c, 0x10, 0x1e, 0x1c, 0x68, 0x60, 0x1d, 0xb8, 0x01, 0x8d, 0x99, 0x00, 0x29, 0x2b, 0x2a, 0x1d, 0xb8, 0x01, 0x90, 0x99, 0x00, 0x20, 0x2b, 0x2a, 0x1d, 0x15, 0x04, 0xb8, 0x01, 0x94, 0x99, 0x00, 0x15, 0x2b, 0x2a, 0x1d, 0xb8, 0x01, 0x97, 0x99, 0x00, 0x0c, 0x2b, 0xb8, 0x01, 0x82, 0x0a, 0x94, 0x99, 0x00, 0x05, 0x03, 0xac, 0x84, 0x02, 0x01, 0xa7, 0xff, 0x44, 0x04, 0xac]
theorem W_L_law_1 : sameFrom m_L_law.2.1 B_L_law_1 128 := sameFrom_of (by decide +kernel)
def t_L_law_1 : List (Nat × Instr × Nat) := [(128, .invokestatic 386, 3), (131, .lconst 1, 1), (132, .lcmp, 1), (133, .ifCond .eq 5, 3), (136, .iconst 0, 1), (137, .ireturn, 1), (138, .aload_n 1, 1), (139, .aload_n 0, 1), (140, .sipush 140, 3), (143, .bipush 30, 2), (145, .iload_n 2, 1), (146, .imul, 1), (147, .iadd, 1), (148, .iload_n 3, 1), (149, .invokestatic 397, 3), (152, .ifCond .eq 41, 3), (155, .aload_n 1, 1), (156, .aload_n 0, 1), (157, .iload_n 3, 1), (158, .invokestatic 400, 3), (161, .ifCond .eq 32, 3), (164, .aload_n 1, 1), (165, .aload_n 0, 1), (166, .iload_n 3, 1), (167, .iload 4, 2), (169, .invokestatic 404, 3), (172, .ifCond .eq 21, 3), (175, .aload_n 1, 1), (176, .aload_n 0, 1), (177, .iload_n 3, 1), (178, .invokestatic 407, 3), (181, .ifCond .eq 12, 3), (184, .aload_n 1, 1), (185, .invokestatic 386, 3), (188, .lconst 1, 1), (189, .lcmp, 1), (190, .ifCond .eq 5, 3), (193, .iconst 0, 1), (194, .ireturn, 1), (195, .iinc 2 1, 3), (198, .goto (-188), 3), (201, .iconst 1, 1), (202, .ireturn, 1)]
set_option maxRecDepth 20000 in
theorem U_L_law_1 : okT m_L_law.2.1 t_L_law_1 = true := dSt [(0, .invokestatic 386, 3), (3, .lconst 1, 1), (4, .lcmp, 1), (5, .ifCond .eq 5, 3), (8, .iconst 0, 1), (9, .ireturn, 1), (10, .aload_n 1, 1), (11, .aload_n 0, 1), (12, .sipush 140, 3), (15, .bipush 30, 2), (17, .iload_n 2, 1), (18, .imul, 1), (19, .iadd, 1), (20, .iload_n 3, 1), (21, .invokestatic 397, 3), (24, .ifCond .eq 41, 3), (27, .aload_n 1, 1), (28, .aload_n 0, 1), (29, .iload_n 3, 1), (30, .invokestatic 400, 3), (33, .ifCond .eq 32, 3), (36, .aload_n 1, 1), (37, .aload_n 0, 1), (38, .iload_n 3, 1), (39, .iload 4, 2), (41, .invokestatic 404, 3), (44, .ifCond .eq 21, 3), (47, .aload_n 1, 1), (48, .aload_n 0, 1), (49, .iload_n 3, 1), (50, .invokestatic 407, 3), (53, .ifCond .eq 12, 3), (56, .aload_n 1, 1), (57, .invokestatic 386, 3), (60, .lconst 1, 1), (61, .lcmp, 1), (62, .ifCond .eq 5, 3), (65, .iconst 0, 1), (66, .ireturn, 1), (67, .iinc 2 1, 3), (70, .goto (-188), 3), (73, .iconst 1, 1), (74, .ireturn, 1)] W_L_law_1 (by decide +kernel) (by decide +kernel)
def t_L_law : List (Nat × Instr × Nat) := [(0, .new 12, 3), (3, .dup, 1), (4, .invokespecial 373, 3), (7, .astore_n 1, 1), (8, .iconst 0, 1), (9, .istore_n 2, 1), (10, .iload_n 2, 1), (11, .iconst 2, 1), (12, .if_icmp .ge 189, 3), (15, .aload_n 1, 1), (16, .aload_n 0, 1), (17, .sipush 300, 3), (20, .iload_n 2, 1), (21, .iadd, 1), (22, .invokestatic 221, 3), (25, .bipush 8, 2), (27, .invokestatic 225, 3), (30, .invokestatic 374, 3), (33, .l2i, 1), (34, .istore_n 3, 1), (35, .aload_n 1, 1), (36, .invokestatic 376, 3), (39, .l2i, 1), (40, .istore 4, 2), (42, .iload 4, 2), (44, .iload_n 3, 1), (45, .if_icmp .le 12, 3), (48, .iload 4, 2), (50, .iconst 1, 1), (51, .isub, 1), (52, .iload_n 3, 1), (53, .irem, 1), (54, .ifCond .eq 5, 3), (57, .iconst 0, 1), (58, .ireturn, 1), (59, .aload_n 1, 1), (60, .aload_n 0, 1), (61, .iload_n 3, 1), (62, .iload 4, 2), (64, .invokestatic 378, 3), (67, .ifCond .eq 25, 3), (70, .aload_n 1, 1), (71, .aload_n 0, 1), (72, .bipush 40, 2), (74, .iload_n 3, 1), (75, .iload 4, 2), (77, .invokestatic 382, 3), (80, .ifCond .eq 12, 3), (83, .aload_n 1, 1), (84, .invokestatic 386, 3), (87, .lconst 1, 1), (88, .lcmp, 1), (89, .ifCond .eq 5, 3), (92, .iconst 0, 1), (93, .ireturn, 1), (94, .aload_n 1, 1), (95, .aload_n 0, 1), (96, .iload_n 3, 1), (97, .iload 4, 2), (99, .invokestatic 388, 3), (102, .ifCond .eq 34, 3), (105, .aload_n 1, 1), (106, .aload_n 0, 1), (107, .iload_n 3, 1), (108, .iload 4, 2), (110, .invokestatic 391, 3), (113, .ifCond .eq 23, 3), (116, .aload_n 1, 1), (117, .aload_n 0, 1), (118, .iload_n 3, 1), (119, .iload 4, 2), (121, .invokestatic 394, 3), (124, .ifCond .eq 12, 3), (127, .aload_n 1, 1), (128, .invokestatic 386, 3), (131, .lconst 1, 1), (132, .lcmp, 1), (133, .ifCond .eq 5, 3), (136, .iconst 0, 1), (137, .ireturn, 1), (138, .aload_n 1, 1), (139, .aload_n 0, 1), (140, .sipush 140, 3), (143, .bipush 30, 2), (145, .iload_n 2, 1), (146, .imul, 1), (147, .iadd, 1), (148, .iload_n 3, 1), (149, .invokestatic 397, 3), (152, .ifCond .eq 41, 3), (155, .aload_n 1, 1), (156, .aload_n 0, 1), (157, .iload_n 3, 1), (158, .invokestatic 400, 3), (161, .ifCond .eq 32, 3), (164, .aload_n 1, 1), (165, .aload_n 0, 1), (166, .iload_n 3, 1), (167, .iload 4, 2), (169, .invokestatic 404, 3), (172, .ifCond .eq 21, 3), (175, .aload_n 1, 1), (176, .aload_n 0, 1), (177, .iload_n 3, 1), (178, .invokestatic 407, 3), (181, .ifCond .eq 12, 3), (184, .aload_n 1, 1), (185, .invokestatic 386, 3), (188, .lconst 1, 1), (189, .lcmp, 1), (190, .ifCond .eq 5, 3), (193, .iconst 0, 1), (194, .ireturn, 1), (195, .iinc 2 1, 3), (198, .goto (-188), 3), (201, .iconst 1, 1), (202, .ireturn, 1)]
set_option maxRecDepth 20000 in
theorem U_L_law : okT m_L_law.2.1 t_L_law = true := (okT_app U_L_law_0 U_L_law_1)
set_option maxRecDepth 20000 in
set_option maxHeartbeats 2000000 in
theorem L_rounds {G : xG} {d rc rs : Nat} {ex : Bool} {h2 : xH} {Q : xQ} (hL : gL G < 100000) (w : CW σ0 h2) (v : INV σ0) (hlen : 70 ≤ h2.length) (q : ∀ (ex : Bool) (h : xH), Q (.inl (some (vi 1))) ex h) : X G m_L_law (d + 11) (rc + 17000) (rs + 150000) ex 10 [some (.ref 0), some (.ref 3), some (vi 0), none, none] [] h2 Q := by
  refine x_iload_n (dT U_L_law 6 rfl) rfl ?_
  refine x_iconst (dT U_L_law 7 rfl) ?_
  refine x_icmp_ge (tgt := 201) (dT U_L_law 8 rfl) (by decide) (by unfold xr; omega) (by unfold xr; omega) (fun c12 => ?_) (fun c12 => ?_)
  · exfalso
    omega
  · skip
    refine x_aload_n (dT U_L_law 9 rfl) rfl ?_
    refine x_aload_n (dT U_L_law 10 rfl) rfl ?_
    refine x_sipush (dT U_L_law 11 rfl) (by decide) ?_
    refine x_iload_n (dT U_L_law 12 rfl) rfl ?_
    refine x_iadd (dT U_L_law 13 rfl) ?_
    rw [show (300 : Int) + 0 = ((300 : Nat) : Int) from rfl]
    refine x_invokestatic (rc' := rc + 17000) (rs' := rs + 150000) (rc2 := 0 + 0) (rs2 := 0 + 0) (As := [_, _]) (st := _) M_L_cell K_L_221 (dT U_L_law 14 rfl) rfl rfl rfl rfl (Nat.le_of_ble_eq_true rfl) rfl (by decide) (Nat.le_of_ble_eq_true rfl) (by first | rfl | omega) (by first | rfl | omega) ?_
    refine S_L_cell (k := 300) hL (by omega) (fun z22 => ?_)
    refine xRet_some ?_
    refine x_bipush (dT U_L_law 15 rfl) (by decide) ?_
    refine x_invokestatic (rc' := rc + 17000) (rs' := rs + 150000) (rc2 := 0 + 0) (rs2 := 0 + 0) (As := [_, _]) (st := _) M_L_chosen K_L_225 (dT U_L_law 16 rfl) rfl rfl rfl rfl (Nat.le_of_ble_eq_true rfl) rfl (by decide) (Nat.le_of_ble_eq_true rfl) (by first | rfl | omega) (by first | rfl | omega) ?_
    refine S_L_chosen (by omega) (fun num0 b_num0 => ?_)
    refine xRet_some ?_
    obtain ⟨p0, e_p0⟩ : ∃ q : Nat, prn num0.toNat = q := ⟨_, rfl⟩
    have hpr0 : p0 ∈ PR := by rw [← e_p0]; exact (prn_ok (show num0.toNat < 8 by omega)).2
    have hp0 := PRb hpr0
    have hq0 := gq_b hpr0
    refine x_invokestaticT (rc' := rc + 16999) (rs' := rs + 149994) (rc2 := 0 + 1) (rs2 := 0 + 6) (As := [_, _]) (st := _) M_L_field K_L_374 (dT U_L_law 17 rfl) rfl (by decide) rfl rfl (Nat.le_of_ble_eq_true rfl) rfl (by decide) (Nat.le_of_ble_eq_true rfl) (by first | rfl | omega) (by first | rfl | omega) ?_
    refine S_L_field w v (by first | assumption | (unfold xr; omega)) (fun  z8 => absurd (show inb _ _ from by omega) z8) (fun _ z1 e1 hz1 h1 fc1 w_1 v_1 => ?_)
    refine xRet_some ?_
    have e1 : z1 = (p0 : Int) := by
      rw [e1, e_p0]
    obtain ⟨σ2, w2, v2, p_2, L_2⟩ : ∃ σ2 : St, CW σ2 h1 ∧ INV σ2 ∧ σ2.p = p0 ∧ σ2.L.n = 0 := ⟨_, w_1, v_1, e_p0, rfl⟩
    have hlen_2 : 70 ≤ h1.length := by rw [fc1.1]; exact hlen
    subst e1
    refine x_l2i (dT U_L_law 18 rfl) ?_
    refine x_istore_n (ls' := [some (.ref _), some (.ref _), some (vi _), some (vi _), none]) (dT U_L_law 19 rfl) (by decide) rfl ?_
    refine x_aload_n (dT U_L_law 20 rfl) rfl ?_
    refine x_invokestatic (rc' := rc + 16999) (rs' := rs + 149994) (rc2 := 0 + 0) (rs2 := 0 + 0) (As := [_]) (st := _) M_L_modulus K_L_376 (dT U_L_law 21 rfl) rfl rfl rfl rfl (Nat.le_of_ble_eq_true rfl) rfl (by decide) (Nat.le_of_ble_eq_true rfl) (by first | rfl | omega) (by first | rfl | omega) ?_
    refine S_L_modulus w2 v2   (fun z3 e3 hz3 => ?_)
    refine xRet_some ?_
    have e3 : z3 = (gq p0 : Int) := by
      rw [e3, p_2]
    subst e3
    refine x_l2i (dT U_L_law 22 rfl) ?_
    refine x_istore (ls' := [some (.ref _), some (.ref _), some (vi _), some (vi _), some (vi _)]) (dT U_L_law 23 rfl) (by decide) rfl ?_
    refine x_iload (dT U_L_law 24 rfl) rfl ?_
    refine x_iload_n (dT U_L_law 25 rfl) rfl ?_
    refine x_icmp_le (tgt := 57) (dT U_L_law 26 rfl) (by decide) (by unfold xr; omega) (by unfold xr; omega) (fun c45 => ?_) (fun c45 => ?_)
    · exfalso
      omega
    · skip
      refine x_iload (dT U_L_law 27 rfl) rfl ?_
      refine x_iconst (dT U_L_law 28 rfl) ?_
      refine x_isub (dT U_L_law 29 rfl) ?_
      refine x_iload_n (dT U_L_law 30 rfl) rfl ?_
      refine x_irem (dT U_L_law 31 rfl) (by unfold xr; omega) (by unfold xr; omega) (by omega) ?_
      have e54 : ((gq p0 : Int) - 1).tmod (p0 : Int) = 0 := by
        rw [Int.tmod_eq_emod_of_nonneg (by omega), show (gq p0 : Int) - 1 = ((gq p0 - 1 : Nat) : Int) by omega, ← Int.natCast_emod, hq0.2.2]
        rfl
      rw [e54]
      refine x_if_eq (tgt := 59) (dT U_L_law 32 rfl) (by decide) (by unfold xr; omega) (fun c54 => ?_) (fun c54 => ?_)
      · skip
        refine x_aload_n (dT U_L_law 35 rfl) rfl ?_
        refine x_aload_n (dT U_L_law 36 rfl) rfl ?_
        refine x_iload_n (dT U_L_law 37 rfl) rfl ?_
        refine x_iload (dT U_L_law 38 rfl) rfl ?_
        refine x_invokestatic (rc' := rc + 16919) (rs' := rs + 149394) (rc2 := 0 + 80) (rs2 := 0 + 600) (As := [_, _, _, _]) (st := _) M_L_areCommitments K_L_378 (dT U_L_law 39 rfl) rfl rfl rfl rfl (Nat.le_of_ble_eq_true rfl) rfl (by decide) (Nat.le_of_ble_eq_true rfl) (by first | rfl | omega) (by first | rfl | omega) ?_
        refine S_L_areCommitments hL w2 v2 p_2 L_2 hlen_2 (fun σ4 h4 ex4 w4 v4 p_4 L_4 hlen_4 => ?_)
        refine xRet_some ?_
        refine x_if_eq (tgt := 92) (dT U_L_law 40 rfl) (by decide) (by unfold xr; omega) (fun c67 => ?_) (fun c67 => ?_)
        · exfalso
          omega
        · skip
          refine x_aload_n (dT U_L_law 41 rfl) rfl ?_
          refine x_aload_n (dT U_L_law 42 rfl) rfl ?_
          refine x_bipush (dT U_L_law 43 rfl) (by decide) ?_
          refine x_iload_n (dT U_L_law 44 rfl) rfl ?_
          refine x_iload (dT U_L_law 45 rfl) rfl ?_
          refine x_invokestatic (rc' := rc + 15619) (rs' := rs + 138994) (rc2 := 0 + 1300) (rs2 := 0 + 10400) (As := [_, _, _, _, _]) (st := _) M_L_areRuns K_L_382 (dT U_L_law 46 rfl) rfl rfl rfl rfl (Nat.le_of_ble_eq_true rfl) rfl (by decide) (Nat.le_of_ble_eq_true rfl) (by first | rfl | omega) (by first | rfl | omega) ?_
          refine S_L_areRuns (f := 40) hL w4 v4 p_4 L_4 hlen_4 (by omega) (fun σ5 h5 ex5 w5 v5 p_5 L_5 hlen_5 => ?_)
          refine xRet_some ?_
          refine x_if_eq (tgt := 92) (dT U_L_law 47 rfl) (by decide) (by unfold xr; omega) (fun c80 => ?_) (fun c80 => ?_)
          · exfalso
            omega
          · skip
            refine x_aload_n (dT U_L_law 48 rfl) rfl ?_
            refine x_invokestatic (rc' := rc + 15619) (rs' := rs + 138994) (rc2 := 0 + 0) (rs2 := 0 + 0) (As := [_]) (st := _) M_L_isTrue K_L_386 (dT U_L_law 49 rfl) rfl rfl rfl rfl (Nat.le_of_ble_eq_true rfl) rfl (by decide) (Nat.le_of_ble_eq_true rfl) (by first | rfl | omega) (by first | rfl | omega) ?_
            refine S_L_isTrue w5 v5   (fun z6 e6 hz6 h6 fc6 w_6 v_6 => ?_)
            refine xRet_some ?_
            have e6 : z6 = 1 := by
              exact e6
            have hlen_6 : 70 ≤ h6.length := by rw [fc6.1]; exact hlen_5
            refine x_lconst (z := 1) (dT U_L_law 50 rfl) rfl ?_
            refine x_lif_eq (tgt := 94) (dT U_L_law 51 rfl) (dT U_L_law 52 rfl) (by decide) (xrl_of hz6) (xrl_of (by unfold xr; omega)) (fun c88 => ?_) (fun c88 => ?_)
            · skip
              refine x_aload_n (dT U_L_law 55 rfl) rfl ?_
              refine x_aload_n (dT U_L_law 56 rfl) rfl ?_
              refine x_iload_n (dT U_L_law 57 rfl) rfl ?_
              refine x_iload (dT U_L_law 58 rfl) rfl ?_
              refine x_invokestatic (rc' := rc + 13819) (rs' := rs + 126194) (rc2 := 0 + 1800) (rs2 := 0 + 12800) (As := [_, _, _, _]) (st := _) M_L_areSimulated K_L_388 (dT U_L_law 59 rfl) rfl rfl rfl rfl (Nat.le_of_ble_eq_true rfl) rfl (by decide) (Nat.le_of_ble_eq_true rfl) (by first | rfl | omega) (by first | rfl | omega) ?_
              refine S_L_areSimulated hL w_6 v_6 p_5 L_5 hlen_6 (fun σ7 h7 ex7 w7 v7 p_7 L_7 hlen_7 => ?_)
              refine xRet_some ?_
              refine x_if_eq (tgt := 136) (dT U_L_law 60 rfl) (by decide) (by unfold xr; omega) (fun c102 => ?_) (fun c102 => ?_)
              · exfalso
                omega
              · skip
                refine x_aload_n (dT U_L_law 61 rfl) rfl ?_
                refine x_aload_n (dT U_L_law 62 rfl) rfl ?_
                refine x_iload_n (dT U_L_law 63 rfl) rfl ?_
                refine x_iload (dT U_L_law 64 rfl) rfl ?_
                refine x_invokestatic (rc' := rc + 12559) (rs' := rs + 116694) (rc2 := 0 + 1260) (rs2 := 0 + 9500) (As := [_, _, _, _]) (st := _) M_L_areJoined K_L_391 (dT U_L_law 65 rfl) rfl rfl rfl rfl (Nat.le_of_ble_eq_true rfl) rfl (by decide) (Nat.le_of_ble_eq_true rfl) (by first | rfl | omega) (by first | rfl | omega) ?_
                refine S_L_areJoined hL w7 v7 p_7 L_7 hlen_7 (fun σ8 h8 ex8 w8 v8 p_8 L_8 hlen_8 => ?_)
                refine xRet_some ?_
                refine x_if_eq (tgt := 136) (dT U_L_law 66 rfl) (by decide) (by unfold xr; omega) (fun c113 => ?_) (fun c113 => ?_)
                · exfalso
                  omega
                · skip
                  refine x_aload_n (dT U_L_law 67 rfl) rfl ?_
                  refine x_aload_n (dT U_L_law 68 rfl) rfl ?_
                  refine x_iload_n (dT U_L_law 69 rfl) rfl ?_
                  refine x_iload (dT U_L_law 70 rfl) rfl ?_
                  refine x_invokestatic (rc' := rc + 12259) (rs' := rs + 114294) (rc2 := 0 + 300) (rs2 := 0 + 2400) (As := [_, _, _, _]) (st := _) M_L_areBits K_L_394 (dT U_L_law 71 rfl) rfl rfl rfl rfl (Nat.le_of_ble_eq_true rfl) rfl (by decide) (Nat.le_of_ble_eq_true rfl) (by first | rfl | omega) (by first | rfl | omega) ?_
                  refine S_L_areBits hL w8 v8 p_8 L_8 hlen_8 (fun σ9 h9 ex9 w9 v9 p_9 L_9 hlen_9 => ?_)
                  refine xRet_some ?_
                  refine x_if_eq (tgt := 136) (dT U_L_law 72 rfl) (by decide) (by unfold xr; omega) (fun c124 => ?_) (fun c124 => ?_)
                  · exfalso
                    omega
                  · skip
                    refine x_aload_n (dT U_L_law 73 rfl) rfl ?_
                    refine x_invokestatic (rc' := rc + 12259) (rs' := rs + 114294) (rc2 := 0 + 0) (rs2 := 0 + 0) (As := [_]) (st := _) M_L_isTrue K_L_386 (dT U_L_law 74 rfl) rfl rfl rfl rfl (Nat.le_of_ble_eq_true rfl) rfl (by decide) (Nat.le_of_ble_eq_true rfl) (by first | rfl | omega) (by first | rfl | omega) ?_
                    refine S_L_isTrue w9 v9   (fun z10 e10 hz10 h10 fc10 w_10 v_10 => ?_)
                    refine xRet_some ?_
                    have e10 : z10 = 1 := by
                      exact e10
                    have hlen_10 : 70 ≤ h10.length := by rw [fc10.1]; exact hlen_9
                    refine x_lconst (z := 1) (dT U_L_law 75 rfl) rfl ?_
                    refine x_lif_eq (tgt := 138) (dT U_L_law 76 rfl) (dT U_L_law 77 rfl) (by decide) (xrl_of hz10) (xrl_of (by unfold xr; omega)) (fun c132 => ?_) (fun c132 => ?_)
                    · skip
                      refine x_aload_n (dT U_L_law 80 rfl) rfl ?_
                      refine x_aload_n (dT U_L_law 81 rfl) rfl ?_
                      refine x_sipush (dT U_L_law 82 rfl) (by decide) ?_
                      refine x_bipush (dT U_L_law 83 rfl) (by decide) ?_
                      refine x_iload_n (dT U_L_law 84 rfl) rfl ?_
                      refine x_imul (dT U_L_law 85 rfl) ?_
                      refine x_iadd (dT U_L_law 86 rfl) ?_
                      rw [show (140 : Int) + 30 * 0 = ((140 : Nat) : Int) from rfl]
                      refine x_iload_n (dT U_L_law 87 rfl) rfl ?_
                      refine x_invokestatic (rc' := rc + 10859) (rs' := rs + 101694) (rc2 := 0 + 1400) (rs2 := 0 + 12600) (As := [_, _, _, _]) (st := _) M_L_isGame K_L_397 (dT U_L_law 88 rfl) rfl rfl rfl rfl (Nat.le_of_ble_eq_true rfl) rfl (by decide) (Nat.le_of_ble_eq_true rfl) (by first | rfl | omega) (by first | rfl | omega) ?_
                      refine S_L_isGame (f := 140) hL w_10 v_10 p_9 L_9 hlen_10 (by omega) (fun σ11 h11 ex11 w11 v11 p_11 L_11 hlen_11 => ?_)
                      refine xRet_some ?_
                      refine x_if_eq (tgt := 193) (dT U_L_law 89 rfl) (by decide) (by unfold xr; omega) (fun c152 => ?_) (fun c152 => ?_)
                      · exfalso
                        omega
                      · skip
                        refine x_aload_n (dT U_L_law 90 rfl) rfl ?_
                        refine x_aload_n (dT U_L_law 91 rfl) rfl ?_
                        refine x_iload_n (dT U_L_law 92 rfl) rfl ?_
                        refine x_invokestatic (rc' := rc + 10279) (rs' := rs + 98094) (rc2 := 0 + 580) (rs2 := 0 + 3600) (As := [_, _, _]) (st := _) M_L_areWays K_L_400 (dT U_L_law 93 rfl) rfl rfl rfl rfl (Nat.le_of_ble_eq_true rfl) rfl (by decide) (Nat.le_of_ble_eq_true rfl) (by first | rfl | omega) (by first | rfl | omega) ?_
                        refine S_L_areWays hL w11 v11 p_11 L_11 hlen_11 (fun σ12 h12 ex12 w12 v12 p_12 L_12 hlen_12 => ?_)
                        refine xRet_some ?_
                        refine x_if_eq (tgt := 193) (dT U_L_law 94 rfl) (by decide) (by unfold xr; omega) (fun c161 => ?_) (fun c161 => ?_)
                        · exfalso
                          omega
                        · skip
                          refine x_aload_n (dT U_L_law 95 rfl) rfl ?_
                          refine x_aload_n (dT U_L_law 96 rfl) rfl ?_
                          refine x_iload_n (dT U_L_law 97 rfl) rfl ?_
                          refine x_iload (dT U_L_law 98 rfl) rfl ?_
                          refine x_invokestatic (rc' := rc + 9959) (rs' := rs + 95494) (rc2 := 0 + 320) (rs2 := 0 + 2600) (As := [_, _, _, _]) (st := _) M_L_areNotes K_L_404 (dT U_L_law 99 rfl) rfl rfl rfl rfl (Nat.le_of_ble_eq_true rfl) rfl (by decide) (Nat.le_of_ble_eq_true rfl) (by first | rfl | omega) (by first | rfl | omega) ?_
                          refine S_L_areNotes hL w12 v12 p_12 L_12 hlen_12 (by omega) (fun σ13 h13 ex13 w13 v13 p_13 hlen_13 => ?_)
                          refine xRet_some ?_
                          refine x_if_eq (tgt := 193) (dT U_L_law 100 rfl) (by decide) (by unfold xr; omega) (fun c172 => ?_) (fun c172 => ?_)
                          · exfalso
                            omega
                          · skip
                            refine x_aload_n (dT U_L_law 101 rfl) rfl ?_
                            refine x_aload_n (dT U_L_law 102 rfl) rfl ?_
                            refine x_iload_n (dT U_L_law 103 rfl) rfl ?_
                            refine x_invokestatic (rc' := rc + 9339) (rs' := rs + 91594) (rc2 := 0 + 620) (rs2 := 0 + 3900) (As := [_, _, _]) (st := _) M_L_arePolynomials K_L_407 (dT U_L_law 104 rfl) rfl rfl rfl rfl (Nat.le_of_ble_eq_true rfl) rfl (by decide) (Nat.le_of_ble_eq_true rfl) (by first | rfl | omega) (by first | rfl | omega) ?_
                            refine S_L_arePolynomials hL w13 v13 p_13 rfl hlen_13 (fun σ14 h14 ex14 w14 v14 p_14 _ hlen_14 => ?_)
                            refine xRet_some ?_
                            refine x_if_eq (tgt := 193) (dT U_L_law 105 rfl) (by decide) (by unfold xr; omega) (fun c181 => ?_) (fun c181 => ?_)
                            · exfalso
                              omega
                            · skip
                              refine x_aload_n (dT U_L_law 106 rfl) rfl ?_
                              refine x_invokestatic (rc' := rc + 9339) (rs' := rs + 91594) (rc2 := 0 + 0) (rs2 := 0 + 0) (As := [_]) (st := _) M_L_isTrue K_L_386 (dT U_L_law 107 rfl) rfl rfl rfl rfl (Nat.le_of_ble_eq_true rfl) rfl (by decide) (Nat.le_of_ble_eq_true rfl) (by first | rfl | omega) (by first | rfl | omega) ?_
                              refine S_L_isTrue w14 v14   (fun z15 e15 hz15 h15 fc15 w_15 v_15 => ?_)
                              refine xRet_some ?_
                              have e15 : z15 = 1 := by
                                exact e15
                              have hlen_15 : 70 ≤ h15.length := by rw [fc15.1]; exact hlen_14
                              refine x_lconst (z := 1) (dT U_L_law 108 rfl) rfl ?_
                              refine x_lif_eq (tgt := 195) (dT U_L_law 109 rfl) (dT U_L_law 110 rfl) (by decide) (xrl_of hz15) (xrl_of (by unfold xr; omega)) (fun c189 => ?_) (fun c189 => ?_)
                              · skip
                                refine x_iinc (ls' := [some (.ref _), some (.ref _), some (vi _), some (vi _), some (vi _)]) (dT U_L_law 113 rfl) (by decide) rfl rfl ?_
                                rw [show ((0 : Int) + 1) = 1 from rfl]
                                refine x_goto (tgt := 10) (dT U_L_law 114 rfl) (by decide) ?_
                                refine x_iload_n (dT U_L_law 6 rfl) rfl ?_
                                refine x_iconst (dT U_L_law 7 rfl) ?_
                                refine x_icmp_ge (tgt := 201) (dT U_L_law 8 rfl) (by decide) (by unfold xr; omega) (by unfold xr; omega) (fun c12 => ?_) (fun c12 => ?_)
                                · exfalso
                                  omega
                                · skip
                                  refine x_aload_n (dT U_L_law 9 rfl) rfl ?_
                                  refine x_aload_n (dT U_L_law 10 rfl) rfl ?_
                                  refine x_sipush (dT U_L_law 11 rfl) (by decide) ?_
                                  refine x_iload_n (dT U_L_law 12 rfl) rfl ?_
                                  refine x_iadd (dT U_L_law 13 rfl) ?_
                                  rw [show (300 : Int) + 1 = ((301 : Nat) : Int) from rfl]
                                  refine x_invokestatic (rc' := rc + 9339) (rs' := rs + 91594) (rc2 := 0 + 0) (rs2 := 0 + 0) (As := [_, _]) (st := _) M_L_cell K_L_221 (dT U_L_law 14 rfl) rfl rfl rfl rfl (Nat.le_of_ble_eq_true rfl) rfl (by decide) (Nat.le_of_ble_eq_true rfl) (by first | rfl | omega) (by first | rfl | omega) ?_
                                  refine S_L_cell (k := 301) hL (by omega) (fun z22 => ?_)
                                  refine xRet_some ?_
                                  refine x_bipush (dT U_L_law 15 rfl) (by decide) ?_
                                  refine x_invokestatic (rc' := rc + 9339) (rs' := rs + 91594) (rc2 := 0 + 0) (rs2 := 0 + 0) (As := [_, _]) (st := _) M_L_chosen K_L_225 (dT U_L_law 16 rfl) rfl rfl rfl rfl (Nat.le_of_ble_eq_true rfl) rfl (by decide) (Nat.le_of_ble_eq_true rfl) (by first | rfl | omega) (by first | rfl | omega) ?_
                                  refine S_L_chosen (by omega) (fun num1 b_num1 => ?_)
                                  refine xRet_some ?_
                                  obtain ⟨p1, e_p1⟩ : ∃ q : Nat, prn num1.toNat = q := ⟨_, rfl⟩
                                  have hpr1 : p1 ∈ PR := by rw [← e_p1]; exact (prn_ok (show num1.toNat < 8 by omega)).2
                                  have hp1 := PRb hpr1
                                  have hq1 := gq_b hpr1
                                  refine x_invokestaticT (rc' := rc + 9338) (rs' := rs + 91588) (rc2 := 0 + 1) (rs2 := 0 + 6) (As := [_, _]) (st := _) M_L_field K_L_374 (dT U_L_law 17 rfl) rfl (by decide) rfl rfl (Nat.le_of_ble_eq_true rfl) rfl (by decide) (Nat.le_of_ble_eq_true rfl) (by first | rfl | omega) (by first | rfl | omega) ?_
                                  refine S_L_field w_15 v_15 (by first | assumption | (unfold xr; omega)) (fun  z8 => absurd (show inb _ _ from by omega) z8) (fun _ z16 e16 hz16 h16 fc16 w_16 v_16 => ?_)
                                  refine xRet_some ?_
                                  have e16 : z16 = (p1 : Int) := by
                                    rw [e16, e_p1]
                                  obtain ⟨σ17, w17, v17, p_17, L_17⟩ : ∃ σ17 : St, CW σ17 h16 ∧ INV σ17 ∧ σ17.p = p1 ∧ σ17.L.n = 0 := ⟨_, w_16, v_16, e_p1, rfl⟩
                                  have hlen_17 : 70 ≤ h16.length := by rw [fc16.1]; exact hlen_15
                                  subst e16
                                  refine x_l2i (dT U_L_law 18 rfl) ?_
                                  refine x_istore_n (ls' := [some (.ref _), some (.ref _), some (vi _), some (vi _), some (vi _)]) (dT U_L_law 19 rfl) (by decide) rfl ?_
                                  refine x_aload_n (dT U_L_law 20 rfl) rfl ?_
                                  refine x_invokestatic (rc' := rc + 9338) (rs' := rs + 91588) (rc2 := 0 + 0) (rs2 := 0 + 0) (As := [_]) (st := _) M_L_modulus K_L_376 (dT U_L_law 21 rfl) rfl rfl rfl rfl (Nat.le_of_ble_eq_true rfl) rfl (by decide) (Nat.le_of_ble_eq_true rfl) (by first | rfl | omega) (by first | rfl | omega) ?_
                                  refine S_L_modulus w17 v17   (fun z18 e18 hz18 => ?_)
                                  refine xRet_some ?_
                                  have e18 : z18 = (gq p1 : Int) := by
                                    rw [e18, p_17]
                                  subst e18
                                  refine x_l2i (dT U_L_law 22 rfl) ?_
                                  refine x_istore (ls' := [some (.ref _), some (.ref _), some (vi _), some (vi _), some (vi _)]) (dT U_L_law 23 rfl) (by decide) rfl ?_
                                  refine x_iload (dT U_L_law 24 rfl) rfl ?_
                                  refine x_iload_n (dT U_L_law 25 rfl) rfl ?_
                                  refine x_icmp_le (tgt := 57) (dT U_L_law 26 rfl) (by decide) (by unfold xr; omega) (by unfold xr; omega) (fun c45 => ?_) (fun c45 => ?_)
                                  · exfalso
                                    omega
                                  · skip
                                    refine x_iload (dT U_L_law 27 rfl) rfl ?_
                                    refine x_iconst (dT U_L_law 28 rfl) ?_
                                    refine x_isub (dT U_L_law 29 rfl) ?_
                                    refine x_iload_n (dT U_L_law 30 rfl) rfl ?_
                                    refine x_irem (dT U_L_law 31 rfl) (by unfold xr; omega) (by unfold xr; omega) (by omega) ?_
                                    have e54 : ((gq p1 : Int) - 1).tmod (p1 : Int) = 0 := by
                                      rw [Int.tmod_eq_emod_of_nonneg (by omega), show (gq p1 : Int) - 1 = ((gq p1 - 1 : Nat) : Int) by omega, ← Int.natCast_emod, hq1.2.2]
                                      rfl
                                    rw [e54]
                                    refine x_if_eq (tgt := 59) (dT U_L_law 32 rfl) (by decide) (by unfold xr; omega) (fun c54 => ?_) (fun c54 => ?_)
                                    · skip
                                      refine x_aload_n (dT U_L_law 35 rfl) rfl ?_
                                      refine x_aload_n (dT U_L_law 36 rfl) rfl ?_
                                      refine x_iload_n (dT U_L_law 37 rfl) rfl ?_
                                      refine x_iload (dT U_L_law 38 rfl) rfl ?_
                                      refine x_invokestatic (rc' := rc + 9258) (rs' := rs + 90988) (rc2 := 0 + 80) (rs2 := 0 + 600) (As := [_, _, _, _]) (st := _) M_L_areCommitments K_L_378 (dT U_L_law 39 rfl) rfl rfl rfl rfl (Nat.le_of_ble_eq_true rfl) rfl (by decide) (Nat.le_of_ble_eq_true rfl) (by first | rfl | omega) (by first | rfl | omega) ?_
                                      refine S_L_areCommitments hL w17 v17 p_17 L_17 hlen_17 (fun σ19 h19 ex19 w19 v19 p_19 L_19 hlen_19 => ?_)
                                      refine xRet_some ?_
                                      refine x_if_eq (tgt := 92) (dT U_L_law 40 rfl) (by decide) (by unfold xr; omega) (fun c67 => ?_) (fun c67 => ?_)
                                      · exfalso
                                        omega
                                      · skip
                                        refine x_aload_n (dT U_L_law 41 rfl) rfl ?_
                                        refine x_aload_n (dT U_L_law 42 rfl) rfl ?_
                                        refine x_bipush (dT U_L_law 43 rfl) (by decide) ?_
                                        refine x_iload_n (dT U_L_law 44 rfl) rfl ?_
                                        refine x_iload (dT U_L_law 45 rfl) rfl ?_
                                        refine x_invokestatic (rc' := rc + 7958) (rs' := rs + 80588) (rc2 := 0 + 1300) (rs2 := 0 + 10400) (As := [_, _, _, _, _]) (st := _) M_L_areRuns K_L_382 (dT U_L_law 46 rfl) rfl rfl rfl rfl (Nat.le_of_ble_eq_true rfl) rfl (by decide) (Nat.le_of_ble_eq_true rfl) (by first | rfl | omega) (by first | rfl | omega) ?_
                                        refine S_L_areRuns (f := 40) hL w19 v19 p_19 L_19 hlen_19 (by omega) (fun σ20 h20 ex20 w20 v20 p_20 L_20 hlen_20 => ?_)
                                        refine xRet_some ?_
                                        refine x_if_eq (tgt := 92) (dT U_L_law 47 rfl) (by decide) (by unfold xr; omega) (fun c80 => ?_) (fun c80 => ?_)
                                        · exfalso
                                          omega
                                        · skip
                                          refine x_aload_n (dT U_L_law 48 rfl) rfl ?_
                                          refine x_invokestatic (rc' := rc + 7958) (rs' := rs + 80588) (rc2 := 0 + 0) (rs2 := 0 + 0) (As := [_]) (st := _) M_L_isTrue K_L_386 (dT U_L_law 49 rfl) rfl rfl rfl rfl (Nat.le_of_ble_eq_true rfl) rfl (by decide) (Nat.le_of_ble_eq_true rfl) (by first | rfl | omega) (by first | rfl | omega) ?_
                                          refine S_L_isTrue w20 v20   (fun z21 e21 hz21 h21 fc21 w_21 v_21 => ?_)
                                          refine xRet_some ?_
                                          have e21 : z21 = 1 := by
                                            exact e21
                                          have hlen_21 : 70 ≤ h21.length := by rw [fc21.1]; exact hlen_20
                                          refine x_lconst (z := 1) (dT U_L_law 50 rfl) rfl ?_
                                          refine x_lif_eq (tgt := 94) (dT U_L_law 51 rfl) (dT U_L_law 52 rfl) (by decide) (xrl_of hz21) (xrl_of (by unfold xr; omega)) (fun c88 => ?_) (fun c88 => ?_)
                                          · skip
                                            refine x_aload_n (dT U_L_law 55 rfl) rfl ?_
                                            refine x_aload_n (dT U_L_law 56 rfl) rfl ?_
                                            refine x_iload_n (dT U_L_law 57 rfl) rfl ?_
                                            refine x_iload (dT U_L_law 58 rfl) rfl ?_
                                            refine x_invokestatic (rc' := rc + 6158) (rs' := rs + 67788) (rc2 := 0 + 1800) (rs2 := 0 + 12800) (As := [_, _, _, _]) (st := _) M_L_areSimulated K_L_388 (dT U_L_law 59 rfl) rfl rfl rfl rfl (Nat.le_of_ble_eq_true rfl) rfl (by decide) (Nat.le_of_ble_eq_true rfl) (by first | rfl | omega) (by first | rfl | omega) ?_
                                            refine S_L_areSimulated hL w_21 v_21 p_20 L_20 hlen_21 (fun σ22 h22 ex22 w22 v22 p_22 L_22 hlen_22 => ?_)
                                            refine xRet_some ?_
                                            refine x_if_eq (tgt := 136) (dT U_L_law 60 rfl) (by decide) (by unfold xr; omega) (fun c102 => ?_) (fun c102 => ?_)
                                            · exfalso
                                              omega
                                            · skip
                                              refine x_aload_n (dT U_L_law 61 rfl) rfl ?_
                                              refine x_aload_n (dT U_L_law 62 rfl) rfl ?_
                                              refine x_iload_n (dT U_L_law 63 rfl) rfl ?_
                                              refine x_iload (dT U_L_law 64 rfl) rfl ?_
                                              refine x_invokestatic (rc' := rc + 4898) (rs' := rs + 58288) (rc2 := 0 + 1260) (rs2 := 0 + 9500) (As := [_, _, _, _]) (st := _) M_L_areJoined K_L_391 (dT U_L_law 65 rfl) rfl rfl rfl rfl (Nat.le_of_ble_eq_true rfl) rfl (by decide) (Nat.le_of_ble_eq_true rfl) (by first | rfl | omega) (by first | rfl | omega) ?_
                                              refine S_L_areJoined hL w22 v22 p_22 L_22 hlen_22 (fun σ23 h23 ex23 w23 v23 p_23 L_23 hlen_23 => ?_)
                                              refine xRet_some ?_
                                              refine x_if_eq (tgt := 136) (dT U_L_law 66 rfl) (by decide) (by unfold xr; omega) (fun c113 => ?_) (fun c113 => ?_)
                                              · exfalso
                                                omega
                                              · skip
                                                refine x_aload_n (dT U_L_law 67 rfl) rfl ?_
                                                refine x_aload_n (dT U_L_law 68 rfl) rfl ?_
                                                refine x_iload_n (dT U_L_law 69 rfl) rfl ?_
                                                refine x_iload (dT U_L_law 70 rfl) rfl ?_
                                                refine x_invokestatic (rc' := rc + 4598) (rs' := rs + 55888) (rc2 := 0 + 300) (rs2 := 0 + 2400) (As := [_, _, _, _]) (st := _) M_L_areBits K_L_394 (dT U_L_law 71 rfl) rfl rfl rfl rfl (Nat.le_of_ble_eq_true rfl) rfl (by decide) (Nat.le_of_ble_eq_true rfl) (by first | rfl | omega) (by first | rfl | omega) ?_
                                                refine S_L_areBits hL w23 v23 p_23 L_23 hlen_23 (fun σ24 h24 ex24 w24 v24 p_24 L_24 hlen_24 => ?_)
                                                refine xRet_some ?_
                                                refine x_if_eq (tgt := 136) (dT U_L_law 72 rfl) (by decide) (by unfold xr; omega) (fun c124 => ?_) (fun c124 => ?_)
                                                · exfalso
                                                  omega
                                                · skip
                                                  refine x_aload_n (dT U_L_law 73 rfl) rfl ?_
                                                  refine x_invokestatic (rc' := rc + 4598) (rs' := rs + 55888) (rc2 := 0 + 0) (rs2 := 0 + 0) (As := [_]) (st := _) M_L_isTrue K_L_386 (dT U_L_law 74 rfl) rfl rfl rfl rfl (Nat.le_of_ble_eq_true rfl) rfl (by decide) (Nat.le_of_ble_eq_true rfl) (by first | rfl | omega) (by first | rfl | omega) ?_
                                                  refine S_L_isTrue w24 v24   (fun z25 e25 hz25 h25 fc25 w_25 v_25 => ?_)
                                                  refine xRet_some ?_
                                                  have e25 : z25 = 1 := by
                                                    exact e25
                                                  have hlen_25 : 70 ≤ h25.length := by rw [fc25.1]; exact hlen_24
                                                  refine x_lconst (z := 1) (dT U_L_law 75 rfl) rfl ?_
                                                  refine x_lif_eq (tgt := 138) (dT U_L_law 76 rfl) (dT U_L_law 77 rfl) (by decide) (xrl_of hz25) (xrl_of (by unfold xr; omega)) (fun c132 => ?_) (fun c132 => ?_)
                                                  · skip
                                                    refine x_aload_n (dT U_L_law 80 rfl) rfl ?_
                                                    refine x_aload_n (dT U_L_law 81 rfl) rfl ?_
                                                    refine x_sipush (dT U_L_law 82 rfl) (by decide) ?_
                                                    refine x_bipush (dT U_L_law 83 rfl) (by decide) ?_
                                                    refine x_iload_n (dT U_L_law 84 rfl) rfl ?_
                                                    refine x_imul (dT U_L_law 85 rfl) ?_
                                                    refine x_iadd (dT U_L_law 86 rfl) ?_
                                                    rw [show (140 : Int) + 30 * 1 = ((170 : Nat) : Int) from rfl]
                                                    refine x_iload_n (dT U_L_law 87 rfl) rfl ?_
                                                    refine x_invokestatic (rc' := rc + 3198) (rs' := rs + 43288) (rc2 := 0 + 1400) (rs2 := 0 + 12600) (As := [_, _, _, _]) (st := _) M_L_isGame K_L_397 (dT U_L_law 88 rfl) rfl rfl rfl rfl (Nat.le_of_ble_eq_true rfl) rfl (by decide) (Nat.le_of_ble_eq_true rfl) (by first | rfl | omega) (by first | rfl | omega) ?_
                                                    refine S_L_isGame (f := 170) hL w_25 v_25 p_24 L_24 hlen_25 (by omega) (fun σ26 h26 ex26 w26 v26 p_26 L_26 hlen_26 => ?_)
                                                    refine xRet_some ?_
                                                    refine x_if_eq (tgt := 193) (dT U_L_law 89 rfl) (by decide) (by unfold xr; omega) (fun c152 => ?_) (fun c152 => ?_)
                                                    · exfalso
                                                      omega
                                                    · skip
                                                      refine x_aload_n (dT U_L_law 90 rfl) rfl ?_
                                                      refine x_aload_n (dT U_L_law 91 rfl) rfl ?_
                                                      refine x_iload_n (dT U_L_law 92 rfl) rfl ?_
                                                      refine x_invokestatic (rc' := rc + 2618) (rs' := rs + 39688) (rc2 := 0 + 580) (rs2 := 0 + 3600) (As := [_, _, _]) (st := _) M_L_areWays K_L_400 (dT U_L_law 93 rfl) rfl rfl rfl rfl (Nat.le_of_ble_eq_true rfl) rfl (by decide) (Nat.le_of_ble_eq_true rfl) (by first | rfl | omega) (by first | rfl | omega) ?_
                                                      refine S_L_areWays hL w26 v26 p_26 L_26 hlen_26 (fun σ27 h27 ex27 w27 v27 p_27 L_27 hlen_27 => ?_)
                                                      refine xRet_some ?_
                                                      refine x_if_eq (tgt := 193) (dT U_L_law 94 rfl) (by decide) (by unfold xr; omega) (fun c161 => ?_) (fun c161 => ?_)
                                                      · exfalso
                                                        omega
                                                      · skip
                                                        refine x_aload_n (dT U_L_law 95 rfl) rfl ?_
                                                        refine x_aload_n (dT U_L_law 96 rfl) rfl ?_
                                                        refine x_iload_n (dT U_L_law 97 rfl) rfl ?_
                                                        refine x_iload (dT U_L_law 98 rfl) rfl ?_
                                                        refine x_invokestatic (rc' := rc + 2298) (rs' := rs + 37088) (rc2 := 0 + 320) (rs2 := 0 + 2600) (As := [_, _, _, _]) (st := _) M_L_areNotes K_L_404 (dT U_L_law 99 rfl) rfl rfl rfl rfl (Nat.le_of_ble_eq_true rfl) rfl (by decide) (Nat.le_of_ble_eq_true rfl) (by first | rfl | omega) (by first | rfl | omega) ?_
                                                        refine S_L_areNotes hL w27 v27 p_27 L_27 hlen_27 (by omega) (fun σ28 h28 ex28 w28 v28 p_28 hlen_28 => ?_)
                                                        refine xRet_some ?_
                                                        refine x_if_eq (tgt := 193) (dT U_L_law 100 rfl) (by decide) (by unfold xr; omega) (fun c172 => ?_) (fun c172 => ?_)
                                                        · exfalso
                                                          omega
                                                        · skip
                                                          refine x_aload_n (dT U_L_law 101 rfl) rfl ?_
                                                          refine x_aload_n (dT U_L_law 102 rfl) rfl ?_
                                                          refine x_iload_n (dT U_L_law 103 rfl) rfl ?_
                                                          refine x_invokestatic (rc' := rc + 1678) (rs' := rs + 33188) (rc2 := 0 + 620) (rs2 := 0 + 3900) (As := [_, _, _]) (st := _) M_L_arePolynomials K_L_407 (dT U_L_law 104 rfl) rfl rfl rfl rfl (Nat.le_of_ble_eq_true rfl) rfl (by decide) (Nat.le_of_ble_eq_true rfl) (by first | rfl | omega) (by first | rfl | omega) ?_
                                                          refine S_L_arePolynomials hL w28 v28 p_28 rfl hlen_28 (fun σ29 h29 ex29 w29 v29 p_29 _ hlen_29 => ?_)
                                                          refine xRet_some ?_
                                                          refine x_if_eq (tgt := 193) (dT U_L_law 105 rfl) (by decide) (by unfold xr; omega) (fun c181 => ?_) (fun c181 => ?_)
                                                          · exfalso
                                                            omega
                                                          · skip
                                                            refine x_aload_n (dT U_L_law 106 rfl) rfl ?_
                                                            refine x_invokestatic (rc' := rc + 1678) (rs' := rs + 33188) (rc2 := 0 + 0) (rs2 := 0 + 0) (As := [_]) (st := _) M_L_isTrue K_L_386 (dT U_L_law 107 rfl) rfl rfl rfl rfl (Nat.le_of_ble_eq_true rfl) rfl (by decide) (Nat.le_of_ble_eq_true rfl) (by first | rfl | omega) (by first | rfl | omega) ?_
                                                            refine S_L_isTrue w29 v29   (fun z30 e30 hz30 h30 fc30 w_30 v_30 => ?_)
                                                            refine xRet_some ?_
                                                            have e30 : z30 = 1 := by
                                                              exact e30
                                                            have hlen_30 : 70 ≤ h30.length := by rw [fc30.1]; exact hlen_29
                                                            refine x_lconst (z := 1) (dT U_L_law 108 rfl) rfl ?_
                                                            refine x_lif_eq (tgt := 195) (dT U_L_law 109 rfl) (dT U_L_law 110 rfl) (by decide) (xrl_of hz30) (xrl_of (by unfold xr; omega)) (fun c189 => ?_) (fun c189 => ?_)
                                                            · skip
                                                              refine x_iinc (ls' := [some (.ref _), some (.ref _), some (vi _), some (vi _), some (vi _)]) (dT U_L_law 113 rfl) (by decide) rfl rfl ?_
                                                              rw [show ((1 : Int) + 1) = 2 from rfl]
                                                              refine x_goto (tgt := 10) (dT U_L_law 114 rfl) (by decide) ?_
                                                              refine x_iload_n (dT U_L_law 6 rfl) rfl ?_
                                                              refine x_iconst (dT U_L_law 7 rfl) ?_
                                                              refine x_icmp_ge (tgt := 201) (dT U_L_law 8 rfl) (by decide) (by unfold xr; omega) (by unfold xr; omega) (fun c12 => ?_) (fun c12 => ?_)
                                                              · skip
                                                                refine x_iconst (dT U_L_law 115 rfl) ?_
                                                                refine x_zreturn (dT U_L_law 116 rfl) rfl (by omega) ?_
                                                                exact q _ _
                                                              · exfalso
                                                                omega
                                                            · exfalso
                                                              exact c189 e30
                                                  · exfalso
                                                    exact c132 e25
                                          · exfalso
                                            exact c88 e21
                                    · exfalso
                                      exact absurd rfl c54
                              · exfalso
                                exact c189 e15
                    · exfalso
                      exact c132 e10
            · exfalso
              exact c88 e6
      · exfalso
        exact absurd rfl c54

set_option maxRecDepth 20000 in
theorem L_start {G : xG} {Q : xQ} {h : xH} (hN : h.length = 3) (hL : gL G < 100000) (q : ∀ (ex : Bool) (h : xH), Q (.inl (some (vi 1))) ex h) : X G m_L_law (9 + 11) (67 + 17000) (679 + 150000) true 0 (xe m_L_law.2.2.1 [.ref 0]) [] h Q := by
  show X G m_L_law _ _ _ _ 0 [some (.ref 0), none, none, none, none] [] h Q
  refine y_new (rc' := 66 + 17000) (rs' := 664 + 150000) (N := 3) (ci := 10) hN (by decide) W_L_12 N_X10 I_X10 (dT U_L_law 0 rfl) xd_10 (by omega) (by show _ = _ + 15; omega) (fun h1 l1 k1 f1 => ?_)
  have l1 : h1.length = 4 := l1
  refine x_dup (dT U_L_law 1 rfl) rfl ?_
  refine x_invokespecial (rc' := 0 + 17000) (rs' := 0 + 150000) (rc2 := 0 + 66) (rs2 := 0 + 664) (As := []) (st := _) M_X10_init K_L_373 (dT U_L_law 2 rfl) rfl rfl rfl rfl rfl rfl (Nat.le_of_ble_eq_true rfl) rfl (by decide) (Nat.le_of_ble_eq_true rfl) (by omega) (by omega) ?_
  refine S_X10_init l1 f1 (fun h2 l2 k2 w => ?_)
  refine xRet_none ?_
  refine x_astore_n (ls' := [some (.ref _), some (.ref _), none, none, none]) (dT U_L_law 3 rfl) (by decide) rfl ?_
  refine x_iconst (dT U_L_law 4 rfl) ?_
  refine x_istore_n (ls' := [some (.ref _), some (.ref _), some (vi _), none, none]) (dT U_L_law 5 rfl) (by decide) rfl ?_
  exact L_rounds hL w INV_0 (by omega) q

