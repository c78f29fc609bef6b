def B_Lc0 : ByteArray := .mk #[0x2b, 0x2a, 0x15, 0x05, 0x04, 0x60, 0x2e, 0x2d, 0xb8, 0x00, 0xec, 0x36, 0x06, 0x2c, 0x2a, 0x15, 0x05, 0x04, 0x60, 0x2e, 0xb6, 0x00, 0xf1, 0x36, 0x07, 0x2c, 0xb6, 0x00, 0xf2, 0x15, 0x06, 0x9f, 0x00, 0x05, 0x03, 0xac, 0x15, 0x06, 0x9a, 0x00, 0x0f, 0x2d, 0x03, 0x2f, 0x15, 0x07, 0x85, 0x94, 0x99, 0x00, 0x05, 0x03, 0xac, 0xa7, 0x14, 0x1d]
theorem W_Lc0 : sameFrom m_L_law.2.1 B_Lc0 352 := sameFrom_of (by decide +kernel)
def t_Lc0 : List (Nat × Instr × Nat) := [(352, .aload_n 1, 1), (353, .aload_n 0, 1), (354, .iload 5, 2), (356, .iconst 1, 1), (357, .iadd, 1), (358, .iaload, 1), (359, .aload_n 3, 1), (360, .invokestatic 236, 3), (363, .istore 6, 2), (365, .aload_n 2, 1), (366, .aload_n 0, 1), (367, .iload 5, 2), (369, .iconst 1, 1), (370, .iadd, 1), (371, .iaload, 1), (372, .invokevirtual 241, 3), (375, .istore 7, 2), (377, .aload_n 2, 1), (378, .invokevirtual 242, 3), (381, .iload 6, 2), (383, .if_icmp .eq 5, 3), (386, .iconst 0, 1), (387, .ireturn, 1), (388, .iload 6, 2), (390, .ifCond .ne 15, 3), (393, .aload_n 3, 1), (394, .iconst 0, 1), (395, .laload, 1), (396, .iload 7, 2), (398, .i2l, 1), (399, .lcmp, 1), (400, .ifCond .eq 5, 3), (403, .iconst 0, 1), (404, .ireturn, 1), (405, .goto 5149, 3)]
set_option maxRecDepth 20000 in
theorem U_Lc0 : okT m_L_law.2.1 t_Lc0 = true := dSt [(0, .aload_n 1, 1), (1, .aload_n 0, 1), (2, .iload 5, 2), (4, .iconst 1, 1), (5, .iadd, 1), (6, .iaload, 1), (7, .aload_n 3, 1), (8, .invokestatic 236, 3), (11, .istore 6, 2), (13, .aload_n 2, 1), (14, .aload_n 0, 1), (15, .iload 5, 2), (17, .iconst 1, 1), (18, .iadd, 1), (19, .iaload, 1), (20, .invokevirtual 241, 3), (23, .istore 7, 2), (25, .aload_n 2, 1), (26, .invokevirtual 242, 3), (29, .iload 6, 2), (31, .if_icmp .eq 5, 3), (34, .iconst 0, 1), (35, .ireturn, 1), (36, .iload 6, 2), (38, .ifCond .ne 15, 3), (41, .aload_n 3, 1), (42, .iconst 0, 1), (43, .laload, 1), (44, .iload 7, 2), (46, .i2l, 1), (47, .lcmp, 1), (48, .ifCond .eq 5, 3), (51, .iconst 0, 1), (52, .ireturn, 1), (53, .goto 5149, 3)] W_Lc0 (by decide +kernel) (by decide +kernel)
set_option maxRecDepth 20000 in
set_option maxHeartbeats 1000000 in
theorem LC_0 {G : xG} {d rc rs : Nat} {ex : Bool} {h : xH} {Q : xQ} {σ : St} {c0 : Int} {rr : Nat} {ss : Int} {l0 : Int} {d0 : UInt64} {i : Nat} (hL : G.2.2.2.2.2.1 < 2147483648) (hi : i + 10 ≤ G.2.2.2.2.2.1) (w : CW σ h) (wm : MX σ c0 rr ss h) (v : INV σ) (ho : h[143]? = some (cJ [l0])) (hod : h[144]? = some (cD [d0]))
    (M : ∀ (σ9 : St) (h9 : xH) (e9 : Bool) (c9 : Int) (r9 : Nat) (s9 : Int) (l9 : Int) (d9 : UInt64), INV σ9 → CW σ9 h9 → MX σ9 c9 r9 s9 h9 → h9[143]? = some (cJ [l9]) → h9[144]? = some (cD [d9]) → X G m_L_law (d + 10) rc rs e9 5554 [some (.ref 0), some (.ref 3), some (.ref 70), some (.ref 143), some (.ref 144), some (vi (i : Int)), none, none, none] [] h9 Q) : X G m_L_law (d + 10) (rc + 1) (rs + 6) ex 352 [some (.ref 0), some (.ref 3), some (.ref 70), some (.ref 143), some (.ref 144), some (vi (i : Int)), none, none, none] [] h Q := by
  refine x_aload_n (dT U_Lc0 0 rfl) rfl ?_
  refine x_aload_n (dT U_Lc0 1 rfl) rfl ?_
  refine x_iload (dT U_Lc0 2 rfl) rfl ?_
  refine x_iconst (dT U_Lc0 3 rfl) ?_
  refine x_iadd (dT U_Lc0 4 rfl) ?_
  refine x_sld (i + 1) hL (dT U_Lc0 5 rfl) (by omega) (by omega) ?_
  refine x_aload_n (dT U_Lc0 6 rfl) rfl ?_
  refine x_invokestaticT (rc' := rc) (rs' := rs) (rc2 := 0 + 1) (rs2 := 0 + 6) (As := [_, _, _]) (st := _) M_L_field K_L_236 (dT U_Lc0 7 rfl) rfl (by decide) rfl rfl (Nat.le_of_ble_eq_true rfl) rfl (by decide) (Nat.le_of_ble_eq_true rfl) (by omega) (by omega) ?_
  refine S_L_field w v (xr_s _) ho (fun c1 => ?_) (fun c1 h2 fc w2 z9 hz9 ez9 => ?_)
  · refine xRet_some ?_
    refine x_istore (ls' := [some (.ref _), some (.ref _), some (.ref _), some (.ref _), some (.ref _), some (vi _), some (vi _), none, none]) (dT U_Lc0 8 rfl) (by decide) rfl ?_
    refine x_aload_n (dT U_Lc0 9 rfl) rfl ?_
    refine x_aload_n (dT U_Lc0 10 rfl) rfl ?_
    refine x_iload (dT U_Lc0 11 rfl) rfl ?_
    refine x_iconst (dT U_Lc0 12 rfl) ?_
    refine x_iadd (dT U_Lc0 13 rfl) ?_
    refine x_sld (i + 1) hL (dT U_Lc0 14 rfl) (by omega) (by omega) ?_
    refine x_invokevirtual (rc' := rc) (rs' := rs) (rc2 := 0) (rs2 := 0) (As := [_]) (st := _) M_X11_field K_L_241 (dT U_Lc0 15 rfl) rfl rfl (by decide) rfl rfl wm.c70 (Nat.le_of_ble_eq_true rfl) (by decide) rfl (Nat.le_of_ble_eq_true rfl) rfl (by decide) (Nat.le_of_ble_eq_true rfl) rfl rfl ?_
    refine S_X11_field wm v (xr_s _) (fun m1 h3 z ag wx xz => ?_) (fun m1 _ _ _ _ _ => absurd m1 c1)
    refine xRet_some ?_
    refine x_istore (ls' := [some (.ref _), some (.ref _), some (.ref _), some (.ref _), some (.ref _), some (vi _), some (vi _), some (vi _), none]) (dT U_Lc0 16 rfl) (by decide) rfl ?_
    refine x_aload_n (dT U_Lc0 17 rfl) rfl ?_
    refine x_invokevirtual (rc' := rc) (rs' := rs) (rc2 := 0) (rs2 := 0) (As := []) (st := _) M_X11_thrown K_L_242 (dT U_Lc0 18 rfl) rfl rfl (by decide) rfl rfl wx.c70 (Nat.le_of_ble_eq_true rfl) (by decide) rfl (Nat.le_of_ble_eq_true rfl) rfl (by decide) (Nat.le_of_ble_eq_true rfl) rfl rfl ?_
    refine S_X11_thrown wx ?_
    refine xRet_some ?_
    refine x_iload (dT U_Lc0 19 rfl) rfl ?_
    refine x_icmp_eq (tgt := 388) (dT U_Lc0 20 rfl) (by decide) (by unfold xr; omega) (by unfold xr; omega) (fun c383 => ?_) (fun c383 => (by exfalso; omega))
    refine x_iload (dT U_Lc0 23 rfl) rfl ?_
    refine x_if_nej (tgt := 405) (dT U_Lc0 24 rfl) (by decide) (by decide) ?_
    refine x_goto (tgt := 5554) (dT U_Lc0 34 rfl) (by decide) ?_
    refine x_drop ?_ (M _ _ _ _ _ _ _ _ v (w.out ag (by omega)) wx (ag.get ho (by omega)) (ag.get hod (by omega)))
    repeat (first | exact trivial | refine ⟨rfl, ?_⟩ | refine ⟨trivial, ?_⟩)
  · refine xRet_some ?_
    have wmx := wm.out (h2 := (h2.set 143 (cJ [z9]))) (fun a ha => by rw [hset_fr (by omega)]; exact fc.2 a (by omega))
    refine x_istore (ls' := [some (.ref _), some (.ref _), some (.ref _), some (.ref _), some (.ref _), some (vi _), some (vi _), none, none]) (dT U_Lc0 8 rfl) (by decide) rfl ?_
    refine x_aload_n (dT U_Lc0 9 rfl) rfl ?_
    refine x_aload_n (dT U_Lc0 10 rfl) rfl ?_
    refine x_iload (dT U_Lc0 11 rfl) rfl ?_
    refine x_iconst (dT U_Lc0 12 rfl) ?_
    refine x_iadd (dT U_Lc0 13 rfl) ?_
    refine x_sld (i + 1) hL (dT U_Lc0 14 rfl) (by omega) (by omega) ?_
    refine x_invokevirtual (rc' := rc) (rs' := rs) (rc2 := 0) (rs2 := 0) (As := [_]) (st := _) M_X11_field K_L_241 (dT U_Lc0 15 rfl) rfl rfl (by decide) rfl rfl wmx.c70 (Nat.le_of_ble_eq_true rfl) (by decide) rfl (Nat.le_of_ble_eq_true rfl) rfl (by decide) (Nat.le_of_ble_eq_true rfl) rfl rfl ?_
    refine S_X11_field wmx v (xr_s _) (fun m1 _ _ _ _ _ => absurd c1 m1) (fun m1 h3 r3 s3 ag wx => ?_)
    refine xRet_some ?_
    rw [ez9]
    refine x_istore (ls' := [some (.ref _), some (.ref _), some (.ref _), some (.ref _), some (.ref _), some (vi _), some (vi _), some (vi _), none]) (dT U_Lc0 16 rfl) (by decide) rfl ?_
    refine x_aload_n (dT U_Lc0 17 rfl) rfl ?_
    refine x_invokevirtual (rc' := rc) (rs' := rs) (rc2 := 0) (rs2 := 0) (As := []) (st := _) M_X11_thrown K_L_242 (dT U_Lc0 18 rfl) rfl rfl (by decide) rfl rfl wx.c70 (Nat.le_of_ble_eq_true rfl) (by decide) rfl (Nat.le_of_ble_eq_true rfl) rfl (by decide) (Nat.le_of_ble_eq_true rfl) rfl rfl ?_
    refine S_X11_thrown wx ?_
    refine xRet_some ?_
    refine x_iload (dT U_Lc0 19 rfl) rfl ?_
    refine x_icmp_eq (tgt := 388) (dT U_Lc0 20 rfl) (by decide) (by unfold xr; omega) (by unfold xr; omega) (fun c383 => ?_) (fun c383 => (by exfalso; omega))
    refine x_iload (dT U_Lc0 23 rfl) rfl ?_
    refine x_if_nen (tgt := 405) (dT U_Lc0 24 rfl) (by decide) (by decide) ?_
    refine x_aload_n (dT U_Lc0 25 rfl) rfl ?_
    refine x_iconst (dT U_Lc0 26 rfl) ?_
    refine x_laload 0 (dT U_Lc0 27 rfl) (ag.get (hset_eq (fc.get ho (by omega))) (by omega)) (Nat.le_of_ble_eq_true rfl) rfl (Nat.le_of_ble_eq_true rfl) (Nat.le_of_ble_eq_true rfl) ?_
    refine x_iload (dT U_Lc0 28 rfl) rfl ?_
    refine x_i2l (dT U_Lc0 29 rfl) hz9 ?_
    refine x_lcmp (dT U_Lc0 30 rfl) (xr_l hz9) (xr_l hz9) ?_
    refine x_if_eqj (tgt := 405) (dT U_Lc0 31 rfl) (by decide) (xcmp_rf _) ?_
    refine x_goto (tgt := 5554) (dT U_Lc0 34 rfl) (by decide) ?_
    refine x_drop ?_ (M _ _ _ _ _ _ _ _ (IV_field v c1) ((w2.out ((Ag.rf 143 143 h2).set (by omega)) (by omega)).out ag (by omega)) wx (ag.get (hset_eq (fc.get ho (by omega))) (by omega)) (ag.get (hset_ne (by omega) (fc.get hod (by omega))) (by omega)))
    repeat (first | exact trivial | refine ⟨rfl, ?_⟩ | refine ⟨trivial, ?_⟩)

def B_Lc1 : ByteArray := .mk #[0x2b, 0xb6, 0x00, 0xf5, 0x2c, 0xb6, 0x00, 0xf8, 0x9f, 0x14, 0x12, 0x03, 0xac]
theorem W_Lc1 : sameFrom m_L_law.2.1 B_Lc1 408 := sameFrom_of (by decide +kernel)
def t_Lc1 : List (Nat × Instr × Nat) := [(408, .aload_n 1, 1), (409, .invokevirtual 245, 3), (412, .aload_n 2, 1), (413, .invokevirtual 248, 3), (416, .if_icmp .eq 5138, 3), (419, .iconst 0, 1), (420, .ireturn, 1)]
set_option maxRecDepth 20000 in
theorem U_Lc1 : okT m_L_law.2.1 t_Lc1 = true := dSt [(0, .aload_n 1, 1), (1, .invokevirtual 245, 3), (4, .aload_n 2, 1), (5, .invokevirtual 248, 3), (8, .if_icmp .eq 5138, 3), (11, .iconst 0, 1), (12, .ireturn, 1)] W_Lc1 (by decide +kernel) (by decide +kernel)
set_option maxRecDepth 20000 in
set_option maxHeartbeats 1000000 in
theorem LC_1 {G : xG} {d rc rs : Nat} {ex : Bool} {h : xH} {Q : xQ} {σ : St} {c0 : Int} {rr : Nat} {ss : Int} {l0 : Int} {d0 : UInt64} {i : Nat} (hL : G.2.2.2.2.2.1 < 2147483648) (hi : i + 10 ≤ G.2.2.2.2.2.1) (w : CW σ h) (wm : MX σ c0 rr ss h) (v : INV σ) (ho : h[143]? = some (cJ [l0])) (hod : h[144]? = some (cD [d0]))
    (M : ∀ (σ9 : St) (h9 : xH) (e9 : Bool) (c9 : Int) (r9 : Nat) (s9 : Int) (l9 : Int) (d9 : UInt64), INV σ9 → CW σ9 h9 → MX σ9 c9 r9 s9 h9 → h9[143]? = some (cJ [l9]) → h9[144]? = some (cD [d9]) → X G m_L_law (d + 10) rc rs e9 5554 [some (.ref 0), some (.ref 3), some (.ref 70), some (.ref 143), some (.ref 144), some (vi (i : Int)), none, none, none] [] h9 Q) : X G m_L_law (d + 10) (rc + 0) (rs + 0) ex 408 [some (.ref 0), some (.ref 3), some (.ref 70), some (.ref 143), some (.ref 144), some (vi (i : Int)), none, none, none] [] h Q := by
  refine x_aload_n (dT U_Lc1 0 rfl) rfl ?_
  refine x_invokevirtual (rc' := rc) (rs' := rs) (rc2 := 0 + 0) (rs2 := 0 + 0) (As := []) (st := _) M_X10_modulus K_L_245 (dT U_Lc1 1 rfl) rfl rfl (by decide) rfl rfl w.c3 (Nat.le_of_ble_eq_true rfl) (by decide) rfl (Nat.le_of_ble_eq_true rfl) rfl (by decide) (Nat.le_of_ble_eq_true rfl) (by omega) (by omega) ?_
  refine S_X10_modulus w v  ?_
  · refine xRet_some ?_
    have wmx := wm
    refine x_nf (fun z9 hz9 ez9 => ?_)
    refine x_aload_n (dT U_Lc1 2 rfl) rfl ?_
    refine x_invokevirtual (rc' := rc) (rs' := rs) (rc2 := 0) (rs2 := 0) (As := []) (st := _) M_X11_modulus K_L_248 (dT U_Lc1 3 rfl) rfl rfl (by decide) rfl rfl wmx.c70 (Nat.le_of_ble_eq_true rfl) (by decide) rfl (Nat.le_of_ble_eq_true rfl) rfl (by decide) (Nat.le_of_ble_eq_true rfl) rfl rfl ?_
    refine S_X11_modulus wmx v  (fun  h3 r3 s3 ag wx => ?_)
    refine xRet_some ?_
    rw [ez9]
    refine x_icmp_eq (tgt := 5554) (dT U_Lc1 4 rfl) (by decide) hz9 hz9 (fun _ => ?_) (fun z => absurd rfl z)
    refine x_drop ?_ (M _ _ _ _ _ _ _ _ v (w.out ag (by omega)) wx (ag.get ho (by omega)) (ag.get hod (by omega)))
    repeat (first | exact trivial | refine ⟨rfl, ?_⟩ | refine ⟨trivial, ?_⟩)

def B_Lc2 : ByteArray := .mk #[0x2b, 0x2a, 0x15, 0x05, 0x04, 0x60, 0x2e, 0x2a, 0x15, 0x05, 0x05, 0x60, 0x2e, 0x2a, 0x15, 0x05, 0x06, 0x60, 0x2e, 0x2d, 0xb8, 0x00, 0xf9, 0x36, 0x06, 0x2c, 0x2a, 0x15, 0x05, 0x04, 0x60, 0x2e, 0x2a, 0x15, 0x05, 0x05, 0x60, 0x2e, 0x2a, 0x15, 0x05, 0x06, 0x60, 0x2e, 0xb6, 0x00, 0xfc, 0x36, 0x07, 0x2c, 0xb6, 0x00, 0xf2, 0x15, 0x06, 0x9f, 0x00, 0x05, 0x03, 0xac, 0x15, 0x06, 0x9a, 0x00, 0x0f, 0x2d, 0x03, 0x2f, 0x15, 0x07, 0x85, 0x94, 0x99, 0x00, 0x05, 0x03, 0xac, 0xa7, 0x13, 0xc0]
theorem W_Lc2 : sameFrom m_L_law.2.1 B_Lc2 421 := sameFrom_of (by decide +kernel)
def t_Lc2 : List (Nat × Instr × Nat) := [(421, .aload_n 1, 1), (422, .aload_n 0, 1), (423, .iload 5, 2), (425, .iconst 1, 1), (426, .iadd, 1), (427, .iaload, 1), (428, .aload_n 0, 1), (429, .iload 5, 2), (431, .iconst 2, 1), (432, .iadd, 1), (433, .iaload, 1), (434, .aload_n 0, 1), (435, .iload 5, 2), (437, .iconst 3, 1), (438, .iadd, 1), (439, .iaload, 1), (440, .aload_n 3, 1), (441, .invokestatic 249, 3), (444, .istore 6, 2), (446, .aload_n 2, 1), (447, .aload_n 0, 1), (448, .iload 5, 2), (450, .iconst 1, 1), (451, .iadd, 1), (452, .iaload, 1), (453, .aload_n 0, 1), (454, .iload 5, 2), (456, .iconst 2, 1), (457, .iadd, 1), (458, .iaload, 1), (459, .aload_n 0, 1), (460, .iload 5, 2), (462, .iconst 3, 1), (463, .iadd, 1), (464, .iaload, 1), (465, .invokevirtual 252, 3), (468, .istore 7, 2), (470, .aload_n 2, 1), (471, .invokevirtual 242, 3), (474, .iload 6, 2), (476, .if_icmp .eq 5, 3), (479, .iconst 0, 1), (480, .ireturn, 1), (481, .iload 6, 2), (483, .ifCond .ne 15, 3), (486, .aload_n 3, 1), (487, .iconst 0, 1), (488, .laload, 1), (489, .iload 7, 2), (491, .i2l, 1), (492, .lcmp, 1), (493, .ifCond .eq 5, 3), (496, .iconst 0, 1), (497, .ireturn, 1), (498, .goto 5056, 3)]
set_option maxRecDepth 20000 in
theorem U_Lc2 : okT m_L_law.2.1 t_Lc2 = true := dSt [(0, .aload_n 1, 1), (1, .aload_n 0, 1), (2, .iload 5, 2), (4, .iconst 1, 1), (5, .iadd, 1), (6, .iaload, 1), (7, .aload_n 0, 1), (8, .iload 5, 2), (10, .iconst 2, 1), (11, .iadd, 1), (12, .iaload, 1), (13, .aload_n 0, 1), (14, .iload 5, 2), (16, .iconst 3, 1), (17, .iadd, 1), (18, .iaload, 1), (19, .aload_n 3, 1), (20, .invokestatic 249, 3), (23, .istore 6, 2), (25, .aload_n 2, 1), (26, .aload_n 0, 1), (27, .iload 5, 2), (29, .iconst 1, 1), (30, .iadd, 1), (31, .iaload, 1), (32, .aload_n 0, 1), (33, .iload 5, 2), (35, .iconst 2, 1), (36, .iadd, 1), (37, .iaload, 1), (38, .aload_n 0, 1), (39, .iload 5, 2), (41, .iconst 3, 1), (42, .iadd, 1), (43, .iaload, 1), (44, .invokevirtual 252, 3), (47, .istore 7, 2), (49, .aload_n 2, 1), (50, .invokevirtual 242, 3), (53, .iload 6, 2), (55, .if_icmp .eq 5, 3), (58, .iconst 0, 1), (59, .ireturn, 1), (60, .iload 6, 2), (62, .ifCond .ne 15, 3), (65, .aload_n 3, 1), (66, .iconst 0, 1), (67, .laload, 1), (68, .iload 7, 2), (70, .i2l, 1), (71, .lcmp, 1), (72, .ifCond .eq 5, 3), (75, .iconst 0, 1), (76, .ireturn, 1), (77, .goto 5056, 3)] W_Lc2 (by decide +kernel) (by decide +kernel)
set_option maxRecDepth 20000 in
set_option maxHeartbeats 1000000 in
theorem LC_2 {G : xG} {d rc rs : Nat} {ex : Bool} {h : xH} {Q : xQ} {σ : St} {c0 : Int} {rr : Nat} {ss : Int} {l0 : Int} {d0 : UInt64} {i : Nat} (hL : G.2.2.2.2.2.1 < 2147483648) (hi : i + 10 ≤ G.2.2.2.2.2.1) (w : CW σ h) (wm : MX σ c0 rr ss h) (v : INV σ) (ho : h[143]? = some (cJ [l0])) (hod : h[144]? = some (cD [d0]))
    (M : ∀ (σ9 : St) (h9 : xH) (e9 : Bool) (c9 : Int) (r9 : Nat) (s9 : Int) (l9 : Int) (d9 : UInt64), INV σ9 → CW σ9 h9 → MX σ9 c9 r9 s9 h9 → h9[143]? = some (cJ [l9]) → h9[144]? = some (cD [d9]) → X G m_L_law (d + 10) rc rs e9 5554 [some (.ref 0), some (.ref 3), some (.ref 70), some (.ref 143), some (.ref 144), some (vi (i : Int)), none, none, none] [] h9 Q) : X G m_L_law (d + 10) (rc + 3) (rs + 18) ex 421 [some (.ref 0), some (.ref 3), some (.ref 70), some (.ref 143), some (.ref 144), some (vi (i : Int)), none, none, none] [] h Q := by
  refine x_aload_n (dT U_Lc2 0 rfl) rfl ?_
  refine x_aload_n (dT U_Lc2 1 rfl) rfl ?_
  refine x_iload (dT U_Lc2 2 rfl) rfl ?_
  refine x_iconst (dT U_Lc2 3 rfl) ?_
  refine x_iadd (dT U_Lc2 4 rfl) ?_
  refine x_sld (i + 1) hL (dT U_Lc2 5 rfl) (by omega) (by omega) ?_
  refine x_aload_n (dT U_Lc2 6 rfl) rfl ?_
  refine x_iload (dT U_Lc2 7 rfl) rfl ?_
  refine x_iconst (dT U_Lc2 8 rfl) ?_
  refine x_iadd (dT U_Lc2 9 rfl) ?_
  refine x_sld (i + 2) hL (dT U_Lc2 10 rfl) (by omega) (by omega) ?_
  refine x_aload_n (dT U_Lc2 11 rfl) rfl ?_
  refine x_iload (dT U_Lc2 12 rfl) rfl ?_
  refine x_iconst (dT U_Lc2 13 rfl) ?_
  refine x_iadd (dT U_Lc2 14 rfl) ?_
  refine x_sld (i + 3) hL (dT U_Lc2 15 rfl) (by omega) (by omega) ?_
  refine x_aload_n (dT U_Lc2 16 rfl) rfl ?_
  refine x_invokestaticT (rc' := rc) (rs' := rs) (rc2 := 0 + 3) (rs2 := 0 + 18) (As := [_, _, _, _, _]) (st := _) M_L_put K_L_249 (dT U_Lc2 17 rfl) rfl (by decide) rfl rfl (Nat.le_of_ble_eq_true rfl) rfl (by decide) (Nat.le_of_ble_eq_true rfl) (by omega) (by omega) ?_
  refine S_L_put w v (xr_s _) (xr_s _) (xr_s _) ho (fun c1 => ?_) (fun c1 c2 => ?_) (fun c1 c2 h2 fc w2 z9 hz9 ez9 => ?_)
  · refine xRet_some ?_
    refine x_istore (ls' := [some (.ref _), some (.ref _), some (.ref _), some (.ref _), some (.ref _), some (vi _), some (vi _), none, none]) (dT U_Lc2 18 rfl) (by decide) rfl ?_
    refine x_aload_n (dT U_Lc2 19 rfl) rfl ?_
    refine x_aload_n (dT U_Lc2 20 rfl) rfl ?_
    refine x_iload (dT U_Lc2 21 rfl) rfl ?_
    refine x_iconst (dT U_Lc2 22 rfl) ?_
    refine x_iadd (dT U_Lc2 23 rfl) ?_
    refine x_sld (i + 1) hL (dT U_Lc2 24 rfl) (by omega) (by omega) ?_
    refine x_aload_n (dT U_Lc2 25 rfl) rfl ?_
    refine x_iload (dT U_Lc2 26 rfl) rfl ?_
    refine x_iconst (dT U_Lc2 27 rfl) ?_
    refine x_iadd (dT U_Lc2 28 rfl) ?_
    refine x_sld (i + 2) hL (dT U_Lc2 29 rfl) (by omega) (by omega) ?_
    refine x_aload_n (dT U_Lc2 30 rfl) rfl ?_
    refine x_iload (dT U_Lc2 31 rfl) rfl ?_
    refine x_iconst (dT U_Lc2 32 rfl) ?_
    refine x_iadd (dT U_Lc2 33 rfl) ?_
    refine x_sld (i + 3) hL (dT U_Lc2 34 rfl) (by omega) (by omega) ?_
    refine x_invokevirtual (rc' := rc) (rs' := rs) (rc2 := 0) (rs2 := 0) (As := [_, _, _]) (st := _) M_X11_put K_L_252 (dT U_Lc2 35 rfl) rfl rfl (by decide) rfl rfl wm.c70 (Nat.le_of_ble_eq_true rfl) (by decide) rfl (Nat.le_of_ble_eq_true rfl) rfl (by decide) (Nat.le_of_ble_eq_true rfl) rfl rfl ?_
    refine S_X11_put wm v (xr_s _) (xr_s _) (xr_s _) (fun m1 h3 z ag wx xz => ?_) (fun m1 m2 _ _ _ _ _ => absurd m1 c1) (fun m1 m2 _ _ _ _ _ => absurd m1 c1)
    refine xRet_some ?_
    refine x_istore (ls' := [some (.ref _), some (.ref _), some (.ref _), some (.ref _), some (.ref _), some (vi _), some (vi _), some (vi _), none]) (dT U_Lc2 36 rfl) (by decide) rfl ?_
    refine x_aload_n (dT U_Lc2 37 rfl) rfl ?_
    refine x_invokevirtual (rc' := rc) (rs' := rs) (rc2 := 0) (rs2 := 0) (As := []) (st := _) M_X11_thrown K_L_242 (dT U_Lc2 38 rfl) rfl rfl (by decide) rfl rfl wx.c70 (Nat.le_of_ble_eq_true rfl) (by decide) rfl (Nat.le_of_ble_eq_true rfl) rfl (by decide) (Nat.le_of_ble_eq_true rfl) rfl rfl ?_
    refine S_X11_thrown wx ?_
    refine xRet_some ?_
    refine x_iload (dT U_Lc2 39 rfl) rfl ?_
    refine x_icmp_eq (tgt := 481) (dT U_Lc2 40 rfl) (by decide) (by unfold xr; omega) (by unfold xr; omega) (fun c476 => ?_) (fun c476 => (by exfalso; omega))
    refine x_iload (dT U_Lc2 43 rfl) rfl ?_
    refine x_if_nej (tgt := 498) (dT U_Lc2 44 rfl) (by decide) (by decide) ?_
    refine x_goto (tgt := 5554) (dT U_Lc2 54 rfl) (by decide) ?_
    refine x_drop ?_ (M _ _ _ _ _ _ _ _ v (w.out ag (by omega)) wx (ag.get ho (by omega)) (ag.get hod (by omega)))
    repeat (first | exact trivial | refine ⟨rfl, ?_⟩ | refine ⟨trivial, ?_⟩)
  · refine xRet_some ?_
    refine x_istore (ls' := [some (.ref _), some (.ref _), some (.ref _), some (.ref _), some (.ref _), some (vi _), some (vi _), none, none]) (dT U_Lc2 18 rfl) (by decide) rfl ?_
    refine x_aload_n (dT U_Lc2 19 rfl) rfl ?_
    refine x_aload_n (dT U_Lc2 20 rfl) rfl ?_
    refine x_iload (dT U_Lc2 21 rfl) rfl ?_
    refine x_iconst (dT U_Lc2 22 rfl) ?_
    refine x_iadd (dT U_Lc2 23 rfl) ?_
    refine x_sld (i + 1) hL (dT U_Lc2 24 rfl) (by omega) (by omega) ?_
    refine x_aload_n (dT U_Lc2 25 rfl) rfl ?_
    refine x_iload (dT U_Lc2 26 rfl) rfl ?_
    refine x_iconst (dT U_Lc2 27 rfl) ?_
    refine x_iadd (dT U_Lc2 28 rfl) ?_
    refine x_sld (i + 2) hL (dT U_Lc2 29 rfl) (by omega) (by omega) ?_
    refine x_aload_n (dT U_Lc2 30 rfl) rfl ?_
    refine x_iload (dT U_Lc2 31 rfl) rfl ?_
    refine x_iconst (dT U_Lc2 32 rfl) ?_
    refine x_iadd (dT U_Lc2 33 rfl) ?_
    refine x_sld (i + 3) hL (dT U_Lc2 34 rfl) (by omega) (by omega) ?_
    refine x_invokevirtual (rc' := rc) (rs' := rs) (rc2 := 0) (rs2 := 0) (As := [_, _, _]) (st := _) M_X11_put K_L_252 (dT U_Lc2 35 rfl) rfl rfl (by decide) rfl rfl wm.c70 (Nat.le_of_ble_eq_true rfl) (by decide) rfl (Nat.le_of_ble_eq_true rfl) rfl (by decide) (Nat.le_of_ble_eq_true rfl) rfl rfl ?_
    refine S_X11_put wm v (xr_s _) (xr_s _) (xr_s _) (fun m1 _ _ _ _ _ => absurd c1 m1) (fun m1 m2 h3 z ag wx xz => ?_) (fun m1 m2 _ _ _ _ _ => absurd m2 c2)
    refine xRet_some ?_
    refine x_istore (ls' := [some (.ref _), some (.ref _), some (.ref _), some (.ref _), some (.ref _), some (vi _), some (vi _), some (vi _), none]) (dT U_Lc2 36 rfl) (by decide) rfl ?_
    refine x_aload_n (dT U_Lc2 37 rfl) rfl ?_
    refine x_invokevirtual (rc' := rc) (rs' := rs) (rc2 := 0) (rs2 := 0) (As := []) (st := _) M_X11_thrown K_L_242 (dT U_Lc2 38 rfl) rfl rfl (by decide) rfl rfl wx.c70 (Nat.le_of_ble_eq_true rfl) (by decide) rfl (Nat.le_of_ble_eq_true rfl) rfl (by decide) (Nat.le_of_ble_eq_true rfl) rfl rfl ?_
    refine S_X11_thrown wx ?_
    refine xRet_some ?_
    refine x_iload (dT U_Lc2 39 rfl) rfl ?_
    refine x_icmp_eq (tgt := 481) (dT U_Lc2 40 rfl) (by decide) (by unfold xr; omega) (by unfold xr; omega) (fun c476 => ?_) (fun c476 => (by exfalso; omega))
    refine x_iload (dT U_Lc2 43 rfl) rfl ?_
    refine x_if_ne (tgt := 498) (dT U_Lc2 44 rfl) (by decide) (by unfold xr; omega) (fun c483 => ?_) (fun c483 => (by exfalso; omega))
    refine x_goto (tgt := 5554) (dT U_Lc2 54 rfl) (by decide) ?_
    refine x_drop ?_ (M _ _ _ _ _ _ _ _ v (w.out ag (by omega)) wx (ag.get ho (by omega)) (ag.get hod (by omega)))
    repeat (first | exact trivial | refine ⟨rfl, ?_⟩ | refine ⟨trivial, ?_⟩)
  · refine xRet_some ?_
    have wmx := wm.out (h2 := (h2.set 143 (cJ [z9]))) (fun a ha => by rw [hset_fr (by omega)]; exact fc.2 a (by omega))
    refine x_istore (ls' := [some (.ref _), some (.ref _), some (.ref _), some (.ref _), some (.ref _), some (vi _), some (vi _), none, none]) (dT U_Lc2 18 rfl) (by decide) rfl ?_
    refine x_aload_n (dT U_Lc2 19 rfl) rfl ?_
    refine x_aload_n (dT U_Lc2 20 rfl) rfl ?_
    refine x_iload (dT U_Lc2 21 rfl) rfl ?_
    refine x_iconst (dT U_Lc2 22 rfl) ?_
    refine x_iadd (dT U_Lc2 23 rfl) ?_
    refine x_sld (i + 1) hL (dT U_Lc2 24 rfl) (by omega) (by omega) ?_
    refine x_aload_n (dT U_Lc2 25 rfl) rfl ?_
    refine x_iload (dT U_Lc2 26 rfl) rfl ?_
    refine x_iconst (dT U_Lc2 27 rfl) ?_
    refine x_iadd (dT U_Lc2 28 rfl) ?_
    refine x_sld (i + 2) hL (dT U_Lc2 29 rfl) (by omega) (by omega) ?_
    refine x_aload_n (dT U_Lc2 30 rfl) rfl ?_
    refine x_iload (dT U_Lc2 31 rfl) rfl ?_
    refine x_iconst (dT U_Lc2 32 rfl) ?_
    refine x_iadd (dT U_Lc2 33 rfl) ?_
    refine x_sld (i + 3) hL (dT U_Lc2 34 rfl) (by omega) (by omega) ?_
    refine x_invokevirtual (rc' := rc) (rs' := rs) (rc2 := 0) (rs2 := 0) (As := [_, _, _]) (st := _) M_X11_put K_L_252 (dT U_Lc2 35 rfl) rfl rfl (by decide) rfl rfl wmx.c70 (Nat.le_of_ble_eq_true rfl) (by decide) rfl (Nat.le_of_ble_eq_true rfl) rfl (by decide) (Nat.le_of_ble_eq_true rfl) rfl rfl ?_
    refine S_X11_put wmx v (xr_s _) (xr_s _) (xr_s _) (fun m1 _ _ _ _ _ => absurd c1 m1) (fun m1 m2 _ _ _ _ _ => absurd c2 m2) (fun m1 m2 h3 r3 s3 ag wx => ?_)
    refine xRet_some ?_
    rw [ez9]
    refine x_istore (ls' := [some (.ref _), some (.ref _), some (.ref _), some (.ref _), some (.ref _), some (vi _), some (vi _), some (vi _), none]) (dT U_Lc2 36 rfl) (by decide) rfl ?_
    refine x_aload_n (dT U_Lc2 37 rfl) rfl ?_
    refine x_invokevirtual (rc' := rc) (rs' := rs) (rc2 := 0) (rs2 := 0) (As := []) (st := _) M_X11_thrown K_L_242 (dT U_Lc2 38 rfl) rfl rfl (by decide) rfl rfl wx.c70 (Nat.le_of_ble_eq_true rfl) (by decide) rfl (Nat.le_of_ble_eq_true rfl) rfl (by decide) (Nat.le_of_ble_eq_true rfl) rfl rfl ?_
    refine S_X11_thrown wx ?_
    refine xRet_some ?_
    refine x_iload (dT U_Lc2 39 rfl) rfl ?_
    refine x_icmp_eq (tgt := 481) (dT U_Lc2 40 rfl) (by decide) (by unfold xr; omega) (by unfold xr; omega) (fun c476 => ?_) (fun c476 => (by exfalso; omega))
    refine x_iload (dT U_Lc2 43 rfl) rfl ?_
    refine x_if_nen (tgt := 498) (dT U_Lc2 44 rfl) (by decide) (by decide) ?_
    refine x_aload_n (dT U_Lc2 45 rfl) rfl ?_
    refine x_iconst (dT U_Lc2 46 rfl) ?_
    refine x_laload 0 (dT U_Lc2 47 rfl) (ag.get (hset_eq (fc.get ho (by omega))) (by omega)) (Nat.le_of_ble_eq_true rfl) rfl (Nat.le_of_ble_eq_true rfl) (Nat.le_of_ble_eq_true rfl) ?_
    refine x_iload (dT U_Lc2 48 rfl) rfl ?_
    refine x_i2l (dT U_Lc2 49 rfl) hz9 ?_
    refine x_lcmp (dT U_Lc2 50 rfl) (xr_l hz9) (xr_l hz9) ?_
    refine x_if_eqj (tgt := 498) (dT U_Lc2 51 rfl) (by decide) (xcmp_rf _) ?_
    refine x_goto (tgt := 5554) (dT U_Lc2 54 rfl) (by decide) ?_
    refine x_drop ?_ (M _ _ _ _ _ _ _ _ (IV_put v c1 c2) ((w2.out ((Ag.rf 143 143 h2).set (by omega)) (by omega)).out ag (by omega)) wx (ag.get (hset_eq (fc.get ho (by omega))) (by omega)) (ag.get (hset_ne (by omega) (fc.get hod (by omega))) (by omega)))
    repeat (first | exact trivial | refine ⟨rfl, ?_⟩ | refine ⟨trivial, ?_⟩)

def B_Lc3 : ByteArray := .mk #[0x2b, 0x2a, 0x15, 0x05, 0x04, 0x60, 0x2e, 0x2a, 0x15, 0x05, 0x05, 0x60, 0x2e, 0x2a, 0x15, 0x05, 0x06, 0x60, 0x2e, 0x2a, 0x15, 0x05, 0x07, 0x60, 0x2e, 0x2a, 0x15, 0x05, 0x08, 0x60, 0x2e, 0x2a, 0x15, 0x05, 0x10, 0x06, 0x60, 0x2e, 0x2a, 0x15, 0x05, 0x10, 0x07, 0x60, 0x2e, 0x2a, 0x15, 0x05, 0x10, 0x08, 0x60, 0x2e, 0x2a, 0x15, 0x05, 0x10, 0x09, 0x60, 0x2e, 0x2d, 0xb8, 0x00, 0xfd, 0x36, 0x06, 0x2c, 0x2a, 0x15, 0x05, 0x04, 0x60, 0x2e, 0x2a, 0x15, 0x05, 0x05, 0x60, 0x2e, 0x2a, 0x15, 0x05, 0x06, 0x60, 0x2e, 0x2a, 0x15, 0x05, 0x07, 0x60, 0x2e, 0x2a, 0x15, 0x05, 0x08, 0x60, 0x2e, 0x2a, 0x15, 0x05, 0x10, 0x06, 0x60, 0x2e, 0x2a, 0x15, 0x05, 0x10, 0x07, 0x60, 0x2e, 0x2a, 0x15, 0x05, 0x10, 0x08, 0x60, 0x2e, 0x2a, 0x15, 0x05, 0x10, 0x09, 0x60, 0x2e, 0xb6, 0x01, 0x00, 0x36, 0x07, 0x2c, 0xb6, 0x00, 0xf2, 0x15, 0x06, 0x9f, 0x00, 0x05, 0x03, 0xac, 0x15, 0x06, 0x9a, 0x00, 0x0f, 0x2d, 0x03, 0x2f, 0x15, 0x07, 0x85, 0x94, 0x99, 0x00, 0x05, 0x03, 0xac, 0xa7, 0x13, 0x20]
theorem W_Lc3 : sameFrom m_L_law.2.1 B_Lc3 501 := sameFrom_of (by decide +kernel)
def t_Lc3 : List (Nat × Instr × Nat) := [(501, .aload_n 1, 1), (502, .aload_n 0, 1), (503, .iload 5, 2), (505, .iconst 1, 1), (506, .iadd, 1), (507, .iaload, 1), (508, .aload_n 0, 1), (509, .iload 5, 2), (511, .iconst 2, 1), (512, .iadd, 1), (513, .iaload, 1), (514, .aload_n 0, 1), (515, .iload 5, 2), (517, .iconst 3, 1), (518, .iadd, 1), (519, .iaload, 1), (520, .aload_n 0, 1), (521, .iload 5, 2), (523, .iconst 4, 1), (524, .iadd, 1), (525, .iaload, 1), (526, .aload_n 0, 1), (527, .iload 5, 2), (529, .iconst 5, 1), (530, .iadd, 1), (531, .iaload, 1), (532, .aload_n 0, 1), (533, .iload 5, 2), (535, .bipush 6, 2), (537, .iadd, 1), (538, .iaload, 1), (539, .aload_n 0, 1), (540, .iload 5, 2), (542, .bipush 7, 2), (544, .iadd, 1), (545, .iaload, 1), (546, .aload_n 0, 1), (547, .iload 5, 2), (549, .bipush 8, 2), (551, .iadd, 1), (552, .iaload, 1), (553, .aload_n 0, 1), (554, .iload 5, 2), (556, .bipush 9, 2), (558, .iadd, 1), (559, .iaload, 1), (560, .aload_n 3, 1), (561, .invokestatic 253, 3), (564, .istore 6, 2), (566, .aload_n 2, 1), (567, .aload_n 0, 1), (568, .iload 5, 2), (570, .iconst 1, 1), (571, .iadd, 1), (572, .iaload, 1), (573, .aload_n 0, 1), (574, .iload 5, 2), (576, .iconst 2, 1), (577, .iadd, 1), (578, .iaload, 1), (579, .aload_n 0, 1), (580, .iload 5, 2), (582, .iconst 3, 1), (583, .iadd, 1), (584, .iaload, 1), (585, .aload_n 0, 1), (586, .iload 5, 2), (588, .iconst 4, 1), (589, .iadd, 1), (590, .iaload, 1), (591, .aload_n 0, 1), (592, .iload 5, 2), (594, .iconst 5, 1), (595, .iadd, 1), (596, .iaload, 1), (597, .aload_n 0, 1), (598, .iload 5, 2), (600, .bipush 6, 2), (602, .iadd, 1), (603, .iaload, 1), (604, .aload_n 0, 1), (605, .iload 5, 2), (607, .bipush 7, 2), (609, .iadd, 1), (610, .iaload, 1), (611, .aload_n 0, 1), (612, .iload 5, 2), (614, .bipush 8, 2), (616, .iadd, 1), (617, .iaload, 1), (618, .aload_n 0, 1), (619, .iload 5, 2), (621, .bipush 9, 2), (623, .iadd, 1), (624, .iaload, 1), (625, .invokevirtual 256, 3), (628, .istore 7, 2), (630, .aload_n 2, 1), (631, .invokevirtual 242, 3), (634, .iload 6, 2), (636, .if_icmp .eq 5, 3), (639, .iconst 0, 1), (640, .ireturn, 1), (641, .iload 6, 2), (643, .ifCond .ne 15, 3), (646, .aload_n 3, 1), (647, .iconst 0, 1), (648, .laload, 1), (649, .iload 7, 2), (651, .i2l, 1), (652, .lcmp, 1), (653, .ifCond .eq 5, 3), (656, .iconst 0, 1), (657, .ireturn, 1), (658, .goto 4896, 3)]
set_option maxRecDepth 20000 in
theorem U_Lc3 : okT m_L_law.2.1 t_Lc3 = true := dSt [(0, .aload_n 1, 1), (1, .aload_n 0, 1), (2, .iload 5, 2), (4, .iconst 1, 1), (5, .iadd, 1), (6, .iaload, 1), (7, .aload_n 0, 1), (8, .iload 5, 2), (10, .iconst 2, 1), (11, .iadd, 1), (12, .iaload, 1), (13, .aload_n 0, 1), (14, .iload 5, 2), (16, .iconst 3, 1), (17, .iadd, 1), (18, .iaload, 1), (19, .aload_n 0, 1), (20, .iload 5, 2), (22, .iconst 4, 1), (23, .iadd, 1), (24, .iaload, 1), (25, .aload_n 0, 1), (26, .iload 5, 2), (28, .iconst 5, 1), (29, .iadd, 1), (30, .iaload, 1), (31, .aload_n 0, 1), (32, .iload 5, 2), (34, .bipush 6, 2), (36, .iadd, 1), (37, .iaload, 1), (38, .aload_n 0, 1), (39, .iload 5, 2), (41, .bipush 7, 2), (43, .iadd, 1), (44, .iaload, 1), (45, .aload_n 0, 1), (46, .iload 5, 2), (48, .bipush 8, 2), (50, .iadd, 1), (51, .iaload, 1), (52, .aload_n 0, 1), (53, .iload 5, 2), (55, .bipush 9, 2), (57, .iadd, 1), (58, .iaload, 1), (59, .aload_n 3, 1), (60, .invokestatic 253, 3), (63, .istore 6, 2), (65, .aload_n 2, 1), (66, .aload_n 0, 1), (67, .iload 5, 2), (69, .iconst 1, 1), (70, .iadd, 1), (71, .iaload, 1), (72, .aload_n 0, 1), (73, .iload 5, 2), (75, .iconst 2, 1), (76, .iadd, 1), (77, .iaload, 1), (78, .aload_n 0, 1), (79, .iload 5, 2), (81, .iconst 3, 1), (82, .iadd, 1), (83, .iaload, 1), (84, .aload_n 0, 1), (85, .iload 5, 2), (87, .iconst 4, 1), (88, .iadd, 1), (89, .iaload, 1), (90, .aload_n 0, 1), (91, .iload 5, 2), (93, .iconst 5, 1), (94, .iadd, 1), (95, .iaload, 1), (96, .aload_n 0, 1), (97, .iload 5, 2), (99, .bipush 6, 2), (101, .iadd, 1), (102, .iaload, 1), (103, .aload_n 0, 1), (104, .iload 5, 2), (106, .bipush 7, 2), (108, .iadd, 1), (109, .iaload, 1), (110, .aload_n 0, 1), (111, .iload 5, 2), (113, .bipush 8, 2), (115, .iadd, 1), (116, .iaload, 1), (117, .aload_n 0, 1), (118, .iload 5, 2), (120, .bipush 9, 2), (122, .iadd, 1), (123, .iaload, 1), (124, .invokevirtual 256, 3), (127, .istore 7, 2), (129, .aload_n 2, 1), (130, .invokevirtual 242, 3), (133, .iload 6, 2), (135, .if_icmp .eq 5, 3), (138, .iconst 0, 1), (139, .ireturn, 1), (140, .iload 6, 2), (142, .ifCond .ne 15, 3), (145, .aload_n 3, 1), (146, .iconst 0, 1), (147, .laload, 1), (148, .iload 7, 2), (150, .i2l, 1), (151, .lcmp, 1), (152, .ifCond .eq 5, 3), (155, .iconst 0, 1), (156, .ireturn, 1), (157, .goto 4896, 3)] W_Lc3 (by decide +kernel) (by decide +kernel)
set_option maxRecDepth 20000 in
set_option maxHeartbeats 1000000 in
theorem LC_3 {G : xG} {d rc rs : Nat} {ex : Bool} {h : xH} {Q : xQ} {σ : St} {c0 : Int} {rr : Nat} {ss : Int} {l0 : Int} {d0 : UInt64} {i : Nat} (hL : G.2.2.2.2.2.1 < 2147483648) (hi : i + 10 ≤ G.2.2.2.2.2.1) (w : CW σ h) (wm : MX σ c0 rr ss h) (v : INV σ) (ho : h[143]? = some (cJ [l0])) (hod : h[144]? = some (cD [d0]))
    (M : ∀ (σ9 : St) (h9 : xH) (e9 : Bool) (c9 : Int) (r9 : Nat) (s9 : Int) (l9 : Int) (d9 : UInt64), INV σ9 → CW σ9 h9 → MX σ9 c9 r9 s9 h9 → h9[143]? = some (cJ [l9]) → h9[144]? = some (cD [d9]) → X G m_L_law (d + 10) rc rs e9 5554 [some (.ref 0), some (.ref 3), some (.ref 70), some (.ref 143), some (.ref 144), some (vi (i : Int)), none, none, none] [] h9 Q) : X G m_L_law (d + 10) (rc + 1) (rs + 6) ex 501 [some (.ref 0), some (.ref 3), some (.ref 70), some (.ref 143), some (.ref 144), some (vi (i : Int)), none, none, none] [] h Q := by
  refine x_aload_n (dT U_Lc3 0 rfl) rfl ?_
  refine x_aload_n (dT U_Lc3 1 rfl) rfl ?_
  refine x_iload (dT U_Lc3 2 rfl) rfl ?_
  refine x_iconst (dT U_Lc3 3 rfl) ?_
  refine x_iadd (dT U_Lc3 4 rfl) ?_
  refine x_sld (i + 1) hL (dT U_Lc3 5 rfl) (by omega) (by omega) ?_
  refine x_aload_n (dT U_Lc3 6 rfl) rfl ?_
  refine x_iload (dT U_Lc3 7 rfl) rfl ?_
  refine x_iconst (dT U_Lc3 8 rfl) ?_
  refine x_iadd (dT U_Lc3 9 rfl) ?_
  refine x_sld (i + 2) hL (dT U_Lc3 10 rfl) (by omega) (by omega) ?_
  refine x_aload_n (dT U_Lc3 11 rfl) rfl ?_
  refine x_iload (dT U_Lc3 12 rfl) rfl ?_
  refine x_iconst (dT U_Lc3 13 rfl) ?_
  refine x_iadd (dT U_Lc3 14 rfl) ?_
  refine x_sld (i + 3) hL (dT U_Lc3 15 rfl) (by omega) (by omega) ?_
  refine x_aload_n (dT U_Lc3 16 rfl) rfl ?_
  refine x_iload (dT U_Lc3 17 rfl) rfl ?_
  refine x_iconst (dT U_Lc3 18 rfl) ?_
  refine x_iadd (dT U_Lc3 19 rfl) ?_
  refine x_sld (i + 4) hL (dT U_Lc3 20 rfl) (by omega) (by omega) ?_
  refine x_aload_n (dT U_Lc3 21 rfl) rfl ?_
  refine x_iload (dT U_Lc3 22 rfl) rfl ?_
  refine x_iconst (dT U_Lc3 23 rfl) ?_
  refine x_iadd (dT U_Lc3 24 rfl) ?_
  refine x_sld (i + 5) hL (dT U_Lc3 25 rfl) (by omega) (by omega) ?_
  refine x_aload_n (dT U_Lc3 26 rfl) rfl ?_
  refine x_iload (dT U_Lc3 27 rfl) rfl ?_
  refine x_bipush (dT U_Lc3 28 rfl) (by decide) ?_
  refine x_iadd (dT U_Lc3 29 rfl) ?_
  refine x_sld (i + 6) hL (dT U_Lc3 30 rfl) (by omega) (by omega) ?_
  refine x_aload_n (dT U_Lc3 31 rfl) rfl ?_
  refine x_iload (dT U_Lc3 32 rfl) rfl ?_
  refine x_bipush (dT U_Lc3 33 rfl) (by decide) ?_
  refine x_iadd (dT U_Lc3 34 rfl) ?_
  refine x_sld (i + 7) hL (dT U_Lc3 35 rfl) (by omega) (by omega) ?_
  refine x_aload_n (dT U_Lc3 36 rfl) rfl ?_
  refine x_iload (dT U_Lc3 37 rfl) rfl ?_
  refine x_bipush (dT U_Lc3 38 rfl) (by decide) ?_
  refine x_iadd (dT U_Lc3 39 rfl) ?_
  refine x_sld (i + 8) hL (dT U_Lc3 40 rfl) (by omega) (by omega) ?_
  refine x_aload_n (dT U_Lc3 41 rfl) rfl ?_
  refine x_iload (dT U_Lc3 42 rfl) rfl ?_
  refine x_bipush (dT U_Lc3 43 rfl) (by decide) ?_
  refine x_iadd (dT U_Lc3 44 rfl) ?_
  refine x_sld (i + 9) hL (dT U_Lc3 45 rfl) (by omega) (by omega) ?_
  refine x_aload_n (dT U_Lc3 46 rfl) rfl ?_
  refine x_invokestaticT (rc' := rc) (rs' := rs) (rc2 := 0 + 1) (rs2 := 0 + 6) (As := [_, _, _, _, _, _, _, _, _, _, _]) (st := _) M_L_fill K_L_253 (dT U_Lc3 47 rfl) rfl (by decide) rfl rfl (Nat.le_of_ble_eq_true rfl) rfl (by decide) (Nat.le_of_ble_eq_true rfl) (by omega) (by omega) ?_
  refine S_L_fill w v (xr_s _) (xr_s _) (xr_s _) (xr_s _) (xr_s _) (xr_s _) (xr_s _) (xr_s _) (xr_s _) ho (fun c1 => ?_) (fun c1 h2 fc w2 z9 hz9 ez9 => ?_)
  · refine xRet_some ?_
    refine x_istore (ls' := [some (.ref _), some (.ref _), some (.ref _), some (.ref _), some (.ref _), some (vi _), some (vi _), none, none]) (dT U_Lc3 48 rfl) (by decide) rfl ?_
    refine x_aload_n (dT U_Lc3 49 rfl) rfl ?_
    refine x_aload_n (dT U_Lc3 50 rfl) rfl ?_
    refine x_iload (dT U_Lc3 51 rfl) rfl ?_
    refine x_iconst (dT U_Lc3 52 rfl) ?_
    refine x_iadd (dT U_Lc3 53 rfl) ?_
    refine x_sld (i + 1) hL (dT U_Lc3 54 rfl) (by omega) (by omega) ?_
    refine x_aload_n (dT U_Lc3 55 rfl) rfl ?_
    refine x_iload (dT U_Lc3 56 rfl) rfl ?_
    refine x_iconst (dT U_Lc3 57 rfl) ?_
    refine x_iadd (dT U_Lc3 58 rfl) ?_
    refine x_sld (i + 2) hL (dT U_Lc3 59 rfl) (by omega) (by omega) ?_
    refine x_aload_n (dT U_Lc3 60 rfl) rfl ?_
    refine x_iload (dT U_Lc3 61 rfl) rfl ?_
    refine x_iconst (dT U_Lc3 62 rfl) ?_
    refine x_iadd (dT U_Lc3 63 rfl) ?_
    refine x_sld (i + 3) hL (dT U_Lc3 64 rfl) (by omega) (by omega) ?_
    refine x_aload_n (dT U_Lc3 65 rfl) rfl ?_
    refine x_iload (dT U_Lc3 66 rfl) rfl ?_
    refine x_iconst (dT U_Lc3 67 rfl) ?_
    refine x_iadd (dT U_Lc3 68 rfl) ?_
    refine x_sld (i + 4) hL (dT U_Lc3 69 rfl) (by omega) (by omega) ?_
    refine x_aload_n (dT U_Lc3 70 rfl) rfl ?_
    refine x_iload (dT U_Lc3 71 rfl) rfl ?_
    refine x_iconst (dT U_Lc3 72 rfl) ?_
    refine x_iadd (dT U_Lc3 73 rfl) ?_
    refine x_sld (i + 5) hL (dT U_Lc3 74 rfl) (by omega) (by omega) ?_
    refine x_aload_n (dT U_Lc3 75 rfl) rfl ?_
    refine x_iload (dT U_Lc3 76 rfl) rfl ?_
    refine x_bipush (dT U_Lc3 77 rfl) (by decide) ?_
    refine x_iadd (dT U_Lc3 78 rfl) ?_
    refine x_sld (i + 6) hL (dT U_Lc3 79 rfl) (by omega) (by omega) ?_
    refine x_aload_n (dT U_Lc3 80 rfl) rfl ?_
    refine x_iload (dT U_Lc3 81 rfl) rfl ?_
    refine x_bipush (dT U_Lc3 82 rfl) (by decide) ?_
    refine x_iadd (dT U_Lc3 83 rfl) ?_
    refine x_sld (i + 7) hL (dT U_Lc3 84 rfl) (by omega) (by omega) ?_
    refine x_aload_n (dT U_Lc3 85 rfl) rfl ?_
    refine x_iload (dT U_Lc3 86 rfl) rfl ?_
    refine x_bipush (dT U_Lc3 87 rfl) (by decide) ?_
    refine x_iadd (dT U_Lc3 88 rfl) ?_
    refine x_sld (i + 8) hL (dT U_Lc3 89 rfl) (by omega) (by omega) ?_
    refine x_aload_n (dT U_Lc3 90 rfl) rfl ?_
    refine x_iload (dT U_Lc3 91 rfl) rfl ?_
    refine x_bipush (dT U_Lc3 92 rfl) (by decide) ?_
    refine x_iadd (dT U_Lc3 93 rfl) ?_
    refine x_sld (i + 9) hL (dT U_Lc3 94 rfl) (by omega) (by omega) ?_
    refine x_invokevirtual (rc' := rc) (rs' := rs) (rc2 := 0) (rs2 := 0) (As := [_, _, _, _, _, _, _, _, _]) (st := _) M_X11_fill K_L_256 (dT U_Lc3 95 rfl) rfl rfl (by decide) rfl rfl wm.c70 (Nat.le_of_ble_eq_true rfl) (by decide) rfl (Nat.le_of_ble_eq_true rfl) rfl (by decide) (Nat.le_of_ble_eq_true rfl) rfl rfl ?_
    refine S_X11_fill wm v (xr_s _) (xr_s _) (xr_s _) (xr_s _) (xr_s _) (xr_s _) (xr_s _) (xr_s _) (xr_s _) (fun m1 h3 z ag wx xz => ?_) (fun m1 _ _ _ _ _ => absurd m1 c1)
    refine xRet_some ?_
    refine x_istore (ls' := [some (.ref _), some (.ref _), some (.ref _), some (.ref _), some (.ref _), some (vi _), some (vi _), some (vi _), none]) (dT U_Lc3 96 rfl) (by decide) rfl ?_
    refine x_aload_n (dT U_Lc3 97 rfl) rfl ?_
    refine x_invokevirtual (rc' := rc) (rs' := rs) (rc2 := 0) (rs2 := 0) (As := []) (st := _) M_X11_thrown K_L_242 (dT U_Lc3 98 rfl) rfl rfl (by decide) rfl rfl wx.c70 (Nat.le_of_ble_eq_true rfl) (by decide) rfl (Nat.le_of_ble_eq_true rfl) rfl (by decide) (Nat.le_of_ble_eq_true rfl) rfl rfl ?_
    refine S_X11_thrown wx ?_
    refine xRet_some ?_
    refine x_iload (dT U_Lc3 99 rfl) rfl ?_
    refine x_icmp_eq (tgt := 641) (dT U_Lc3 100 rfl) (by decide) (by unfold xr; omega) (by unfold xr; omega) (fun c636 => ?_) (fun c636 => (by exfalso; omega))
    refine x_iload (dT U_Lc3 103 rfl) rfl ?_
    refine x_if_nej (tgt := 658) (dT U_Lc3 104 rfl) (by decide) (by decide) ?_
    refine x_goto (tgt := 5554) (dT U_Lc3 114 rfl) (by decide) ?_
    refine x_drop ?_ (M _ _ _ _ _ _ _ _ v (w.out ag (by omega)) wx (ag.get ho (by omega)) (ag.get hod (by omega)))
    repeat (first | exact trivial | refine ⟨rfl, ?_⟩ | refine ⟨trivial, ?_⟩)
  · refine xRet_some ?_
    have wmx := wm.out (h2 := (h2.set 143 (cJ [z9]))) (fun a ha => by rw [hset_fr (by omega)]; exact fc.2 a (by omega))
    refine x_istore (ls' := [some (.ref _), some (.ref _), some (.ref _), some (.ref _), some (.ref _), some (vi _), some (vi _), none, none]) (dT U_Lc3 48 rfl) (by decide) rfl ?_
    refine x_aload_n (dT U_Lc3 49 rfl) rfl ?_
    refine x_aload_n (dT U_Lc3 50 rfl) rfl ?_
    refine x_iload (dT U_Lc3 51 rfl) rfl ?_
    refine x_iconst (dT U_Lc3 52 rfl) ?_
    refine x_iadd (dT U_Lc3 53 rfl) ?_
    refine x_sld (i + 1) hL (dT U_Lc3 54 rfl) (by omega) (by omega) ?_
    refine x_aload_n (dT U_Lc3 55 rfl) rfl ?_
    refine x_iload (dT U_Lc3 56 rfl) rfl ?_
    refine x_iconst (dT U_Lc3 57 rfl) ?_
    refine x_iadd (dT U_Lc3 58 rfl) ?_
    refine x_sld (i + 2) hL (dT U_Lc3 59 rfl) (by omega) (by omega) ?_
    refine x_aload_n (dT U_Lc3 60 rfl) rfl ?_
    refine x_iload (dT U_Lc3 61 rfl) rfl ?_
    refine x_iconst (dT U_Lc3 62 rfl) ?_
    refine x_iadd (dT U_Lc3 63 rfl) ?_
    refine x_sld (i + 3) hL (dT U_Lc3 64 rfl) (by omega) (by omega) ?_
    refine x_aload_n (dT U_Lc3 65 rfl) rfl ?_
    refine x_iload (dT U_Lc3 66 rfl) rfl ?_
    refine x_iconst (dT U_Lc3 67 rfl) ?_
    refine x_iadd (dT U_Lc3 68 rfl) ?_
    refine x_sld (i + 4) hL (dT U_Lc3 69 rfl) (by omega) (by omega) ?_
    refine x_aload_n (dT U_Lc3 70 rfl) rfl ?_
    refine x_iload (dT U_Lc3 71 rfl) rfl ?_
    refine x_iconst (dT U_Lc3 72 rfl) ?_
    refine x_iadd (dT U_Lc3 73 rfl) ?_
    refine x_sld (i + 5) hL (dT U_Lc3 74 rfl) (by omega) (by omega) ?_
    refine x_aload_n (dT U_Lc3 75 rfl) rfl ?_
    refine x_iload (dT U_Lc3 76 rfl) rfl ?_
    refine x_bipush (dT U_Lc3 77 rfl) (by decide) ?_
    refine x_iadd (dT U_Lc3 78 rfl) ?_
    refine x_sld (i + 6) hL (dT U_Lc3 79 rfl) (by omega) (by omega) ?_
    refine x_aload_n (dT U_Lc3 80 rfl) rfl ?_
    refine x_iload (dT U_Lc3 81 rfl) rfl ?_
    refine x_bipush (dT U_Lc3 82 rfl) (by decide) ?_
    refine x_iadd (dT U_Lc3 83 rfl) ?_
    refine x_sld (i + 7) hL (dT U_Lc3 84 rfl) (by omega) (by omega) ?_
    refine x_aload_n (dT U_Lc3 85 rfl) rfl ?_
    refine x_iload (dT U_Lc3 86 rfl) rfl ?_
    refine x_bipush (dT U_Lc3 87 rfl) (by decide) ?_
    refine x_iadd (dT U_Lc3 88 rfl) ?_
    refine x_sld (i + 8) hL (dT U_Lc3 89 rfl) (by omega) (by omega) ?_
    refine x_aload_n (dT U_Lc3 90 rfl) rfl ?_
    refine x_iload (dT U_Lc3 91 rfl) rfl ?_
    refine x_bipush (dT U_Lc3 92 rfl) (by decide) ?_
    refine x_iadd (dT U_Lc3 93 rfl) ?_
    refine x_sld (i + 9) hL (dT U_Lc3 94 rfl) (by omega) (by omega) ?_
    refine x_invokevirtual (rc' := rc) (rs' := rs) (rc2 := 0) (rs2 := 0) (As := [_, _, _, _, _, _, _, _, _]) (st := _) M_X11_fill K_L_256 (dT U_Lc3 95 rfl) rfl rfl (by decide) rfl rfl wmx.c70 (Nat.le_of_ble_eq_true rfl) (by decide) rfl (Nat.le_of_ble_eq_true rfl) rfl (by decide) (Nat.le_of_ble_eq_true rfl) rfl rfl ?_
    refine S_X11_fill wmx v (xr_s _) (xr_s _) (xr_s _) (xr_s _) (xr_s _) (xr_s _) (xr_s _) (xr_s _) (xr_s _) (fun m1 _ _ _ _ _ => absurd c1 m1) (fun m1 h3 r3 s3 ag wx => ?_)
    refine xRet_some ?_
    rw [ez9]
    refine x_istore (ls' := [some (.ref _), some (.ref _), some (.ref _), some (.ref _), some (.ref _), some (vi _), some (vi _), some (vi _), none]) (dT U_Lc3 96 rfl) (by decide) rfl ?_
    refine x_aload_n (dT U_Lc3 97 rfl) rfl ?_
    refine x_invokevirtual (rc' := rc) (rs' := rs) (rc2 := 0) (rs2 := 0) (As := []) (st := _) M_X11_thrown K_L_242 (dT U_Lc3 98 rfl) rfl rfl (by decide) rfl rfl wx.c70 (Nat.le_of_ble_eq_true rfl) (by decide) rfl (Nat.le_of_ble_eq_true rfl) rfl (by decide) (Nat.le_of_ble_eq_true rfl) rfl rfl ?_
    refine S_X11_thrown wx ?_
    refine xRet_some ?_
    refine x_iload (dT U_Lc3 99 rfl) rfl ?_
    refine x_icmp_eq (tgt := 641) (dT U_Lc3 100 rfl) (by decide) (by unfold xr; omega) (by unfold xr; omega) (fun c636 => ?_) (fun c636 => (by exfalso; omega))
    refine x_iload (dT U_Lc3 103 rfl) rfl ?_
    refine x_if_nen (tgt := 658) (dT U_Lc3 104 rfl) (by decide) (by decide) ?_
    refine x_aload_n (dT U_Lc3 105 rfl) rfl ?_
    refine x_iconst (dT U_Lc3 106 rfl) ?_
    refine x_laload 0 (dT U_Lc3 107 rfl) (ag.get (hset_eq (fc.get ho (by omega))) (by omega)) (Nat.le_of_ble_eq_true rfl) rfl (Nat.le_of_ble_eq_true rfl) (Nat.le_of_ble_eq_true rfl) ?_
    refine x_iload (dT U_Lc3 108 rfl) rfl ?_
    refine x_i2l (dT U_Lc3 109 rfl) hz9 ?_
    refine x_lcmp (dT U_Lc3 110 rfl) (xr_l hz9) (xr_l hz9) ?_
    refine x_if_eqj (tgt := 658) (dT U_Lc3 111 rfl) (by decide) (xcmp_rf _) ?_
    refine x_goto (tgt := 5554) (dT U_Lc3 114 rfl) (by decide) ?_
    refine x_drop ?_ (M _ _ _ _ _ _ _ _ (IV_fill v c1) ((w2.out ((Ag.rf 143 143 h2).set (by omega)) (by omega)).out ag (by omega)) wx (ag.get (hset_eq (fc.get ho (by omega))) (by omega)) (ag.get (hset_ne (by omega) (fc.get hod (by omega))) (by omega)))
    repeat (first | exact trivial | refine ⟨rfl, ?_⟩ | refine ⟨trivial, ?_⟩)

def B_Lc4 : ByteArray := .mk #[0x2b, 0x2a, 0x15, 0x05, 0x04, 0x60, 0x2e, 0x2a, 0x15, 0x05, 0x05, 0x60, 0x2e, 0x2d, 0xb8, 0x01, 0x01, 0x36, 0x06, 0x2c, 0x2a, 0x15, 0x05, 0x04, 0x60, 0x2e, 0x2a, 0x15, 0x05, 0x05, 0x60, 0x2e, 0xb6, 0x01, 0x04, 0x36, 0x07, 0x2c, 0xb6, 0x00, 0xf2, 0x15, 0x06, 0x9f, 0x00, 0x05, 0x03, 0xac, 0x15, 0x06, 0x9a, 0x00, 0x0f, 0x2d, 0x03, 0x2f, 0x15, 0x07, 0x85, 0x94, 0x99, 0x00, 0x05, 0x03, 0xac, 0xa7, 0x12, 0xdc]
theorem W_Lc4 : sameFrom m_L_law.2.1 B_Lc4 661 := sameFrom_of (by decide +kernel)
def t_Lc4 : List (Nat × Instr × Nat) := [(661, .aload_n 1, 1), (662, .aload_n 0, 1), (663, .iload 5, 2), (665, .iconst 1, 1), (666, .iadd, 1), (667, .iaload, 1), (668, .aload_n 0, 1), (669, .iload 5, 2), (671, .iconst 2, 1), (672, .iadd, 1), (673, .iaload, 1), (674, .aload_n 3, 1), (675, .invokestatic 257, 3), (678, .istore 6, 2), (680, .aload_n 2, 1), (681, .aload_n 0, 1), (682, .iload 5, 2), (684, .iconst 1, 1), (685, .iadd, 1), (686, .iaload, 1), (687, .aload_n 0, 1), (688, .iload 5, 2), (690, .iconst 2, 1), (691, .iadd, 1), (692, .iaload, 1), (693, .invokevirtual 260, 3), (696, .istore 7, 2), (698, .aload_n 2, 1), (699, .invokevirtual 242, 3), (702, .iload 6, 2), (704, .if_icmp .eq 5, 3), (707, .iconst 0, 1), (708, .ireturn, 1), (709, .iload 6, 2), (711, .ifCond .ne 15, 3), (714, .aload_n 3, 1), (715, .iconst 0, 1), (716, .laload, 1), (717, .iload 7, 2), (719, .i2l, 1), (720, .lcmp, 1), (721, .ifCond .eq 5, 3), (724, .iconst 0, 1), (725, .ireturn, 1), (726, .goto 4828, 3)]
set_option maxRecDepth 20000 in
theorem U_Lc4 : okT m_L_law.2.1 t_Lc4 = true := dSt [(0, .aload_n 1, 1), (1, .aload_n 0, 1), (2, .iload 5, 2), (4, .iconst 1, 1), (5, .iadd, 1), (6, .iaload, 1), (7, .aload_n 0, 1), (8, .iload 5, 2), (10, .iconst 2, 1), (11, .iadd, 1), (12, .iaload, 1), (13, .aload_n 3, 1), (14, .invokestatic 257, 3), (17, .istore 6, 2), (19, .aload_n 2, 1), (20, .aload_n 0, 1), (21, .iload 5, 2), (23, .iconst 1, 1), (24, .iadd, 1), (25, .iaload, 1), (26, .aload_n 0, 1), (27, .iload 5, 2), (29, .iconst 2, 1), (30, .iadd, 1), (31, .iaload, 1), (32, .invokevirtual 260, 3), (35, .istore 7, 2), (37, .aload_n 2, 1), (38, .invokevirtual 242, 3), (41, .iload 6, 2), (43, .if_icmp .eq 5, 3), (46, .iconst 0, 1), (47, .ireturn, 1), (48, .iload 6, 2), (50, .ifCond .ne 15, 3), (53, .aload_n 3, 1), (54, .iconst 0, 1), (55, .laload, 1), (56, .iload 7, 2), (58, .i2l, 1), (59, .lcmp, 1), (60, .ifCond .eq 5, 3), (63, .iconst 0, 1), (64, .ireturn, 1), (65, .goto 4828, 3)] W_Lc4 (by decide +kernel) (by decide +kernel)
set_option maxRecDepth 20000 in
set_option maxHeartbeats 1000000 in
theorem LC_4 {G : xG} {d rc rs : Nat} {ex : Bool} {h : xH} {Q : xQ} {σ : St} {c0 : Int} {rr : Nat} {ss : Int} {l0 : Int} {d0 : UInt64} {i : Nat} (hL : G.2.2.2.2.2.1 < 2147483648) (hi : i + 10 ≤ G.2.2.2.2.2.1) (w : CW σ h) (wm : MX σ c0 rr ss h) (v : INV σ) (ho : h[143]? = some (cJ [l0])) (hod : h[144]? = some (cD [d0]))
    (M : ∀ (σ9 : St) (h9 : xH) (e9 : Bool) (c9 : Int) (r9 : Nat) (s9 : Int) (l9 : Int) (d9 : UInt64), INV σ9 → CW σ9 h9 → MX σ9 c9 r9 s9 h9 → h9[143]? = some (cJ [l9]) → h9[144]? = some (cD [d9]) → X G m_L_law (d + 10) rc rs e9 5554 [some (.ref 0), some (.ref 3), some (.ref 70), some (.ref 143), some (.ref 144), some (vi (i : Int)), none, none, none] [] h9 Q) : X G m_L_law (d + 10) (rc + 2) (rs + 12) ex 661 [some (.ref 0), some (.ref 3), some (.ref 70), some (.ref 143), some (.ref 144), some (vi (i : Int)), none, none, none] [] h Q := by
  refine x_aload_n (dT U_Lc4 0 rfl) rfl ?_
  refine x_aload_n (dT U_Lc4 1 rfl) rfl ?_
  refine x_iload (dT U_Lc4 2 rfl) rfl ?_
  refine x_iconst (dT U_Lc4 3 rfl) ?_
  refine x_iadd (dT U_Lc4 4 rfl) ?_
  refine x_sld (i + 1) hL (dT U_Lc4 5 rfl) (by omega) (by omega) ?_
  refine x_aload_n (dT U_Lc4 6 rfl) rfl ?_
  refine x_iload (dT U_Lc4 7 rfl) rfl ?_
  refine x_iconst (dT U_Lc4 8 rfl) ?_
  refine x_iadd (dT U_Lc4 9 rfl) ?_
  refine x_sld (i + 2) hL (dT U_Lc4 10 rfl) (by omega) (by omega) ?_
  refine x_aload_n (dT U_Lc4 11 rfl) rfl ?_
  refine x_invokestaticT (rc' := rc) (rs' := rs) (rc2 := 0 + 2) (rs2 := 0 + 12) (As := [_, _, _, _]) (st := _) M_L_get K_L_257 (dT U_Lc4 12 rfl) rfl (by decide) rfl rfl (Nat.le_of_ble_eq_true rfl) rfl (by decide) (Nat.le_of_ble_eq_true rfl) (by omega) (by omega) ?_
  refine S_L_get w v (xr_s _) (xr_s _) ho (fun c1 => ?_) (fun c1 z9 hz9 ez9 => ?_)
  · refine xRet_some ?_
    refine x_istore (ls' := [some (.ref _), some (.ref _), some (.ref _), some (.ref _), some (.ref _), some (vi _), some (vi _), none, none]) (dT U_Lc4 13 rfl) (by decide) rfl ?_
    refine x_aload_n (dT U_Lc4 14 rfl) rfl ?_
    refine x_aload_n (dT U_Lc4 15 rfl) rfl ?_
    refine x_iload (dT U_Lc4 16 rfl) rfl ?_
    refine x_iconst (dT U_Lc4 17 rfl) ?_
    refine x_iadd (dT U_Lc4 18 rfl) ?_
    refine x_sld (i + 1) hL (dT U_Lc4 19 rfl) (by omega) (by omega) ?_
    refine x_aload_n (dT U_Lc4 20 rfl) rfl ?_
    refine x_iload (dT U_Lc4 21 rfl) rfl ?_
    refine x_iconst (dT U_Lc4 22 rfl) ?_
    refine x_iadd (dT U_Lc4 23 rfl) ?_
    refine x_sld (i + 2) hL (dT U_Lc4 24 rfl) (by omega) (by omega) ?_
    refine x_invokevirtual (rc' := rc) (rs' := rs) (rc2 := 0) (rs2 := 0) (As := [_, _]) (st := _) M_X11_get K_L_260 (dT U_Lc4 25 rfl) rfl rfl (by decide) rfl rfl wm.c70 (Nat.le_of_ble_eq_true rfl) (by decide) rfl (Nat.le_of_ble_eq_true rfl) rfl (by decide) (Nat.le_of_ble_eq_true rfl) rfl rfl ?_
    refine S_X11_get wm v (xr_s _) (xr_s _) (fun m1 h3 z ag wx xz => ?_) (fun m1 _ _ _ _ _ => absurd m1 c1)
    refine xRet_some ?_
    refine x_istore (ls' := [some (.ref _), some (.ref _), some (.ref _), some (.ref _), some (.ref _), some (vi _), some (vi _), some (vi _), none]) (dT U_Lc4 26 rfl) (by decide) rfl ?_
    refine x_aload_n (dT U_Lc4 27 rfl) rfl ?_
    refine x_invokevirtual (rc' := rc) (rs' := rs) (rc2 := 0) (rs2 := 0) (As := []) (st := _) M_X11_thrown K_L_242 (dT U_Lc4 28 rfl) rfl rfl (by decide) rfl rfl wx.c70 (Nat.le_of_ble_eq_true rfl) (by decide) rfl (Nat.le_of_ble_eq_true rfl) rfl (by decide) (Nat.le_of_ble_eq_true rfl) rfl rfl ?_
    refine S_X11_thrown wx ?_
    refine xRet_some ?_
    refine x_iload (dT U_Lc4 29 rfl) rfl ?_
    refine x_icmp_eq (tgt := 709) (dT U_Lc4 30 rfl) (by decide) (by unfold xr; omega) (by unfold xr; omega) (fun c704 => ?_) (fun c704 => (by exfalso; omega))
    refine x_iload (dT U_Lc4 33 rfl) rfl ?_
    refine x_if_nej (tgt := 726) (dT U_Lc4 34 rfl) (by decide) (by decide) ?_
    refine x_goto (tgt := 5554) (dT U_Lc4 44 rfl) (by decide) ?_
    refine x_drop ?_ (M _ _ _ _ _ _ _ _ v (w.out ag (by omega)) wx (ag.get ho (by omega)) (ag.get hod (by omega)))
    repeat (first | exact trivial | refine ⟨rfl, ?_⟩ | refine ⟨trivial, ?_⟩)
  · refine xRet_some ?_
    have wmx := wm.out (h2 := (h.set 143 (cJ [z9]))) (fun a ha => by rw [hset_fr (by omega)])
    refine x_istore (ls' := [some (.ref _), some (.ref _), some (.ref _), some (.ref _), some (.ref _), some (vi _), some (vi _), none, none]) (dT U_Lc4 13 rfl) (by decide) rfl ?_
    refine x_aload_n (dT U_Lc4 14 rfl) rfl ?_
    refine x_aload_n (dT U_Lc4 15 rfl) rfl ?_
    refine x_iload (dT U_Lc4 16 rfl) rfl ?_
    refine x_iconst (dT U_Lc4 17 rfl) ?_
    refine x_iadd (dT U_Lc4 18 rfl) ?_
    refine x_sld (i + 1) hL (dT U_Lc4 19 rfl) (by omega) (by omega) ?_
    refine x_aload_n (dT U_Lc4 20 rfl) rfl ?_
    refine x_iload (dT U_Lc4 21 rfl) rfl ?_
    refine x_iconst (dT U_Lc4 22 rfl) ?_
    refine x_iadd (dT U_Lc4 23 rfl) ?_
    refine x_sld (i + 2) hL (dT U_Lc4 24 rfl) (by omega) (by omega) ?_
    refine x_invokevirtual (rc' := rc) (rs' := rs) (rc2 := 0) (rs2 := 0) (As := [_, _]) (st := _) M_X11_get K_L_260 (dT U_Lc4 25 rfl) rfl rfl (by decide) rfl rfl wmx.c70 (Nat.le_of_ble_eq_true rfl) (by decide) rfl (Nat.le_of_ble_eq_true rfl) rfl (by decide) (Nat.le_of_ble_eq_true rfl) rfl rfl ?_
    refine S_X11_get wmx v (xr_s _) (xr_s _) (fun m1 _ _ _ _ _ => absurd c1 m1) (fun m1 h3 r3 s3 ag wx => ?_)
    refine xRet_some ?_
    rw [ez9]
    refine x_istore (ls' := [some (.ref _), some (.ref _), some (.ref _), some (.ref _), some (.ref _), some (vi _), some (vi _), some (vi _), none]) (dT U_Lc4 26 rfl) (by decide) rfl ?_
    refine x_aload_n (dT U_Lc4 27 rfl) rfl ?_
    refine x_invokevirtual (rc' := rc) (rs' := rs) (rc2 := 0) (rs2 := 0) (As := []) (st := _) M_X11_thrown K_L_242 (dT U_Lc4 28 rfl) rfl rfl (by decide) rfl rfl wx.c70 (Nat.le_of_ble_eq_true rfl) (by decide) rfl (Nat.le_of_ble_eq_true rfl) rfl (by decide) (Nat.le_of_ble_eq_true rfl) rfl rfl ?_
    refine S_X11_thrown wx ?_
    refine xRet_some ?_
    refine x_iload (dT U_Lc4 29 rfl) rfl ?_
    refine x_icmp_eq (tgt := 709) (dT U_Lc4 30 rfl) (by decide) (by unfold xr; omega) (by unfold xr; omega) (fun c704 => ?_) (fun c704 => (by exfalso; omega))
    refine x_iload (dT U_Lc4 33 rfl) rfl ?_
    refine x_if_nen (tgt := 726) (dT U_Lc4 34 rfl) (by decide) (by decide) ?_
    refine x_aload_n (dT U_Lc4 35 rfl) rfl ?_
    refine x_iconst (dT U_Lc4 36 rfl) ?_
    refine x_laload 0 (dT U_Lc4 37 rfl) (ag.get (hset_eq ho) (by omega)) (Nat.le_of_ble_eq_true rfl) rfl (Nat.le_of_ble_eq_true rfl) (Nat.le_of_ble_eq_true rfl) ?_
    refine x_iload (dT U_Lc4 38 rfl) rfl ?_
    refine x_i2l (dT U_Lc4 39 rfl) hz9 ?_
    refine x_lcmp (dT U_Lc4 40 rfl) (xr_l hz9) (xr_l hz9) ?_
    refine x_if_eqj (tgt := 726) (dT U_Lc4 41 rfl) (by decide) (xcmp_rf _) ?_
    refine x_goto (tgt := 5554) (dT U_Lc4 44 rfl) (by decide) ?_
    refine x_drop ?_ (M _ _ _ _ _ _ _ _ v ((w.out ((Ag.rf 143 143 h).set (by omega)) (by omega)).out ag (by omega)) wx (ag.get (hset_eq ho) (by omega)) (ag.get (hset_ne (by omega) hod) (by omega)))
    repeat (first | exact trivial | refine ⟨rfl, ?_⟩ | refine ⟨trivial, ?_⟩)

def B_Lc5 : ByteArray := .mk #[0x2b, 0x2a, 0x15, 0x05, 0x04, 0x60, 0x2e, 0x2d, 0xb8, 0x01, 0x05, 0x36, 0x06, 0x2c, 0x2a, 0x15, 0x05, 0x04, 0x60, 0x2e, 0xb6, 0x01, 0x07, 0x36, 0x07, 0x2c, 0xb6, 0x00, 0xf2, 0x15, 0x06, 0x9f, 0x00, 0x05, 0x03, 0xac, 0x15, 0x06, 0x9a, 0x00, 0x0f, 0x2d, 0x03, 0x2f, 0x15, 0x07, 0x85, 0x94, 0x99, 0x00, 0x05, 0x03, 0xac, 0xa7, 0x12, 0xa4]
theorem W_Lc5 : sameFrom m_L_law.2.1 B_Lc5 729 := sameFrom_of (by decide +kernel)
def t_Lc5 : List (Nat × Instr × Nat) := [(729, .aload_n 1, 1), (730, .aload_n 0, 1), (731, .iload 5, 2), (733, .iconst 1, 1), (734, .iadd, 1), (735, .iaload, 1), (736, .aload_n 3, 1), (737, .invokestatic 261, 3), (740, .istore 6, 2), (742, .aload_n 2, 1), (743, .aload_n 0, 1), (744, .iload 5, 2), (746, .iconst 1, 1), (747, .iadd, 1), (748, .iaload, 1), (749, .invokevirtual 263, 3), (752, .istore 7, 2), (754, .aload_n 2, 1), (755, .invokevirtual 242, 3), (758, .iload 6, 2), (760, .if_icmp .eq 5, 3), (763, .iconst 0, 1), (764, .ireturn, 1), (765, .iload 6, 2), (767, .ifCond .ne 15, 3), (770, .aload_n 3, 1), (771, .iconst 0, 1), (772, .laload, 1), (773, .iload 7, 2), (775, .i2l, 1), (776, .lcmp, 1), (777, .ifCond .eq 5, 3), (780, .iconst 0, 1), (781, .ireturn, 1), (782, .goto 4772, 3)]
set_option maxRecDepth 20000 in
theorem U_Lc5 : okT m_L_law.2.1 t_Lc5 = true := dSt [(0, .aload_n 1, 1), (1, .aload_n 0, 1), (2, .iload 5, 2), (4, .iconst 1, 1), (5, .iadd, 1), (6, .iaload, 1), (7, .aload_n 3, 1), (8, .invokestatic 261, 3), (11, .istore 6, 2), (13, .aload_n 2, 1), (14, .aload_n 0, 1), (15, .iload 5, 2), (17, .iconst 1, 1), (18, .iadd, 1), (19, .iaload, 1), (20, .invokevirtual 263, 3), (23, .istore 7, 2), (25, .aload_n 2, 1), (26, .invokevirtual 242, 3), (29, .iload 6, 2), (31, .if_icmp .eq 5, 3), (34, .iconst 0, 1), (35, .ireturn, 1), (36, .iload 6, 2), (38, .ifCond .ne 15, 3), (41, .aload_n 3, 1), (42, .iconst 0, 1), (43, .laload, 1), (44, .iload 7, 2), (46, .i2l, 1), (47, .lcmp, 1), (48, .ifCond .eq 5, 3), (51, .iconst 0, 1), (52, .ireturn, 1), (53, .goto 4772, 3)] W_Lc5 (by decide +kernel) (by decide +kernel)
set_option maxRecDepth 20000 in
set_option maxHeartbeats 1000000 in
theorem LC_5 {G : xG} {d rc rs : Nat} {ex : Bool} {h : xH} {Q : xQ} {σ : St} {c0 : Int} {rr : Nat} {ss : Int} {l0 : Int} {d0 : UInt64} {i : Nat} (hL : G.2.2.2.2.2.1 < 2147483648) (hi : i + 10 ≤ G.2.2.2.2.2.1) (w : CW σ h) (wm : MX σ c0 rr ss h) (v : INV σ) (ho : h[143]? = some (cJ [l0])) (hod : h[144]? = some (cD [d0]))
    (M : ∀ (σ9 : St) (h9 : xH) (e9 : Bool) (c9 : Int) (r9 : Nat) (s9 : Int) (l9 : Int) (d9 : UInt64), INV σ9 → CW σ9 h9 → MX σ9 c9 r9 s9 h9 → h9[143]? = some (cJ [l9]) → h9[144]? = some (cD [d9]) → X G m_L_law (d + 10) rc rs e9 5554 [some (.ref 0), some (.ref 3), some (.ref 70), some (.ref 143), some (.ref 144), some (vi (i : Int)), none, none, none] [] h9 Q) : X G m_L_law (d + 10) (rc + 1) (rs + 6) ex 729 [some (.ref 0), some (.ref 3), some (.ref 70), some (.ref 143), some (.ref 144), some (vi (i : Int)), none, none, none] [] h Q := by
  refine x_aload_n (dT U_Lc5 0 rfl) rfl ?_
  refine x_aload_n (dT U_Lc5 1 rfl) rfl ?_
  refine x_iload (dT U_Lc5 2 rfl) rfl ?_
  refine x_iconst (dT U_Lc5 3 rfl) ?_
  refine x_iadd (dT U_Lc5 4 rfl) ?_
  refine x_sld (i + 1) hL (dT U_Lc5 5 rfl) (by omega) (by omega) ?_
  refine x_aload_n (dT U_Lc5 6 rfl) rfl ?_
  refine x_invokestaticT (rc' := rc) (rs' := rs) (rc2 := 0 + 1) (rs2 := 0 + 6) (As := [_, _, _]) (st := _) M_L_degree K_L_261 (dT U_Lc5 7 rfl) rfl (by decide) rfl rfl (Nat.le_of_ble_eq_true rfl) rfl (by decide) (Nat.le_of_ble_eq_true rfl) (by omega) (by omega) ?_
  refine S_L_degree w v (xr_s _) ho (fun c1 => ?_) (fun c1 z9 hz9 ez9 => ?_)
  · refine xRet_some ?_
    refine x_istore (ls' := [some (.ref _), some (.ref _), some (.ref _), some (.ref _), some (.ref _), some (vi _), some (vi _), none, none]) (dT U_Lc5 8 rfl) (by decide) rfl ?_
    refine x_aload_n (dT U_Lc5 9 rfl) rfl ?_
    refine x_aload_n (dT U_Lc5 10 rfl) rfl ?_
    refine x_iload (dT U_Lc5 11 rfl) rfl ?_
    refine x_iconst (dT U_Lc5 12 rfl) ?_
    refine x_iadd (dT U_Lc5 13 rfl) ?_
    refine x_sld (i + 1) hL (dT U_Lc5 14 rfl) (by omega) (by omega) ?_
    refine x_invokevirtual (rc' := rc) (rs' := rs) (rc2 := 0) (rs2 := 0) (As := [_]) (st := _) M_X11_degree K_L_263 (dT U_Lc5 15 rfl) rfl rfl (by decide) rfl rfl wm.c70 (Nat.le_of_ble_eq_true rfl) (by decide) rfl (Nat.le_of_ble_eq_true rfl) rfl (by decide) (Nat.le_of_ble_eq_true rfl) rfl rfl ?_
    refine S_X11_degree wm v (xr_s _) (fun m1 h3 z ag wx xz => ?_) (fun m1 _ _ _ _ _ => absurd m1 c1)
    refine xRet_some ?_
    refine x_istore (ls' := [some (.ref _), some (.ref _), some (.ref _), some (.ref _), some (.ref _), some (vi _), some (vi _), some (vi _), none]) (dT U_Lc5 16 rfl) (by decide) rfl ?_
    refine x_aload_n (dT U_Lc5 17 rfl) rfl ?_
    refine x_invokevirtual (rc' := rc) (rs' := rs) (rc2 := 0) (rs2 := 0) (As := []) (st := _) M_X11_thrown K_L_242 (dT U_Lc5 18 rfl) rfl rfl (by decide) rfl rfl wx.c70 (Nat.le_of_ble_eq_true rfl) (by decide) rfl (Nat.le_of_ble_eq_true rfl) rfl (by decide) (Nat.le_of_ble_eq_true rfl) rfl rfl ?_
    refine S_X11_thrown wx ?_
    refine xRet_some ?_
    refine x_iload (dT U_Lc5 19 rfl) rfl ?_
    refine x_icmp_eq (tgt := 765) (dT U_Lc5 20 rfl) (by decide) (by unfold xr; omega) (by unfold xr; omega) (fun c760 => ?_) (fun c760 => (by exfalso; omega))
    refine x_iload (dT U_Lc5 23 rfl) rfl ?_
    refine x_if_nej (tgt := 782) (dT U_Lc5 24 rfl) (by decide) (by decide) ?_
    refine x_goto (tgt := 5554) (dT U_Lc5 34 rfl) (by decide) ?_
    refine x_drop ?_ (M _ _ _ _ _ _ _ _ v (w.out ag (by omega)) wx (ag.get ho (by omega)) (ag.get hod (by omega)))
    repeat (first | exact trivial | refine ⟨rfl, ?_⟩ | refine ⟨trivial, ?_⟩)
  · refine xRet_some ?_
    have wmx := wm.out (h2 := (h.set 143 (cJ [z9]))) (fun a ha => by rw [hset_fr (by omega)])
    refine x_istore (ls' := [some (.ref _), some (.ref _), some (.ref _), some (.ref _), some (.ref _), some (vi _), some (vi _), none, none]) (dT U_Lc5 8 rfl) (by decide) rfl ?_
    refine x_aload_n (dT U_Lc5 9 rfl) rfl ?_
    refine x_aload_n (dT U_Lc5 10 rfl) rfl ?_
    refine x_iload (dT U_Lc5 11 rfl) rfl ?_
    refine x_iconst (dT U_Lc5 12 rfl) ?_
    refine x_iadd (dT U_Lc5 13 rfl) ?_
    refine x_sld (i + 1) hL (dT U_Lc5 14 rfl) (by omega) (by omega) ?_
    refine x_invokevirtual (rc' := rc) (rs' := rs) (rc2 := 0) (rs2 := 0) (As := [_]) (st := _) M_X11_degree K_L_263 (dT U_Lc5 15 rfl) rfl rfl (by decide) rfl rfl wmx.c70 (Nat.le_of_ble_eq_true rfl) (by decide) rfl (Nat.le_of_ble_eq_true rfl) rfl (by decide) (Nat.le_of_ble_eq_true rfl) rfl rfl ?_
    refine S_X11_degree wmx v (xr_s _) (fun m1 _ _ _ _ _ => absurd c1 m1) (fun m1 h3 r3 s3 ag wx => ?_)
    refine xRet_some ?_
    rw [ez9]
    refine x_istore (ls' := [some (.ref _), some (.ref _), some (.ref _), some (.ref _), some (.ref _), some (vi _), some (vi _), some (vi _), none]) (dT U_Lc5 16 rfl) (by decide) rfl ?_
    refine x_aload_n (dT U_Lc5 17 rfl) rfl ?_
    refine x_invokevirtual (rc' := rc) (rs' := rs) (rc2 := 0) (rs2 := 0) (As := []) (st := _) M_X11_thrown K_L_242 (dT U_Lc5 18 rfl) rfl rfl (by decide) rfl rfl wx.c70 (Nat.le_of_ble_eq_true rfl) (by decide) rfl (Nat.le_of_ble_eq_true rfl) rfl (by decide) (Nat.le_of_ble_eq_true rfl) rfl rfl ?_
    refine S_X11_thrown wx ?_
    refine xRet_some ?_
    refine x_iload (dT U_Lc5 19 rfl) rfl ?_
    refine x_icmp_eq (tgt := 765) (dT U_Lc5 20 rfl) (by decide) (by unfold xr; omega) (by unfold xr; omega) (fun c760 => ?_) (fun c760 => (by exfalso; omega))
    refine x_iload (dT U_Lc5 23 rfl) rfl ?_
    refine x_if_nen (tgt := 782) (dT U_Lc5 24 rfl) (by decide) (by decide) ?_
    refine x_aload_n (dT U_Lc5 25 rfl) rfl ?_
    refine x_iconst (dT U_Lc5 26 rfl) ?_
    refine x_laload 0 (dT U_Lc5 27 rfl) (ag.get (hset_eq ho) (by omega)) (Nat.le_of_ble_eq_true rfl) rfl (Nat.le_of_ble_eq_true rfl) (Nat.le_of_ble_eq_true rfl) ?_
    refine x_iload (dT U_Lc5 28 rfl) rfl ?_
    refine x_i2l (dT U_Lc5 29 rfl) hz9 ?_
    refine x_lcmp (dT U_Lc5 30 rfl) (xr_l hz9) (xr_l hz9) ?_
    refine x_if_eqj (tgt := 782) (dT U_Lc5 31 rfl) (by decide) (xcmp_rf _) ?_
    refine x_goto (tgt := 5554) (dT U_Lc5 34 rfl) (by decide) ?_
    refine x_drop ?_ (M _ _ _ _ _ _ _ _ v ((w.out ((Ag.rf 143 143 h).set (by omega)) (by omega)).out ag (by omega)) wx (ag.get (hset_eq ho) (by omega)) (ag.get (hset_ne (by omega) hod) (by omega)))
    repeat (first | exact trivial | refine ⟨rfl, ?_⟩ | refine ⟨trivial, ?_⟩)

def B_Lc6 : ByteArray := .mk #[0x2b, 0x2a, 0x15, 0x05, 0x04, 0x60, 0x2e, 0x2a, 0x15, 0x05, 0x05, 0x60, 0x2e, 0x2d, 0xb8, 0x01, 0x08, 0x36, 0x06, 0x2c, 0x2a, 0x15, 0x05, 0x04, 0x60, 0x2e, 0x2a, 0x15, 0x05, 0x05, 0x60, 0x2e, 0xb6, 0x01, 0x0a, 0x36, 0x07, 0x2c, 0xb6, 0x00, 0xf2, 0x15, 0x06, 0x9f, 0x00, 0x05, 0x03, 0xac, 0x15, 0x06, 0x9a, 0x00, 0x0f, 0x2d, 0x03, 0x2f, 0x15, 0x07, 0x85, 0x94, 0x99, 0x00, 0x05, 0x03, 0xac, 0xa7, 0x12, 0x60]
theorem W_Lc6 : sameFrom m_L_law.2.1 B_Lc6 785 := sameFrom_of (by decide +kernel)
def t_Lc6 : List (Nat × Instr × Nat) := [(785, .aload_n 1, 1), (786, .aload_n 0, 1), (787, .iload 5, 2), (789, .iconst 1, 1), (790, .iadd, 1), (791, .iaload, 1), (792, .aload_n 0, 1), (793, .iload 5, 2), (795, .iconst 2, 1), (796, .iadd, 1), (797, .iaload, 1), (798, .aload_n 3, 1), (799, .invokestatic 264, 3), (802, .istore 6, 2), (804, .aload_n 2, 1), (805, .aload_n 0, 1), (806, .iload 5, 2), (808, .iconst 1, 1), (809, .iadd, 1), (810, .iaload, 1), (811, .aload_n 0, 1), (812, .iload 5, 2), (814, .iconst 2, 1), (815, .iadd, 1), (816, .iaload, 1), (817, .invokevirtual 266, 3), (820, .istore 7, 2), (822, .aload_n 2, 1), (823, .invokevirtual 242, 3), (826, .iload 6, 2), (828, .if_icmp .eq 5, 3), (831, .iconst 0, 1), (832, .ireturn, 1), (833, .iload 6, 2), (835, .ifCond .ne 15, 3), (838, .aload_n 3, 1), (839, .iconst 0, 1), (840, .laload, 1), (841, .iload 7, 2), (843, .i2l, 1), (844, .lcmp, 1), (845, .ifCond .eq 5, 3), (848, .iconst 0, 1), (849, .ireturn, 1), (850, .goto 4704, 3)]
set_option maxRecDepth 20000 in
theorem U_Lc6 : okT m_L_law.2.1 t_Lc6 = true := dSt [(0, .aload_n 1, 1), (1, .aload_n 0, 1), (2, .iload 5, 2), (4, .iconst 1, 1), (5, .iadd, 1), (6, .iaload, 1), (7, .aload_n 0, 1), (8, .iload 5, 2), (10, .iconst 2, 1), (11, .iadd, 1), (12, .iaload, 1), (13, .aload_n 3, 1), (14, .invokestatic 264, 3), (17, .istore 6, 2), (19, .aload_n 2, 1), (20, .aload_n 0, 1), (21, .iload 5, 2), (23, .iconst 1, 1), (24, .iadd, 1), (25, .iaload, 1), (26, .aload_n 0, 1), (27, .iload 5, 2), (29, .iconst 2, 1), (30, .iadd, 1), (31, .iaload, 1), (32, .invokevirtual 266, 3), (35, .istore 7, 2), (37, .aload_n 2, 1), (38, .invokevirtual 242, 3), (41, .iload 6, 2), (43, .if_icmp .eq 5, 3), (46, .iconst 0, 1), (47, .ireturn, 1), (48, .iload 6, 2), (50, .ifCond .ne 15, 3), (53, .aload_n 3, 1), (54, .iconst 0, 1), (55, .laload, 1), (56, .iload 7, 2), (58, .i2l, 1), (59, .lcmp, 1), (60, .ifCond .eq 5, 3), (63, .iconst 0, 1), (64, .ireturn, 1), (65, .goto 4704, 3)] W_Lc6 (by decide +kernel) (by decide +kernel)
set_option maxRecDepth 20000 in
set_option maxHeartbeats 1000000 in
theorem LC_6 {G : xG} {d rc rs : Nat} {ex : Bool} {h : xH} {Q : xQ} {σ : St} {c0 : Int} {rr : Nat} {ss : Int} {l0 : Int} {d0 : UInt64} {i : Nat} (hL : G.2.2.2.2.2.1 < 2147483648) (hi : i + 10 ≤ G.2.2.2.2.2.1) (w : CW σ h) (wm : MX σ c0 rr ss h) (v : INV σ) (ho : h[143]? = some (cJ [l0])) (hod : h[144]? = some (cD [d0]))
    (M : ∀ (σ9 : St) (h9 : xH) (e9 : Bool) (c9 : Int) (r9 : Nat) (s9 : Int) (l9 : Int) (d9 : UInt64), INV σ9 → CW σ9 h9 → MX σ9 c9 r9 s9 h9 → h9[143]? = some (cJ [l9]) → h9[144]? = some (cD [d9]) → X G m_L_law (d + 10) rc rs e9 5554 [some (.ref 0), some (.ref 3), some (.ref 70), some (.ref 143), some (.ref 144), some (vi (i : Int)), none, none, none] [] h9 Q) : X G m_L_law (d + 10) (rc + 2) (rs + 12) ex 785 [some (.ref 0), some (.ref 3), some (.ref 70), some (.ref 143), some (.ref 144), some (vi (i : Int)), none, none, none] [] h Q := by
  refine x_aload_n (dT U_Lc6 0 rfl) rfl ?_
  refine x_aload_n (dT U_Lc6 1 rfl) rfl ?_
  refine x_iload (dT U_Lc6 2 rfl) rfl ?_
  refine x_iconst (dT U_Lc6 3 rfl) ?_
  refine x_iadd (dT U_Lc6 4 rfl) ?_
  refine x_sld (i + 1) hL (dT U_Lc6 5 rfl) (by omega) (by omega) ?_
  refine x_aload_n (dT U_Lc6 6 rfl) rfl ?_
  refine x_iload (dT U_Lc6 7 rfl) rfl ?_
  refine x_iconst (dT U_Lc6 8 rfl) ?_
  refine x_iadd (dT U_Lc6 9 rfl) ?_
  refine x_sld (i + 2) hL (dT U_Lc6 10 rfl) (by omega) (by omega) ?_
  refine x_aload_n (dT U_Lc6 11 rfl) rfl ?_
  refine x_invokestaticT (rc' := rc) (rs' := rs) (rc2 := 0 + 2) (rs2 := 0 + 12) (As := [_, _, _, _]) (st := _) M_L_value K_L_264 (dT U_Lc6 12 rfl) rfl (by decide) rfl rfl (Nat.le_of_ble_eq_true rfl) rfl (by decide) (Nat.le_of_ble_eq_true rfl) (by omega) (by omega) ?_
  refine S_L_value w v (xr_s _) (xr_s _) ho (fun c1 => ?_) (fun c1 c2 => ?_) (fun c1 c2 z9 hz9 ez9 => ?_)
  · refine xRet_some ?_
    refine x_istore (ls' := [some (.ref _), some (.ref _), some (.ref _), some (.ref _), some (.ref _), some (vi _), some (vi _), none, none]) (dT U_Lc6 13 rfl) (by decide) rfl ?_
    refine x_aload_n (dT U_Lc6 14 rfl) rfl ?_
    refine x_aload_n (dT U_Lc6 15 rfl) rfl ?_
    refine x_iload (dT U_Lc6 16 rfl) rfl ?_
    refine x_iconst (dT U_Lc6 17 rfl) ?_
    refine x_iadd (dT U_Lc6 18 rfl) ?_
    refine x_sld (i + 1) hL (dT U_Lc6 19 rfl) (by omega) (by omega) ?_
    refine x_aload_n (dT U_Lc6 20 rfl) rfl ?_
    refine x_iload (dT U_Lc6 21 rfl) rfl ?_
    refine x_iconst (dT U_Lc6 22 rfl) ?_
    refine x_iadd (dT U_Lc6 23 rfl) ?_
    refine x_sld (i + 2) hL (dT U_Lc6 24 rfl) (by omega) (by omega) ?_
    refine x_invokevirtual (rc' := rc) (rs' := rs) (rc2 := 0) (rs2 := 0) (As := [_, _]) (st := _) M_X11_value K_L_266 (dT U_Lc6 25 rfl) rfl rfl (by decide) rfl rfl wm.c70 (Nat.le_of_ble_eq_true rfl) (by decide) rfl (Nat.le_of_ble_eq_true rfl) rfl (by decide) (Nat.le_of_ble_eq_true rfl) rfl rfl ?_
    refine S_X11_value wm v (xr_s _) (xr_s _) (fun m1 h3 z ag wx xz => ?_) (fun m1 m2 _ _ _ _ _ => absurd m1 c1) (fun m1 m2 _ _ _ _ _ => absurd m1 c1)
    refine xRet_some ?_
    refine x_istore (ls' := [some (.ref _), some (.ref _), some (.ref _), some (.ref _), some (.ref _), some (vi _), some (vi _), some (vi _), none]) (dT U_Lc6 26 rfl) (by decide) rfl ?_
    refine x_aload_n (dT U_Lc6 27 rfl) rfl ?_
    refine x_invokevirtual (rc' := rc) (rs' := rs) (rc2 := 0) (rs2 := 0) (As := []) (st := _) M_X11_thrown K_L_242 (dT U_Lc6 28 rfl) rfl rfl (by decide) rfl rfl wx.c70 (Nat.le_of_ble_eq_true rfl) (by decide) rfl (Nat.le_of_ble_eq_true rfl) rfl (by decide) (Nat.le_of_ble_eq_true rfl) rfl rfl ?_
    refine S_X11_thrown wx ?_
    refine xRet_some ?_
    refine x_iload (dT U_Lc6 29 rfl) rfl ?_
    refine x_icmp_eq (tgt := 833) (dT U_Lc6 30 rfl) (by decide) (by unfold xr; omega) (by unfold xr; omega) (fun c828 => ?_) (fun c828 => (by exfalso; omega))
    refine x_iload (dT U_Lc6 33 rfl) rfl ?_
    refine x_if_nej (tgt := 850) (dT U_Lc6 34 rfl) (by decide) (by decide) ?_
    refine x_goto (tgt := 5554) (dT U_Lc6 44 rfl) (by decide) ?_
    refine x_drop ?_ (M _ _ _ _ _ _ _ _ v (w.out ag (by omega)) wx (ag.get ho (by omega)) (ag.get hod (by omega)))
    repeat (first | exact trivial | refine ⟨rfl, ?_⟩ | refine ⟨trivial, ?_⟩)
  · refine xRet_some ?_
    refine x_istore (ls' := [some (.ref _), some (.ref _), some (.ref _), some (.ref _), some (.ref _), some (vi _), some (vi _), none, none]) (dT U_Lc6 13 rfl) (by decide) rfl ?_
    refine x_aload_n (dT U_Lc6 14 rfl) rfl ?_
    refine x_aload_n (dT U_Lc6 15 rfl) rfl ?_
    refine x_iload (dT U_Lc6 16 rfl) rfl ?_
    refine x_iconst (dT U_Lc6 17 rfl) ?_
    refine x_iadd (dT U_Lc6 18 rfl) ?_
    refine x_sld (i + 1) hL (dT U_Lc6 19 rfl) (by omega) (by omega) ?_
    refine x_aload_n (dT U_Lc6 20 rfl) rfl ?_
    refine x_iload (dT U_Lc6 21 rfl) rfl ?_
    refine x_iconst (dT U_Lc6 22 rfl) ?_
    refine x_iadd (dT U_Lc6 23 rfl) ?_
    refine x_sld (i + 2) hL (dT U_Lc6 24 rfl) (by omega) (by omega) ?_
    refine x_invokevirtual (rc' := rc) (rs' := rs) (rc2 := 0) (rs2 := 0) (As := [_, _]) (st := _) M_X11_value K_L_266 (dT U_Lc6 25 rfl) rfl rfl (by decide) rfl rfl wm.c70 (Nat.le_of_ble_eq_true rfl) (by decide) rfl (Nat.le_of_ble_eq_true rfl) rfl (by decide) (Nat.le_of_ble_eq_true rfl) rfl rfl ?_
    refine S_X11_value wm v (xr_s _) (xr_s _) (fun m1 _ _ _ _ _ => absurd c1 m1) (fun m1 m2 h3 z ag wx xz => ?_) (fun m1 m2 _ _ _ _ _ => absurd m2 c2)
    refine xRet_some ?_
    refine x_istore (ls' := [some (.ref _), some (.ref _), some (.ref _), some (.ref _), some (.ref _), some (vi _), some (vi _), some (vi _), none]) (dT U_Lc6 26 rfl) (by decide) rfl ?_
    refine x_aload_n (dT U_Lc6 27 rfl) rfl ?_
    refine x_invokevirtual (rc' := rc) (rs' := rs) (rc2 := 0) (rs2 := 0) (As := []) (st := _) M_X11_thrown K_L_242 (dT U_Lc6 28 rfl) rfl rfl (by decide) rfl rfl wx.c70 (Nat.le_of_ble_eq_true rfl) (by decide) rfl (Nat.le_of_ble_eq_true rfl) rfl (by decide) (Nat.le_of_ble_eq_true rfl) rfl rfl ?_
    refine S_X11_thrown wx ?_
    refine xRet_some ?_
    refine x_iload (dT U_Lc6 29 rfl) rfl ?_
    refine x_icmp_eq (tgt := 833) (dT U_Lc6 30 rfl) (by decide) (by unfold xr; omega) (by unfold xr; omega) (fun c828 => ?_) (fun c828 => (by exfalso; omega))
    refine x_iload (dT U_Lc6 33 rfl) rfl ?_
    refine x_if_ne (tgt := 850) (dT U_Lc6 34 rfl) (by decide) (by unfold xr; omega) (fun c835 => ?_) (fun c835 => (by exfalso; omega))
    refine x_goto (tgt := 5554) (dT U_Lc6 44 rfl) (by decide) ?_
    refine x_drop ?_ (M _ _ _ _ _ _ _ _ v (w.out ag (by omega)) wx (ag.get ho (by omega)) (ag.get hod (by omega)))
    repeat (first | exact trivial | refine ⟨rfl, ?_⟩ | refine ⟨trivial, ?_⟩)
  · refine xRet_some ?_
    have wmx := wm.out (h2 := (h.set 143 (cJ [z9]))) (fun a ha => by rw [hset_fr (by omega)])
    refine x_istore (ls' := [some (.ref _), some (.ref _), some (.ref _), some (.ref _), some (.ref _), some (vi _), some (vi _), none, none]) (dT U_Lc6 13 rfl) (by decide) rfl ?_
    refine x_aload_n (dT U_Lc6 14 rfl) rfl ?_
    refine x_aload_n (dT U_Lc6 15 rfl) rfl ?_
    refine x_iload (dT U_Lc6 16 rfl) rfl ?_
    refine x_iconst (dT U_Lc6 17 rfl) ?_
    refine x_iadd (dT U_Lc6 18 rfl) ?_
    refine x_sld (i + 1) hL (dT U_Lc6 19 rfl) (by omega) (by omega) ?_
    refine x_aload_n (dT U_Lc6 20 rfl) rfl ?_
    refine x_iload (dT U_Lc6 21 rfl) rfl ?_
    refine x_iconst (dT U_Lc6 22 rfl) ?_
    refine x_iadd (dT U_Lc6 23 rfl) ?_
    refine x_sld (i + 2) hL (dT U_Lc6 24 rfl) (by omega) (by omega) ?_
    refine x_invokevirtual (rc' := rc) (rs' := rs) (rc2 := 0) (rs2 := 0) (As := [_, _]) (st := _) M_X11_value K_L_266 (dT U_Lc6 25 rfl) rfl rfl (by decide) rfl rfl wmx.c70 (Nat.le_of_ble_eq_true rfl) (by decide) rfl (Nat.le_of_ble_eq_true rfl) rfl (by decide) (Nat.le_of_ble_eq_true rfl) rfl rfl ?_
    refine S_X11_value wmx v (xr_s _) (xr_s _) (fun m1 _ _ _ _ _ => absurd c1 m1) (fun m1 m2 _ _ _ _ _ => absurd c2 m2) (fun m1 m2 h3 r3 s3 ag wx => ?_)
    refine xRet_some ?_
    rw [ez9]
    refine x_istore (ls' := [some (.ref _), some (.ref _), some (.ref _), some (.ref _), some (.ref _), some (vi _), some (vi _), some (vi _), none]) (dT U_Lc6 26 rfl) (by decide) rfl ?_
    refine x_aload_n (dT U_Lc6 27 rfl) rfl ?_
    refine x_invokevirtual (rc' := rc) (rs' := rs) (rc2 := 0) (rs2 := 0) (As := []) (st := _) M_X11_thrown K_L_242 (dT U_Lc6 28 rfl) rfl rfl (by decide) rfl rfl wx.c70 (Nat.le_of_ble_eq_true rfl) (by decide) rfl (Nat.le_of_ble_eq_true rfl) rfl (by decide) (Nat.le_of_ble_eq_true rfl) rfl rfl ?_
    refine S_X11_thrown wx ?_
    refine xRet_some ?_
    refine x_iload (dT U_Lc6 29 rfl) rfl ?_
    refine x_icmp_eq (tgt := 833) (dT U_Lc6 30 rfl) (by decide) (by unfold xr; omega) (by unfold xr; omega) (fun c828 => ?_) (fun c828 => (by exfalso; omega))
    refine x_iload (dT U_Lc6 33 rfl) rfl ?_
    refine x_if_nen (tgt := 850) (dT U_Lc6 34 rfl) (by decide) (by decide) ?_
    refine x_aload_n (dT U_Lc6 35 rfl) rfl ?_
    refine x_iconst (dT U_Lc6 36 rfl) ?_
    refine x_laload 0 (dT U_Lc6 37 rfl) (ag.get (hset_eq ho) (by omega)) (Nat.le_of_ble_eq_true rfl) rfl (Nat.le_of_ble_eq_true rfl) (Nat.le_of_ble_eq_true rfl) ?_
    refine x_iload (dT U_Lc6 38 rfl) rfl ?_
    refine x_i2l (dT U_Lc6 39 rfl) hz9 ?_
    refine x_lcmp (dT U_Lc6 40 rfl) (xr_l hz9) (xr_l hz9) ?_
    refine x_if_eqj (tgt := 850) (dT U_Lc6 41 rfl) (by decide) (xcmp_rf _) ?_
    refine x_goto (tgt := 5554) (dT U_Lc6 44 rfl) (by decide) ?_
    refine x_drop ?_ (M _ _ _ _ _ _ _ _ v ((w.out ((Ag.rf 143 143 h).set (by omega)) (by omega)).out ag (by omega)) wx (ag.get (hset_eq ho) (by omega)) (ag.get (hset_ne (by omega) hod) (by omega)))
    repeat (first | exact trivial | refine ⟨rfl, ?_⟩ | refine ⟨trivial, ?_⟩)

def B_Lc7 : ByteArray := .mk #[0x2b, 0x2a, 0x15, 0x05, 0x04, 0x60, 0x2e, 0x2a, 0x15, 0x05, 0x05, 0x60, 0x2e, 0x2d, 0xb8, 0x01, 0x0b, 0x36, 0x06, 0x2c, 0x2a, 0x15, 0x05, 0x04, 0x60, 0x2e, 0x2a, 0x15, 0x05, 0x05, 0x60, 0x2e, 0xb6, 0x01, 0x0d, 0x36, 0x07, 0x2c, 0xb6, 0x00, 0xf2, 0x15, 0x06, 0x9f, 0x00, 0x05, 0x03, 0xac, 0x15, 0x06, 0x9a, 0x00, 0x0f, 0x2d, 0x03, 0x2f, 0x15, 0x07, 0x85, 0x94, 0x99, 0x00, 0x05, 0x03, 0xac, 0xa7, 0x12, 0x1c]
theorem W_Lc7 : sameFrom m_L_law.2.1 B_Lc7 853 := sameFrom_of (by decide +kernel)
def t_Lc7 : List (Nat × Instr × Nat) := [(853, .aload_n 1, 1), (854, .aload_n 0, 1), (855, .iload 5, 2), (857, .iconst 1, 1), (858, .iadd, 1), (859, .iaload, 1), (860, .aload_n 0, 1), (861, .iload 5, 2), (863, .iconst 2, 1), (864, .iadd, 1), (865, .iaload, 1), (866, .aload_n 3, 1), (867, .invokestatic 267, 3), (870, .istore 6, 2), (872, .aload_n 2, 1), (873, .aload_n 0, 1), (874, .iload 5, 2), (876, .iconst 1, 1), (877, .iadd, 1), (878, .iaload, 1), (879, .aload_n 0, 1), (880, .iload 5, 2), (882, .iconst 2, 1), (883, .iadd, 1), (884, .iaload, 1), (885, .invokevirtual 269, 3), (888, .istore 7, 2), (890, .aload_n 2, 1), (891, .invokevirtual 242, 3), (894, .iload 6, 2), (896, .if_icmp .eq 5, 3), (899, .iconst 0, 1), (900, .ireturn, 1), (901, .iload 6, 2), (903, .ifCond .ne 15, 3), (906, .aload_n 3, 1), (907, .iconst 0, 1), (908, .laload, 1), (909, .iload 7, 2), (911, .i2l, 1), (912, .lcmp, 1), (913, .ifCond .eq 5, 3), (916, .iconst 0, 1), (917, .ireturn, 1), (918, .goto 4636, 3)]
set_option maxRecDepth 20000 in
theorem U_Lc7 : okT m_L_law.2.1 t_Lc7 = true := dSt [(0, .aload_n 1, 1), (1, .aload_n 0, 1), (2, .iload 5, 2), (4, .iconst 1, 1), (5, .iadd, 1), (6, .iaload, 1), (7, .aload_n 0, 1), (8, .iload 5, 2), (10, .iconst 2, 1), (11, .iadd, 1), (12, .iaload, 1), (13, .aload_n 3, 1), (14, .invokestatic 267, 3), (17, .istore 6, 2), (19, .aload_n 2, 1), (20, .aload_n 0, 1), (21, .iload 5, 2), (23, .iconst 1, 1), (24, .iadd, 1), (25, .iaload, 1), (26, .aload_n 0, 1), (27, .iload 5, 2), (29, .iconst 2, 1), (30, .iadd, 1), (31, .iaload, 1), (32, .invokevirtual 269, 3), (35, .istore 7, 2), (37, .aload_n 2, 1), (38, .invokevirtual 242, 3), (41, .iload 6, 2), (43, .if_icmp .eq 5, 3), (46, .iconst 0, 1), (47, .ireturn, 1), (48, .iload 6, 2), (50, .ifCond .ne 15, 3), (53, .aload_n 3, 1), (54, .iconst 0, 1), (55, .laload, 1), (56, .iload 7, 2), (58, .i2l, 1), (59, .lcmp, 1), (60, .ifCond .eq 5, 3), (63, .iconst 0, 1), (64, .ireturn, 1), (65, .goto 4636, 3)] W_Lc7 (by decide +kernel) (by decide +kernel)
set_option maxRecDepth 20000 in
set_option maxHeartbeats 1000000 in
theorem LC_7 {G : xG} {d rc rs : Nat} {ex : Bool} {h : xH} {Q : xQ} {σ : St} {c0 : Int} {rr : Nat} {ss : Int} {l0 : Int} {d0 : UInt64} {i : Nat} (hL : G.2.2.2.2.2.1 < 2147483648) (hi : i + 10 ≤ G.2.2.2.2.2.1) (w : CW σ h) (wm : MX σ c0 rr ss h) (v : INV σ) (ho : h[143]? = some (cJ [l0])) (hod : h[144]? = some (cD [d0]))
    (M : ∀ (σ9 : St) (h9 : xH) (e9 : Bool) (c9 : Int) (r9 : Nat) (s9 : Int) (l9 : Int) (d9 : UInt64), INV σ9 → CW σ9 h9 → MX σ9 c9 r9 s9 h9 → h9[143]? = some (cJ [l9]) → h9[144]? = some (cD [d9]) → X G m_L_law (d + 10) rc rs e9 5554 [some (.ref 0), some (.ref 3), some (.ref 70), some (.ref 143), some (.ref 144), some (vi (i : Int)), none, none, none] [] h9 Q) : X G m_L_law (d + 10) (rc + 2) (rs + 12) ex 853 [some (.ref 0), some (.ref 3), some (.ref 70), some (.ref 143), some (.ref 144), some (vi (i : Int)), none, none, none] [] h Q := by
  refine x_aload_n (dT U_Lc7 0 rfl) rfl ?_
  refine x_aload_n (dT U_Lc7 1 rfl) rfl ?_
  refine x_iload (dT U_Lc7 2 rfl) rfl ?_
  refine x_iconst (dT U_Lc7 3 rfl) ?_
  refine x_iadd (dT U_Lc7 4 rfl) ?_
  refine x_sld (i + 1) hL (dT U_Lc7 5 rfl) (by omega) (by omega) ?_
  refine x_aload_n (dT U_Lc7 6 rfl) rfl ?_
  refine x_iload (dT U_Lc7 7 rfl) rfl ?_
  refine x_iconst (dT U_Lc7 8 rfl) ?_
  refine x_iadd (dT U_Lc7 9 rfl) ?_
  refine x_sld (i + 2) hL (dT U_Lc7 10 rfl) (by omega) (by omega) ?_
  refine x_aload_n (dT U_Lc7 11 rfl) rfl ?_
  refine x_invokestaticT (rc' := rc) (rs' := rs) (rc2 := 0 + 2) (rs2 := 0 + 12) (As := [_, _, _, _]) (st := _) M_L_inner K_L_267 (dT U_Lc7 12 rfl) rfl (by decide) rfl rfl (Nat.le_of_ble_eq_true rfl) rfl (by decide) (Nat.le_of_ble_eq_true rfl) (by omega) (by omega) ?_
  refine S_L_inner w v (xr_s _) (xr_s _) ho (fun c1 => ?_) (fun c1 z9 hz9 ez9 => ?_)
  · refine xRet_some ?_
    refine x_istore (ls' := [some (.ref _), some (.ref _), some (.ref _), some (.ref _), some (.ref _), some (vi _), some (vi _), none, none]) (dT U_Lc7 13 rfl) (by decide) rfl ?_
    refine x_aload_n (dT U_Lc7 14 rfl) rfl ?_
    refine x_aload_n (dT U_Lc7 15 rfl) rfl ?_
    refine x_iload (dT U_Lc7 16 rfl) rfl ?_
    refine x_iconst (dT U_Lc7 17 rfl) ?_
    refine x_iadd (dT U_Lc7 18 rfl) ?_
    refine x_sld (i + 1) hL (dT U_Lc7 19 rfl) (by omega) (by omega) ?_
    refine x_aload_n (dT U_Lc7 20 rfl) rfl ?_
    refine x_iload (dT U_Lc7 21 rfl) rfl ?_
    refine x_iconst (dT U_Lc7 22 rfl) ?_
    refine x_iadd (dT U_Lc7 23 rfl) ?_
    refine x_sld (i + 2) hL (dT U_Lc7 24 rfl) (by omega) (by omega) ?_
    refine x_invokevirtual (rc' := rc) (rs' := rs) (rc2 := 0) (rs2 := 0) (As := [_, _]) (st := _) M_X11_inner K_L_269 (dT U_Lc7 25 rfl) rfl rfl (by decide) rfl rfl wm.c70 (Nat.le_of_ble_eq_true rfl) (by decide) rfl (Nat.le_of_ble_eq_true rfl) rfl (by decide) (Nat.le_of_ble_eq_true rfl) rfl rfl ?_
    refine S_X11_inner wm v (xr_s _) (xr_s _) (fun m1 h3 z ag wx xz => ?_) (fun m1 _ _ _ _ _ => absurd m1 c1)
    refine xRet_some ?_
    refine x_istore (ls' := [some (.ref _), some (.ref _), some (.ref _), some (.ref _), some (.ref _), some (vi _), some (vi _), some (vi _), none]) (dT U_Lc7 26 rfl) (by decide) rfl ?_
    refine x_aload_n (dT U_Lc7 27 rfl) rfl ?_
    refine x_invokevirtual (rc' := rc) (rs' := rs) (rc2 := 0) (rs2 := 0) (As := []) (st := _) M_X11_thrown K_L_242 (dT U_Lc7 28 rfl) rfl rfl (by decide) rfl rfl wx.c70 (Nat.le_of_ble_eq_true rfl) (by decide) rfl (Nat.le_of_ble_eq_true rfl) rfl (by decide) (Nat.le_of_ble_eq_true rfl) rfl rfl ?_
    refine S_X11_thrown wx ?_
    refine xRet_some ?_
    refine x_iload (dT U_Lc7 29 rfl) rfl ?_
    refine x_icmp_eq (tgt := 901) (dT U_Lc7 30 rfl) (by decide) (by unfold xr; omega) (by unfold xr; omega) (fun c896 => ?_) (fun c896 => (by exfalso; omega))
    refine x_iload (dT U_Lc7 33 rfl) rfl ?_
    refine x_if_nej (tgt := 918) (dT U_Lc7 34 rfl) (by decide) (by decide) ?_
    refine x_goto (tgt := 5554) (dT U_Lc7 44 rfl) (by decide) ?_
    refine x_drop ?_ (M _ _ _ _ _ _ _ _ v (w.out ag (by omega)) wx (ag.get ho (by omega)) (ag.get hod (by omega)))
    repeat (first | exact trivial | refine ⟨rfl, ?_⟩ | refine ⟨trivial, ?_⟩)
  · refine xRet_some ?_
    have wmx := wm.out (h2 := (h.set 143 (cJ [z9]))) (fun a ha => by rw [hset_fr (by omega)])
    refine x_istore (ls' := [some (.ref _), some (.ref _), some (.ref _), some (.ref _), some (.ref _), some (vi _), some (vi _), none, none]) (dT U_Lc7 13 rfl) (by decide) rfl ?_
    refine x_aload_n (dT U_Lc7 14 rfl) rfl ?_
    refine x_aload_n (dT U_Lc7 15 rfl) rfl ?_
    refine x_iload (dT U_Lc7 16 rfl) rfl ?_
    refine x_iconst (dT U_Lc7 17 rfl) ?_
    refine x_iadd (dT U_Lc7 18 rfl) ?_
    refine x_sld (i + 1) hL (dT U_Lc7 19 rfl) (by omega) (by omega) ?_
    refine x_aload_n (dT U_Lc7 20 rfl) rfl ?_
    refine x_iload (dT U_Lc7 21 rfl) rfl ?_
    refine x_iconst (dT U_Lc7 22 rfl) ?_
    refine x_iadd (dT U_Lc7 23 rfl) ?_
    refine x_sld (i + 2) hL (dT U_Lc7 24 rfl) (by omega) (by omega) ?_
    refine x_invokevirtual (rc' := rc) (rs' := rs) (rc2 := 0) (rs2 := 0) (As := [_, _]) (st := _) M_X11_inner K_L_269 (dT U_Lc7 25 rfl) rfl rfl (by decide) rfl rfl wmx.c70 (Nat.le_of_ble_eq_true rfl) (by decide) rfl (Nat.le_of_ble_eq_true rfl) rfl (by decide) (Nat.le_of_ble_eq_true rfl) rfl rfl ?_
    refine S_X11_inner wmx v (xr_s _) (xr_s _) (fun m1 _ _ _ _ _ => absurd c1 m1) (fun m1 h3 r3 s3 ag wx => ?_)
    refine xRet_some ?_
    rw [ez9]
    refine x_istore (ls' := [some (.ref _), some (.ref _), some (.ref _), some (.ref _), some (.ref _), some (vi _), some (vi _), some (vi _), none]) (dT U_Lc7 26 rfl) (by decide) rfl ?_
    refine x_aload_n (dT U_Lc7 27 rfl) rfl ?_
    refine x_invokevirtual (rc' := rc) (rs' := rs) (rc2 := 0) (rs2 := 0) (As := []) (st := _) M_X11_thrown K_L_242 (dT U_Lc7 28 rfl) rfl rfl (by decide) rfl rfl wx.c70 (Nat.le_of_ble_eq_true rfl) (by decide) rfl (Nat.le_of_ble_eq_true rfl) rfl (by decide) (Nat.le_of_ble_eq_true rfl) rfl rfl ?_
    refine S_X11_thrown wx ?_
    refine xRet_some ?_
    refine x_iload (dT U_Lc7 29 rfl) rfl ?_
    refine x_icmp_eq (tgt := 901) (dT U_Lc7 30 rfl) (by decide) (by unfold xr; omega) (by unfold xr; omega) (fun c896 => ?_) (fun c896 => (by exfalso; omega))
    refine x_iload (dT U_Lc7 33 rfl) rfl ?_
    refine x_if_nen (tgt := 918) (dT U_Lc7 34 rfl) (by decide) (by decide) ?_
    refine x_aload_n (dT U_Lc7 35 rfl) rfl ?_
    refine x_iconst (dT U_Lc7 36 rfl) ?_
    refine x_laload 0 (dT U_Lc7 37 rfl) (ag.get (hset_eq ho) (by omega)) (Nat.le_of_ble_eq_true rfl) rfl (Nat.le_of_ble_eq_true rfl) (Nat.le_of_ble_eq_true rfl) ?_
    refine x_iload (dT U_Lc7 38 rfl) rfl ?_
    refine x_i2l (dT U_Lc7 39 rfl) hz9 ?_
    refine x_lcmp (dT U_Lc7 40 rfl) (xr_l hz9) (xr_l hz9) ?_
    refine x_if_eqj (tgt := 918) (dT U_Lc7 41 rfl) (by decide) (xcmp_rf _) ?_
    refine x_goto (tgt := 5554) (dT U_Lc7 44 rfl) (by decide) ?_
    refine x_drop ?_ (M _ _ _ _ _ _ _ _ v ((w.out ((Ag.rf 143 143 h).set (by omega)) (by omega)).out ag (by omega)) wx (ag.get (hset_eq ho) (by omega)) (ag.get (hset_ne (by omega) hod) (by omega)))
    repeat (first | exact trivial | refine ⟨rfl, ?_⟩ | refine ⟨trivial, ?_⟩)

def B_Lc8 : ByteArray := .mk #[0x2b, 0x2a, 0x15, 0x05, 0x04, 0x60, 0x2e, 0x2a, 0x15, 0x05, 0x05, 0x60, 0x2e, 0x2a, 0x15, 0x05, 0x06, 0x60, 0x2e, 0x2a, 0x15, 0x05, 0x07, 0x60, 0x2e, 0x2d, 0xb8, 0x01, 0x0e, 0x36, 0x06, 0x2c, 0x2a, 0x15, 0x05, 0x04, 0x60, 0x2e, 0x2a, 0x15, 0x05, 0x05, 0x60, 0x2e, 0x2a, 0x15, 0x05, 0x06, 0x60, 0x2e, 0x2a, 0x15, 0x05, 0x07, 0x60, 0x2e, 0xb6, 0x01, 0x11, 0x36, 0x07, 0x2c, 0xb6, 0x00, 0xf2, 0x15, 0x06, 0x9f, 0x00, 0x05, 0x03, 0xac, 0x15, 0x06, 0x9a, 0x00, 0x0f, 0x2d, 0x03, 0x2f, 0x15, 0x07, 0x85, 0x94, 0x99, 0x00, 0x05, 0x03, 0xac, 0xa7, 0x11, 0xc0]
theorem W_Lc8 : sameFrom m_L_law.2.1 B_Lc8 921 := sameFrom_of (by decide +kernel)
def t_Lc8 : List (Nat × Instr × Nat) := [(921, .aload_n 1, 1), (922, .aload_n 0, 1), (923, .iload 5, 2), (925, .iconst 1, 1), (926, .iadd, 1), (927, .iaload, 1), (928, .aload_n 0, 1), (929, .iload 5, 2), (931, .iconst 2, 1), (932, .iadd, 1), (933, .iaload, 1), (934, .aload_n 0, 1), (935, .iload 5, 2), (937, .iconst 3, 1), (938, .iadd, 1), (939, .iaload, 1), (940, .aload_n 0, 1), (941, .iload 5, 2), (943, .iconst 4, 1), (944, .iadd, 1), (945, .iaload, 1), (946, .aload_n 3, 1), (947, .invokestatic 270, 3), (950, .istore 6, 2), (952, .aload_n 2, 1), (953, .aload_n 0, 1), (954, .iload 5, 2), (956, .iconst 1, 1), (957, .iadd, 1), (958, .iaload, 1), (959, .aload_n 0, 1), (960, .iload 5, 2), (962, .iconst 2, 1), (963, .iadd, 1), (964, .iaload, 1), (965, .aload_n 0, 1), (966, .iload 5, 2), (968, .iconst 3, 1), (969, .iadd, 1), (970, .iaload, 1), (971, .aload_n 0, 1), (972, .iload 5, 2), (974, .iconst 4, 1), (975, .iadd, 1), (976, .iaload, 1), (977, .invokevirtual 273, 3), (980, .istore 7, 2), (982, .aload_n 2, 1), (983, .invokevirtual 242, 3), (986, .iload 6, 2), (988, .if_icmp .eq 5, 3), (991, .iconst 0, 1), (992, .ireturn, 1), (993, .iload 6, 2), (995, .ifCond .ne 15, 3), (998, .aload_n 3, 1), (999, .iconst 0, 1), (1000, .laload, 1), (1001, .iload 7, 2), (1003, .i2l, 1), (1004, .lcmp, 1), (1005, .ifCond .eq 5, 3), (1008, .iconst 0, 1), (1009, .ireturn, 1), (1010, .goto 4544, 3)]
set_option maxRecDepth 20000 in
theorem U_Lc8 : okT m_L_law.2.1 t_Lc8 = true := dSt [(0, .aload_n 1, 1), (1, .aload_n 0, 1), (2, .iload 5, 2), (4, .iconst 1, 1), (5, .iadd, 1), (6, .iaload, 1), (7, .aload_n 0, 1), (8, .iload 5, 2), (10, .iconst 2, 1), (11, .iadd, 1), (12, .iaload, 1), (13, .aload_n 0, 1), (14, .iload 5, 2), (16, .iconst 3, 1), (17, .iadd, 1), (18, .iaload, 1), (19, .aload_n 0, 1), (20, .iload 5, 2), (22, .iconst 4, 1), (23, .iadd, 1), (24, .iaload, 1), (25, .aload_n 3, 1), (26, .invokestatic 270, 3), (29, .istore 6, 2), (31, .aload_n 2, 1), (32, .aload_n 0, 1), (33, .iload 5, 2), (35, .iconst 1, 1), (36, .iadd, 1), (37, .iaload, 1), (38, .aload_n 0, 1), (39, .iload 5, 2), (41, .iconst 2, 1), (42, .iadd, 1), (43, .iaload, 1), (44, .aload_n 0, 1), (45, .iload 5, 2), (47, .iconst 3, 1), (48, .iadd, 1), (49, .iaload, 1), (50, .aload_n 0, 1), (51, .iload 5, 2), (53, .iconst 4, 1), (54, .iadd, 1), (55, .iaload, 1), (56, .invokevirtual 273, 3), (59, .istore 7, 2), (61, .aload_n 2, 1), (62, .invokevirtual 242, 3), (65, .iload 6, 2), (67, .if_icmp .eq 5, 3), (70, .iconst 0, 1), (71, .ireturn, 1), (72, .iload 6, 2), (74, .ifCond .ne 15, 3), (77, .aload_n 3, 1), (78, .iconst 0, 1), (79, .laload, 1), (80, .iload 7, 2), (82, .i2l, 1), (83, .lcmp, 1), (84, .ifCond .eq 5, 3), (87, .iconst 0, 1), (88, .ireturn, 1), (89, .goto 4544, 3)] W_Lc8 (by decide +kernel) (by decide +kernel)
set_option maxRecDepth 20000 in
set_option maxHeartbeats 1000000 in
theorem LC_8 {G : xG} {d rc rs : Nat} {ex : Bool} {h : xH} {Q : xQ} {σ : St} {c0 : Int} {rr : Nat} {ss : Int} {l0 : Int} {d0 : UInt64} {i : Nat} (hL : G.2.2.2.2.2.1 < 2147483648) (hi : i + 10 ≤ G.2.2.2.2.2.1) (w : CW σ h) (wm : MX σ c0 rr ss h) (v : INV σ) (ho : h[143]? = some (cJ [l0])) (hod : h[144]? = some (cD [d0]))
    (M : ∀ (σ9 : St) (h9 : xH) (e9 : Bool) (c9 : Int) (r9 : Nat) (s9 : Int) (l9 : Int) (d9 : UInt64), INV σ9 → CW σ9 h9 → MX σ9 c9 r9 s9 h9 → h9[143]? = some (cJ [l9]) → h9[144]? = some (cD [d9]) → X G m_L_law (d + 10) rc rs e9 5554 [some (.ref 0), some (.ref 3), some (.ref 70), some (.ref 143), some (.ref 144), some (vi (i : Int)), none, none, none] [] h9 Q) : X G m_L_law (d + 10) (rc + 4) (rs + 24) ex 921 [some (.ref 0), some (.ref 3), some (.ref 70), some (.ref 143), some (.ref 144), some (vi (i : Int)), none, none, none] [] h Q := by
  refine x_aload_n (dT U_Lc8 0 rfl) rfl ?_
  refine x_aload_n (dT U_Lc8 1 rfl) rfl ?_
  refine x_iload (dT U_Lc8 2 rfl) rfl ?_
  refine x_iconst (dT U_Lc8 3 rfl) ?_
  refine x_iadd (dT U_Lc8 4 rfl) ?_
  refine x_sld (i + 1) hL (dT U_Lc8 5 rfl) (by omega) (by omega) ?_
  refine x_aload_n (dT U_Lc8 6 rfl) rfl ?_
  refine x_iload (dT U_Lc8 7 rfl) rfl ?_
  refine x_iconst (dT U_Lc8 8 rfl) ?_
  refine x_iadd (dT U_Lc8 9 rfl) ?_
  refine x_sld (i + 2) hL (dT U_Lc8 10 rfl) (by omega) (by omega) ?_
  refine x_aload_n (dT U_Lc8 11 rfl) rfl ?_
  refine x_iload (dT U_Lc8 12 rfl) rfl ?_
  refine x_iconst (dT U_Lc8 13 rfl) ?_
  refine x_iadd (dT U_Lc8 14 rfl) ?_
  refine x_sld (i + 3) hL (dT U_Lc8 15 rfl) (by omega) (by omega) ?_
  refine x_aload_n (dT U_Lc8 16 rfl) rfl ?_
  refine x_iload (dT U_Lc8 17 rfl) rfl ?_
  refine x_iconst (dT U_Lc8 18 rfl) ?_
  refine x_iadd (dT U_Lc8 19 rfl) ?_
  refine x_sld (i + 4) hL (dT U_Lc8 20 rfl) (by omega) (by omega) ?_
  refine x_aload_n (dT U_Lc8 21 rfl) rfl ?_
  refine x_invokestaticT (rc' := rc) (rs' := rs) (rc2 := 0 + 4) (rs2 := 0 + 24) (As := [_, _, _, _, _, _]) (st := _) M_L_mix K_L_270 (dT U_Lc8 22 rfl) rfl (by decide) rfl rfl (Nat.le_of_ble_eq_true rfl) rfl (by decide) (Nat.le_of_ble_eq_true rfl) (by omega) (by omega) ?_
  refine S_L_mix w v (xr_s _) (xr_s _) (xr_s _) (xr_s _) ho (fun c1 => ?_) (fun c1 c2 => ?_) (fun c1 c2 h2 fc w2 z9 hz9 ez9 => ?_)
  · refine xRet_some ?_
    refine x_istore (ls' := [some (.ref _), some (.ref _), some (.ref _), some (.ref _), some (.ref _), some (vi _), some (vi _), none, none]) (dT U_Lc8 23 rfl) (by decide) rfl ?_
    refine x_aload_n (dT U_Lc8 24 rfl) rfl ?_
    refine x_aload_n (dT U_Lc8 25 rfl) rfl ?_
    refine x_iload (dT U_Lc8 26 rfl) rfl ?_
    refine x_iconst (dT U_Lc8 27 rfl) ?_
    refine x_iadd (dT U_Lc8 28 rfl) ?_
    refine x_sld (i + 1) hL (dT U_Lc8 29 rfl) (by omega) (by omega) ?_
    refine x_aload_n (dT U_Lc8 30 rfl) rfl ?_
    refine x_iload (dT U_Lc8 31 rfl) rfl ?_
    refine x_iconst (dT U_Lc8 32 rfl) ?_
    refine x_iadd (dT U_Lc8 33 rfl) ?_
    refine x_sld (i + 2) hL (dT U_Lc8 34 rfl) (by omega) (by omega) ?_
    refine x_aload_n (dT U_Lc8 35 rfl) rfl ?_
    refine x_iload (dT U_Lc8 36 rfl) rfl ?_
    refine x_iconst (dT U_Lc8 37 rfl) ?_
    refine x_iadd (dT U_Lc8 38 rfl) ?_
    refine x_sld (i + 3) hL (dT U_Lc8 39 rfl) (by omega) (by omega) ?_
    refine x_aload_n (dT U_Lc8 40 rfl) rfl ?_
    refine x_iload (dT U_Lc8 41 rfl) rfl ?_
    refine x_iconst (dT U_Lc8 42 rfl) ?_
    refine x_iadd (dT U_Lc8 43 rfl) ?_
    refine x_sld (i + 4) hL (dT U_Lc8 44 rfl) (by omega) (by omega) ?_
    refine x_invokevirtual (rc' := rc) (rs' := rs) (rc2 := 0) (rs2 := 0) (As := [_, _, _, _]) (st := _) M_X11_mix K_L_273 (dT U_Lc8 45 rfl) rfl rfl (by decide) rfl rfl wm.c70 (Nat.le_of_ble_eq_true rfl) (by decide) rfl (Nat.le_of_ble_eq_true rfl) rfl (by decide) (Nat.le_of_ble_eq_true rfl) rfl rfl ?_
    refine S_X11_mix wm v (xr_s _) (xr_s _) (xr_s _) (xr_s _) (fun m1 h3 z ag wx xz => ?_) (fun m1 m2 _ _ _ _ _ => absurd m1 c1) (fun m1 m2 _ _ _ _ _ => absurd m1 c1)
    refine xRet_some ?_
    refine x_istore (ls' := [some (.ref _), some (.ref _), some (.ref _), some (.ref _), some (.ref _), some (vi _), some (vi _), some (vi _), none]) (dT U_Lc8 46 rfl) (by decide) rfl ?_
    refine x_aload_n (dT U_Lc8 47 rfl) rfl ?_
    refine x_invokevirtual (rc' := rc) (rs' := rs) (rc2 := 0) (rs2 := 0) (As := []) (st := _) M_X11_thrown K_L_242 (dT U_Lc8 48 rfl) rfl rfl (by decide) rfl rfl wx.c70 (Nat.le_of_ble_eq_true rfl) (by decide) rfl (Nat.le_of_ble_eq_true rfl) rfl (by decide) (Nat.le_of_ble_eq_true rfl) rfl rfl ?_
    refine S_X11_thrown wx ?_
    refine xRet_some ?_
    refine x_iload (dT U_Lc8 49 rfl) rfl ?_
    refine x_icmp_eq (tgt := 993) (dT U_Lc8 50 rfl) (by decide) (by unfold xr; omega) (by unfold xr; omega) (fun c988 => ?_) (fun c988 => (by exfalso; omega))
    refine x_iload (dT U_Lc8 53 rfl) rfl ?_
    refine x_if_nej (tgt := 1010) (dT U_Lc8 54 rfl) (by decide) (by decide) ?_
    refine x_goto (tgt := 5554) (dT U_Lc8 64 rfl) (by decide) ?_
    refine x_drop ?_ (M _ _ _ _ _ _ _ _ v (w.out ag (by omega)) wx (ag.get ho (by omega)) (ag.get hod (by omega)))
    repeat (first | exact trivial | refine ⟨rfl, ?_⟩ | refine ⟨trivial, ?_⟩)
  · refine xRet_some ?_
    refine x_istore (ls' := [some (.ref _), some (.ref _), some (.ref _), some (.ref _), some (.ref _), some (vi _), some (vi _), none, none]) (dT U_Lc8 23 rfl) (by decide) rfl ?_
    refine x_aload_n (dT U_Lc8 24 rfl) rfl ?_
    refine x_aload_n (dT U_Lc8 25 rfl) rfl ?_
    refine x_iload (dT U_Lc8 26 rfl) rfl ?_
    refine x_iconst (dT U_Lc8 27 rfl) ?_
    refine x_iadd (dT U_Lc8 28 rfl) ?_
    refine x_sld (i + 1) hL (dT U_Lc8 29 rfl) (by omega) (by omega) ?_
    refine x_aload_n (dT U_Lc8 30 rfl) rfl ?_
    refine x_iload (dT U_Lc8 31 rfl) rfl ?_
    refine x_iconst (dT U_Lc8 32 rfl) ?_
    refine x_iadd (dT U_Lc8 33 rfl) ?_
    refine x_sld (i + 2) hL (dT U_Lc8 34 rfl) (by omega) (by omega) ?_
    refine x_aload_n (dT U_Lc8 35 rfl) rfl ?_
    refine x_iload (dT U_Lc8 36 rfl) rfl ?_
    refine x_iconst (dT U_Lc8 37 rfl) ?_
    refine x_iadd (dT U_Lc8 38 rfl) ?_
    refine x_sld (i + 3) hL (dT U_Lc8 39 rfl) (by omega) (by omega) ?_
    refine x_aload_n (dT U_Lc8 40 rfl) rfl ?_
    refine x_iload (dT U_Lc8 41 rfl) rfl ?_
    refine x_iconst (dT U_Lc8 42 rfl) ?_
    refine x_iadd (dT U_Lc8 43 rfl) ?_
    refine x_sld (i + 4) hL (dT U_Lc8 44 rfl) (by omega) (by omega) ?_
    refine x_invokevirtual (rc' := rc) (rs' := rs) (rc2 := 0) (rs2 := 0) (As := [_, _, _, _]) (st := _) M_X11_mix K_L_273 (dT U_Lc8 45 rfl) rfl rfl (by decide) rfl rfl wm.c70 (Nat.le_of_ble_eq_true rfl) (by decide) rfl (Nat.le_of_ble_eq_true rfl) rfl (by decide) (Nat.le_of_ble_eq_true rfl) rfl rfl ?_
    refine S_X11_mix wm v (xr_s _) (xr_s _) (xr_s _) (xr_s _) (fun m1 _ _ _ _ _ => absurd c1 m1) (fun m1 m2 h3 z ag wx xz => ?_) (fun m1 m2 _ _ _ _ _ => absurd m2 c2)
    refine xRet_some ?_
    refine x_istore (ls' := [some (.ref _), some (.ref _), some (.ref _), some (.ref _), some (.ref _), some (vi _), some (vi _), some (vi _), none]) (dT U_Lc8 46 rfl) (by decide) rfl ?_
    refine x_aload_n (dT U_Lc8 47 rfl) rfl ?_
    refine x_invokevirtual (rc' := rc) (rs' := rs) (rc2 := 0) (rs2 := 0) (As := []) (st := _) M_X11_thrown K_L_242 (dT U_Lc8 48 rfl) rfl rfl (by decide) rfl rfl wx.c70 (Nat.le_of_ble_eq_true rfl) (by decide) rfl (Nat.le_of_ble_eq_true rfl) rfl (by decide) (Nat.le_of_ble_eq_true rfl) rfl rfl ?_
    refine S_X11_thrown wx ?_
    refine xRet_some ?_
    refine x_iload (dT U_Lc8 49 rfl) rfl ?_
    refine x_icmp_eq (tgt := 993) (dT U_Lc8 50 rfl) (by decide) (by unfold xr; omega) (by unfold xr; omega) (fun c988 => ?_) (fun c988 => (by exfalso; omega))
    refine x_iload (dT U_Lc8 53 rfl) rfl ?_
    refine x_if_ne (tgt := 1010) (dT U_Lc8 54 rfl) (by decide) (by unfold xr; omega) (fun c995 => ?_) (fun c995 => (by exfalso; omega))
    refine x_goto (tgt := 5554) (dT U_Lc8 64 rfl) (by decide) ?_
    refine x_drop ?_ (M _ _ _ _ _ _ _ _ v (w.out ag (by omega)) wx (ag.get ho (by omega)) (ag.get hod (by omega)))
    repeat (first | exact trivial | refine ⟨rfl, ?_⟩ | refine ⟨trivial, ?_⟩)
  · refine xRet_some ?_
    have wmx := wm.out (h2 := (h2.set 143 (cJ [z9]))) (fun a ha => by rw [hset_fr (by omega)]; exact fc.2 a (by omega))
    refine x_istore (ls' := [some (.ref _), some (.ref _), some (.ref _), some (.ref _), some (.ref _), some (vi _), some (vi _), none, none]) (dT U_Lc8 23 rfl) (by decide) rfl ?_
    refine x_aload_n (dT U_Lc8 24 rfl) rfl ?_
    refine x_aload_n (dT U_Lc8 25 rfl) rfl ?_
    refine x_iload (dT U_Lc8 26 rfl) rfl ?_
    refine x_iconst (dT U_Lc8 27 rfl) ?_
    refine x_iadd (dT U_Lc8 28 rfl) ?_
    refine x_sld (i + 1) hL (dT U_Lc8 29 rfl) (by omega) (by omega) ?_
    refine x_aload_n (dT U_Lc8 30 rfl) rfl ?_
    refine x_iload (dT U_Lc8 31 rfl) rfl ?_
    refine x_iconst (dT U_Lc8 32 rfl) ?_
    refine x_iadd (dT U_Lc8 33 rfl) ?_
    refine x_sld (i + 2) hL (dT U_Lc8 34 rfl) (by omega) (by omega) ?_
    refine x_aload_n (dT U_Lc8 35 rfl) rfl ?_
    refine x_iload (dT U_Lc8 36 rfl) rfl ?_
    refine x_iconst (dT U_Lc8 37 rfl) ?_
    refine x_iadd (dT U_Lc8 38 rfl) ?_
    refine x_sld (i + 3) hL (dT U_Lc8 39 rfl) (by omega) (by omega) ?_
    refine x_aload_n (dT U_Lc8 40 rfl) rfl ?_
    refine x_iload (dT U_Lc8 41 rfl) rfl ?_
    refine x_iconst (dT U_Lc8 42 rfl) ?_
    refine x_iadd (dT U_Lc8 43 rfl) ?_
    refine x_sld (i + 4) hL (dT U_Lc8 44 rfl) (by omega) (by omega) ?_
    refine x_invokevirtual (rc' := rc) (rs' := rs) (rc2 := 0) (rs2 := 0) (As := [_, _, _, _]) (st := _) M_X11_mix K_L_273 (dT U_Lc8 45 rfl) rfl rfl (by decide) rfl rfl wmx.c70 (Nat.le_of_ble_eq_true rfl) (by decide) rfl (Nat.le_of_ble_eq_true rfl) rfl (by decide) (Nat.le_of_ble_eq_true rfl) rfl rfl ?_
    refine S_X11_mix wmx v (xr_s _) (xr_s _) (xr_s _) (xr_s _) (fun m1 _ _ _ _ _ => absurd c1 m1) (fun m1 m2 _ _ _ _ _ => absurd c2 m2) (fun m1 m2 h3 r3 s3 ag wx => ?_)
    refine xRet_some ?_
    rw [ez9]
    refine x_istore (ls' := [some (.ref _), some (.ref _), some (.ref _), some (.ref _), some (.ref _), some (vi _), some (vi _), some (vi _), none]) (dT U_Lc8 46 rfl) (by decide) rfl ?_
    refine x_aload_n (dT U_Lc8 47 rfl) rfl ?_
    refine x_invokevirtual (rc' := rc) (rs' := rs) (rc2 := 0) (rs2 := 0) (As := []) (st := _) M_X11_thrown K_L_242 (dT U_Lc8 48 rfl) rfl rfl (by decide) rfl rfl wx.c70 (Nat.le_of_ble_eq_true rfl) (by decide) rfl (Nat.le_of_ble_eq_true rfl) rfl (by decide) (Nat.le_of_ble_eq_true rfl) rfl rfl ?_
    refine S_X11_thrown wx ?_
    refine xRet_some ?_
    refine x_iload (dT U_Lc8 49 rfl) rfl ?_
    refine x_icmp_eq (tgt := 993) (dT U_Lc8 50 rfl) (by decide) (by unfold xr; omega) (by unfold xr; omega) (fun c988 => ?_) (fun c988 => (by exfalso; omega))
    refine x_iload (dT U_Lc8 53 rfl) rfl ?_
    refine x_if_nen (tgt := 1010) (dT U_Lc8 54 rfl) (by decide) (by decide) ?_
    refine x_aload_n (dT U_Lc8 55 rfl) rfl ?_
    refine x_iconst (dT U_Lc8 56 rfl) ?_
    refine x_laload 0 (dT U_Lc8 57 rfl) (ag.get (hset_eq (fc.get ho (by omega))) (by omega)) (Nat.le_of_ble_eq_true rfl) rfl (Nat.le_of_ble_eq_true rfl) (Nat.le_of_ble_eq_true rfl) ?_
    refine x_iload (dT U_Lc8 58 rfl) rfl ?_
    refine x_i2l (dT U_Lc8 59 rfl) hz9 ?_
    refine x_lcmp (dT U_Lc8 60 rfl) (xr_l hz9) (xr_l hz9) ?_
    refine x_if_eqj (tgt := 1010) (dT U_Lc8 61 rfl) (by decide) (xcmp_rf _) ?_
    refine x_goto (tgt := 5554) (dT U_Lc8 64 rfl) (by decide) ?_
    refine x_drop ?_ (M _ _ _ _ _ _ _ _ (IV_mix v c1 c2) ((w2.out ((Ag.rf 143 143 h2).set (by omega)) (by omega)).out ag (by omega)) wx (ag.get (hset_eq (fc.get ho (by omega))) (by omega)) (ag.get (hset_ne (by omega) (fc.get hod (by omega))) (by omega)))
    repeat (first | exact trivial | refine ⟨rfl, ?_⟩ | refine ⟨trivial, ?_⟩)

def B_Lc9 : ByteArray := .mk #[0x2b, 0x2a, 0x15, 0x05, 0x04, 0x60, 0x2e, 0x2a, 0x15, 0x05, 0x05, 0x60, 0x2e, 0x2a, 0x15, 0x05, 0x06, 0x60, 0x2e, 0x2d, 0xb8, 0x01, 0x12, 0x36, 0x06, 0x2c, 0x2a, 0x15, 0x05, 0x04, 0x60, 0x2e, 0x2a, 0x15, 0x05, 0x05, 0x60, 0x2e, 0x2a, 0x15, 0x05, 0x06, 0x60, 0x2e, 0xb6, 0x01, 0x14, 0x36, 0x07, 0x2c, 0xb6, 0x00, 0xf2, 0x15, 0x06, 0x9f, 0x00, 0x05, 0x03, 0xac, 0x15, 0x06, 0x9a, 0x00, 0x0f, 0x2d, 0x03, 0x2f, 0x15, 0x07, 0x85, 0x94, 0x99, 0x00, 0x05, 0x03, 0xac, 0xa7, 0x11, 0x70]
theorem W_Lc9 : sameFrom m_L_law.2.1 B_Lc9 1013 := sameFrom_of (by decide +kernel)
def t_Lc9 : List (Nat × Instr × Nat) := [(1013, .aload_n 1, 1), (1014, .aload_n 0, 1), (1015, .iload 5, 2), (1017, .iconst 1, 1), (1018, .iadd, 1), (1019, .iaload, 1), (1020, .aload_n 0, 1), (1021, .iload 5, 2), (1023, .iconst 2, 1), (1024, .iadd, 1), (1025, .iaload, 1), (1026, .aload_n 0, 1), (1027, .iload 5, 2), (1029, .iconst 3, 1), (1030, .iadd, 1), (1031, .iaload, 1), (1032, .aload_n 3, 1), (1033, .invokestatic 274, 3), (1036, .istore 6, 2), (1038, .aload_n 2, 1), (1039, .aload_n 0, 1), (1040, .iload 5, 2), (1042, .iconst 1, 1), (1043, .iadd, 1), (1044, .iaload, 1), (1045, .aload_n 0, 1), (1046, .iload 5, 2), (1048, .iconst 2, 1), (1049, .iadd, 1), (1050, .iaload, 1), (1051, .aload_n 0, 1), (1052, .iload 5, 2), (1054, .iconst 3, 1), (1055, .iadd, 1), (1056, .iaload, 1), (1057, .invokevirtual 276, 3), (1060, .istore 7, 2), (1062, .aload_n 2, 1), (1063, .invokevirtual 242, 3), (1066, .iload 6, 2), (1068, .if_icmp .eq 5, 3), (1071, .iconst 0, 1), (1072, .ireturn, 1), (1073, .iload 6, 2), (1075, .ifCond .ne 15, 3), (1078, .aload_n 3, 1), (1079, .iconst 0, 1), (1080, .laload, 1), (1081, .iload 7, 2), (1083, .i2l, 1), (1084, .lcmp, 1), (1085, .ifCond .eq 5, 3), (1088, .iconst 0, 1), (1089, .ireturn, 1), (1090, .goto 4464, 3)]
set_option maxRecDepth 20000 in
theorem U_Lc9 : okT m_L_law.2.1 t_Lc9 = true := dSt [(0, .aload_n 1, 1), (1, .aload_n 0, 1), (2, .iload 5, 2), (4, .iconst 1, 1), (5, .iadd, 1), (6, .iaload, 1), (7, .aload_n 0, 1), (8, .iload 5, 2), (10, .iconst 2, 1), (11, .iadd, 1), (12, .iaload, 1), (13, .aload_n 0, 1), (14, .iload 5, 2), (16, .iconst 3, 1), (17, .iadd, 1), (18, .iaload, 1), (19, .aload_n 3, 1), (20, .invokestatic 274, 3), (23, .istore 6, 2), (25, .aload_n 2, 1), (26, .aload_n 0, 1), (27, .iload 5, 2), (29, .iconst 1, 1), (30, .iadd, 1), (31, .iaload, 1), (32, .aload_n 0, 1), (33, .iload 5, 2), (35, .iconst 2, 1), (36, .iadd, 1), (37, .iaload, 1), (38, .aload_n 0, 1), (39, .iload 5, 2), (41, .iconst 3, 1), (42, .iadd, 1), (43, .iaload, 1), (44, .invokevirtual 276, 3), (47, .istore 7, 2), (49, .aload_n 2, 1), (50, .invokevirtual 242, 3), (53, .iload 6, 2), (55, .if_icmp .eq 5, 3), (58, .iconst 0, 1), (59, .ireturn, 1), (60, .iload 6, 2), (62, .ifCond .ne 15, 3), (65, .aload_n 3, 1), (66, .iconst 0, 1), (67, .laload, 1), (68, .iload 7, 2), (70, .i2l, 1), (71, .lcmp, 1), (72, .ifCond .eq 5, 3), (75, .iconst 0, 1), (76, .ireturn, 1), (77, .goto 4464, 3)] W_Lc9 (by decide +kernel) (by decide +kernel)
set_option maxRecDepth 20000 in
set_option maxHeartbeats 1000000 in
theorem LC_9 {G : xG} {d rc rs : Nat} {ex : Bool} {h : xH} {Q : xQ} {σ : St} {c0 : Int} {rr : Nat} {ss : Int} {l0 : Int} {d0 : UInt64} {i : Nat} (hL : G.2.2.2.2.2.1 < 2147483648) (hi : i + 10 ≤ G.2.2.2.2.2.1) (w : CW σ h) (wm : MX σ c0 rr ss h) (v : INV σ) (ho : h[143]? = some (cJ [l0])) (hod : h[144]? = some (cD [d0]))
    (M : ∀ (σ9 : St) (h9 : xH) (e9 : Bool) (c9 : Int) (r9 : Nat) (s9 : Int) (l9 : Int) (d9 : UInt64), INV σ9 → CW σ9 h9 → MX σ9 c9 r9 s9 h9 → h9[143]? = some (cJ [l9]) → h9[144]? = some (cD [d9]) → X G m_L_law (d + 10) rc rs e9 5554 [some (.ref 0), some (.ref 3), some (.ref 70), some (.ref 143), some (.ref 144), some (vi (i : Int)), none, none, none] [] h9 Q) : X G m_L_law (d + 10) (rc + 4) (rs + 24) ex 1013 [some (.ref 0), some (.ref 3), some (.ref 70), some (.ref 143), some (.ref 144), some (vi (i : Int)), none, none, none] [] h Q := by
  refine x_aload_n (dT U_Lc9 0 rfl) rfl ?_
  refine x_aload_n (dT U_Lc9 1 rfl) rfl ?_
  refine x_iload (dT U_Lc9 2 rfl) rfl ?_
  refine x_iconst (dT U_Lc9 3 rfl) ?_
  refine x_iadd (dT U_Lc9 4 rfl) ?_
  refine x_sld (i + 1) hL (dT U_Lc9 5 rfl) (by omega) (by omega) ?_
  refine x_aload_n (dT U_Lc9 6 rfl) rfl ?_
  refine x_iload (dT U_Lc9 7 rfl) rfl ?_
  refine x_iconst (dT U_Lc9 8 rfl) ?_
  refine x_iadd (dT U_Lc9 9 rfl) ?_
  refine x_sld (i + 2) hL (dT U_Lc9 10 rfl) (by omega) (by omega) ?_
  refine x_aload_n (dT U_Lc9 11 rfl) rfl ?_
  refine x_iload (dT U_Lc9 12 rfl) rfl ?_
  refine x_iconst (dT U_Lc9 13 rfl) ?_
  refine x_iadd (dT U_Lc9 14 rfl) ?_
  refine x_sld (i + 3) hL (dT U_Lc9 15 rfl) (by omega) (by omega) ?_
  refine x_aload_n (dT U_Lc9 16 rfl) rfl ?_
  refine x_invokestaticT (rc' := rc) (rs' := rs) (rc2 := 0 + 4) (rs2 := 0 + 24) (As := [_, _, _, _, _]) (st := _) M_L_times K_L_274 (dT U_Lc9 17 rfl) rfl (by decide) rfl rfl (Nat.le_of_ble_eq_true rfl) rfl (by decide) (Nat.le_of_ble_eq_true rfl) (by omega) (by omega) ?_
  refine S_L_times w v (xr_s _) (xr_s _) (xr_s _) ho (fun c1 => ?_) (fun c1 c2 => ?_) (fun c1 c2 h2 fc w2 z9 hz9 ez9 => ?_)
  · refine xRet_some ?_
    refine x_istore (ls' := [some (.ref _), some (.ref _), some (.ref _), some (.ref _), some (.ref _), some (vi _), some (vi _), none, none]) (dT U_Lc9 18 rfl) (by decide) rfl ?_
    refine x_aload_n (dT U_Lc9 19 rfl) rfl ?_
    refine x_aload_n (dT U_Lc9 20 rfl) rfl ?_
    refine x_iload (dT U_Lc9 21 rfl) rfl ?_
    refine x_iconst (dT U_Lc9 22 rfl) ?_
    refine x_iadd (dT U_Lc9 23 rfl) ?_
    refine x_sld (i + 1) hL (dT U_Lc9 24 rfl) (by omega) (by omega) ?_
    refine x_aload_n (dT U_Lc9 25 rfl) rfl ?_
    refine x_iload (dT U_Lc9 26 rfl) rfl ?_
    refine x_iconst (dT U_Lc9 27 rfl) ?_
    refine x_iadd (dT U_Lc9 28 rfl) ?_
    refine x_sld (i + 2) hL (dT U_Lc9 29 rfl) (by omega) (by omega) ?_
    refine x_aload_n (dT U_Lc9 30 rfl) rfl ?_
    refine x_iload (dT U_Lc9 31 rfl) rfl ?_
    refine x_iconst (dT U_Lc9 32 rfl) ?_
    refine x_iadd (dT U_Lc9 33 rfl) ?_
    refine x_sld (i + 3) hL (dT U_Lc9 34 rfl) (by omega) (by omega) ?_
    refine x_invokevirtual (rc' := rc) (rs' := rs) (rc2 := 0) (rs2 := 0) (As := [_, _, _]) (st := _) M_X11_times K_L_276 (dT U_Lc9 35 rfl) rfl rfl (by decide) rfl rfl wm.c70 (Nat.le_of_ble_eq_true rfl) (by decide) rfl (Nat.le_of_ble_eq_true rfl) rfl (by decide) (Nat.le_of_ble_eq_true rfl) rfl rfl ?_
    refine S_X11_times wm v (xr_s _) (xr_s _) (xr_s _) (fun m1 h3 z ag wx xz => ?_) (fun m1 m2 _ _ _ _ _ => absurd m1 c1) (fun m1 m2 _ _ _ _ _ => absurd m1 c1)
    refine xRet_some ?_
    refine x_istore (ls' := [some (.ref _), some (.ref _), some (.ref _), some (.ref _), some (.ref _), some (vi _), some (vi _), some (vi _), none]) (dT U_Lc9 36 rfl) (by decide) rfl ?_
    refine x_aload_n (dT U_Lc9 37 rfl) rfl ?_
    refine x_invokevirtual (rc' := rc) (rs' := rs) (rc2 := 0) (rs2 := 0) (As := []) (st := _) M_X11_thrown K_L_242 (dT U_Lc9 38 rfl) rfl rfl (by decide) rfl rfl wx.c70 (Nat.le_of_ble_eq_true rfl) (by decide) rfl (Nat.le_of_ble_eq_true rfl) rfl (by decide) (Nat.le_of_ble_eq_true rfl) rfl rfl ?_
    refine S_X11_thrown wx ?_
    refine xRet_some ?_
    refine x_iload (dT U_Lc9 39 rfl) rfl ?_
    refine x_icmp_eq (tgt := 1073) (dT U_Lc9 40 rfl) (by decide) (by unfold xr; omega) (by unfold xr; omega) (fun c1068 => ?_) (fun c1068 => (by exfalso; omega))
    refine x_iload (dT U_Lc9 43 rfl) rfl ?_
    refine x_if_nej (tgt := 1090) (dT U_Lc9 44 rfl) (by decide) (by decide) ?_
    refine x_goto (tgt := 5554) (dT U_Lc9 54 rfl) (by decide) ?_
    refine x_drop ?_ (M _ _ _ _ _ _ _ _ v (w.out ag (by omega)) wx (ag.get ho (by omega)) (ag.get hod (by omega)))
    repeat (first | exact trivial | refine ⟨rfl, ?_⟩ | refine ⟨trivial, ?_⟩)
  · refine xRet_some ?_
    refine x_istore (ls' := [some (.ref _), some (.ref _), some (.ref _), some (.ref _), some (.ref _), some (vi _), some (vi _), none, none]) (dT U_Lc9 18 rfl) (by decide) rfl ?_
    refine x_aload_n (dT U_Lc9 19 rfl) rfl ?_
    refine x_aload_n (dT U_Lc9 20 rfl) rfl ?_
    refine x_iload (dT U_Lc9 21 rfl) rfl ?_
    refine x_iconst (dT U_Lc9 22 rfl) ?_
    refine x_iadd (dT U_Lc9 23 rfl) ?_
    refine x_sld (i + 1) hL (dT U_Lc9 24 rfl) (by omega) (by omega) ?_
    refine x_aload_n (dT U_Lc9 25 rfl) rfl ?_
    refine x_iload (dT U_Lc9 26 rfl) rfl ?_
    refine x_iconst (dT U_Lc9 27 rfl) ?_
    refine x_iadd (dT U_Lc9 28 rfl) ?_
    refine x_sld (i + 2) hL (dT U_Lc9 29 rfl) (by omega) (by omega) ?_
    refine x_aload_n (dT U_Lc9 30 rfl) rfl ?_
    refine x_iload (dT U_Lc9 31 rfl) rfl ?_
    refine x_iconst (dT U_Lc9 32 rfl) ?_
    refine x_iadd (dT U_Lc9 33 rfl) ?_
    refine x_sld (i + 3) hL (dT U_Lc9 34 rfl) (by omega) (by omega) ?_
    refine x_invokevirtual (rc' := rc) (rs' := rs) (rc2 := 0) (rs2 := 0) (As := [_, _, _]) (st := _) M_X11_times K_L_276 (dT U_Lc9 35 rfl) rfl rfl (by decide) rfl rfl wm.c70 (Nat.le_of_ble_eq_true rfl) (by decide) rfl (Nat.le_of_ble_eq_true rfl) rfl (by decide) (Nat.le_of_ble_eq_true rfl) rfl rfl ?_
    refine S_X11_times wm v (xr_s _) (xr_s _) (xr_s _) (fun m1 _ _ _ _ _ => absurd c1 m1) (fun m1 m2 h3 z ag wx xz => ?_) (fun m1 m2 _ _ _ _ _ => absurd m2 c2)
    refine xRet_some ?_
    refine x_istore (ls' := [some (.ref _), some (.ref _), some (.ref _), some (.ref _), some (.ref _), some (vi _), some (vi _), some (vi _), none]) (dT U_Lc9 36 rfl) (by decide) rfl ?_
    refine x_aload_n (dT U_Lc9 37 rfl) rfl ?_
    refine x_invokevirtual (rc' := rc) (rs' := rs) (rc2 := 0) (rs2 := 0) (As := []) (st := _) M_X11_thrown K_L_242 (dT U_Lc9 38 rfl) rfl rfl (by decide) rfl rfl wx.c70 (Nat.le_of_ble_eq_true rfl) (by decide) rfl (Nat.le_of_ble_eq_true rfl) rfl (by decide) (Nat.le_of_ble_eq_true rfl) rfl rfl ?_
    refine S_X11_thrown wx ?_
    refine xRet_some ?_
    refine x_iload (dT U_Lc9 39 rfl) rfl ?_
    refine x_icmp_eq (tgt := 1073) (dT U_Lc9 40 rfl) (by decide) (by unfold xr; omega) (by unfold xr; omega) (fun c1068 => ?_) (fun c1068 => (by exfalso; omega))
    refine x_iload (dT U_Lc9 43 rfl) rfl ?_
    refine x_if_ne (tgt := 1090) (dT U_Lc9 44 rfl) (by decide) (by unfold xr; omega) (fun c1075 => ?_) (fun c1075 => (by exfalso; omega))
    refine x_goto (tgt := 5554) (dT U_Lc9 54 rfl) (by decide) ?_
    refine x_drop ?_ (M _ _ _ _ _ _ _ _ v (w.out ag (by omega)) wx (ag.get ho (by omega)) (ag.get hod (by omega)))
    repeat (first | exact trivial | refine ⟨rfl, ?_⟩ | refine ⟨trivial, ?_⟩)
  · refine xRet_some ?_
    have wmx := wm.out (h2 := (h2.set 143 (cJ [z9]))) (fun a ha => by rw [hset_fr (by omega)]; exact fc.2 a (by omega))
    refine x_istore (ls' := [some (.ref _), some (.ref _), some (.ref _), some (.ref _), some (.ref _), some (vi _), some (vi _), none, none]) (dT U_Lc9 18 rfl) (by decide) rfl ?_
    refine x_aload_n (dT U_Lc9 19 rfl) rfl ?_
    refine x_aload_n (dT U_Lc9 20 rfl) rfl ?_
    refine x_iload (dT U_Lc9 21 rfl) rfl ?_
    refine x_iconst (dT U_Lc9 22 rfl) ?_
    refine x_iadd (dT U_Lc9 23 rfl) ?_
    refine x_sld (i + 1) hL (dT U_Lc9 24 rfl) (by omega) (by omega) ?_
    refine x_aload_n (dT U_Lc9 25 rfl) rfl ?_
    refine x_iload (dT U_Lc9 26 rfl) rfl ?_
    refine x_iconst (dT U_Lc9 27 rfl) ?_
    refine x_iadd (dT U_Lc9 28 rfl) ?_
    refine x_sld (i + 2) hL (dT U_Lc9 29 rfl) (by omega) (by omega) ?_
    refine x_aload_n (dT U_Lc9 30 rfl) rfl ?_
    refine x_iload (dT U_Lc9 31 rfl) rfl ?_
    refine x_iconst (dT U_Lc9 32 rfl) ?_
    refine x_iadd (dT U_Lc9 33 rfl) ?_
    refine x_sld (i + 3) hL (dT U_Lc9 34 rfl) (by omega) (by omega) ?_
    refine x_invokevirtual (rc' := rc) (rs' := rs) (rc2 := 0) (rs2 := 0) (As := [_, _, _]) (st := _) M_X11_times K_L_276 (dT U_Lc9 35 rfl) rfl rfl (by decide) rfl rfl wmx.c70 (Nat.le_of_ble_eq_true rfl) (by decide) rfl (Nat.le_of_ble_eq_true rfl) rfl (by decide) (Nat.le_of_ble_eq_true rfl) rfl rfl ?_
    refine S_X11_times wmx v (xr_s _) (xr_s _) (xr_s _) (fun m1 _ _ _ _ _ => absurd c1 m1) (fun m1 m2 _ _ _ _ _ => absurd c2 m2) (fun m1 m2 h3 r3 s3 ag wx => ?_)
    refine xRet_some ?_
    rw [ez9]
    refine x_istore (ls' := [some (.ref _), some (.ref _), some (.ref _), some (.ref _), some (.ref _), some (vi _), some (vi _), some (vi _), none]) (dT U_Lc9 36 rfl) (by decide) rfl ?_
    refine x_aload_n (dT U_Lc9 37 rfl) rfl ?_
    refine x_invokevirtual (rc' := rc) (rs' := rs) (rc2 := 0) (rs2 := 0) (As := []) (st := _) M_X11_thrown K_L_242 (dT U_Lc9 38 rfl) rfl rfl (by decide) rfl rfl wx.c70 (Nat.le_of_ble_eq_true rfl) (by decide) rfl (Nat.le_of_ble_eq_true rfl) rfl (by decide) (Nat.le_of_ble_eq_true rfl) rfl rfl ?_
    refine S_X11_thrown wx ?_
    refine xRet_some ?_
    refine x_iload (dT U_Lc9 39 rfl) rfl ?_
    refine x_icmp_eq (tgt := 1073) (dT U_Lc9 40 rfl) (by decide) (by unfold xr; omega) (by unfold xr; omega) (fun c1068 => ?_) (fun c1068 => (by exfalso; omega))
    refine x_iload (dT U_Lc9 43 rfl) rfl ?_
    refine x_if_nen (tgt := 1090) (dT U_Lc9 44 rfl) (by decide) (by decide) ?_
    refine x_aload_n (dT U_Lc9 45 rfl) rfl ?_
    refine x_iconst (dT U_Lc9 46 rfl) ?_
    refine x_laload 0 (dT U_Lc9 47 rfl) (ag.get (hset_eq (fc.get ho (by omega))) (by omega)) (Nat.le_of_ble_eq_true rfl) rfl (Nat.le_of_ble_eq_true rfl) (Nat.le_of_ble_eq_true rfl) ?_
    refine x_iload (dT U_Lc9 48 rfl) rfl ?_
    refine x_i2l (dT U_Lc9 49 rfl) hz9 ?_
    refine x_lcmp (dT U_Lc9 50 rfl) (xr_l hz9) (xr_l hz9) ?_
    refine x_if_eqj (tgt := 1090) (dT U_Lc9 51 rfl) (by decide) (xcmp_rf _) ?_
    refine x_goto (tgt := 5554) (dT U_Lc9 54 rfl) (by decide) ?_
    refine x_drop ?_ (M _ _ _ _ _ _ _ _ (IV_times v c1 c2) ((w2.out ((Ag.rf 143 143 h2).set (by omega)) (by omega)).out ag (by omega)) wx (ag.get (hset_eq (fc.get ho (by omega))) (by omega)) (ag.get (hset_ne (by omega) (fc.get hod (by omega))) (by omega)))
    repeat (first | exact trivial | refine ⟨rfl, ?_⟩ | refine ⟨trivial, ?_⟩)
