def B_Lc70 : ByteArray := .mk #[0x2b, 0x2a, 0x15, 0x05, 0x04, 0x60, 0x2e, 0x19, 0x04, 0xb8, 0x01, 0xd0, 0x36, 0x06, 0x2c, 0x2a, 0x15, 0x05, 0x04, 0x60, 0x2e, 0xb6, 0x01, 0xd3, 0x39, 0x07, 0x2c, 0xb6, 0x00, 0xf2, 0x15, 0x06, 0x9f, 0x00, 0x05, 0x03, 0xac, 0x15, 0x06, 0x9a, 0x00, 0x23, 0x19, 0x04, 0x03, 0x31, 0x18, 0x07, 0x97, 0x99, 0x00, 0x19, 0x19, 0x04, 0x03, 0x31, 0x19, 0x04, 0x03, 0x31, 0x97, 0x99, 0x00, 0x0b, 0x18, 0x07, 0x18, 0x07, 0x97, 0x9a, 0x00, 0x05, 0x03, 0xac, 0xa7, 0x00, 0x1e]
theorem W_Lc70 : sameFrom m_L_law.2.1 B_Lc70 5450 := sameFrom_of (by decide +kernel)
def t_Lc70 : List (Nat × Instr × Nat) := [(5450, .aload_n 1, 1), (5451, .aload_n 0, 1), (5452, .iload 5, 2), (5454, .iconst 1, 1), (5455, .iadd, 1), (5456, .iaload, 1), (5457, .aload 4, 2), (5459, .invokestatic 464, 3), (5462, .istore 6, 2), (5464, .aload_n 2, 1), (5465, .aload_n 0, 1), (5466, .iload 5, 2), (5468, .iconst 1, 1), (5469, .iadd, 1), (5470, .iaload, 1), (5471, .invokevirtual 467, 3), (5474, .dstore 7, 2), (5476, .aload_n 2, 1), (5477, .invokevirtual 242, 3), (5480, .iload 6, 2), (5482, .if_icmp .eq 5, 3), (5485, .iconst 0, 1), (5486, .ireturn, 1), (5487, .iload 6, 2), (5489, .ifCond .ne 35, 3), (5492, .aload 4, 2), (5494, .iconst 0, 1), (5495, .daload, 1), (5496, .dload 7, 2), (5498, .dcmp .l, 1), (5499, .ifCond .eq 25, 3), (5502, .aload 4, 2), (5504, .iconst 0, 1), (5505, .daload, 1), (5506, .aload 4, 2), (5508, .iconst 0, 1), (5509, .daload, 1), (5510, .dcmp .l, 1), (5511, .ifCond .eq 11, 3), (5514, .dload 7, 2), (5516, .dload 7, 2), (5518, .dcmp .l, 1), (5519, .ifCond .ne 5, 3), (5522, .iconst 0, 1), (5523, .ireturn, 1), (5524, .goto 30, 3)]
set_option maxRecDepth 20000 in
theorem U_Lc70 : okT m_L_law.2.1 t_Lc70 = true := dSt [(0, .aload_n 1, 1), (1, .aload_n 0, 1), (2, .iload 5, 2), (4, .iconst 1, 1), (5, .iadd, 1), (6, .iaload, 1), (7, .aload 4, 2), (9, .invokestatic 464, 3), (12, .istore 6, 2), (14, .aload_n 2, 1), (15, .aload_n 0, 1), (16, .iload 5, 2), (18, .iconst 1, 1), (19, .iadd, 1), (20, .iaload, 1), (21, .invokevirtual 467, 3), (24, .dstore 7, 2), (26, .aload_n 2, 1), (27, .invokevirtual 242, 3), (30, .iload 6, 2), (32, .if_icmp .eq 5, 3), (35, .iconst 0, 1), (36, .ireturn, 1), (37, .iload 6, 2), (39, .ifCond .ne 35, 3), (42, .aload 4, 2), (44, .iconst 0, 1), (45, .daload, 1), (46, .dload 7, 2), (48, .dcmp .l, 1), (49, .ifCond .eq 25, 3), (52, .aload 4, 2), (54, .iconst 0, 1), (55, .daload, 1), (56, .aload 4, 2), (58, .iconst 0, 1), (59, .daload, 1), (60, .dcmp .l, 1), (61, .ifCond .eq 11, 3), (64, .dload 7, 2), (66, .dload 7, 2), (68, .dcmp .l, 1), (69, .ifCond .ne 5, 3), (72, .iconst 0, 1), (73, .ireturn, 1), (74, .goto 30, 3)] W_Lc70 (by decide +kernel) (by decide +kernel)
set_option maxRecDepth 20000 in
set_option maxHeartbeats 1000000 in
theorem LC_70 {G : xG} {d rc rs : Nat} {ex : Bool} {h : xH} {Q : xQ} {σ : St} {c0 : Int} {rr : Nat} {ss : Int} {l0 : Int} {d0 : UInt64} {i : Nat} (hL : G.2.2.2.2.2.1 < 2147483648) (hi : i + 10 ≤ G.2.2.2.2.2.1) (w : CW σ h) (wm : MX σ c0 rr ss h) (v : INV σ) (ho : h[143]? = some (cJ [l0])) (hod : h[144]? = some (cD [d0]))
    (M : ∀ (σ9 : St) (h9 : xH) (e9 : Bool) (c9 : Int) (r9 : Nat) (s9 : Int) (l9 : Int) (d9 : UInt64), INV σ9 → CW σ9 h9 → MX σ9 c9 r9 s9 h9 → h9[143]? = some (cJ [l9]) → h9[144]? = some (cD [d9]) → X G m_L_law (d + 10) rc rs e9 5554 [some (.ref 0), some (.ref 3), some (.ref 70), some (.ref 143), some (.ref 144), some (vi (i : Int)), none, none, none] [] h9 Q) : X G m_L_law (d + 10) (rc + 1) (rs + 6) ex 5450 [some (.ref 0), some (.ref 3), some (.ref 70), some (.ref 143), some (.ref 144), some (vi (i : Int)), none, none, none] [] h Q := by
  refine x_aload_n (dT U_Lc70 0 rfl) rfl ?_
  refine x_aload_n (dT U_Lc70 1 rfl) rfl ?_
  refine x_iload (dT U_Lc70 2 rfl) rfl ?_
  refine x_iconst (dT U_Lc70 3 rfl) ?_
  refine x_iadd (dT U_Lc70 4 rfl) ?_
  refine x_sld (i + 1) hL (dT U_Lc70 5 rfl) (by omega) (by omega) ?_
  refine x_aload (dT U_Lc70 6 rfl) rfl ?_
  refine x_invokestaticT (rc' := rc) (rs' := rs) (rc2 := 0 + 1) (rs2 := 0 + 6) (As := [_, _, _]) (st := _) M_L_risk K_L_464 (dT U_Lc70 7 rfl) rfl (by decide) rfl rfl (Nat.le_of_ble_eq_true rfl) rfl (by decide) (Nat.le_of_ble_eq_true rfl) (by omega) (by omega) ?_
  refine S_L_risk w v (xr_s _) hod (fun c1 => ?_) (fun c1 => ?_)
  · refine xRet_some ?_
    refine x_istore (ls' := [some (.ref _), some (.ref _), some (.ref _), some (.ref _), some (.ref _), some (vi _), some (vi _), none, none]) (dT U_Lc70 8 rfl) (by decide) rfl ?_
    refine x_aload_n (dT U_Lc70 9 rfl) rfl ?_
    refine x_aload_n (dT U_Lc70 10 rfl) rfl ?_
    refine x_iload (dT U_Lc70 11 rfl) rfl ?_
    refine x_iconst (dT U_Lc70 12 rfl) ?_
    refine x_iadd (dT U_Lc70 13 rfl) ?_
    refine x_sld (i + 1) hL (dT U_Lc70 14 rfl) (by omega) (by omega) ?_
    refine x_invokevirtual (rc' := rc) (rs' := rs) (rc2 := 0) (rs2 := 0) (As := [_]) (st := _) M_X11_risk K_L_467 (dT U_Lc70 15 rfl) rfl rfl (by decide) rfl rfl wm.c70 (Nat.le_of_ble_eq_true rfl) (by decide) rfl (Nat.le_of_ble_eq_true rfl) rfl (by decide) (Nat.le_of_ble_eq_true rfl) rfl rfl ?_
    refine S_X11_risk wm v (xr_s _) (fun m1 h3 z ag wx => ?_) (fun m1 _ _ _ _ _ => absurd m1 c1)
    refine xRet_some ?_
    refine x_dstore (ls' := [some (.ref _), some (.ref _), some (.ref _), some (.ref _), some (.ref _), some (vi _), some (vi _), some (.double _), none]) (dT U_Lc70 16 rfl) (by decide) rfl ?_
    refine x_aload_n (dT U_Lc70 17 rfl) rfl ?_
    refine x_invokevirtual (rc' := rc) (rs' := rs) (rc2 := 0) (rs2 := 0) (As := []) (st := _) M_X11_thrown K_L_242 (dT U_Lc70 18 rfl) rfl rfl (by decide) rfl rfl wx.c70 (Nat.le_of_ble_eq_true rfl) (by decide) rfl (Nat.le_of_ble_eq_true rfl) rfl (by decide) (Nat.le_of_ble_eq_true rfl) rfl rfl ?_
    refine S_X11_thrown wx ?_
    refine xRet_some ?_
    refine x_iload (dT U_Lc70 19 rfl) rfl ?_
    refine x_icmp_eq (tgt := 5487) (dT U_Lc70 20 rfl) (by decide) (by unfold xr; omega) (by unfold xr; omega) (fun c5482 => ?_) (fun c5482 => (by exfalso; omega))
    refine x_iload (dT U_Lc70 23 rfl) rfl ?_
    refine x_if_nej (tgt := 5524) (dT U_Lc70 24 rfl) (by decide) (by decide) ?_
    refine x_goto (tgt := 5554) (dT U_Lc70 45 rfl) (by decide) ?_
    refine x_drop ?_ (M _ _ _ _ _ _ _ _ v (w.out ag (by omega)) wx (ag.get ho (by omega)) (ag.get hod (by omega)))
    repeat (first | exact trivial | refine ⟨rfl, ?_⟩ | refine ⟨trivial, ?_⟩)
  · refine xRet_some ?_
    have wmx := wm.out (h2 := (h.set 144 (cD [rkP σ.p (G.2.2.2.2.2.2 (i + 1)).toInt.toNat]))) (fun a ha => by rw [hset_fr (by omega)])
    refine x_istore (ls' := [some (.ref _), some (.ref _), some (.ref _), some (.ref _), some (.ref _), some (vi _), some (vi _), none, none]) (dT U_Lc70 8 rfl) (by decide) rfl ?_
    refine x_aload_n (dT U_Lc70 9 rfl) rfl ?_
    refine x_aload_n (dT U_Lc70 10 rfl) rfl ?_
    refine x_iload (dT U_Lc70 11 rfl) rfl ?_
    refine x_iconst (dT U_Lc70 12 rfl) ?_
    refine x_iadd (dT U_Lc70 13 rfl) ?_
    refine x_sld (i + 1) hL (dT U_Lc70 14 rfl) (by omega) (by omega) ?_
    refine x_invokevirtual (rc' := rc) (rs' := rs) (rc2 := 0) (rs2 := 0) (As := [_]) (st := _) M_X11_risk K_L_467 (dT U_Lc70 15 rfl) rfl rfl (by decide) rfl rfl wmx.c70 (Nat.le_of_ble_eq_true rfl) (by decide) rfl (Nat.le_of_ble_eq_true rfl) rfl (by decide) (Nat.le_of_ble_eq_true rfl) rfl rfl ?_
    refine S_X11_risk wmx v (xr_s _) (fun m1 _ _ _ _ => absurd c1 m1) (fun m1 h3 r3 s3 ag wx => ?_)
    refine xRet_some ?_
    refine x_dstore (ls' := [some (.ref _), some (.ref _), some (.ref _), some (.ref _), some (.ref _), some (vi _), some (vi _), some (.double _), none]) (dT U_Lc70 16 rfl) (by decide) rfl ?_
    refine x_aload_n (dT U_Lc70 17 rfl) rfl ?_
    refine x_invokevirtual (rc' := rc) (rs' := rs) (rc2 := 0) (rs2 := 0) (As := []) (st := _) M_X11_thrown K_L_242 (dT U_Lc70 18 rfl) rfl rfl (by decide) rfl rfl wx.c70 (Nat.le_of_ble_eq_true rfl) (by decide) rfl (Nat.le_of_ble_eq_true rfl) rfl (by decide) (Nat.le_of_ble_eq_true rfl) rfl rfl ?_
    refine S_X11_thrown wx ?_
    refine xRet_some ?_
    refine x_iload (dT U_Lc70 19 rfl) rfl ?_
    refine x_icmp_eq (tgt := 5487) (dT U_Lc70 20 rfl) (by decide) (by unfold xr; omega) (by unfold xr; omega) (fun c5482 => ?_) (fun c5482 => (by exfalso; omega))
    refine x_iload (dT U_Lc70 23 rfl) rfl ?_
    refine x_if_nen (tgt := 5524) (dT U_Lc70 24 rfl) (by decide) (by decide) ?_
    refine x_aload (dT U_Lc70 25 rfl) rfl ?_
    refine x_iconst (dT U_Lc70 26 rfl) ?_
    refine x_daload 0 (dT U_Lc70 27 rfl) (ag.get (hset_eq hod) (by omega)) (Nat.le_of_ble_eq_true rfl) rfl (Nat.le_of_ble_eq_true rfl) (Nat.le_of_ble_eq_true rfl) ?_
    refine x_dload (dT U_Lc70 28 rfl) rfl ?_
    refine x_dcmp (z := 0) (dT U_Lc70 29 rfl) (rk_ok1 σ.p v.p (G.2.2.2.2.2.2 (i + 1)).toInt.toNat (List.mem_range.mpr (by omega))).2 ?_
    refine x_if_eqj (tgt := 5524) (dT U_Lc70 30 rfl) (by decide) (by decide) ?_
    refine x_goto (tgt := 5554) (dT U_Lc70 45 rfl) (by decide) ?_
    refine x_drop ?_ (M _ _ _ _ _ _ _ _ v ((w.out ((Ag.rf 144 144 h).set (by omega)) (by omega)).out ag (by omega)) wx (ag.get (hset_ne (by omega) ho) (by omega)) (ag.get (hset_eq hod) (by omega)))
    repeat (first | exact trivial | refine ⟨rfl, ?_⟩ | refine ⟨trivial, ?_⟩)

def B_Lc71 : ByteArray := .mk #[0x2b, 0xb6, 0x01, 0xd4, 0x2c, 0xb6, 0x01, 0xd8, 0x94, 0x99, 0x00, 0x12, 0x03, 0xac]
theorem W_Lc71 : sameFrom m_L_law.2.1 B_Lc71 5527 := sameFrom_of (by decide +kernel)
def t_Lc71 : List (Nat × Instr × Nat) := [(5527, .aload_n 1, 1), (5528, .invokevirtual 468, 3), (5531, .aload_n 2, 1), (5532, .invokevirtual 472, 3), (5535, .lcmp, 1), (5536, .ifCond .eq 18, 3), (5539, .iconst 0, 1), (5540, .ireturn, 1)]
set_option maxRecDepth 20000 in
theorem U_Lc71 : okT m_L_law.2.1 t_Lc71 = true := dSt [(0, .aload_n 1, 1), (1, .invokevirtual 468, 3), (4, .aload_n 2, 1), (5, .invokevirtual 472, 3), (8, .lcmp, 1), (9, .ifCond .eq 18, 3), (12, .iconst 0, 1), (13, .ireturn, 1)] W_Lc71 (by decide +kernel) (by decide +kernel)
set_option maxRecDepth 20000 in
set_option maxHeartbeats 1000000 in
theorem LC_71 {G : xG} {d rc rs : Nat} {ex : Bool} {h : xH} {Q : xQ} {σ : St} {c0 : Int} {rr : Nat} {ss : Int} {l0 : Int} {d0 : UInt64} {i : Nat} (hL : G.2.2.2.2.2.1 < 2147483648) (hi : i + 10 ≤ G.2.2.2.2.2.1) (w : CW σ h) (wm : MX σ c0 rr ss h) (v : INV σ) (ho : h[143]? = some (cJ [l0])) (hod : h[144]? = some (cD [d0]))
    (M : ∀ (σ9 : St) (h9 : xH) (e9 : Bool) (c9 : Int) (r9 : Nat) (s9 : Int) (l9 : Int) (d9 : UInt64), INV σ9 → CW σ9 h9 → MX σ9 c9 r9 s9 h9 → h9[143]? = some (cJ [l9]) → h9[144]? = some (cD [d9]) → X G m_L_law (d + 10) rc rs e9 5554 [some (.ref 0), some (.ref 3), some (.ref 70), some (.ref 143), some (.ref 144), some (vi (i : Int)), none, none, none] [] h9 Q) : X G m_L_law (d + 10) (rc + 0) (rs + 0) ex 5527 [some (.ref 0), some (.ref 3), some (.ref 70), some (.ref 143), some (.ref 144), some (vi (i : Int)), none, none, none] [] h Q := by
  refine x_aload_n (dT U_Lc71 0 rfl) rfl ?_
  refine x_invokevirtual (rc' := rc) (rs' := rs) (rc2 := 0 + 0) (rs2 := 0 + 0) (As := []) (st := _) M_X10_checksum K_L_468 (dT U_Lc71 1 rfl) rfl rfl (by decide) rfl rfl w.c3 (Nat.le_of_ble_eq_true rfl) (by decide) rfl (Nat.le_of_ble_eq_true rfl) rfl (by decide) (Nat.le_of_ble_eq_true rfl) (by omega) (by omega) ?_
  refine S_X10_checksum w v  ?_
  · refine xRet_some ?_
    have wmx := wm
    refine x_nfl (fun z9 hz9 ez9 => ?_)
    refine x_aload_n (dT U_Lc71 2 rfl) rfl ?_
    refine x_invokevirtual (rc' := rc) (rs' := rs) (rc2 := 0) (rs2 := 0) (As := []) (st := _) M_X11_checksum K_L_472 (dT U_Lc71 3 rfl) rfl rfl (by decide) rfl rfl wmx.c70 (Nat.le_of_ble_eq_true rfl) (by decide) rfl (Nat.le_of_ble_eq_true rfl) rfl (by decide) (Nat.le_of_ble_eq_true rfl) rfl rfl ?_
    refine S_X11_checksum wmx v  (fun  h3 r3 s3 ag wx => ?_)
    refine xRet_some ?_
    rw [ez9]
    refine x_lcmp (dT U_Lc71 4 rfl) hz9 hz9 ?_
    refine x_if_eqj (tgt := 5554) (dT U_Lc71 5 rfl) (by decide) (xcmp_rf _) ?_
    refine x_drop ?_ (M _ _ _ _ _ _ _ _ v (w.out ag (by omega)) wx (ag.get ho (by omega)) (ag.get hod (by omega)))
    repeat (first | exact trivial | refine ⟨rfl, ?_⟩ | refine ⟨trivial, ?_⟩)

def B_Lc41 : ByteArray := .mk #[0x2b, 0x2a, 0x15, 0x05, 0x04, 0x60, 0x2e, 0x2a, 0x15, 0x05, 0x05, 0x60, 0x2e, 0x2a, 0x15, 0x05, 0x06, 0x60, 0x2e, 0x99, 0x00, 0x07, 0x04, 0xa7, 0x00, 0x04, 0x03, 0x2d, 0xb8, 0x01, 0x74, 0x36, 0x06, 0x2c, 0x2a, 0x15, 0x05, 0x04, 0x60, 0x2e, 0x2a, 0x15, 0x05, 0x05, 0x60, 0x2e, 0x2a, 0x15, 0x05, 0x06, 0x60, 0x2e, 0x99, 0x00, 0x07, 0x04, 0xa7, 0x00, 0x04, 0x03, 0xb6, 0x01, 0x77, 0x36, 0x07, 0x2c, 0xb6, 0x00, 0xf2, 0x15, 0x06, 0x9f, 0x00, 0x05, 0x03, 0xac, 0x15, 0x06, 0x9a, 0x00, 0x0f, 0x2d, 0x03, 0x2f, 0x15, 0x07, 0x85, 0x94, 0x99, 0x00, 0x05, 0x03, 0xac, 0xa7, 0x07, 0xbb]
theorem W_Lc41 : sameFrom m_L_law.2.1 B_Lc41 3482 := sameFrom_of (by decide +kernel)
def t_Lc41 : List (Nat × Instr × Nat) := [(3482, .aload_n 1, 1), (3483, .aload_n 0, 1), (3484, .iload 5, 2), (3486, .iconst 1, 1), (3487, .iadd, 1), (3488, .iaload, 1), (3489, .aload_n 0, 1), (3490, .iload 5, 2), (3492, .iconst 2, 1), (3493, .iadd, 1), (3494, .iaload, 1), (3495, .aload_n 0, 1), (3496, .iload 5, 2), (3498, .iconst 3, 1), (3499, .iadd, 1), (3500, .iaload, 1), (3501, .ifCond .eq 7, 3), (3504, .iconst 1, 1), (3505, .goto 4, 3), (3508, .iconst 0, 1), (3509, .aload_n 3, 1), (3510, .invokestatic 372, 3), (3513, .istore 6, 2), (3515, .aload_n 2, 1), (3516, .aload_n 0, 1), (3517, .iload 5, 2), (3519, .iconst 1, 1), (3520, .iadd, 1), (3521, .iaload, 1), (3522, .aload_n 0, 1), (3523, .iload 5, 2), (3525, .iconst 2, 1), (3526, .iadd, 1), (3527, .iaload, 1), (3528, .aload_n 0, 1), (3529, .iload 5, 2), (3531, .iconst 3, 1), (3532, .iadd, 1), (3533, .iaload, 1), (3534, .ifCond .eq 7, 3), (3537, .iconst 1, 1), (3538, .goto 4, 3), (3541, .iconst 0, 1), (3542, .invokevirtual 375, 3), (3545, .istore 7, 2), (3547, .aload_n 2, 1), (3548, .invokevirtual 242, 3), (3551, .iload 6, 2), (3553, .if_icmp .eq 5, 3), (3556, .iconst 0, 1), (3557, .ireturn, 1), (3558, .iload 6, 2), (3560, .ifCond .ne 15, 3), (3563, .aload_n 3, 1), (3564, .iconst 0, 1), (3565, .laload, 1), (3566, .iload 7, 2), (3568, .i2l, 1), (3569, .lcmp, 1), (3570, .ifCond .eq 5, 3), (3573, .iconst 0, 1), (3574, .ireturn, 1), (3575, .goto 1979, 3)]
set_option maxRecDepth 20000 in
theorem U_Lc41 : okT m_L_law.2.1 t_Lc41 = true := dSt [(0, .aload_n 1, 1), (1, .aload_n 0, 1), (2, .iload 5, 2), (4, .iconst 1, 1), (5, .iadd, 1), (6, .iaload, 1), (7, .aload_n 0, 1), (8, .iload 5, 2), (10, .iconst 2, 1), (11, .iadd, 1), (12, .iaload, 1), (13, .aload_n 0, 1), (14, .iload 5, 2), (16, .iconst 3, 1), (17, .iadd, 1), (18, .iaload, 1), (19, .ifCond .eq 7, 3), (22, .iconst 1, 1), (23, .goto 4, 3), (26, .iconst 0, 1), (27, .aload_n 3, 1), (28, .invokestatic 372, 3), (31, .istore 6, 2), (33, .aload_n 2, 1), (34, .aload_n 0, 1), (35, .iload 5, 2), (37, .iconst 1, 1), (38, .iadd, 1), (39, .iaload, 1), (40, .aload_n 0, 1), (41, .iload 5, 2), (43, .iconst 2, 1), (44, .iadd, 1), (45, .iaload, 1), (46, .aload_n 0, 1), (47, .iload 5, 2), (49, .iconst 3, 1), (50, .iadd, 1), (51, .iaload, 1), (52, .ifCond .eq 7, 3), (55, .iconst 1, 1), (56, .goto 4, 3), (59, .iconst 0, 1), (60, .invokevirtual 375, 3), (63, .istore 7, 2), (65, .aload_n 2, 1), (66, .invokevirtual 242, 3), (69, .iload 6, 2), (71, .if_icmp .eq 5, 3), (74, .iconst 0, 1), (75, .ireturn, 1), (76, .iload 6, 2), (78, .ifCond .ne 15, 3), (81, .aload_n 3, 1), (82, .iconst 0, 1), (83, .laload, 1), (84, .iload 7, 2), (86, .i2l, 1), (87, .lcmp, 1), (88, .ifCond .eq 5, 3), (91, .iconst 0, 1), (92, .ireturn, 1), (93, .goto 1979, 3)] W_Lc41 (by decide +kernel) (by decide +kernel)
set_option maxRecDepth 20000 in
set_option maxHeartbeats 1000000 in
theorem LC_41 {G : xG} {d rc rs : Nat} {ex : Bool} {h : xH} {Q : xQ} {σ : St} {c0 : Int} {rr : Nat} {ss : Int} {l0 : Int} {d0 : UInt64} {i : Nat} (hL : G.2.2.2.2.2.1 < 2147483648) (hi : i + 10 ≤ G.2.2.2.2.2.1) (w : CW σ h) (wm : MX σ c0 rr ss h) (v : INV σ) (ho : h[143]? = some (cJ [l0])) (hod : h[144]? = some (cD [d0]))
    (M : ∀ (σ9 : St) (h9 : xH) (e9 : Bool) (c9 : Int) (r9 : Nat) (s9 : Int) (l9 : Int) (d9 : UInt64), INV σ9 → CW σ9 h9 → MX σ9 c9 r9 s9 h9 → h9[143]? = some (cJ [l9]) → h9[144]? = some (cD [d9]) → X G m_L_law (d + 10) rc rs e9 5554 [some (.ref 0), some (.ref 3), some (.ref 70), some (.ref 143), some (.ref 144), some (vi (i : Int)), none, none, none] [] h9 Q) : X G m_L_law (d + 10) (rc + 4) (rs + 24) ex 3482 [some (.ref 0), some (.ref 3), some (.ref 70), some (.ref 143), some (.ref 144), some (vi (i : Int)), none, none, none] [] h Q := by
  refine x_aload_n (dT U_Lc41 0 rfl) rfl ?_
  refine x_aload_n (dT U_Lc41 1 rfl) rfl ?_
  refine x_iload (dT U_Lc41 2 rfl) rfl ?_
  refine x_iconst (dT U_Lc41 3 rfl) ?_
  refine x_iadd (dT U_Lc41 4 rfl) ?_
  refine x_sld (i + 1) hL (dT U_Lc41 5 rfl) (by omega) (by omega) ?_
  refine x_aload_n (dT U_Lc41 6 rfl) rfl ?_
  refine x_iload (dT U_Lc41 7 rfl) rfl ?_
  refine x_iconst (dT U_Lc41 8 rfl) ?_
  refine x_iadd (dT U_Lc41 9 rfl) ?_
  refine x_sld (i + 2) hL (dT U_Lc41 10 rfl) (by omega) (by omega) ?_
  refine x_aload_n (dT U_Lc41 11 rfl) rfl ?_
  refine x_iload (dT U_Lc41 12 rfl) rfl ?_
  refine x_iconst (dT U_Lc41 13 rfl) ?_
  refine x_iadd (dT U_Lc41 14 rfl) ?_
  refine x_sld (i + 3) hL (dT U_Lc41 15 rfl) (by omega) (by omega) ?_
  refine x_if_eq (tgt := 3508) (dT U_Lc41 16 rfl) (by decide) (xr_s _) (fun cA => ?_) (fun cA => ?_)
  · skip
    refine x_iconst (dT U_Lc41 19 rfl) ?_
    refine x_aload_n (dT U_Lc41 20 rfl) rfl ?_
    refine x_invokestaticT (rc' := rc) (rs' := rs) (rc2 := 0 + 4) (rs2 := 0 + 24) (As := [_, _, _, _, _]) (st := _) M_L_form K_L_372 (dT U_Lc41 21 rfl) rfl (by decide) rfl rfl (Nat.le_of_ble_eq_true rfl) rfl (by decide) (Nat.le_of_ble_eq_true rfl) (by omega) (by omega) ?_
    refine S_L_form w v (xr_s _) (xr_s _) (by decide) ho (fun c1 => ?_) (fun c1 c2 => ?_) (fun c1 c2 z9 hz9 ez9 => ?_)
    · refine xRet_some ?_
      refine x_istore (ls' := [some (.ref _), some (.ref _), some (.ref _), some (.ref _), some (.ref _), some (vi _), some (vi _), none, none]) (dT U_Lc41 22 rfl) (by decide) rfl ?_
      refine x_aload_n (dT U_Lc41 23 rfl) rfl ?_
      refine x_aload_n (dT U_Lc41 24 rfl) rfl ?_
      refine x_iload (dT U_Lc41 25 rfl) rfl ?_
      refine x_iconst (dT U_Lc41 26 rfl) ?_
      refine x_iadd (dT U_Lc41 27 rfl) ?_
      refine x_sld (i + 1) hL (dT U_Lc41 28 rfl) (by omega) (by omega) ?_
      refine x_aload_n (dT U_Lc41 29 rfl) rfl ?_
      refine x_iload (dT U_Lc41 30 rfl) rfl ?_
      refine x_iconst (dT U_Lc41 31 rfl) ?_
      refine x_iadd (dT U_Lc41 32 rfl) ?_
      refine x_sld (i + 2) hL (dT U_Lc41 33 rfl) (by omega) (by omega) ?_
      refine x_aload_n (dT U_Lc41 34 rfl) rfl ?_
      refine x_iload (dT U_Lc41 35 rfl) rfl ?_
      refine x_iconst (dT U_Lc41 36 rfl) ?_
      refine x_iadd (dT U_Lc41 37 rfl) ?_
      refine x_sld (i + 3) hL (dT U_Lc41 38 rfl) (by omega) (by omega) ?_
      refine x_if_eq (tgt := 3541) (dT U_Lc41 39 rfl) (by decide) (xr_s _) (fun _ => ?_) (fun z => absurd cA z)
      refine x_iconst (dT U_Lc41 42 rfl) ?_
      refine x_invokevirtual (rc' := rc) (rs' := rs) (rc2 := 0) (rs2 := 0) (As := [_, _, _]) (st := _) M_X11_form K_L_375 (dT U_Lc41 43 rfl) rfl rfl (by decide) rfl rfl wm.c70 (Nat.le_of_ble_eq_true rfl) (by decide) rfl (Nat.le_of_ble_eq_true rfl) rfl (by decide) (Nat.le_of_ble_eq_true rfl) rfl rfl ?_
      refine S_X11_form wm v (xr_s _) (xr_s _) (by decide) (fun m1 h3 z ag wx xz => ?_) (fun m1 m2 _ _ _ _ _ => absurd m1 c1) (fun m1 m2 _ _ _ _ _ => absurd m1 c1)
      refine xRet_some ?_
      refine x_istore (ls' := [some (.ref _), some (.ref _), some (.ref _), some (.ref _), some (.ref _), some (vi _), some (vi _), some (vi _), none]) (dT U_Lc41 44 rfl) (by decide) rfl ?_
      refine x_aload_n (dT U_Lc41 45 rfl) rfl ?_
      refine x_invokevirtual (rc' := rc) (rs' := rs) (rc2 := 0) (rs2 := 0) (As := []) (st := _) M_X11_thrown K_L_242 (dT U_Lc41 46 rfl) rfl rfl (by decide) rfl rfl wx.c70 (Nat.le_of_ble_eq_true rfl) (by decide) rfl (Nat.le_of_ble_eq_true rfl) rfl (by decide) (Nat.le_of_ble_eq_true rfl) rfl rfl ?_
      refine S_X11_thrown wx ?_
      refine xRet_some ?_
      refine x_iload (dT U_Lc41 47 rfl) rfl ?_
      refine x_icmp_eq (tgt := 3558) (dT U_Lc41 48 rfl) (by decide) (by unfold xr; omega) (by unfold xr; omega) (fun c3553 => ?_) (fun c3553 => (by exfalso; omega))
      refine x_iload (dT U_Lc41 51 rfl) rfl ?_
      refine x_if_nej (tgt := 3575) (dT U_Lc41 52 rfl) (by decide) (by decide) ?_
      refine x_goto (tgt := 5554) (dT U_Lc41 62 rfl) (by decide) ?_
      refine x_drop ?_ (M _ _ _ _ _ _ _ _ v (w.out ag (by omega)) wx (ag.get ho (by omega)) (ag.get hod (by omega)))
      repeat (first | exact trivial | refine ⟨rfl, ?_⟩ | refine ⟨trivial, ?_⟩)
    · refine xRet_some ?_
      refine x_istore (ls' := [some (.ref _), some (.ref _), some (.ref _), some (.ref _), some (.ref _), some (vi _), some (vi _), none, none]) (dT U_Lc41 22 rfl) (by decide) rfl ?_
      refine x_aload_n (dT U_Lc41 23 rfl) rfl ?_
      refine x_aload_n (dT U_Lc41 24 rfl) rfl ?_
      refine x_iload (dT U_Lc41 25 rfl) rfl ?_
      refine x_iconst (dT U_Lc41 26 rfl) ?_
      refine x_iadd (dT U_Lc41 27 rfl) ?_
      refine x_sld (i + 1) hL (dT U_Lc41 28 rfl) (by omega) (by omega) ?_
      refine x_aload_n (dT U_Lc41 29 rfl) rfl ?_
      refine x_iload (dT U_Lc41 30 rfl) rfl ?_
      refine x_iconst (dT U_Lc41 31 rfl) ?_
      refine x_iadd (dT U_Lc41 32 rfl) ?_
      refine x_sld (i + 2) hL (dT U_Lc41 33 rfl) (by omega) (by omega) ?_
      refine x_aload_n (dT U_Lc41 34 rfl) rfl ?_
      refine x_iload (dT U_Lc41 35 rfl) rfl ?_
      refine x_iconst (dT U_Lc41 36 rfl) ?_
      refine x_iadd (dT U_Lc41 37 rfl) ?_
      refine x_sld (i + 3) hL (dT U_Lc41 38 rfl) (by omega) (by omega) ?_
      refine x_if_eq (tgt := 3541) (dT U_Lc41 39 rfl) (by decide) (xr_s _) (fun _ => ?_) (fun z => absurd cA z)
      refine x_iconst (dT U_Lc41 42 rfl) ?_
      refine x_invokevirtual (rc' := rc) (rs' := rs) (rc2 := 0) (rs2 := 0) (As := [_, _, _]) (st := _) M_X11_form K_L_375 (dT U_Lc41 43 rfl) rfl rfl (by decide) rfl rfl wm.c70 (Nat.le_of_ble_eq_true rfl) (by decide) rfl (Nat.le_of_ble_eq_true rfl) rfl (by decide) (Nat.le_of_ble_eq_true rfl) rfl rfl ?_
      refine S_X11_form wm v (xr_s _) (xr_s _) (by decide) (fun m1 _ _ _ _ _ => absurd c1 m1) (fun m1 m2 h3 z ag wx xz => ?_) (fun m1 m2 _ _ _ _ _ => absurd m2 c2)
      refine xRet_some ?_
      refine x_istore (ls' := [some (.ref _), some (.ref _), some (.ref _), some (.ref _), some (.ref _), some (vi _), some (vi _), some (vi _), none]) (dT U_Lc41 44 rfl) (by decide) rfl ?_
      refine x_aload_n (dT U_Lc41 45 rfl) rfl ?_
      refine x_invokevirtual (rc' := rc) (rs' := rs) (rc2 := 0) (rs2 := 0) (As := []) (st := _) M_X11_thrown K_L_242 (dT U_Lc41 46 rfl) rfl rfl (by decide) rfl rfl wx.c70 (Nat.le_of_ble_eq_true rfl) (by decide) rfl (Nat.le_of_ble_eq_true rfl) rfl (by decide) (Nat.le_of_ble_eq_true rfl) rfl rfl ?_
      refine S_X11_thrown wx ?_
      refine xRet_some ?_
      refine x_iload (dT U_Lc41 47 rfl) rfl ?_
      refine x_icmp_eq (tgt := 3558) (dT U_Lc41 48 rfl) (by decide) (by unfold xr; omega) (by unfold xr; omega) (fun c3553 => ?_) (fun c3553 => (by exfalso; omega))
      refine x_iload (dT U_Lc41 51 rfl) rfl ?_
      refine x_if_ne (tgt := 3575) (dT U_Lc41 52 rfl) (by decide) (by unfold xr; omega) (fun c3560 => ?_) (fun c3560 => (by exfalso; omega))
      refine x_goto (tgt := 5554) (dT U_Lc41 62 rfl) (by decide) ?_
      refine x_drop ?_ (M _ _ _ _ _ _ _ _ v (w.out ag (by omega)) wx (ag.get ho (by omega)) (ag.get hod (by omega)))
      repeat (first | exact trivial | refine ⟨rfl, ?_⟩ | refine ⟨trivial, ?_⟩)
    · refine xRet_some ?_
      have wmx := wm.out (h2 := (h.set 143 (cJ [z9]))) (fun a ha => by rw [hset_fr (by omega)])
      refine x_istore (ls' := [some (.ref _), some (.ref _), some (.ref _), some (.ref _), some (.ref _), some (vi _), some (vi _), none, none]) (dT U_Lc41 22 rfl) (by decide) rfl ?_
      refine x_aload_n (dT U_Lc41 23 rfl) rfl ?_
      refine x_aload_n (dT U_Lc41 24 rfl) rfl ?_
      refine x_iload (dT U_Lc41 25 rfl) rfl ?_
      refine x_iconst (dT U_Lc41 26 rfl) ?_
      refine x_iadd (dT U_Lc41 27 rfl) ?_
      refine x_sld (i + 1) hL (dT U_Lc41 28 rfl) (by omega) (by omega) ?_
      refine x_aload_n (dT U_Lc41 29 rfl) rfl ?_
      refine x_iload (dT U_Lc41 30 rfl) rfl ?_
      refine x_iconst (dT U_Lc41 31 rfl) ?_
      refine x_iadd (dT U_Lc41 32 rfl) ?_
      refine x_sld (i + 2) hL (dT U_Lc41 33 rfl) (by omega) (by omega) ?_
      refine x_aload_n (dT U_Lc41 34 rfl) rfl ?_
      refine x_iload (dT U_Lc41 35 rfl) rfl ?_
      refine x_iconst (dT U_Lc41 36 rfl) ?_
      refine x_iadd (dT U_Lc41 37 rfl) ?_
      refine x_sld (i + 3) hL (dT U_Lc41 38 rfl) (by omega) (by omega) ?_
      refine x_if_eq (tgt := 3541) (dT U_Lc41 39 rfl) (by decide) (xr_s _) (fun _ => ?_) (fun z => absurd cA z)
      refine x_iconst (dT U_Lc41 42 rfl) ?_
      refine x_invokevirtual (rc' := rc) (rs' := rs) (rc2 := 0) (rs2 := 0) (As := [_, _, _]) (st := _) M_X11_form K_L_375 (dT U_Lc41 43 rfl) rfl rfl (by decide) rfl rfl wmx.c70 (Nat.le_of_ble_eq_true rfl) (by decide) rfl (Nat.le_of_ble_eq_true rfl) rfl (by decide) (Nat.le_of_ble_eq_true rfl) rfl rfl ?_
      refine S_X11_form wmx v (xr_s _) (xr_s _) (by decide) (fun m1 _ _ _ _ _ => absurd c1 m1) (fun m1 m2 _ _ _ _ _ => absurd c2 m2) (fun m1 m2 h3 r3 s3 ag wx => ?_)
      refine xRet_some ?_
      rw [ez9]
      refine x_istore (ls' := [some (.ref _), some (.ref _), some (.ref _), some (.ref _), some (.ref _), some (vi _), some (vi _), some (vi _), none]) (dT U_Lc41 44 rfl) (by decide) rfl ?_
      refine x_aload_n (dT U_Lc41 45 rfl) rfl ?_
      refine x_invokevirtual (rc' := rc) (rs' := rs) (rc2 := 0) (rs2 := 0) (As := []) (st := _) M_X11_thrown K_L_242 (dT U_Lc41 46 rfl) rfl rfl (by decide) rfl rfl wx.c70 (Nat.le_of_ble_eq_true rfl) (by decide) rfl (Nat.le_of_ble_eq_true rfl) rfl (by decide) (Nat.le_of_ble_eq_true rfl) rfl rfl ?_
      refine S_X11_thrown wx ?_
      refine xRet_some ?_
      refine x_iload (dT U_Lc41 47 rfl) rfl ?_
      refine x_icmp_eq (tgt := 3558) (dT U_Lc41 48 rfl) (by decide) (by unfold xr; omega) (by unfold xr; omega) (fun c3553 => ?_) (fun c3553 => (by exfalso; omega))
      refine x_iload (dT U_Lc41 51 rfl) rfl ?_
      refine x_if_nen (tgt := 3575) (dT U_Lc41 52 rfl) (by decide) (by decide) ?_
      refine x_aload_n (dT U_Lc41 53 rfl) rfl ?_
      refine x_iconst (dT U_Lc41 54 rfl) ?_
      refine x_laload 0 (dT U_Lc41 55 rfl) (ag.get (hset_eq ho) (by omega)) (Nat.le_of_ble_eq_true rfl) rfl (Nat.le_of_ble_eq_true rfl) (Nat.le_of_ble_eq_true rfl) ?_
      refine x_iload (dT U_Lc41 56 rfl) rfl ?_
      refine x_i2l (dT U_Lc41 57 rfl) hz9 ?_
      refine x_lcmp (dT U_Lc41 58 rfl) (xr_l hz9) (xr_l hz9) ?_
      refine x_if_eqj (tgt := 3575) (dT U_Lc41 59 rfl) (by decide) (xcmp_rf _) ?_
      refine x_goto (tgt := 5554) (dT U_Lc41 62 rfl) (by decide) ?_
      refine x_drop ?_ (M _ _ _ _ _ _ _ _ v ((w.out ((Ag.rf 143 143 h).set (by omega)) (by omega)).out ag (by omega)) wx (ag.get (hset_eq ho) (by omega)) (ag.get (hset_ne (by omega) hod) (by omega)))
      repeat (first | exact trivial | refine ⟨rfl, ?_⟩ | refine ⟨trivial, ?_⟩)
  · skip
    refine x_iconst (dT U_Lc41 17 rfl) ?_
    refine x_goto (tgt := 3509) (dT U_Lc41 18 rfl) (by decide) ?_
    refine x_aload_n (dT U_Lc41 20 rfl) rfl ?_
    refine x_invokestaticT (rc' := rc) (rs' := rs) (rc2 := 0 + 4) (rs2 := 0 + 24) (As := [_, _, _, _, _]) (st := _) M_L_form K_L_372 (dT U_Lc41 21 rfl) rfl (by decide) rfl rfl (Nat.le_of_ble_eq_true rfl) rfl (by decide) (Nat.le_of_ble_eq_true rfl) (by omega) (by omega) ?_
    refine S_L_form w v (xr_s _) (xr_s _) (by decide) ho (fun c1 => ?_) (fun c1 c2 => ?_) (fun c1 c2 z9 hz9 ez9 => ?_)
    · refine xRet_some ?_
      refine x_istore (ls' := [some (.ref _), some (.ref _), some (.ref _), some (.ref _), some (.ref _), some (vi _), some (vi _), none, none]) (dT U_Lc41 22 rfl) (by decide) rfl ?_
      refine x_aload_n (dT U_Lc41 23 rfl) rfl ?_
      refine x_aload_n (dT U_Lc41 24 rfl) rfl ?_
      refine x_iload (dT U_Lc41 25 rfl) rfl ?_
      refine x_iconst (dT U_Lc41 26 rfl) ?_
      refine x_iadd (dT U_Lc41 27 rfl) ?_
      refine x_sld (i + 1) hL (dT U_Lc41 28 rfl) (by omega) (by omega) ?_
      refine x_aload_n (dT U_Lc41 29 rfl) rfl ?_
      refine x_iload (dT U_Lc41 30 rfl) rfl ?_
      refine x_iconst (dT U_Lc41 31 rfl) ?_
      refine x_iadd (dT U_Lc41 32 rfl) ?_
      refine x_sld (i + 2) hL (dT U_Lc41 33 rfl) (by omega) (by omega) ?_
      refine x_aload_n (dT U_Lc41 34 rfl) rfl ?_
      refine x_iload (dT U_Lc41 35 rfl) rfl ?_
      refine x_iconst (dT U_Lc41 36 rfl) ?_
      refine x_iadd (dT U_Lc41 37 rfl) ?_
      refine x_sld (i + 3) hL (dT U_Lc41 38 rfl) (by omega) (by omega) ?_
      refine x_if_eq (tgt := 3541) (dT U_Lc41 39 rfl) (by decide) (xr_s _) (fun z => absurd z cA) (fun _ => ?_)
      refine x_iconst (dT U_Lc41 40 rfl) ?_
      refine x_goto (tgt := 3542) (dT U_Lc41 41 rfl) (by decide) ?_
      refine x_invokevirtual (rc' := rc) (rs' := rs) (rc2 := 0) (rs2 := 0) (As := [_, _, _]) (st := _) M_X11_form K_L_375 (dT U_Lc41 43 rfl) rfl rfl (by decide) rfl rfl wm.c70 (Nat.le_of_ble_eq_true rfl) (by decide) rfl (Nat.le_of_ble_eq_true rfl) rfl (by decide) (Nat.le_of_ble_eq_true rfl) rfl rfl ?_
      refine S_X11_form wm v (xr_s _) (xr_s _) (by decide) (fun m1 h3 z ag wx xz => ?_) (fun m1 m2 _ _ _ _ _ => absurd m1 c1) (fun m1 m2 _ _ _ _ _ => absurd m1 c1)
      refine xRet_some ?_
      refine x_istore (ls' := [some (.ref _), some (.ref _), some (.ref _), some (.ref _), some (.ref _), some (vi _), some (vi _), some (vi _), none]) (dT U_Lc41 44 rfl) (by decide) rfl ?_
      refine x_aload_n (dT U_Lc41 45 rfl) rfl ?_
      refine x_invokevirtual (rc' := rc) (rs' := rs) (rc2 := 0) (rs2 := 0) (As := []) (st := _) M_X11_thrown K_L_242 (dT U_Lc41 46 rfl) rfl rfl (by decide) rfl rfl wx.c70 (Nat.le_of_ble_eq_true rfl) (by decide) rfl (Nat.le_of_ble_eq_true rfl) rfl (by decide) (Nat.le_of_ble_eq_true rfl) rfl rfl ?_
      refine S_X11_thrown wx ?_
      refine xRet_some ?_
      refine x_iload (dT U_Lc41 47 rfl) rfl ?_
      refine x_icmp_eq (tgt := 3558) (dT U_Lc41 48 rfl) (by decide) (by unfold xr; omega) (by unfold xr; omega) (fun c3553 => ?_) (fun c3553 => (by exfalso; omega))
      refine x_iload (dT U_Lc41 51 rfl) rfl ?_
      refine x_if_nej (tgt := 3575) (dT U_Lc41 52 rfl) (by decide) (by decide) ?_
      refine x_goto (tgt := 5554) (dT U_Lc41 62 rfl) (by decide) ?_
      refine x_drop ?_ (M _ _ _ _ _ _ _ _ v (w.out ag (by omega)) wx (ag.get ho (by omega)) (ag.get hod (by omega)))
      repeat (first | exact trivial | refine ⟨rfl, ?_⟩ | refine ⟨trivial, ?_⟩)
    · refine xRet_some ?_
      refine x_istore (ls' := [some (.ref _), some (.ref _), some (.ref _), some (.ref _), some (.ref _), some (vi _), some (vi _), none, none]) (dT U_Lc41 22 rfl) (by decide) rfl ?_
      refine x_aload_n (dT U_Lc41 23 rfl) rfl ?_
      refine x_aload_n (dT U_Lc41 24 rfl) rfl ?_
      refine x_iload (dT U_Lc41 25 rfl) rfl ?_
      refine x_iconst (dT U_Lc41 26 rfl) ?_
      refine x_iadd (dT U_Lc41 27 rfl) ?_
      refine x_sld (i + 1) hL (dT U_Lc41 28 rfl) (by omega) (by omega) ?_
      refine x_aload_n (dT U_Lc41 29 rfl) rfl ?_
      refine x_iload (dT U_Lc41 30 rfl) rfl ?_
      refine x_iconst (dT U_Lc41 31 rfl) ?_
      refine x_iadd (dT U_Lc41 32 rfl) ?_
      refine x_sld (i + 2) hL (dT U_Lc41 33 rfl) (by omega) (by omega) ?_
      refine x_aload_n (dT U_Lc41 34 rfl) rfl ?_
      refine x_iload (dT U_Lc41 35 rfl) rfl ?_
      refine x_iconst (dT U_Lc41 36 rfl) ?_
      refine x_iadd (dT U_Lc41 37 rfl) ?_
      refine x_sld (i + 3) hL (dT U_Lc41 38 rfl) (by omega) (by omega) ?_
      refine x_if_eq (tgt := 3541) (dT U_Lc41 39 rfl) (by decide) (xr_s _) (fun z => absurd z cA) (fun _ => ?_)
      refine x_iconst (dT U_Lc41 40 rfl) ?_
      refine x_goto (tgt := 3542) (dT U_Lc41 41 rfl) (by decide) ?_
      refine x_invokevirtual (rc' := rc) (rs' := rs) (rc2 := 0) (rs2 := 0) (As := [_, _, _]) (st := _) M_X11_form K_L_375 (dT U_Lc41 43 rfl) rfl rfl (by decide) rfl rfl wm.c70 (Nat.le_of_ble_eq_true rfl) (by decide) rfl (Nat.le_of_ble_eq_true rfl) rfl (by decide) (Nat.le_of_ble_eq_true rfl) rfl rfl ?_
      refine S_X11_form wm v (xr_s _) (xr_s _) (by decide) (fun m1 _ _ _ _ _ => absurd c1 m1) (fun m1 m2 h3 z ag wx xz => ?_) (fun m1 m2 _ _ _ _ _ => absurd m2 c2)
      refine xRet_some ?_
      refine x_istore (ls' := [some (.ref _), some (.ref _), some (.ref _), some (.ref _), some (.ref _), some (vi _), some (vi _), some (vi _), none]) (dT U_Lc41 44 rfl) (by decide) rfl ?_
      refine x_aload_n (dT U_Lc41 45 rfl) rfl ?_
      refine x_invokevirtual (rc' := rc) (rs' := rs) (rc2 := 0) (rs2 := 0) (As := []) (st := _) M_X11_thrown K_L_242 (dT U_Lc41 46 rfl) rfl rfl (by decide) rfl rfl wx.c70 (Nat.le_of_ble_eq_true rfl) (by decide) rfl (Nat.le_of_ble_eq_true rfl) rfl (by decide) (Nat.le_of_ble_eq_true rfl) rfl rfl ?_
      refine S_X11_thrown wx ?_
      refine xRet_some ?_
      refine x_iload (dT U_Lc41 47 rfl) rfl ?_
      refine x_icmp_eq (tgt := 3558) (dT U_Lc41 48 rfl) (by decide) (by unfold xr; omega) (by unfold xr; omega) (fun c3553 => ?_) (fun c3553 => (by exfalso; omega))
      refine x_iload (dT U_Lc41 51 rfl) rfl ?_
      refine x_if_ne (tgt := 3575) (dT U_Lc41 52 rfl) (by decide) (by unfold xr; omega) (fun c3560 => ?_) (fun c3560 => (by exfalso; omega))
      refine x_goto (tgt := 5554) (dT U_Lc41 62 rfl) (by decide) ?_
      refine x_drop ?_ (M _ _ _ _ _ _ _ _ v (w.out ag (by omega)) wx (ag.get ho (by omega)) (ag.get hod (by omega)))
      repeat (first | exact trivial | refine ⟨rfl, ?_⟩ | refine ⟨trivial, ?_⟩)
    · refine xRet_some ?_
      have wmx := wm.out (h2 := (h.set 143 (cJ [z9]))) (fun a ha => by rw [hset_fr (by omega)])
      refine x_istore (ls' := [some (.ref _), some (.ref _), some (.ref _), some (.ref _), some (.ref _), some (vi _), some (vi _), none, none]) (dT U_Lc41 22 rfl) (by decide) rfl ?_
      refine x_aload_n (dT U_Lc41 23 rfl) rfl ?_
      refine x_aload_n (dT U_Lc41 24 rfl) rfl ?_
      refine x_iload (dT U_Lc41 25 rfl) rfl ?_
      refine x_iconst (dT U_Lc41 26 rfl) ?_
      refine x_iadd (dT U_Lc41 27 rfl) ?_
      refine x_sld (i + 1) hL (dT U_Lc41 28 rfl) (by omega) (by omega) ?_
      refine x_aload_n (dT U_Lc41 29 rfl) rfl ?_
      refine x_iload (dT U_Lc41 30 rfl) rfl ?_
      refine x_iconst (dT U_Lc41 31 rfl) ?_
      refine x_iadd (dT U_Lc41 32 rfl) ?_
      refine x_sld (i + 2) hL (dT U_Lc41 33 rfl) (by omega) (by omega) ?_
      refine x_aload_n (dT U_Lc41 34 rfl) rfl ?_
      refine x_iload (dT U_Lc41 35 rfl) rfl ?_
      refine x_iconst (dT U_Lc41 36 rfl) ?_
      refine x_iadd (dT U_Lc41 37 rfl) ?_
      refine x_sld (i + 3) hL (dT U_Lc41 38 rfl) (by omega) (by omega) ?_
      refine x_if_eq (tgt := 3541) (dT U_Lc41 39 rfl) (by decide) (xr_s _) (fun z => absurd z cA) (fun _ => ?_)
      refine x_iconst (dT U_Lc41 40 rfl) ?_
      refine x_goto (tgt := 3542) (dT U_Lc41 41 rfl) (by decide) ?_
      refine x_invokevirtual (rc' := rc) (rs' := rs) (rc2 := 0) (rs2 := 0) (As := [_, _, _]) (st := _) M_X11_form K_L_375 (dT U_Lc41 43 rfl) rfl rfl (by decide) rfl rfl wmx.c70 (Nat.le_of_ble_eq_true rfl) (by decide) rfl (Nat.le_of_ble_eq_true rfl) rfl (by decide) (Nat.le_of_ble_eq_true rfl) rfl rfl ?_
      refine S_X11_form wmx v (xr_s _) (xr_s _) (by decide) (fun m1 _ _ _ _ _ => absurd c1 m1) (fun m1 m2 _ _ _ _ _ => absurd c2 m2) (fun m1 m2 h3 r3 s3 ag wx => ?_)
      refine xRet_some ?_
      rw [ez9]
      refine x_istore (ls' := [some (.ref _), some (.ref _), some (.ref _), some (.ref _), some (.ref _), some (vi _), some (vi _), some (vi _), none]) (dT U_Lc41 44 rfl) (by decide) rfl ?_
      refine x_aload_n (dT U_Lc41 45 rfl) rfl ?_
      refine x_invokevirtual (rc' := rc) (rs' := rs) (rc2 := 0) (rs2 := 0) (As := []) (st := _) M_X11_thrown K_L_242 (dT U_Lc41 46 rfl) rfl rfl (by decide) rfl rfl wx.c70 (Nat.le_of_ble_eq_true rfl) (by decide) rfl (Nat.le_of_ble_eq_true rfl) rfl (by decide) (Nat.le_of_ble_eq_true rfl) rfl rfl ?_
      refine S_X11_thrown wx ?_
      refine xRet_some ?_
      refine x_iload (dT U_Lc41 47 rfl) rfl ?_
      refine x_icmp_eq (tgt := 3558) (dT U_Lc41 48 rfl) (by decide) (by unfold xr; omega) (by unfold xr; omega) (fun c3553 => ?_) (fun c3553 => (by exfalso; omega))
      refine x_iload (dT U_Lc41 51 rfl) rfl ?_
      refine x_if_nen (tgt := 3575) (dT U_Lc41 52 rfl) (by decide) (by decide) ?_
      refine x_aload_n (dT U_Lc41 53 rfl) rfl ?_
      refine x_iconst (dT U_Lc41 54 rfl) ?_
      refine x_laload 0 (dT U_Lc41 55 rfl) (ag.get (hset_eq ho) (by omega)) (Nat.le_of_ble_eq_true rfl) rfl (Nat.le_of_ble_eq_true rfl) (Nat.le_of_ble_eq_true rfl) ?_
      refine x_iload (dT U_Lc41 56 rfl) rfl ?_
      refine x_i2l (dT U_Lc41 57 rfl) hz9 ?_
      refine x_lcmp (dT U_Lc41 58 rfl) (xr_l hz9) (xr_l hz9) ?_
      refine x_if_eqj (tgt := 3575) (dT U_Lc41 59 rfl) (by decide) (xcmp_rf _) ?_
      refine x_goto (tgt := 5554) (dT U_Lc41 62 rfl) (by decide) ?_
      refine x_drop ?_ (M _ _ _ _ _ _ _ _ v ((w.out ((Ag.rf 143 143 h).set (by omega)) (by omega)).out ag (by omega)) wx (ag.get (hset_eq ho) (by omega)) (ag.get (hset_ne (by omega) hod) (by omega)))
      repeat (first | exact trivial | refine ⟨rfl, ?_⟩ | refine ⟨trivial, ?_⟩)

def B_Lc44 : ByteArray := .mk #[0x2b, 0x2a, 0x15, 0x05, 0x04, 0x60, 0x2e, 0x2a, 0x15, 0x05, 0x05, 0x60, 0x2e, 0x2a, 0x15, 0x05, 0x06, 0x60, 0x2e, 0x2a, 0x15, 0x05, 0x07, 0x60, 0x2e, 0x99, 0x00, 0x07, 0x04, 0xa7, 0x00, 0x04, 0x03, 0x2a, 0x15, 0x05, 0x08, 0x60, 0x2e, 0x2d, 0xb8, 0x01, 0x7e, 0x36, 0x06, 0x2c, 0x2a, 0x15, 0x05, 0x04, 0x60, 0x2e, 0x2a, 0x15, 0x05, 0x05, 0x60, 0x2e, 0x2a, 0x15, 0x05, 0x06, 0x60, 0x2e, 0x2a, 0x15, 0x05, 0x07, 0x60, 0x2e, 0x99, 0x00, 0x07, 0x04, 0xa7, 0x00, 0x04, 0x03, 0x2a, 0x15, 0x05, 0x08, 0x60, 0x2e, 0xb6, 0x01, 0x81, 0x36, 0x07, 0x2c, 0xb6, 0x00, 0xf2, 0x15, 0x06, 0x9f, 0x00, 0x05, 0x03, 0xac, 0x15, 0x06, 0x9a, 0x00, 0x0f, 0x2d, 0x03, 0x2f, 0x15, 0x07, 0x85, 0x94, 0x99, 0x00, 0x05, 0x03, 0xac, 0xa7, 0x06, 0x8b]
theorem W_Lc44 : sameFrom m_L_law.2.1 B_Lc44 3762 := sameFrom_of (by decide +kernel)
def t_Lc44 : List (Nat × Instr × Nat) := [(3762, .aload_n 1, 1), (3763, .aload_n 0, 1), (3764, .iload 5, 2), (3766, .iconst 1, 1), (3767, .iadd, 1), (3768, .iaload, 1), (3769, .aload_n 0, 1), (3770, .iload 5, 2), (3772, .iconst 2, 1), (3773, .iadd, 1), (3774, .iaload, 1), (3775, .aload_n 0, 1), (3776, .iload 5, 2), (3778, .iconst 3, 1), (3779, .iadd, 1), (3780, .iaload, 1), (3781, .aload_n 0, 1), (3782, .iload 5, 2), (3784, .iconst 4, 1), (3785, .iadd, 1), (3786, .iaload, 1), (3787, .ifCond .eq 7, 3), (3790, .iconst 1, 1), (3791, .goto 4, 3), (3794, .iconst 0, 1), (3795, .aload_n 0, 1), (3796, .iload 5, 2), (3798, .iconst 5, 1), (3799, .iadd, 1), (3800, .iaload, 1), (3801, .aload_n 3, 1), (3802, .invokestatic 382, 3), (3805, .istore 6, 2), (3807, .aload_n 2, 1), (3808, .aload_n 0, 1), (3809, .iload 5, 2), (3811, .iconst 1, 1), (3812, .iadd, 1), (3813, .iaload, 1), (3814, .aload_n 0, 1), (3815, .iload 5, 2), (3817, .iconst 2, 1), (3818, .iadd, 1), (3819, .iaload, 1), (3820, .aload_n 0, 1), (3821, .iload 5, 2), (3823, .iconst 3, 1), (3824, .iadd, 1), (3825, .iaload, 1), (3826, .aload_n 0, 1), (3827, .iload 5, 2), (3829, .iconst 4, 1), (3830, .iadd, 1), (3831, .iaload, 1), (3832, .ifCond .eq 7, 3), (3835, .iconst 1, 1), (3836, .goto 4, 3), (3839, .iconst 0, 1), (3840, .aload_n 0, 1), (3841, .iload 5, 2), (3843, .iconst 5, 1), (3844, .iadd, 1), (3845, .iaload, 1), (3846, .invokevirtual 385, 3), (3849, .istore 7, 2), (3851, .aload_n 2, 1), (3852, .invokevirtual 242, 3), (3855, .iload 6, 2), (3857, .if_icmp .eq 5, 3), (3860, .iconst 0, 1), (3861, .ireturn, 1), (3862, .iload 6, 2), (3864, .ifCond .ne 15, 3), (3867, .aload_n 3, 1), (3868, .iconst 0, 1), (3869, .laload, 1), (3870, .iload 7, 2), (3872, .i2l, 1), (3873, .lcmp, 1), (3874, .ifCond .eq 5, 3), (3877, .iconst 0, 1), (3878, .ireturn, 1), (3879, .goto 1675, 3)]
set_option maxRecDepth 20000 in
theorem U_Lc44 : okT m_L_law.2.1 t_Lc44 = true := dSt [(0, .aload_n 1, 1), (1, .aload_n 0, 1), (2, .iload 5, 2), (4, .iconst 1, 1), (5, .iadd, 1), (6, .iaload, 1), (7, .aload_n 0, 1), (8, .iload 5, 2), (10, .iconst 2, 1), (11, .iadd, 1), (12, .iaload, 1), (13, .aload_n 0, 1), (14, .iload 5, 2), (16, .iconst 3, 1), (17, .iadd, 1), (18, .iaload, 1), (19, .aload_n 0, 1), (20, .iload 5, 2), (22, .iconst 4, 1), (23, .iadd, 1), (24, .iaload, 1), (25, .ifCond .eq 7, 3), (28, .iconst 1, 1), (29, .goto 4, 3), (32, .iconst 0, 1), (33, .aload_n 0, 1), (34, .iload 5, 2), (36, .iconst 5, 1), (37, .iadd, 1), (38, .iaload, 1), (39, .aload_n 3, 1), (40, .invokestatic 382, 3), (43, .istore 6, 2), (45, .aload_n 2, 1), (46, .aload_n 0, 1), (47, .iload 5, 2), (49, .iconst 1, 1), (50, .iadd, 1), (51, .iaload, 1), (52, .aload_n 0, 1), (53, .iload 5, 2), (55, .iconst 2, 1), (56, .iadd, 1), (57, .iaload, 1), (58, .aload_n 0, 1), (59, .iload 5, 2), (61, .iconst 3, 1), (62, .iadd, 1), (63, .iaload, 1), (64, .aload_n 0, 1), (65, .iload 5, 2), (67, .iconst 4, 1), (68, .iadd, 1), (69, .iaload, 1), (70, .ifCond .eq 7, 3), (73, .iconst 1, 1), (74, .goto 4, 3), (77, .iconst 0, 1), (78, .aload_n 0, 1), (79, .iload 5, 2), (81, .iconst 5, 1), (82, .iadd, 1), (83, .iaload, 1), (84, .invokevirtual 385, 3), (87, .istore 7, 2), (89, .aload_n 2, 1), (90, .invokevirtual 242, 3), (93, .iload 6, 2), (95, .if_icmp .eq 5, 3), (98, .iconst 0, 1), (99, .ireturn, 1), (100, .iload 6, 2), (102, .ifCond .ne 15, 3), (105, .aload_n 3, 1), (106, .iconst 0, 1), (107, .laload, 1), (108, .iload 7, 2), (110, .i2l, 1), (111, .lcmp, 1), (112, .ifCond .eq 5, 3), (115, .iconst 0, 1), (116, .ireturn, 1), (117, .goto 1675, 3)] W_Lc44 (by decide +kernel) (by decide +kernel)
set_option maxRecDepth 20000 in
set_option maxHeartbeats 1000000 in
theorem LC_44 {G : xG} {d rc rs : Nat} {ex : Bool} {h : xH} {Q : xQ} {σ : St} {c0 : Int} {rr : Nat} {ss : Int} {l0 : Int} {d0 : UInt64} {i : Nat} (hL : G.2.2.2.2.2.1 < 2147483648) (hi : i + 10 ≤ G.2.2.2.2.2.1) (w : CW σ h) (wm : MX σ c0 rr ss h) (v : INV σ) (ho : h[143]? = some (cJ [l0])) (hod : h[144]? = some (cD [d0]))
    (M : ∀ (σ9 : St) (h9 : xH) (e9 : Bool) (c9 : Int) (r9 : Nat) (s9 : Int) (l9 : Int) (d9 : UInt64), INV σ9 → CW σ9 h9 → MX σ9 c9 r9 s9 h9 → h9[143]? = some (cJ [l9]) → h9[144]? = some (cD [d9]) → X G m_L_law (d + 10) rc rs e9 5554 [some (.ref 0), some (.ref 3), some (.ref 70), some (.ref 143), some (.ref 144), some (vi (i : Int)), none, none, none] [] h9 Q) : X G m_L_law (d + 10) (rc + 5) (rs + 30) ex 3762 [some (.ref 0), some (.ref 3), some (.ref 70), some (.ref 143), some (.ref 144), some (vi (i : Int)), none, none, none] [] h Q := by
  refine x_aload_n (dT U_Lc44 0 rfl) rfl ?_
  refine x_aload_n (dT U_Lc44 1 rfl) rfl ?_
  refine x_iload (dT U_Lc44 2 rfl) rfl ?_
  refine x_iconst (dT U_Lc44 3 rfl) ?_
  refine x_iadd (dT U_Lc44 4 rfl) ?_
  refine x_sld (i + 1) hL (dT U_Lc44 5 rfl) (by omega) (by omega) ?_
  refine x_aload_n (dT U_Lc44 6 rfl) rfl ?_
  refine x_iload (dT U_Lc44 7 rfl) rfl ?_
  refine x_iconst (dT U_Lc44 8 rfl) ?_
  refine x_iadd (dT U_Lc44 9 rfl) ?_
  refine x_sld (i + 2) hL (dT U_Lc44 10 rfl) (by omega) (by omega) ?_
  refine x_aload_n (dT U_Lc44 11 rfl) rfl ?_
  refine x_iload (dT U_Lc44 12 rfl) rfl ?_
  refine x_iconst (dT U_Lc44 13 rfl) ?_
  refine x_iadd (dT U_Lc44 14 rfl) ?_
  refine x_sld (i + 3) hL (dT U_Lc44 15 rfl) (by omega) (by omega) ?_
  refine x_aload_n (dT U_Lc44 16 rfl) rfl ?_
  refine x_iload (dT U_Lc44 17 rfl) rfl ?_
  refine x_iconst (dT U_Lc44 18 rfl) ?_
  refine x_iadd (dT U_Lc44 19 rfl) ?_
  refine x_sld (i + 4) hL (dT U_Lc44 20 rfl) (by omega) (by omega) ?_
  refine x_if_eq (tgt := 3794) (dT U_Lc44 21 rfl) (by decide) (xr_s _) (fun cA => ?_) (fun cA => ?_)
  · skip
    refine x_iconst (dT U_Lc44 24 rfl) ?_
    refine x_aload_n (dT U_Lc44 25 rfl) rfl ?_
    refine x_iload (dT U_Lc44 26 rfl) rfl ?_
    refine x_iconst (dT U_Lc44 27 rfl) ?_
    refine x_iadd (dT U_Lc44 28 rfl) ?_
    refine x_sld (i + 5) hL (dT U_Lc44 29 rfl) (by omega) (by omega) ?_
    refine x_aload_n (dT U_Lc44 30 rfl) rfl ?_
    refine x_invokestaticT (rc' := rc) (rs' := rs) (rc2 := 0 + 5) (rs2 := 0 + 30) (As := [_, _, _, _, _, _, _]) (st := _) M_L_factors K_L_382 (dT U_Lc44 31 rfl) rfl (by decide) rfl rfl (Nat.le_of_ble_eq_true rfl) rfl (by decide) (Nat.le_of_ble_eq_true rfl) (by omega) (by omega) ?_
    refine S_L_factors w v (xr_s _) (xr_s _) (xr_s _) (xr_s _) (by decide) ho (fun c1 => ?_) (fun c1 c2 => ?_) (fun c1 c2 z9 hz9 ez9 => ?_)
    · refine xRet_some ?_
      refine x_istore (ls' := [some (.ref _), some (.ref _), some (.ref _), some (.ref _), some (.ref _), some (vi _), some (vi _), none, none]) (dT U_Lc44 32 rfl) (by decide) rfl ?_
      refine x_aload_n (dT U_Lc44 33 rfl) rfl ?_
      refine x_aload_n (dT U_Lc44 34 rfl) rfl ?_
      refine x_iload (dT U_Lc44 35 rfl) rfl ?_
      refine x_iconst (dT U_Lc44 36 rfl) ?_
      refine x_iadd (dT U_Lc44 37 rfl) ?_
      refine x_sld (i + 1) hL (dT U_Lc44 38 rfl) (by omega) (by omega) ?_
      refine x_aload_n (dT U_Lc44 39 rfl) rfl ?_
      refine x_iload (dT U_Lc44 40 rfl) rfl ?_
      refine x_iconst (dT U_Lc44 41 rfl) ?_
      refine x_iadd (dT U_Lc44 42 rfl) ?_
      refine x_sld (i + 2) hL (dT U_Lc44 43 rfl) (by omega) (by omega) ?_
      refine x_aload_n (dT U_Lc44 44 rfl) rfl ?_
      refine x_iload (dT U_Lc44 45 rfl) rfl ?_
      refine x_iconst (dT U_Lc44 46 rfl) ?_
      refine x_iadd (dT U_Lc44 47 rfl) ?_
      refine x_sld (i + 3) hL (dT U_Lc44 48 rfl) (by omega) (by omega) ?_
      refine x_aload_n (dT U_Lc44 49 rfl) rfl ?_
      refine x_iload (dT U_Lc44 50 rfl) rfl ?_
      refine x_iconst (dT U_Lc44 51 rfl) ?_
      refine x_iadd (dT U_Lc44 52 rfl) ?_
      refine x_sld (i + 4) hL (dT U_Lc44 53 rfl) (by omega) (by omega) ?_
      refine x_if_eq (tgt := 3839) (dT U_Lc44 54 rfl) (by decide) (xr_s _) (fun _ => ?_) (fun z => absurd cA z)
      refine x_iconst (dT U_Lc44 57 rfl) ?_
      refine x_aload_n (dT U_Lc44 58 rfl) rfl ?_
      refine x_iload (dT U_Lc44 59 rfl) rfl ?_
      refine x_iconst (dT U_Lc44 60 rfl) ?_
      refine x_iadd (dT U_Lc44 61 rfl) ?_
      refine x_sld (i + 5) hL (dT U_Lc44 62 rfl) (by omega) (by omega) ?_
      refine x_invokevirtual (rc' := rc) (rs' := rs) (rc2 := 0) (rs2 := 0) (As := [_, _, _, _, _]) (st := _) M_X11_factors K_L_385 (dT U_Lc44 63 rfl) rfl rfl (by decide) rfl rfl wm.c70 (Nat.le_of_ble_eq_true rfl) (by decide) rfl (Nat.le_of_ble_eq_true rfl) rfl (by decide) (Nat.le_of_ble_eq_true rfl) rfl rfl ?_
      refine S_X11_factors wm v (xr_s _) (xr_s _) (xr_s _) (xr_s _) (by decide) (fun m1 h3 z ag wx xz => ?_) (fun m1 m2 _ _ _ _ _ => absurd m1 c1) (fun m1 m2 _ _ _ _ _ => absurd m1 c1)
      refine xRet_some ?_
      refine x_istore (ls' := [some (.ref _), some (.ref _), some (.ref _), some (.ref _), some (.ref _), some (vi _), some (vi _), some (vi _), none]) (dT U_Lc44 64 rfl) (by decide) rfl ?_
      refine x_aload_n (dT U_Lc44 65 rfl) rfl ?_
      refine x_invokevirtual (rc' := rc) (rs' := rs) (rc2 := 0) (rs2 := 0) (As := []) (st := _) M_X11_thrown K_L_242 (dT U_Lc44 66 rfl) rfl rfl (by decide) rfl rfl wx.c70 (Nat.le_of_ble_eq_true rfl) (by decide) rfl (Nat.le_of_ble_eq_true rfl) rfl (by decide) (Nat.le_of_ble_eq_true rfl) rfl rfl ?_
      refine S_X11_thrown wx ?_
      refine xRet_some ?_
      refine x_iload (dT U_Lc44 67 rfl) rfl ?_
      refine x_icmp_eq (tgt := 3862) (dT U_Lc44 68 rfl) (by decide) (by unfold xr; omega) (by unfold xr; omega) (fun c3857 => ?_) (fun c3857 => (by exfalso; omega))
      refine x_iload (dT U_Lc44 71 rfl) rfl ?_
      refine x_if_nej (tgt := 3879) (dT U_Lc44 72 rfl) (by decide) (by decide) ?_
      refine x_goto (tgt := 5554) (dT U_Lc44 82 rfl) (by decide) ?_
      refine x_drop ?_ (M _ _ _ _ _ _ _ _ v (w.out ag (by omega)) wx (ag.get ho (by omega)) (ag.get hod (by omega)))
      repeat (first | exact trivial | refine ⟨rfl, ?_⟩ | refine ⟨trivial, ?_⟩)
    · refine xRet_some ?_
      refine x_istore (ls' := [some (.ref _), some (.ref _), some (.ref _), some (.ref _), some (.ref _), some (vi _), some (vi _), none, none]) (dT U_Lc44 32 rfl) (by decide) rfl ?_
      refine x_aload_n (dT U_Lc44 33 rfl) rfl ?_
      refine x_aload_n (dT U_Lc44 34 rfl) rfl ?_
      refine x_iload (dT U_Lc44 35 rfl) rfl ?_
      refine x_iconst (dT U_Lc44 36 rfl) ?_
      refine x_iadd (dT U_Lc44 37 rfl) ?_
      refine x_sld (i + 1) hL (dT U_Lc44 38 rfl) (by omega) (by omega) ?_
      refine x_aload_n (dT U_Lc44 39 rfl) rfl ?_
      refine x_iload (dT U_Lc44 40 rfl) rfl ?_
      refine x_iconst (dT U_Lc44 41 rfl) ?_
      refine x_iadd (dT U_Lc44 42 rfl) ?_
      refine x_sld (i + 2) hL (dT U_Lc44 43 rfl) (by omega) (by omega) ?_
      refine x_aload_n (dT U_Lc44 44 rfl) rfl ?_
      refine x_iload (dT U_Lc44 45 rfl) rfl ?_
      refine x_iconst (dT U_Lc44 46 rfl) ?_
      refine x_iadd (dT U_Lc44 47 rfl) ?_
      refine x_sld (i + 3) hL (dT U_Lc44 48 rfl) (by omega) (by omega) ?_
      refine x_aload_n (dT U_Lc44 49 rfl) rfl ?_
      refine x_iload (dT U_Lc44 50 rfl) rfl ?_
      refine x_iconst (dT U_Lc44 51 rfl) ?_
      refine x_iadd (dT U_Lc44 52 rfl) ?_
      refine x_sld (i + 4) hL (dT U_Lc44 53 rfl) (by omega) (by omega) ?_
      refine x_if_eq (tgt := 3839) (dT U_Lc44 54 rfl) (by decide) (xr_s _) (fun _ => ?_) (fun z => absurd cA z)
      refine x_iconst (dT U_Lc44 57 rfl) ?_
      refine x_aload_n (dT U_Lc44 58 rfl) rfl ?_
      refine x_iload (dT U_Lc44 59 rfl) rfl ?_
      refine x_iconst (dT U_Lc44 60 rfl) ?_
      refine x_iadd (dT U_Lc44 61 rfl) ?_
      refine x_sld (i + 5) hL (dT U_Lc44 62 rfl) (by omega) (by omega) ?_
      refine x_invokevirtual (rc' := rc) (rs' := rs) (rc2 := 0) (rs2 := 0) (As := [_, _, _, _, _]) (st := _) M_X11_factors K_L_385 (dT U_Lc44 63 rfl) rfl rfl (by decide) rfl rfl wm.c70 (Nat.le_of_ble_eq_true rfl) (by decide) rfl (Nat.le_of_ble_eq_true rfl) rfl (by decide) (Nat.le_of_ble_eq_true rfl) rfl rfl ?_
      refine S_X11_factors wm v (xr_s _) (xr_s _) (xr_s _) (xr_s _) (by decide) (fun m1 _ _ _ _ _ => absurd c1 m1) (fun m1 m2 h3 z ag wx xz => ?_) (fun m1 m2 _ _ _ _ _ => absurd m2 c2)
      refine xRet_some ?_
      refine x_istore (ls' := [some (.ref _), some (.ref _), some (.ref _), some (.ref _), some (.ref _), some (vi _), some (vi _), some (vi _), none]) (dT U_Lc44 64 rfl) (by decide) rfl ?_
      refine x_aload_n (dT U_Lc44 65 rfl) rfl ?_
      refine x_invokevirtual (rc' := rc) (rs' := rs) (rc2 := 0) (rs2 := 0) (As := []) (st := _) M_X11_thrown K_L_242 (dT U_Lc44 66 rfl) rfl rfl (by decide) rfl rfl wx.c70 (Nat.le_of_ble_eq_true rfl) (by decide) rfl (Nat.le_of_ble_eq_true rfl) rfl (by decide) (Nat.le_of_ble_eq_true rfl) rfl rfl ?_
      refine S_X11_thrown wx ?_
      refine xRet_some ?_
      refine x_iload (dT U_Lc44 67 rfl) rfl ?_
      refine x_icmp_eq (tgt := 3862) (dT U_Lc44 68 rfl) (by decide) (by unfold xr; omega) (by unfold xr; omega) (fun c3857 => ?_) (fun c3857 => (by exfalso; omega))
      refine x_iload (dT U_Lc44 71 rfl) rfl ?_
      refine x_if_ne (tgt := 3879) (dT U_Lc44 72 rfl) (by decide) (by unfold xr; omega) (fun c3864 => ?_) (fun c3864 => (by exfalso; omega))
      refine x_goto (tgt := 5554) (dT U_Lc44 82 rfl) (by decide) ?_
      refine x_drop ?_ (M _ _ _ _ _ _ _ _ v (w.out ag (by omega)) wx (ag.get ho (by omega)) (ag.get hod (by omega)))
      repeat (first | exact trivial | refine ⟨rfl, ?_⟩ | refine ⟨trivial, ?_⟩)
    · refine xRet_some ?_
      have wmx := wm.out (h2 := (h.set 143 (cJ [z9]))) (fun a ha => by rw [hset_fr (by omega)])
      refine x_istore (ls' := [some (.ref _), some (.ref _), some (.ref _), some (.ref _), some (.ref _), some (vi _), some (vi _), none, none]) (dT U_Lc44 32 rfl) (by decide) rfl ?_
      refine x_aload_n (dT U_Lc44 33 rfl) rfl ?_
      refine x_aload_n (dT U_Lc44 34 rfl) rfl ?_
      refine x_iload (dT U_Lc44 35 rfl) rfl ?_
      refine x_iconst (dT U_Lc44 36 rfl) ?_
      refine x_iadd (dT U_Lc44 37 rfl) ?_
      refine x_sld (i + 1) hL (dT U_Lc44 38 rfl) (by omega) (by omega) ?_
      refine x_aload_n (dT U_Lc44 39 rfl) rfl ?_
      refine x_iload (dT U_Lc44 40 rfl) rfl ?_
      refine x_iconst (dT U_Lc44 41 rfl) ?_
      refine x_iadd (dT U_Lc44 42 rfl) ?_
      refine x_sld (i + 2) hL (dT U_Lc44 43 rfl) (by omega) (by omega) ?_
      refine x_aload_n (dT U_Lc44 44 rfl) rfl ?_
      refine x_iload (dT U_Lc44 45 rfl) rfl ?_
      refine x_iconst (dT U_Lc44 46 rfl) ?_
      refine x_iadd (dT U_Lc44 47 rfl) ?_
      refine x_sld (i + 3) hL (dT U_Lc44 48 rfl) (by omega) (by omega) ?_
      refine x_aload_n (dT U_Lc44 49 rfl) rfl ?_
      refine x_iload (dT U_Lc44 50 rfl) rfl ?_
      refine x_iconst (dT U_Lc44 51 rfl) ?_
      refine x_iadd (dT U_Lc44 52 rfl) ?_
      refine x_sld (i + 4) hL (dT U_Lc44 53 rfl) (by omega) (by omega) ?_
      refine x_if_eq (tgt := 3839) (dT U_Lc44 54 rfl) (by decide) (xr_s _) (fun _ => ?_) (fun z => absurd cA z)
      refine x_iconst (dT U_Lc44 57 rfl) ?_
      refine x_aload_n (dT U_Lc44 58 rfl) rfl ?_
      refine x_iload (dT U_Lc44 59 rfl) rfl ?_
      refine x_iconst (dT U_Lc44 60 rfl) ?_
      refine x_iadd (dT U_Lc44 61 rfl) ?_
      refine x_sld (i + 5) hL (dT U_Lc44 62 rfl) (by omega) (by omega) ?_
      refine x_invokevirtual (rc' := rc) (rs' := rs) (rc2 := 0) (rs2 := 0) (As := [_, _, _, _, _]) (st := _) M_X11_factors K_L_385 (dT U_Lc44 63 rfl) rfl rfl (by decide) rfl rfl wmx.c70 (Nat.le_of_ble_eq_true rfl) (by decide) rfl (Nat.le_of_ble_eq_true rfl) rfl (by decide) (Nat.le_of_ble_eq_true rfl) rfl rfl ?_
      refine S_X11_factors wmx v (xr_s _) (xr_s _) (xr_s _) (xr_s _) (by decide) (fun m1 _ _ _ _ _ => absurd c1 m1) (fun m1 m2 _ _ _ _ _ => absurd c2 m2) (fun m1 m2 h3 r3 s3 ag wx => ?_)
      refine xRet_some ?_
      rw [ez9]
      refine x_istore (ls' := [some (.ref _), some (.ref _), some (.ref _), some (.ref _), some (.ref _), some (vi _), some (vi _), some (vi _), none]) (dT U_Lc44 64 rfl) (by decide) rfl ?_
      refine x_aload_n (dT U_Lc44 65 rfl) rfl ?_
      refine x_invokevirtual (rc' := rc) (rs' := rs) (rc2 := 0) (rs2 := 0) (As := []) (st := _) M_X11_thrown K_L_242 (dT U_Lc44 66 rfl) rfl rfl (by decide) rfl rfl wx.c70 (Nat.le_of_ble_eq_true rfl) (by decide) rfl (Nat.le_of_ble_eq_true rfl) rfl (by decide) (Nat.le_of_ble_eq_true rfl) rfl rfl ?_
      refine S_X11_thrown wx ?_
      refine xRet_some ?_
      refine x_iload (dT U_Lc44 67 rfl) rfl ?_
      refine x_icmp_eq (tgt := 3862) (dT U_Lc44 68 rfl) (by decide) (by unfold xr; omega) (by unfold xr; omega) (fun c3857 => ?_) (fun c3857 => (by exfalso; omega))
      refine x_iload (dT U_Lc44 71 rfl) rfl ?_
      refine x_if_nen (tgt := 3879) (dT U_Lc44 72 rfl) (by decide) (by decide) ?_
      refine x_aload_n (dT U_Lc44 73 rfl) rfl ?_
      refine x_iconst (dT U_Lc44 74 rfl) ?_
      refine x_laload 0 (dT U_Lc44 75 rfl) (ag.get (hset_eq ho) (by omega)) (Nat.le_of_ble_eq_true rfl) rfl (Nat.le_of_ble_eq_true rfl) (Nat.le_of_ble_eq_true rfl) ?_
      refine x_iload (dT U_Lc44 76 rfl) rfl ?_
      refine x_i2l (dT U_Lc44 77 rfl) hz9 ?_
      refine x_lcmp (dT U_Lc44 78 rfl) (xr_l hz9) (xr_l hz9) ?_
      refine x_if_eqj (tgt := 3879) (dT U_Lc44 79 rfl) (by decide) (xcmp_rf _) ?_
      refine x_goto (tgt := 5554) (dT U_Lc44 82 rfl) (by decide) ?_
      refine x_drop ?_ (M _ _ _ _ _ _ _ _ v ((w.out ((Ag.rf 143 143 h).set (by omega)) (by omega)).out ag (by omega)) wx (ag.get (hset_eq ho) (by omega)) (ag.get (hset_ne (by omega) hod) (by omega)))
      repeat (first | exact trivial | refine ⟨rfl, ?_⟩ | refine ⟨trivial, ?_⟩)
  · skip
    refine x_iconst (dT U_Lc44 22 rfl) ?_
    refine x_goto (tgt := 3795) (dT U_Lc44 23 rfl) (by decide) ?_
    refine x_aload_n (dT U_Lc44 25 rfl) rfl ?_
    refine x_iload (dT U_Lc44 26 rfl) rfl ?_
    refine x_iconst (dT U_Lc44 27 rfl) ?_
    refine x_iadd (dT U_Lc44 28 rfl) ?_
    refine x_sld (i + 5) hL (dT U_Lc44 29 rfl) (by omega) (by omega) ?_
    refine x_aload_n (dT U_Lc44 30 rfl) rfl ?_
    refine x_invokestaticT (rc' := rc) (rs' := rs) (rc2 := 0 + 5) (rs2 := 0 + 30) (As := [_, _, _, _, _, _, _]) (st := _) M_L_factors K_L_382 (dT U_Lc44 31 rfl) rfl (by decide) rfl rfl (Nat.le_of_ble_eq_true rfl) rfl (by decide) (Nat.le_of_ble_eq_true rfl) (by omega) (by omega) ?_
    refine S_L_factors w v (xr_s _) (xr_s _) (xr_s _) (xr_s _) (by decide) ho (fun c1 => ?_) (fun c1 c2 => ?_) (fun c1 c2 z9 hz9 ez9 => ?_)
    · refine xRet_some ?_
      refine x_istore (ls' := [some (.ref _), some (.ref _), some (.ref _), some (.ref _), some (.ref _), some (vi _), some (vi _), none, none]) (dT U_Lc44 32 rfl) (by decide) rfl ?_
      refine x_aload_n (dT U_Lc44 33 rfl) rfl ?_
      refine x_aload_n (dT U_Lc44 34 rfl) rfl ?_
      refine x_iload (dT U_Lc44 35 rfl) rfl ?_
      refine x_iconst (dT U_Lc44 36 rfl) ?_
      refine x_iadd (dT U_Lc44 37 rfl) ?_
      refine x_sld (i + 1) hL (dT U_Lc44 38 rfl) (by omega) (by omega) ?_
      refine x_aload_n (dT U_Lc44 39 rfl) rfl ?_
      refine x_iload (dT U_Lc44 40 rfl) rfl ?_
      refine x_iconst (dT U_Lc44 41 rfl) ?_
      refine x_iadd (dT U_Lc44 42 rfl) ?_
      refine x_sld (i + 2) hL (dT U_Lc44 43 rfl) (by omega) (by omega) ?_
      refine x_aload_n (dT U_Lc44 44 rfl) rfl ?_
      refine x_iload (dT U_Lc44 45 rfl) rfl ?_
      refine x_iconst (dT U_Lc44 46 rfl) ?_
      refine x_iadd (dT U_Lc44 47 rfl) ?_
      refine x_sld (i + 3) hL (dT U_Lc44 48 rfl) (by omega) (by omega) ?_
      refine x_aload_n (dT U_Lc44 49 rfl) rfl ?_
      refine x_iload (dT U_Lc44 50 rfl) rfl ?_
      refine x_iconst (dT U_Lc44 51 rfl) ?_
      refine x_iadd (dT U_Lc44 52 rfl) ?_
      refine x_sld (i + 4) hL (dT U_Lc44 53 rfl) (by omega) (by omega) ?_
      refine x_if_eq (tgt := 3839) (dT U_Lc44 54 rfl) (by decide) (xr_s _) (fun z => absurd z cA) (fun _ => ?_)
      refine x_iconst (dT U_Lc44 55 rfl) ?_
      refine x_goto (tgt := 3840) (dT U_Lc44 56 rfl) (by decide) ?_
      refine x_aload_n (dT U_Lc44 58 rfl) rfl ?_
      refine x_iload (dT U_Lc44 59 rfl) rfl ?_
      refine x_iconst (dT U_Lc44 60 rfl) ?_
      refine x_iadd (dT U_Lc44 61 rfl) ?_
      refine x_sld (i + 5) hL (dT U_Lc44 62 rfl) (by omega) (by omega) ?_
      refine x_invokevirtual (rc' := rc) (rs' := rs) (rc2 := 0) (rs2 := 0) (As := [_, _, _, _, _]) (st := _) M_X11_factors K_L_385 (dT U_Lc44 63 rfl) rfl rfl (by decide) rfl rfl wm.c70 (Nat.le_of_ble_eq_true rfl) (by decide) rfl (Nat.le_of_ble_eq_true rfl) rfl (by decide) (Nat.le_of_ble_eq_true rfl) rfl rfl ?_
      refine S_X11_factors wm v (xr_s _) (xr_s _) (xr_s _) (xr_s _) (by decide) (fun m1 h3 z ag wx xz => ?_) (fun m1 m2 _ _ _ _ _ => absurd m1 c1) (fun m1 m2 _ _ _ _ _ => absurd m1 c1)
      refine xRet_some ?_
      refine x_istore (ls' := [some (.ref _), some (.ref _), some (.ref _), some (.ref _), some (.ref _), some (vi _), some (vi _), some (vi _), none]) (dT U_Lc44 64 rfl) (by decide) rfl ?_
      refine x_aload_n (dT U_Lc44 65 rfl) rfl ?_
      refine x_invokevirtual (rc' := rc) (rs' := rs) (rc2 := 0) (rs2 := 0) (As := []) (st := _) M_X11_thrown K_L_242 (dT U_Lc44 66 rfl) rfl rfl (by decide) rfl rfl wx.c70 (Nat.le_of_ble_eq_true rfl) (by decide) rfl (Nat.le_of_ble_eq_true rfl) rfl (by decide) (Nat.le_of_ble_eq_true rfl) rfl rfl ?_
      refine S_X11_thrown wx ?_
      refine xRet_some ?_
      refine x_iload (dT U_Lc44 67 rfl) rfl ?_
      refine x_icmp_eq (tgt := 3862) (dT U_Lc44 68 rfl) (by decide) (by unfold xr; omega) (by unfold xr; omega) (fun c3857 => ?_) (fun c3857 => (by exfalso; omega))
      refine x_iload (dT U_Lc44 71 rfl) rfl ?_
      refine x_if_nej (tgt := 3879) (dT U_Lc44 72 rfl) (by decide) (by decide) ?_
      refine x_goto (tgt := 5554) (dT U_Lc44 82 rfl) (by decide) ?_
      refine x_drop ?_ (M _ _ _ _ _ _ _ _ v (w.out ag (by omega)) wx (ag.get ho (by omega)) (ag.get hod (by omega)))
      repeat (first | exact trivial | refine ⟨rfl, ?_⟩ | refine ⟨trivial, ?_⟩)
    · refine xRet_some ?_
      refine x_istore (ls' := [some (.ref _), some (.ref _), some (.ref _), some (.ref _), some (.ref _), some (vi _), some (vi _), none, none]) (dT U_Lc44 32 rfl) (by decide) rfl ?_
      refine x_aload_n (dT U_Lc44 33 rfl) rfl ?_
      refine x_aload_n (dT U_Lc44 34 rfl) rfl ?_
      refine x_iload (dT U_Lc44 35 rfl) rfl ?_
      refine x_iconst (dT U_Lc44 36 rfl) ?_
      refine x_iadd (dT U_Lc44 37 rfl) ?_
      refine x_sld (i + 1) hL (dT U_Lc44 38 rfl) (by omega) (by omega) ?_
      refine x_aload_n (dT U_Lc44 39 rfl) rfl ?_
      refine x_iload (dT U_Lc44 40 rfl) rfl ?_
      refine x_iconst (dT U_Lc44 41 rfl) ?_
      refine x_iadd (dT U_Lc44 42 rfl) ?_
      refine x_sld (i + 2) hL (dT U_Lc44 43 rfl) (by omega) (by omega) ?_
      refine x_aload_n (dT U_Lc44 44 rfl) rfl ?_
      refine x_iload (dT U_Lc44 45 rfl) rfl ?_
      refine x_iconst (dT U_Lc44 46 rfl) ?_
      refine x_iadd (dT U_Lc44 47 rfl) ?_
      refine x_sld (i + 3) hL (dT U_Lc44 48 rfl) (by omega) (by omega) ?_
      refine x_aload_n (dT U_Lc44 49 rfl) rfl ?_
      refine x_iload (dT U_Lc44 50 rfl) rfl ?_
      refine x_iconst (dT U_Lc44 51 rfl) ?_
      refine x_iadd (dT U_Lc44 52 rfl) ?_
      refine x_sld (i + 4) hL (dT U_Lc44 53 rfl) (by omega) (by omega) ?_
      refine x_if_eq (tgt := 3839) (dT U_Lc44 54 rfl) (by decide) (xr_s _) (fun z => absurd z cA) (fun _ => ?_)
      refine x_iconst (dT U_Lc44 55 rfl) ?_
      refine x_goto (tgt := 3840) (dT U_Lc44 56 rfl) (by decide) ?_
      refine x_aload_n (dT U_Lc44 58 rfl) rfl ?_
      refine x_iload (dT U_Lc44 59 rfl) rfl ?_
      refine x_iconst (dT U_Lc44 60 rfl) ?_
      refine x_iadd (dT U_Lc44 61 rfl) ?_
      refine x_sld (i + 5) hL (dT U_Lc44 62 rfl) (by omega) (by omega) ?_
      refine x_invokevirtual (rc' := rc) (rs' := rs) (rc2 := 0) (rs2 := 0) (As := [_, _, _, _, _]) (st := _) M_X11_factors K_L_385 (dT U_Lc44 63 rfl) rfl rfl (by decide) rfl rfl wm.c70 (Nat.le_of_ble_eq_true rfl) (by decide) rfl (Nat.le_of_ble_eq_true rfl) rfl (by decide) (Nat.le_of_ble_eq_true rfl) rfl rfl ?_
      refine S_X11_factors wm v (xr_s _) (xr_s _) (xr_s _) (xr_s _) (by decide) (fun m1 _ _ _ _ _ => absurd c1 m1) (fun m1 m2 h3 z ag wx xz => ?_) (fun m1 m2 _ _ _ _ _ => absurd m2 c2)
      refine xRet_some ?_
      refine x_istore (ls' := [some (.ref _), some (.ref _), some (.ref _), some (.ref _), some (.ref _), some (vi _), some (vi _), some (vi _), none]) (dT U_Lc44 64 rfl) (by decide) rfl ?_
      refine x_aload_n (dT U_Lc44 65 rfl) rfl ?_
      refine x_invokevirtual (rc' := rc) (rs' := rs) (rc2 := 0) (rs2 := 0) (As := []) (st := _) M_X11_thrown K_L_242 (dT U_Lc44 66 rfl) rfl rfl (by decide) rfl rfl wx.c70 (Nat.le_of_ble_eq_true rfl) (by decide) rfl (Nat.le_of_ble_eq_true rfl) rfl (by decide) (Nat.le_of_ble_eq_true rfl) rfl rfl ?_
      refine S_X11_thrown wx ?_
      refine xRet_some ?_
      refine x_iload (dT U_Lc44 67 rfl) rfl ?_
      refine x_icmp_eq (tgt := 3862) (dT U_Lc44 68 rfl) (by decide) (by unfold xr; omega) (by unfold xr; omega) (fun c3857 => ?_) (fun c3857 => (by exfalso; omega))
      refine x_iload (dT U_Lc44 71 rfl) rfl ?_
      refine x_if_ne (tgt := 3879) (dT U_Lc44 72 rfl) (by decide) (by unfold xr; omega) (fun c3864 => ?_) (fun c3864 => (by exfalso; omega))
      refine x_goto (tgt := 5554) (dT U_Lc44 82 rfl) (by decide) ?_
      refine x_drop ?_ (M _ _ _ _ _ _ _ _ v (w.out ag (by omega)) wx (ag.get ho (by omega)) (ag.get hod (by omega)))
      repeat (first | exact trivial | refine ⟨rfl, ?_⟩ | refine ⟨trivial, ?_⟩)
    · refine xRet_some ?_
      have wmx := wm.out (h2 := (h.set 143 (cJ [z9]))) (fun a ha => by rw [hset_fr (by omega)])
      refine x_istore (ls' := [some (.ref _), some (.ref _), some (.ref _), some (.ref _), some (.ref _), some (vi _), some (vi _), none, none]) (dT U_Lc44 32 rfl) (by decide) rfl ?_
      refine x_aload_n (dT U_Lc44 33 rfl) rfl ?_
      refine x_aload_n (dT U_Lc44 34 rfl) rfl ?_
      refine x_iload (dT U_Lc44 35 rfl) rfl ?_
      refine x_iconst (dT U_Lc44 36 rfl) ?_
      refine x_iadd (dT U_Lc44 37 rfl) ?_
      refine x_sld (i + 1) hL (dT U_Lc44 38 rfl) (by omega) (by omega) ?_
      refine x_aload_n (dT U_Lc44 39 rfl) rfl ?_
      refine x_iload (dT U_Lc44 40 rfl) rfl ?_
      refine x_iconst (dT U_Lc44 41 rfl) ?_
      refine x_iadd (dT U_Lc44 42 rfl) ?_
      refine x_sld (i + 2) hL (dT U_Lc44 43 rfl) (by omega) (by omega) ?_
      refine x_aload_n (dT U_Lc44 44 rfl) rfl ?_
      refine x_iload (dT U_Lc44 45 rfl) rfl ?_
      refine x_iconst (dT U_Lc44 46 rfl) ?_
      refine x_iadd (dT U_Lc44 47 rfl) ?_
      refine x_sld (i + 3) hL (dT U_Lc44 48 rfl) (by omega) (by omega) ?_
      refine x_aload_n (dT U_Lc44 49 rfl) rfl ?_
      refine x_iload (dT U_Lc44 50 rfl) rfl ?_
      refine x_iconst (dT U_Lc44 51 rfl) ?_
      refine x_iadd (dT U_Lc44 52 rfl) ?_
      refine x_sld (i + 4) hL (dT U_Lc44 53 rfl) (by omega) (by omega) ?_
      refine x_if_eq (tgt := 3839) (dT U_Lc44 54 rfl) (by decide) (xr_s _) (fun z => absurd z cA) (fun _ => ?_)
      refine x_iconst (dT U_Lc44 55 rfl) ?_
      refine x_goto (tgt := 3840) (dT U_Lc44 56 rfl) (by decide) ?_
      refine x_aload_n (dT U_Lc44 58 rfl) rfl ?_
      refine x_iload (dT U_Lc44 59 rfl) rfl ?_
      refine x_iconst (dT U_Lc44 60 rfl) ?_
      refine x_iadd (dT U_Lc44 61 rfl) ?_
      refine x_sld (i + 5) hL (dT U_Lc44 62 rfl) (by omega) (by omega) ?_
      refine x_invokevirtual (rc' := rc) (rs' := rs) (rc2 := 0) (rs2 := 0) (As := [_, _, _, _, _]) (st := _) M_X11_factors K_L_385 (dT U_Lc44 63 rfl) rfl rfl (by decide) rfl rfl wmx.c70 (Nat.le_of_ble_eq_true rfl) (by decide) rfl (Nat.le_of_ble_eq_true rfl) rfl (by decide) (Nat.le_of_ble_eq_true rfl) rfl rfl ?_
      refine S_X11_factors wmx v (xr_s _) (xr_s _) (xr_s _) (xr_s _) (by decide) (fun m1 _ _ _ _ _ => absurd c1 m1) (fun m1 m2 _ _ _ _ _ => absurd c2 m2) (fun m1 m2 h3 r3 s3 ag wx => ?_)
      refine xRet_some ?_
      rw [ez9]
      refine x_istore (ls' := [some (.ref _), some (.ref _), some (.ref _), some (.ref _), some (.ref _), some (vi _), some (vi _), some (vi _), none]) (dT U_Lc44 64 rfl) (by decide) rfl ?_
      refine x_aload_n (dT U_Lc44 65 rfl) rfl ?_
      refine x_invokevirtual (rc' := rc) (rs' := rs) (rc2 := 0) (rs2 := 0) (As := []) (st := _) M_X11_thrown K_L_242 (dT U_Lc44 66 rfl) rfl rfl (by decide) rfl rfl wx.c70 (Nat.le_of_ble_eq_true rfl) (by decide) rfl (Nat.le_of_ble_eq_true rfl) rfl (by decide) (Nat.le_of_ble_eq_true rfl) rfl rfl ?_
      refine S_X11_thrown wx ?_
      refine xRet_some ?_
      refine x_iload (dT U_Lc44 67 rfl) rfl ?_
      refine x_icmp_eq (tgt := 3862) (dT U_Lc44 68 rfl) (by decide) (by unfold xr; omega) (by unfold xr; omega) (fun c3857 => ?_) (fun c3857 => (by exfalso; omega))
      refine x_iload (dT U_Lc44 71 rfl) rfl ?_
      refine x_if_nen (tgt := 3879) (dT U_Lc44 72 rfl) (by decide) (by decide) ?_
      refine x_aload_n (dT U_Lc44 73 rfl) rfl ?_
      refine x_iconst (dT U_Lc44 74 rfl) ?_
      refine x_laload 0 (dT U_Lc44 75 rfl) (ag.get (hset_eq ho) (by omega)) (Nat.le_of_ble_eq_true rfl) rfl (Nat.le_of_ble_eq_true rfl) (Nat.le_of_ble_eq_true rfl) ?_
      refine x_iload (dT U_Lc44 76 rfl) rfl ?_
      refine x_i2l (dT U_Lc44 77 rfl) hz9 ?_
      refine x_lcmp (dT U_Lc44 78 rfl) (xr_l hz9) (xr_l hz9) ?_
      refine x_if_eqj (tgt := 3879) (dT U_Lc44 79 rfl) (by decide) (xcmp_rf _) ?_
      refine x_goto (tgt := 5554) (dT U_Lc44 82 rfl) (by decide) ?_
      refine x_drop ?_ (M _ _ _ _ _ _ _ _ v ((w.out ((Ag.rf 143 143 h).set (by omega)) (by omega)).out ag (by omega)) wx (ag.get (hset_eq ho) (by omega)) (ag.get (hset_ne (by omega) hod) (by omega)))
      repeat (first | exact trivial | refine ⟨rfl, ?_⟩ | refine ⟨trivial, ?_⟩)
