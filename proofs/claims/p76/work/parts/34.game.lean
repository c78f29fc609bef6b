def cG (b s i c : Int) (r : Nat) (z o : Int) : xC := cO 2 [.ref 4, .ref 53, vi b, vi s, vi i, vi c, vi (r : Int), vi z, vi o]
def hlf (r : Nat) : Nat := 8 / 2 ^ (r + 1)
theorem hlf_ok0 : ∀ r ∈ List.range 4, xI 8 >>> (xI ((r : Int) + 1) &&& 31) = xI (hlf r : Int) ∧ xI 8 >>> (xI (r : Int) &&& 31) = xI ((8 / 2 ^ r : Nat) : Int) ∧ hlf r ≤ 4 ∧ 8 / 2 ^ r ≤ 8 ∧ (r < 3 → 2 * hlf r = 8 / 2 ^ r) := by decide +kernel
theorem hlf_ok {r : Nat} (h : r ≤ 3) : xI 8 >>> (xI ((r : Int) + 1) &&& 31) = xI (hlf r : Int) ∧ xI 8 >>> (xI (r : Int) &&& 31) = xI ((8 / 2 ^ r : Nat) : Int) ∧ hlf r ≤ 4 ∧ 8 / 2 ^ r ≤ 8 ∧ (r < 3 → 2 * hlf r = 8 / 2 ^ r) := hlf_ok0 r (List.mem_range.mpr (by omega))
def rz (p : Int) (l : List Int) (r : Nat) : Int := sm (gf l) (hlf r) % p
def ro (p : Int) (l : List Int) (r : Nat) : Int := (sm (gf l) (2 * hlf r) - sm (gf l) (hlf r)) % p
def cr (p : Int) (l : List Int) (r : Nat) : Int := sm (gf l) (8 / 2 ^ r) % p
def wo (p : Nat) (t : Nat) (b : Bool) : Int := if b = true then ((p ^ t : Nat) : Int) else ((p ^ t : Nat) : Int) - (((p - 1) ^ t : Nat) : Int)
def ln (p z o c : Int) : Int := (z + c * (o - z)) % p
def ww (p : Nat) (l : List Int) (r : Nat) (z o : Int) : Nat → Int := sm (fun c => if ln p z o (c : Int) = ln p (rz p l r) (ro p l r) (c : Int) then wo p (2 - r) true else wo p (2 - r) false)
theorem pw3 : ∀ p ∈ PR, ∀ t ∈ List.range 4, p ^ t ≤ 12167 ∧ (p - 1) ^ t ≤ p ^ t := by decide +kernel
theorem wo_b {p t : Nat} {b : Bool} (hp : p ∈ PR) (ht : t < 4) : 0 ≤ wo p t b ∧ wo p t b ≤ 12167 := by
  have h1 := pw3 p hp t (List.mem_range.mpr ht)
  unfold wo
  split <;> omega
theorem ww_b {p : Nat} {l : List Int} {r : Nat} {z o : Int} (hp : p ∈ PR) (n : Nat) : 0 ≤ ww p l r z o n ∧ ww p l r z o n ≤ 12167 * n := by
  have h := sm_b (f := fun c => if ln p z o (c : Int) = ln p (rz p l r) (ro p l r) (c : Int) then wo p (2 - r) true else wo p (2 - r) false) (a := 0) (b := 12167) (by omega) (by omega) n (fun j _ => by
    split
    · exact wo_b hp (by omega)
    · exact wo_b hp (by omega))
  unfold ww
  omega

set_option maxRecDepth 20000 in
set_option maxHeartbeats 1000000 in
theorem S_X2_half {G : xG} {d rc rs : Nat} {ex : Bool} {h : xH} {Q : xQ} {p r : Nat} {b s i c z o : Int} {l : List Int} (hp5 : p ∈ PR) (hf : h[4]? = some (cO 1 [vi (p : Int)])) (hg : h[52]? = some (cG b s i c r z o)) (hl : h[53]? = some (cA 0 l)) (ll : Fl (p : Int) l) (hr : r ≤ 3) (k : Q (.inl (some (vi (hlf r : Int)))) ex h) : X G m_X2_half d rc rs ex 0 (xe m_X2_half.2.2.1 [.ref 52]) [] h Q := by
  show X G m_X2_half _ _ _ _ 0 [some (.ref 52)] [] h Q
  have hp := PRb hp5
  have hk := hlf_ok hr
  have hG : h[52]? = some (cO 2 [.ref 4, .ref 53, vi (b), vi (s), vi (i), vi (c), vi ((r : Int)), vi (z), vi (o)]) := hg
  refine x_bipush (dT U_X2_half 0 rfl) (by decide) ?_
  refine x_aload_n (dT U_X2_half 1 rfl) rfl ?_
  refine x_getfield F_X2_36 (dT U_X2_half 2 rfl) hG (Nat.le_of_ble_eq_true rfl) rfl ?_
  refine x_iconst (dT U_X2_half 3 rfl) ?_
  refine x_iadd (dT U_X2_half 4 rfl) ?_
  refine x_ishr (r := (hlf r : Int)) (dT U_X2_half 5 rfl) hk.1 ?_
  refine x_ireturn (dT U_X2_half 6 rfl) rfl ?_
  exact k

set_option maxRecDepth 20000 in
set_option maxHeartbeats 1000000 in
theorem S_X2_rightZero {G : xG} {d rc rs : Nat} {ex : Bool} {h : xH} {Q : xQ} {p r : Nat} {b s i c z o : Int} {l : List Int} (hp5 : p ∈ PR) (hf : h[4]? = some (cO 1 [vi (p : Int)])) (hg : h[52]? = some (cG b s i c r z o)) (hl : h[53]? = some (cA 0 l)) (ll : Fl (p : Int) l) (hr : r ≤ 3) (k : Q (.inl (some (vi (rz p l r)))) ex h) : X G m_X2_rightZero (d + 2) rc rs ex 0 (xe m_X2_rightZero.2.2.1 [.ref 52]) [] h Q := by
  show X G m_X2_rightZero _ _ _ _ 0 [some (.ref 52)] [] h Q
  have hp := PRb hp5
  have hk := hlf_ok hr
  have hG : h[52]? = some (cO 2 [.ref 4, .ref 53, vi (b), vi (s), vi (i), vi (c), vi ((r : Int)), vi (z), vi (o)]) := hg
  refine x_aload_n (dT U_X2_rightZero 0 rfl) rfl ?_
  refine x_getfield F_X2_9 (dT U_X2_rightZero 1 rfl) hG (Nat.le_of_ble_eq_true rfl) rfl ?_
  refine x_aload_n (dT U_X2_rightZero 2 rfl) rfl ?_
  refine x_getfield F_X2_15 (dT U_X2_rightZero 3 rfl) hG (Nat.le_of_ble_eq_true rfl) rfl ?_
  refine x_iconst (dT U_X2_rightZero 4 rfl) ?_
  refine x_aload_n (dT U_X2_rightZero 5 rfl) rfl ?_
  refine x_invokevirtual (rc' := rc) (rs' := rs) (rc2 := 0) (rs2 := 0) (As := []) (st := _) M_X2_half K_X2_46 (dT U_X2_rightZero 6 rfl) rfl rfl (by decide) rfl rfl hG (Nat.le_of_ble_eq_true rfl) (by decide) rfl (Nat.le_of_ble_eq_true rfl) rfl (by decide) (Nat.le_of_ble_eq_true rfl) rfl rfl ?_
  refine S_X2_half hp5 hf hg hl ll hr ?_
  refine xRet_some ?_
  refine x_invokevirtual (rc' := rc) (rs' := rs) (rc2 := 0) (rs2 := 0) (As := [_, _, _]) (st := _) M_X1_sumOf K_X2_50 (dT U_X2_rightZero 7 rfl) rfl rfl (by decide) rfl rfl hf (Nat.le_of_ble_eq_true rfl) (by decide) rfl (Nat.le_of_ble_eq_true rfl) rfl (by decide) (Nat.le_of_ble_eq_true rfl) rfl rfl ?_
  refine S_X1_sumOf (s := 0) hf hp hl (by omega) ll (by omega) ?_
  change xRet _ _ _ _ _ _ _ _ _ _ (.inl (some (vi ((sm (gf l) (hlf r) - 0) % (p : Int))))) _ _
  rw [Int.sub_zero]
  refine xRet_some ?_
  refine x_ireturn (dT U_X2_rightZero 8 rfl) rfl ?_
  exact k

set_option maxRecDepth 20000 in
set_option maxHeartbeats 1000000 in
theorem S_X2_rightOne {G : xG} {d rc rs : Nat} {ex : Bool} {h : xH} {Q : xQ} {p r : Nat} {b s i c z o : Int} {l : List Int} (hp5 : p ∈ PR) (hf : h[4]? = some (cO 1 [vi (p : Int)])) (hg : h[52]? = some (cG b s i c r z o)) (hl : h[53]? = some (cA 0 l)) (ll : Fl (p : Int) l) (hr : r ≤ 3) (k : Q (.inl (some (vi (ro p l r)))) ex h) : X G m_X2_rightOne (d + 2) rc rs ex 0 (xe m_X2_rightOne.2.2.1 [.ref 52]) [] h Q := by
  show X G m_X2_rightOne _ _ _ _ 0 [some (.ref 52)] [] h Q
  have hp := PRb hp5
  have hk := hlf_ok hr
  have hG : h[52]? = some (cO 2 [.ref 4, .ref 53, vi (b), vi (s), vi (i), vi (c), vi ((r : Int)), vi (z), vi (o)]) := hg
  refine x_aload_n (dT U_X2_rightOne 0 rfl) rfl ?_
  refine x_getfield F_X2_9 (dT U_X2_rightOne 1 rfl) hG (Nat.le_of_ble_eq_true rfl) rfl ?_
  refine x_aload_n (dT U_X2_rightOne 2 rfl) rfl ?_
  refine x_getfield F_X2_15 (dT U_X2_rightOne 3 rfl) hG (Nat.le_of_ble_eq_true rfl) rfl ?_
  refine x_aload_n (dT U_X2_rightOne 4 rfl) rfl ?_
  refine x_invokevirtual (rc' := rc) (rs' := rs) (rc2 := 0) (rs2 := 0) (As := []) (st := _) M_X2_half K_X2_46 (dT U_X2_rightOne 5 rfl) rfl rfl (by decide) rfl rfl hG (Nat.le_of_ble_eq_true rfl) (by decide) rfl (Nat.le_of_ble_eq_true rfl) rfl (by decide) (Nat.le_of_ble_eq_true rfl) rfl rfl ?_
  refine S_X2_half hp5 hf hg hl ll hr ?_
  refine xRet_some ?_
  refine x_iconst (dT U_X2_rightOne 6 rfl) ?_
  refine x_aload_n (dT U_X2_rightOne 7 rfl) rfl ?_
  refine x_invokevirtual (rc' := rc) (rs' := rs) (rc2 := 0) (rs2 := 0) (As := []) (st := _) M_X2_half K_X2_46 (dT U_X2_rightOne 8 rfl) rfl rfl (by decide) rfl rfl hG (Nat.le_of_ble_eq_true rfl) (by decide) rfl (Nat.le_of_ble_eq_true rfl) rfl (by decide) (Nat.le_of_ble_eq_true rfl) rfl rfl ?_
  refine S_X2_half hp5 hf hg hl ll hr ?_
  refine xRet_some ?_
  refine x_imul (dT U_X2_rightOne 9 rfl) ?_
  refine x_invokevirtual (rc' := rc) (rs' := rs) (rc2 := 0) (rs2 := 0) (As := [_, _, _]) (st := _) M_X1_sumOf K_X2_50 (dT U_X2_rightOne 10 rfl) rfl rfl (by decide) rfl rfl hf (Nat.le_of_ble_eq_true rfl) (by decide) rfl (Nat.le_of_ble_eq_true rfl) rfl (by decide) (Nat.le_of_ble_eq_true rfl) rfl rfl ?_
  rw [show (2 : Int) * (hlf r : Int) = ((2 * hlf r : Nat) : Int) by omega]
  refine S_X1_sumOf hf hp hl (by omega) ll (by omega) ?_
  refine xRet_some ?_
  refine x_ireturn (dT U_X2_rightOne 11 rfl) rfl ?_
  exact k

set_option maxRecDepth 20000 in
set_option maxHeartbeats 1000000 in
theorem S_X2_claimIsRight {G : xG} {d rc rs : Nat} {ex : Bool} {h : xH} {Q : xQ} {p r : Nat} {b s i c z o : Int} {l : List Int} (hp5 : p ∈ PR) (hf : h[4]? = some (cO 1 [vi (p : Int)])) (hg : h[52]? = some (cG b s i c r z o)) (hl : h[53]? = some (cA 0 l)) (ll : Fl (p : Int) l) (hr : r ≤ 3) (hcx : xr c) (k1 : c = cr p l r → Q (.inl (some (vi 1))) ex h) (k0 : ¬ c = cr p l r → Q (.inl (some (vi 0))) ex h) : X G m_X2_claimIsRight (d + 2) rc rs ex 0 (xe m_X2_claimIsRight.2.2.1 [.ref 52]) [] h Q := by
  show X G m_X2_claimIsRight _ _ _ _ 0 [some (.ref 52)] [] h Q
  have hp := PRb hp5
  have hk := hlf_ok hr
  have hG : h[52]? = some (cO 2 [.ref 4, .ref 53, vi (b), vi (s), vi (i), vi (c), vi ((r : Int)), vi (z), vi (o)]) := hg
  refine x_aload_n (dT U_X2_claimIsRight 0 rfl) rfl ?_
  refine x_getfield F_X2_32 (dT U_X2_claimIsRight 1 rfl) hG (Nat.le_of_ble_eq_true rfl) rfl ?_
  refine x_aload_n (dT U_X2_claimIsRight 2 rfl) rfl ?_
  refine x_getfield F_X2_9 (dT U_X2_claimIsRight 3 rfl) hG (Nat.le_of_ble_eq_true rfl) rfl ?_
  refine x_aload_n (dT U_X2_claimIsRight 4 rfl) rfl ?_
  refine x_getfield F_X2_15 (dT U_X2_claimIsRight 5 rfl) hG (Nat.le_of_ble_eq_true rfl) rfl ?_
  refine x_iconst (dT U_X2_claimIsRight 6 rfl) ?_
  refine x_bipush (dT U_X2_claimIsRight 7 rfl) (by decide) ?_
  refine x_aload_n (dT U_X2_claimIsRight 8 rfl) rfl ?_
  refine x_getfield F_X2_36 (dT U_X2_claimIsRight 9 rfl) hG (Nat.le_of_ble_eq_true rfl) rfl ?_
  refine x_ishr (r := ((8 / 2 ^ r : Nat) : Int)) (dT U_X2_claimIsRight 10 rfl) hk.2.1 ?_
  refine x_invokevirtual (rc' := rc) (rs' := rs) (rc2 := 0) (rs2 := 0) (As := [_, _, _]) (st := _) M_X1_sumOf K_X2_50 (dT U_X2_claimIsRight 11 rfl) rfl rfl (by decide) rfl rfl hf (Nat.le_of_ble_eq_true rfl) (by decide) rfl (Nat.le_of_ble_eq_true rfl) rfl (by decide) (Nat.le_of_ble_eq_true rfl) rfl rfl ?_
  refine S_X1_sumOf (s := 0) hf hp hl (by omega) ll ⟨Nat.zero_le _, hk.2.2.2.1⟩ ?_
  change xRet _ _ _ _ _ _ _ _ _ _ (.inl (some (vi ((sm (gf l) (8 / 2 ^ r) - 0) % (p : Int))))) _ _
  rw [Int.sub_zero]
  have cb := modb (z := sm (gf l) (8 / 2 ^ r)) (p := (p : Int)) (by omega)
  refine xRet_some ?_
  refine x_icmp_ne (tgt := 30) (dT U_X2_claimIsRight 12 rfl) (by decide) hcx (by unfold xr; omega) (fun c23 => ?_) (fun c23 => ?_)
  · skip
    refine x_iconst (dT U_X2_claimIsRight 15 rfl) ?_
    refine x_zreturn (dT U_X2_claimIsRight 16 rfl) rfl (by omega) ?_
    first | exact k0 (fun q => absurd q (by assumption)) | exact k1 (Decidable.byContradiction fun q => absurd q (by unfold cr; omega))
  · skip
    refine x_iconst (dT U_X2_claimIsRight 13 rfl) ?_
    refine x_goto (tgt := 31) (dT U_X2_claimIsRight 14 rfl) (by decide) ?_
    refine x_zreturn (dT U_X2_claimIsRight 16 rfl) rfl (by omega) ?_
    first | exact k0 (fun q => absurd q (by assumption)) | exact k1 (Decidable.byContradiction fun q => absurd q (by unfold cr; omega))

theorem K_max : Cond.methodLink RX2 98 Lib.Math.max.name ∈ lw_big := lw_bm 855 (by decide +kernel) rfl
theorem S_max : Cond.static Lib.Math.max.name ∈ lw_big := lw_bm 856 (by decide +kernel) rfl
theorem I_max : Cond.initialized "java/lang/Math" ∈ lw_big := lw_bm 56 (by decide +kernel) rfl
theorem C_max : Cond.code Lib.Math.max.name Lib.Math.max.code 2 (some .int) ∈ lw_big := lw_bm 857 (by decide +kernel) rfl
theorem x_mmax {G : xG} {mt : xM} {d rc rs pc idx : Nat} {ex : Bool} {ls : List (Option Value)} {st : List Value} {h : xH} {Q : xQ} {a b : Int} (hL : Cond.methodLink mt.1.cls idx Lib.Math.max.name ∈ lw_big) (hS0 : Cond.static Lib.Math.max.name ∈ lw_big) (hI : Cond.initialized "java/lang/Math" ∈ lw_big) (hC : Cond.code Lib.Math.max.name Lib.Math.max.code 2 (some .int) ∈ lw_big)
    (hd : decode mt.2.1 pc = .ok (.invokestatic idx, 3)) (hdep : 1 ≤ d) (hrest : (st.map fun v => v.category).sum ≤ 8) (ha : xr a) (hb : xr b) (k : X G mt d rc rs ex (pc + 3) ls (vi (if a < b then b else a) :: st) h Q) : X G mt d rc rs ex pc ls (vi b :: vi a :: st) h Q := by
  intro p e s m args below meth c K H locs cells slots mc ms lsA hP hS hZ h1 h2 hl
  refine va_mmax K.1 K.2.1 (K.2.2.2.1.trans hl.1.symm) K.2.2.2.2.1 (K.2.2.2.2.2.1 _ hL) (K.2.2.2.2.2.1 _ hS0) (K.2.2.2.2.2.1 _ hI) (K.2.2.2.2.2.1 _ hC) (by unfold xRM; exact hdep) (by rw [xcat]; unfold xRM; dsimp only; omega) (by unfold xRM; dsimp only; omega) (by unfold xRM; dsimp only; omega) hd ?_
  have q := k p e s m args below meth c K H locs cells slots mc ms lsA hP hS hZ h1 h2 hl
  have e1 : (if xI a < xI b then xI b else xI a) = xI (if a < b then b else a) := by
    by_cases z : a < b
    · rw [if_pos ((xI_lt ha hb).mpr z), if_pos z]
    · rw [if_neg (fun w => z ((xI_lt ha hb).mp w)), if_neg z]
  rw [e1]
  exact q

set_option maxRecDepth 20000 in
set_option maxHeartbeats 1000000 in
theorem S_X2_lineAt {G : xG} {d rc rs : Nat} {ex : Bool} {h : xH} {Q : xQ} {p r : Nat} {b s i c z o : Int} {l : List Int} {x y w : Int} (hp5 : p ∈ PR) (hf : h[4]? = some (cO 1 [vi (p : Int)])) (hg : h[52]? = some (cG b s i c r z o)) (hl : h[53]? = some (cA 0 l)) (ll : Fl (p : Int) l) (hr : r ≤ 3) (hx : 0 ≤ x ∧ x < p) (hy : 0 ≤ y ∧ y < p) (hw : 0 ≤ w ∧ w < p) (k : Q (.inl (some (vi (ln p x y w)))) ex h) : X G m_X2_lineAt (d + 1) rc rs ex 0 (xe m_X2_lineAt.2.2.1 [.ref 52, vi x, vi y, vi w]) [] h Q := by
  show X G m_X2_lineAt _ _ _ _ 0 [some (.ref 52), some (vi x), some (vi y), some (vi w)] [] h Q
  have hp := PRb hp5
  have hk := hlf_ok hr
  have hG : h[52]? = some (cO 2 [.ref 4, .ref 53, vi (b), vi (s), vi (i), vi (c), vi ((r : Int)), vi (z), vi (o)]) := hg
  refine x_aload_n (dT U_X2_lineAt 0 rfl) rfl ?_
  refine x_getfield F_X2_9 (dT U_X2_lineAt 1 rfl) hG (Nat.le_of_ble_eq_true rfl) rfl ?_
  refine x_iload_n (dT U_X2_lineAt 2 rfl) rfl ?_
  refine x_iload_n (dT U_X2_lineAt 3 rfl) rfl ?_
  refine x_iload_n (dT U_X2_lineAt 4 rfl) rfl ?_
  refine x_iload_n (dT U_X2_lineAt 5 rfl) rfl ?_
  refine x_isub (dT U_X2_lineAt 6 rfl) ?_
  refine x_imul (dT U_X2_lineAt 7 rfl) ?_
  refine x_iadd (dT U_X2_lineAt 8 rfl) ?_
  refine x_invokevirtual (rc' := rc) (rs' := rs) (rc2 := 0) (rs2 := 0) (As := [_]) (st := _) M_X1_rest K_X2_74 (dT U_X2_lineAt 9 rfl) rfl rfl (by decide) rfl rfl hf (Nat.le_of_ble_eq_true rfl) (by decide) rfl (Nat.le_of_ble_eq_true rfl) rfl (by decide) (Nat.le_of_ble_eq_true rfl) rfl rfl ?_
  have m1 := mulb2 (a := y - x) (b := w) (p := (p : Int)) (by omega) hw (by omega)
  rw [Int.mul_comm] at m1
  refine S_X1_rest hf hp (by unfold xr; omega) ?_
  refine xRet_some ?_
  refine x_ireturn (dT U_X2_lineAt 10 rfl) rfl ?_
  exact k

set_option maxRecDepth 20000 in
set_option maxHeartbeats 1000000 in
theorem S_X2_winningOf {G : xG} {d rc rs : Nat} {ex : Bool} {h : xH} {Q : xQ} {p r : Nat} {b s i c z o : Int} {l : List Int} {t : Nat} {bb : Int} (hp5 : p ∈ PR) (hf : h[4]? = some (cO 1 [vi (p : Int)])) (hg : h[52]? = some (cG b s i c r z o)) (hl : h[53]? = some (cA 0 l)) (ll : Fl (p : Int) l) (hr : r ≤ 3) (ht : t ≤ 3) (hbb : bb = 0 ∨ bb = 1) (k : Q (.inl (some (vi (wo p t (decide (bb = 1)))))) ex h) : X G m_X2_winningOf d rc rs ex 0 (xe m_X2_winningOf.2.2.1 [.ref 52, vi (t : Int), vi bb]) [] h Q := by
  show X G m_X2_winningOf _ _ _ _ 0 [some (.ref 52), some (vi (t : Int)), some (vi bb), none, none, none] [] h Q
  have hp := PRb hp5
  have hk := hlf_ok hr
  have hG : h[52]? = some (cO 2 [.ref 4, .ref 53, vi (b), vi (s), vi (i), vi (c), vi ((r : Int)), vi (z), vi (o)]) := hg
  have L : ∀ (n j : Nat), j + n = t → X G m_X2_winningOf d rc rs ex 8 [some (.ref 52), some (vi (t : Int)), some (vi bb), some (vi ((p ^ j : Nat) : Int)), some (vi (((p - 1) ^ j : Nat) : Int)), some (vi (j : Int))] [] h Q := by
    intro n
    induction n with
    | zero =>
      intro j hi 
      refine x_iload (dT U_X2_winningOf 6 rfl) rfl ?_
      refine x_iload_n (dT U_X2_winningOf 7 rfl) rfl ?_
      refine x_icmp_ge (tgt := 50) (dT U_X2_winningOf 8 rfl) (by decide) (by unfold xr at *; omega) (by unfold xr at *; omega) (fun c11 => ?_) (fun c11 => ?_)
      · skip
        have e : j = t := by omega
        subst e
        refine x_iload_n (dT U_X2_winningOf 28 rfl) rfl ?_
        refine x_if_eq (tgt := 58) (dT U_X2_winningOf 29 rfl) (by decide) (by unfold xr; omega) (fun c51 => ?_) (fun c51 => ?_)
        · skip
          rw [show decide (bb = 1) = false from decide_eq_false (by omega)] at k
          refine x_iload_n (dT U_X2_winningOf 32 rfl) rfl ?_
          refine x_iload (dT U_X2_winningOf 33 rfl) rfl ?_
          refine x_isub (dT U_X2_winningOf 34 rfl) ?_
          refine x_ireturn (dT U_X2_winningOf 35 rfl) rfl ?_
          exact k
        · skip
          rw [show decide (bb = 1) = true from decide_eq_true (by omega)] at k
          refine x_iload_n (dT U_X2_winningOf 30 rfl) rfl ?_
          refine x_goto (tgt := 62) (dT U_X2_winningOf 31 rfl) (by decide) ?_
          refine x_ireturn (dT U_X2_winningOf 35 rfl) rfl ?_
          exact k
      · exfalso; omega
    | succ n ih =>
      intro j hi 
      refine x_iload (dT U_X2_winningOf 6 rfl) rfl ?_
      refine x_iload_n (dT U_X2_winningOf 7 rfl) rfl ?_
      refine x_icmp_ge (tgt := 50) (dT U_X2_winningOf 8 rfl) (by decide) (by unfold xr at *; omega) (by unfold xr at *; omega) (fun c11 => ?_) (fun c11 => ?_)
      · exfalso; omega
      · skip
        refine x_iload (dT U_X2_winningOf 9 rfl) rfl ?_
        refine x_iconst (dT U_X2_winningOf 10 rfl) ?_
        refine x_icmp_ge (tgt := 50) (dT U_X2_winningOf 11 rfl) (by decide) (by unfold xr at *; omega) (by unfold xr at *; omega) (fun c17 => ?_) (fun c17 => ?_)
        · exfalso; omega
        · skip
          refine x_iload_n (dT U_X2_winningOf 12 rfl) rfl ?_
          refine x_aload_n (dT U_X2_winningOf 13 rfl) rfl ?_
          refine x_getfield F_X2_9 (dT U_X2_winningOf 14 rfl) hG (Nat.le_of_ble_eq_true rfl) rfl ?_
          refine x_getfield F_X2_86 (dT U_X2_winningOf 15 rfl) hf (Nat.le_of_ble_eq_true rfl) rfl ?_
          refine x_imul (dT U_X2_winningOf 16 rfl) ?_
          refine x_istore_n (ls' := [some (.ref _), some (vi _), some (vi _), some (vi _), some (vi _), some (vi _)]) (dT U_X2_winningOf 17 rfl) (by decide) rfl ?_
          refine x_iload (dT U_X2_winningOf 18 rfl) rfl ?_
          refine x_aload_n (dT U_X2_winningOf 19 rfl) rfl ?_
          refine x_getfield F_X2_9 (dT U_X2_winningOf 20 rfl) hG (Nat.le_of_ble_eq_true rfl) rfl ?_
          refine x_getfield F_X2_86 (dT U_X2_winningOf 21 rfl) hf (Nat.le_of_ble_eq_true rfl) rfl ?_
          refine x_iconst (dT U_X2_winningOf 22 rfl) ?_
          refine x_isub (dT U_X2_winningOf 23 rfl) ?_
          refine x_imul (dT U_X2_winningOf 24 rfl) ?_
          refine x_istore (ls' := [some (.ref _), some (vi _), some (vi _), some (vi _), some (vi _), some (vi _)]) (dT U_X2_winningOf 25 rfl) (by decide) rfl ?_
          refine x_iinc (ls' := [some (.ref _), some (vi _), some (vi _), some (vi _), some (vi _), some (vi _)]) (dT U_X2_winningOf 26 rfl) (by decide) rfl rfl ?_
          refine x_goto (tgt := 8) (dT U_X2_winningOf 27 rfl) (by decide) ?_
          have q := ih (j + 1) (by omega)
          rw [show ((p ^ (j + 1) : Nat) : Int) = ((p ^ j : Nat) : Int) * (p : Int) from by rw [Nat.pow_succ, Int.natCast_mul], show (((p - 1) ^ (j + 1) : Nat) : Int) = (((p - 1) ^ j : Nat) : Int) * ((p : Int) - 1) from by rw [Nat.pow_succ, Int.natCast_mul, Int.natCast_sub (by omega)]; rfl] at q
          exact q
  refine x_iconst (dT U_X2_winningOf 0 rfl) ?_
  refine x_istore_n (ls' := [some (.ref _), some (vi _), some (vi _), some (vi _), none, none]) (dT U_X2_winningOf 1 rfl) (by decide) rfl ?_
  refine x_iconst (dT U_X2_winningOf 2 rfl) ?_
  refine x_istore (ls' := [some (.ref _), some (vi _), some (vi _), some (vi _), some (vi _), none]) (dT U_X2_winningOf 3 rfl) (by decide) rfl ?_
  refine x_iconst (dT U_X2_winningOf 4 rfl) ?_
  refine x_istore (ls' := [some (.ref _), some (vi _), some (vi _), some (vi _), some (vi _), some (vi _)]) (dT U_X2_winningOf 5 rfl) (by decide) rfl ?_
  exact L t 0 (by omega)

set_option maxRecDepth 20000 in
set_option maxHeartbeats 1000000 in
theorem S_X2_winningWith {G : xG} {d rc rs : Nat} {ex : Bool} {h : xH} {Q : xQ} {p r : Nat} {b s i c z o : Int} {l : List Int} {x y : Int} (hp5 : p ∈ PR) (hf : h[4]? = some (cO 1 [vi (p : Int)])) (hg : h[52]? = some (cG b s i c r z o)) (hl : h[53]? = some (cA 0 l)) (ll : Fl (p : Int) l) (hr : r ≤ 3) (hr2 : r ≤ 2) (hx : 0 ≤ x ∧ x < p) (hy : 0 ≤ y ∧ y < p) (k : Q (.inl (some (vi (ww p l r x y p)))) ex h) : X G m_X2_winningWith (d + 3) rc rs ex 0 (xe m_X2_winningWith.2.2.1 [.ref 52, vi x, vi y]) [] h Q := by
  show X G m_X2_winningWith _ _ _ _ 0 [some (.ref 52), some (vi x), some (vi y), none, none, none, none, none, none, none] [] h Q
  have hp := PRb hp5
  have hk := hlf_ok hr
  have hG : h[52]? = some (cO 2 [.ref 4, .ref 53, vi (b), vi (s), vi (i), vi (c), vi ((r : Int)), vi (z), vi (o)]) := hg
  have zb : 0 ≤ rz p l r ∧ rz p l r < p := modb (by omega)
  have ob : 0 ≤ ro p l r ∧ ro p l r < p := modb (by omega)
  have L : ∀ (n w : Nat), w + n = p → X G m_X2_winningWith (d + 3) rc rs ex 45 [some (.ref 52), some (vi x), some (vi y), some (vi (rz p l r)), some (vi (ro p l r)), some (vi ((2 - r : Nat) : Int)), some (vi (wo p (2 - r) true)), some (vi (wo p (2 - r) false)), some (vi (ww p l r x y w)), some (vi (w : Int))] [] h Q := by
    intro n
    induction n with
    | zero =>
      intro w hi 
      refine x_iload (dT U_X2_winningWith 27 rfl) rfl ?_
      refine x_aload_n (dT U_X2_winningWith 28 rfl) rfl ?_
      refine x_getfield F_X2_9 (dT U_X2_winningWith 29 rfl) hG (Nat.le_of_ble_eq_true rfl) rfl ?_
      refine x_getfield F_X2_86 (dT U_X2_winningWith 30 rfl) hf (Nat.le_of_ble_eq_true rfl) rfl ?_
      refine x_icmp_ge (tgt := 95) (dT U_X2_winningWith 31 rfl) (by decide) (by unfold xr at *; omega) (by unfold xr at *; omega) (fun c54 => ?_) (fun c54 => ?_)
      · skip
        refine x_iload (dT U_X2_winningWith 51 rfl) rfl ?_
        refine x_ireturn (dT U_X2_winningWith 52 rfl) rfl ?_
        have e : w = p := by omega
        subst e
        exact k
      · exfalso; omega
    | succ n ih =>
      intro w hi 
      refine x_iload (dT U_X2_winningWith 27 rfl) rfl ?_
      refine x_aload_n (dT U_X2_winningWith 28 rfl) rfl ?_
      refine x_getfield F_X2_9 (dT U_X2_winningWith 29 rfl) hG (Nat.le_of_ble_eq_true rfl) rfl ?_
      refine x_getfield F_X2_86 (dT U_X2_winningWith 30 rfl) hf (Nat.le_of_ble_eq_true rfl) rfl ?_
      refine x_icmp_ge (tgt := 95) (dT U_X2_winningWith 31 rfl) (by decide) (by unfold xr at *; omega) (by unfold xr at *; omega) (fun c54 => ?_) (fun c54 => ?_)
      · exfalso; omega
      · skip
        refine x_iload (dT U_X2_winningWith 32 rfl) rfl ?_
        refine x_aload_n (dT U_X2_winningWith 33 rfl) rfl ?_
        refine x_iload_n (dT U_X2_winningWith 34 rfl) rfl ?_
        refine x_iload_n (dT U_X2_winningWith 35 rfl) rfl ?_
        refine x_iload (dT U_X2_winningWith 36 rfl) rfl ?_
        refine x_invokevirtual (rc' := rc) (rs' := rs) (rc2 := 0) (rs2 := 0) (As := [_, _, _]) (st := _) M_X2_lineAt K_X2_66 (dT U_X2_winningWith 37 rfl) rfl rfl (by decide) rfl rfl hG (Nat.le_of_ble_eq_true rfl) (by decide) rfl (Nat.le_of_ble_eq_true rfl) rfl (by decide) (Nat.le_of_ble_eq_true rfl) rfl rfl ?_
        refine S_X2_lineAt hp5 hf hg hl ll hr hx hy (by omega) ?_
        refine xRet_some ?_
        refine x_aload_n (dT U_X2_winningWith 38 rfl) rfl ?_
        refine x_iload_n (dT U_X2_winningWith 39 rfl) rfl ?_
        refine x_iload (dT U_X2_winningWith 40 rfl) rfl ?_
        refine x_iload (dT U_X2_winningWith 41 rfl) rfl ?_
        refine x_invokevirtual (rc' := rc) (rs' := rs) (rc2 := 0) (rs2 := 0) (As := [_, _, _]) (st := _) M_X2_lineAt K_X2_66 (dT U_X2_winningWith 42 rfl) rfl rfl (by decide) rfl rfl hG (Nat.le_of_ble_eq_true rfl) (by decide) rfl (Nat.le_of_ble_eq_true rfl) rfl (by decide) (Nat.le_of_ble_eq_true rfl) rfl rfl ?_
        refine S_X2_lineAt hp5 hf hg hl ll hr zb ob (by omega) ?_
        have b1 : 0 ≤ ln p x y (w : Int) ∧ ln p x y (w : Int) < p := modb (by omega)
        have b2 : 0 ≤ ln p (rz p l r) (ro p l r) (w : Int) ∧ ln p (rz p l r) (ro p l r) (w : Int) < p := modb (by omega)
        refine xRet_some ?_
        refine x_icmp_ne (tgt := 84) (dT U_X2_winningWith 43 rfl) (by decide) (by unfold xr; omega) (by unfold xr; omega) (fun c76 => ?_) (fun c76 => ?_)
        · skip
          have e1 : ww p l r x y (w + 1) = ww p l r x y w + wo p (2 - r) false := by show ww p l r x y w + (if _ then _ else _) = _; rw [if_neg (by assumption)]
          refine x_iload (dT U_X2_winningWith 46 rfl) rfl ?_
          refine x_iadd (dT U_X2_winningWith 47 rfl) ?_
          refine x_istore (ls' := [some (.ref _), some (vi _), some (vi _), some (vi _), some (vi _), some (vi _), some (vi _), some (vi _), some (vi _), some (vi _)]) (dT U_X2_winningWith 48 rfl) (by decide) rfl ?_
          refine x_iinc (ls' := [some (.ref _), some (vi _), some (vi _), some (vi _), some (vi _), some (vi _), some (vi _), some (vi _), some (vi _), some (vi _)]) (dT U_X2_winningWith 49 rfl) (by decide) rfl rfl ?_
          refine x_goto (tgt := 45) (dT U_X2_winningWith 50 rfl) (by decide) ?_
          have q := ih (w + 1) (by omega)
          rw [e1] at q
          exact q
        · skip
          have e1 : ww p l r x y (w + 1) = ww p l r x y w + wo p (2 - r) true := by show ww p l r x y w + (if _ then _ else _) = _; rw [if_pos (by omega)]
          refine x_iload (dT U_X2_winningWith 44 rfl) rfl ?_
          refine x_goto (tgt := 86) (dT U_X2_winningWith 45 rfl) (by decide) ?_
          refine x_iadd (dT U_X2_winningWith 47 rfl) ?_
          refine x_istore (ls' := [some (.ref _), some (vi _), some (vi _), some (vi _), some (vi _), some (vi _), some (vi _), some (vi _), some (vi _), some (vi _)]) (dT U_X2_winningWith 48 rfl) (by decide) rfl ?_
          refine x_iinc (ls' := [some (.ref _), some (vi _), some (vi _), some (vi _), some (vi _), some (vi _), some (vi _), some (vi _), some (vi _), some (vi _)]) (dT U_X2_winningWith 49 rfl) (by decide) rfl rfl ?_
          refine x_goto (tgt := 45) (dT U_X2_winningWith 50 rfl) (by decide) ?_
          have q := ih (w + 1) (by omega)
          rw [e1] at q
          exact q
  refine x_aload_n (dT U_X2_winningWith 0 rfl) rfl ?_
  refine x_invokevirtual (rc' := rc) (rs' := rs) (rc2 := 0) (rs2 := 0) (As := []) (st := _) M_X2_rightZero K_X2_54 (dT U_X2_winningWith 1 rfl) rfl rfl (by decide) rfl rfl hG (Nat.le_of_ble_eq_true rfl) (by decide) rfl (Nat.le_of_ble_eq_true rfl) rfl (by decide) (Nat.le_of_ble_eq_true rfl) rfl rfl ?_
  refine S_X2_rightZero hp5 hf hg hl ll hr ?_
  refine xRet_some ?_
  refine x_istore_n (ls' := [some (.ref _), some (vi _), some (vi _), some (vi _), none, none, none, none, none, none]) (dT U_X2_winningWith 2 rfl) (by decide) rfl ?_
  refine x_aload_n (dT U_X2_winningWith 3 rfl) rfl ?_
  refine x_invokevirtual (rc' := rc) (rs' := rs) (rc2 := 0) (rs2 := 0) (As := []) (st := _) M_X2_rightOne K_X2_57 (dT U_X2_winningWith 4 rfl) rfl rfl (by decide) rfl rfl hG (Nat.le_of_ble_eq_true rfl) (by decide) rfl (Nat.le_of_ble_eq_true rfl) rfl (by decide) (Nat.le_of_ble_eq_true rfl) rfl rfl ?_
  refine S_X2_rightOne hp5 hf hg hl ll hr ?_
  refine xRet_some ?_
  refine x_istore (ls' := [some (.ref _), some (vi _), some (vi _), some (vi _), some (vi _), none, none, none, none, none]) (dT U_X2_winningWith 5 rfl) (by decide) rfl ?_
  refine x_iconst (dT U_X2_winningWith 6 rfl) ?_
  refine x_aload_n (dT U_X2_winningWith 7 rfl) rfl ?_
  refine x_getfield F_X2_36 (dT U_X2_winningWith 8 rfl) hG (Nat.le_of_ble_eq_true rfl) rfl ?_
  refine x_isub (dT U_X2_winningWith 9 rfl) ?_
  refine x_iconst (dT U_X2_winningWith 10 rfl) ?_
  refine x_isub (dT U_X2_winningWith 11 rfl) ?_
  rw [show (3 : Int) - (r : Int) - 1 = ((2 - r : Nat) : Int) by omega]
  refine x_istore (ls' := [some (.ref _), some (vi _), some (vi _), some (vi _), some (vi _), some (vi _), none, none, none, none]) (dT U_X2_winningWith 12 rfl) (by decide) rfl ?_
  refine x_aload_n (dT U_X2_winningWith 13 rfl) rfl ?_
  refine x_iload (dT U_X2_winningWith 14 rfl) rfl ?_
  refine x_iconst (dT U_X2_winningWith 15 rfl) ?_
  refine x_invokevirtual (rc' := rc) (rs' := rs) (rc2 := 0) (rs2 := 0) (As := [_, _]) (st := _) M_X2_winningOf K_X2_82 (dT U_X2_winningWith 16 rfl) rfl rfl (by decide) rfl rfl hG (Nat.le_of_ble_eq_true rfl) (by decide) rfl (Nat.le_of_ble_eq_true rfl) rfl (by decide) (Nat.le_of_ble_eq_true rfl) rfl rfl ?_
  refine S_X2_winningOf hp5 hf hg hl ll hr (by omega) (Or.inr rfl) ?_
  refine xRet_some ?_
  refine x_istore (ls' := [some (.ref _), some (vi _), some (vi _), some (vi _), some (vi _), some (vi _), some (vi _), none, none, none]) (dT U_X2_winningWith 17 rfl) (by decide) rfl ?_
  refine x_aload_n (dT U_X2_winningWith 18 rfl) rfl ?_
  refine x_iload (dT U_X2_winningWith 19 rfl) rfl ?_
  refine x_iconst (dT U_X2_winningWith 20 rfl) ?_
  refine x_invokevirtual (rc' := rc) (rs' := rs) (rc2 := 0) (rs2 := 0) (As := [_, _]) (st := _) M_X2_winningOf K_X2_82 (dT U_X2_winningWith 21 rfl) rfl rfl (by decide) rfl rfl hG (Nat.le_of_ble_eq_true rfl) (by decide) rfl (Nat.le_of_ble_eq_true rfl) rfl (by decide) (Nat.le_of_ble_eq_true rfl) rfl rfl ?_
  refine S_X2_winningOf hp5 hf hg hl ll hr (by omega) (Or.inl rfl) ?_
  refine xRet_some ?_
  refine x_istore (ls' := [some (.ref _), some (vi _), some (vi _), some (vi _), some (vi _), some (vi _), some (vi _), some (vi _), none, none]) (dT U_X2_winningWith 22 rfl) (by decide) rfl ?_
  refine x_iconst (dT U_X2_winningWith 23 rfl) ?_
  refine x_istore (ls' := [some (.ref _), some (vi _), some (vi _), some (vi _), some (vi _), some (vi _), some (vi _), some (vi _), some (vi _), none]) (dT U_X2_winningWith 24 rfl) (by decide) rfl ?_
  refine x_iconst (dT U_X2_winningWith 25 rfl) ?_
  refine x_istore (ls' := [some (.ref _), some (vi _), some (vi _), some (vi _), some (vi _), some (vi _), some (vi _), some (vi _), some (vi _), some (vi _)]) (dT U_X2_winningWith 26 rfl) (by decide) rfl ?_
  exact L p 0 (by omega)
