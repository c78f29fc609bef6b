set_option maxRecDepth 20000 in
theorem MX.fld {σ : St} {c : Int} {rr p : Nat} {ss : Int} {h h2 : xH} (w : MX σ c rr ss h) (o : ∀ a, ¬ (70 ≤ a ∧ a ≤ 72) ∧ ¬ (74 ≤ a ∧ a ≤ 81) ∧ a ≠ 82 ∧ a ≠ 93 ∧ a ≠ 109 → h2[a]? = h[a]?) (q70 : h2[70]? = some (mC c p 0 0 0 σ.g.c 0 σ.g.z σ.g.o 0)) (q71 : ∃ l : List Int, h2[71]? = some (cA 0 l) ∧ l.length = 23 ∧ ∀ e, e < p → l.getD e 0 = (mm p e : Int)) (q72 : h2[72]? = some (cA 0 (tab (fun y => exo p y) 191))) (q74 : ∀ j, j < 8 → h2[74 + j]? = some (cA 0 zr8)) (q82 : h2[82]? = some (cA 0 (t5 (fun _ => 0)))) (q93 : h2[93]? = some (cA 1 (t5 (fun _ => 0)))) (q109 : h2[109]? = some (cA 0 (t2 (fun _ => 0)))) : MX (fldSt σ p) c 0 0 h2 := ⟨
  q70,
  q71,
  q72,
  (o _ (by omega)).trans w.c73,
  q74,
  q82,
  (o _ (by omega)).trans w.c83,
  (o _ (by omega)).trans w.c84,
  fun j hj => (o _ (by omega)).trans (w.forms j hj),
  Exists.elim w.s89 (fun l q => ⟨l, (o _ (by omega)).trans q.1, q.2⟩),
  (o _ (by omega)).trans w.c90,
  (o _ (by omega)).trans w.c91,
  (o _ (by omega)).trans w.c92,
  q93,
  (o _ (by omega)).trans w.c94,
  fun j hj => (o _ (by omega)).trans (w.masks j hj),
  (o _ (by omega)).trans w.c100,
  (o _ (by omega)).trans w.c101,
  (o _ (by omega)).trans w.c102,
  fun j hj => (o _ (by omega)).trans (w.answers j hj),
  (o _ (by omega)).trans w.c108,
  q109,
  (o _ (by omega)).trans w.c110,
  (o _ (by omega)).trans w.c111,
  (o _ (by omega)).trans w.c112,
  (o _ (by omega)).trans w.c113,
  (o _ (by omega)).trans w.c114,
  (o _ (by omega)).trans w.c115,
  fun j hj => (o _ (by omega)).trans (w.bf j hj),
  (o _ (by omega)).trans w.c118,
  fun j hj => (o _ (by omega)).trans (w.bc j hj),
  (o _ (by omega)).trans w.c121,
  fun j hj => (o _ (by omega)).trans (w.bt j hj),
  (o _ (by omega)).trans w.c124,
  fun j hj => (o _ (by omega)).trans (w.gates j hj),
  (o _ (by omega)).trans w.c133,
  (o _ (by omega)).trans w.c134,
  (o _ (by omega)).trans w.c135,
  Exists.elim w.s136 (fun l q => ⟨l, (o _ (by omega)).trans q.1, q.2⟩),
  Exists.elim w.s137 (fun l q => ⟨l, (o _ (by omega)).trans q.1, q.2⟩),
  Exists.elim w.s138 (fun l q => ⟨l, (o _ (by omega)).trans q.1, q.2⟩),
  Exists.elim w.s139 (fun l q => ⟨l, (o _ (by omega)).trans q.1, q.2⟩),
  Exists.elim w.s140 (fun l q => ⟨l, (o _ (by omega)).trans q.1, q.2⟩),
  Exists.elim w.s141 (fun l q => ⟨l, (o _ (by omega)).trans q.1, q.2⟩),
  Exists.elim w.s142 (fun l q => ⟨l, (o _ (by omega)).trans q.1, q.2⟩),
  ⟨fun z => absurd (show (0 : Int) = 1 from z) (by decide), Nat.zero_le 3, Or.inl rfl⟩⟩
set_option maxRecDepth 20000 in
set_option maxHeartbeats 1000000 in
theorem S_X11_field {G : xG} {d rc rs : Nat} {ex : Bool} {h : xH} {Q : xQ} {σ : St} {cc0 : Int} {rr : Nat} {ss : Int} {number : Int} (w : MX σ cc0 rr ss h) (v : INV σ) (h_number : xr number) (e1 : ¬ (inb number 8) → ∀ h2 z, Ag 70 142 h h2 → MX σ 1 rr ss h2 → xr z → Q (.inl (some (vi z))) ex h2) (k : (inb number 8) → ∀ h2 r2 s2, Ag 70 142 h h2 → MX (fldSt σ (prn number.toNat)) 0 r2 s2 h2 → Q (.inl (some (vi ((prn number.toNat : Int))))) ex h2) : X G m_X11_field (d + 2) rc rs ex 0 (xe m_X11_field.2.2.1 [.ref 70, vi number]) [] h Q := by
  show X G m_X11_field _ _ _ _ 0 [some (.ref 70), some (vi number)] [] h Q
  have hp := PRb v.p
  have hq := gq_b v.p
  refine x_aload_n (dT U_X11_field 0 rfl) rfl ?_
  refine x_iload_n (dT U_X11_field 1 rfl) rfl ?_
  refine x_invokestatic (rc' := rc) (rs' := rs) (rc2 := 0) (rs2 := 0) (As := [_]) (st := _) M_X11_isRow K_X11_164 (dT U_X11_field 2 rfl) rfl rfl rfl rfl (Nat.le_of_ble_eq_true rfl) rfl (by decide) (Nat.le_of_ble_eq_true rfl) rfl rfl ?_
  refine S_X11_isRow h_number (fun q1 => ?_) (fun q1 => ?_)
  · refine xRet_some ?_
    refine x_iconst (dT U_X11_field 3 rfl) ?_
    refine x_invokevirtual (rc' := rc) (rs' := rs) (rc2 := 0) (rs2 := 0) (As := [_, _]) (st := _) M_X11_lets K_X11_167 (dT U_X11_field 4 rfl) rfl rfl (by decide) rfl rfl w.c70 (Nat.le_of_ble_eq_true rfl) (by decide) rfl (Nat.le_of_ble_eq_true rfl) rfl (by decide) (Nat.le_of_ble_eq_true rfl) rfl rfl ?_
    refine S_X11_lets1 w (fun h1 g1 w1 => ?_)
    refine xRet_some ?_
    obtain ⟨j, hj, rfl⟩ : ∃ j : Nat, j < 8 ∧ number = (j : Int) := ⟨number.toNat, by omega, by omega⟩
    try simp only [tnc] at e1 k
    refine x_if_nej (tgt := 14) (dT U_X11_field 5 rfl) (by decide) (by decide) ?_
    refine x_aload_n (dT U_X11_field 8 rfl) rfl ?_
    refine x_primesM rfl FP_X11_171 (dT U_X11_field 9 rfl) ?_
    refine x_iload_n (dT U_X11_field 10 rfl) rfl ?_
    refine x_ialoadP (j) (Or.inr rfl) (dT U_X11_field 11 rfl) rfl (by omega) ?_
    refine x_invokevirtual (rc' := rc) (rs' := rs) (rc2 := 0) (rs2 := 0) (As := [_]) (st := _) M_X11_begin K_X11_118 (dT U_X11_field 12 rfl) rfl rfl (by decide) rfl rfl w1.c70 (Nat.le_of_ble_eq_true rfl) (by decide) rfl (Nat.le_of_ble_eq_true rfl) rfl (by decide) (Nat.le_of_ble_eq_true rfl) rfl rfl ?_
    obtain ⟨ep, hp8⟩ := prn_ok (show j < 8 by omega)
    rw [ep]
    obtain ⟨ml, m1, m2, _⟩ := w1.pow
    refine S_X11_begin (p := prn j) hp8 w1.c70 m1 m2 w1.c72 (tab_len _ _) w1.c73 (fun j hj => ⟨_, w1.rows j hj, (v.rw j hj).1⟩) w1.c82 w1.c93 w1.c109 (fun h9 g9 o9 a1 a2 a3 a4 a5 a6 a7 => ?_)
    refine xRet_none ?_
    have w9 := w1.fld o9 a1 a2 a3 a4 a5 a6 a7
    refine x_aload_n (dT U_X11_field 13 rfl) rfl ?_
    refine x_getfield F_X11_130 (dT U_X11_field 14 rfl) w9.c70 (Nat.le_of_ble_eq_true rfl) rfl ?_
    refine x_ireturn (dT U_X11_field 15 rfl) rfl ?_
    exact k (by omega) _ _ _ (Ag.tr (Ag.tr (Ag.rf 70 142 h) (g1.w (by omega))) g9) w9
  · refine xRet_some ?_
    refine x_iconst (dT U_X11_field 3 rfl) ?_
    refine x_invokevirtual (rc' := rc) (rs' := rs) (rc2 := 0) (rs2 := 0) (As := [_, _]) (st := _) M_X11_lets K_X11_167 (dT U_X11_field 4 rfl) rfl rfl (by decide) rfl rfl w.c70 (Nat.le_of_ble_eq_true rfl) (by decide) rfl (Nat.le_of_ble_eq_true rfl) rfl (by decide) (Nat.le_of_ble_eq_true rfl) rfl rfl ?_
    refine S_X11_lets0 w (fun h1 g1 w1 => ?_)
    refine xRet_some ?_
    refine x_if_nen (tgt := 14) (dT U_X11_field 5 rfl) (by decide) (by decide) ?_
    refine x_iconst (dT U_X11_field 6 rfl) ?_
    refine x_ireturn (dT U_X11_field 7 rfl) rfl ?_
    exact e1 (by omega) _ _ (Ag.tr (Ag.rf 70 142 h) (g1.w (by omega))) w1 (by unfold xr; omega)
