theorem sm_split {f : Nat → Int} (h : Nat) : ∀ n, sm f (h + n) = sm f h + sm (fun j => f (h + j)) n
  | 0 => by show sm f h = sm f h + 0; omega
  | n + 1 => by
    have ih := sm_split (f := f) h n
    show sm f (h + n) + f (h + n) = sm f h + (sm (fun j => f (h + j)) n + f (h + n))
    omega
theorem sm_lc {f g : Nat → Int} {c : Int} : ∀ n, sm (fun j => f j + c * g j) n = sm f n + c * sm g n
  | 0 => by show (0 : Int) = 0 + c * 0; omega
  | n + 1 => by
    have ih := sm_lc (f := f) (g := g) (c := c) n
    show sm _ n + (f n + c * g n) = sm f n + f n + c * (sm g n + g n)
    rw [ih, Int.mul_add]
    omega
theorem sm_mod {f : Nat → Int} {p : Int} : ∀ n, sm (fun j => f j % p) n % p = sm f n % p
  | 0 => rfl
  | n + 1 => by
    have ih := sm_mod (f := f) (p := p) n
    show (sm _ n + f n % p) % p = (sm f n + f n) % p
    rw [am_r, ← am_l, ih, am_l]
theorem gf_fill {f : Nat → Int} {l : List Int} {i j : Nat} (h : j < i) (hl : j < l.length) : gf (fillL f l i) j = f j := fillL_lt f l i j h hl
/-- what is bound keeps its line -/
theorem bind_sum {p c : Int} {l : List Int} {r : Nat} (hl : l.length = 8) (hr : r ≤ 2) : sm (gf (bnd p l r c)) (hlf r) % p = ln p (rz p l r) (ro p l r) c := by
  have hh := (hlf_ok (r := r) (by omega)).2.2
  have e2 := hh.2.2 (by omega)
  unfold bnd
  rw [sm_congr (g := fun j => (gf l j + c * (gf l (j + hlf r) - gf l j)) % p) (hlf r) (fun j hj => gf_fill hj (by omega)), sm_mod, sm_lc]
  have e1 : sm (fun j => gf l (j + hlf r) - gf l j) (hlf r) = sm (gf l) (2 * hlf r) - sm (gf l) (hlf r) - sm (gf l) (hlf r) := by
    have q := sm_split (f := gf l) (hlf r) (hlf r)
    have q2 := sm_lc (f := fun j => gf l (j + hlf r)) (g := gf l) (c := -1) (hlf r)
    rw [show hlf r + hlf r = 2 * hlf r by omega] at q
    rw [sm_congr (f := fun j => gf l (hlf r + j)) (g := fun j => gf l (j + hlf r)) (hlf r) (fun j _ => by rw [Nat.add_comm])] at q
    rw [sm_congr (f := fun j => gf l (j + hlf r) - gf l j) (g := fun j => gf l (j + hlf r) + -1 * gf l j) (hlf r) (fun j _ => by omega), q2]
    omega
  rw [e1]
  unfold ln rz ro
  generalize sm (gf l) (hlf r) = A
  generalize sm (gf l) (2 * hlf r) = B
  obtain ⟨x, hx⟩ := emx (a := A) (p := p)
  obtain ⟨y, hy⟩ := emx (a := B - A) (p := p)
  rw [hx, hy]
  exact emq (x + c * (y - x)) (by grind)
theorem half_sum {p : Int} {l : List Int} {h : Nat} (hl : l.length = 8) (hh : 2 * h ≤ 8) : sm (gf (fillL (fun j => (l.getD j 0 + l.getD (j + h) 0) % p) l h)) h % p = sm (gf l) (2 * h) % p := by
  rw [sm_congr (g := fun j => (gf l j + gf l (j + h)) % p) h (fun j hj => gf_fill hj (by omega)), sm_mod]
  have q := sm_split (f := gf l) h h
  have q2 := sm_lc (f := gf l) (g := fun j => gf l (j + h)) (c := 1) h
  rw [show h + h = 2 * h by omega] at q
  rw [sm_congr (f := fun j => gf l (h + j)) (g := fun j => gf l (j + h)) h (fun j _ => by rw [Nat.add_comm])] at q
  rw [sm_congr (f := fun j => gf l j + gf l (j + h)) (g := fun j => gf l j + 1 * gf l (j + h)) h (fun j _ => by omega), q2, q]
  rw [Int.one_mul]
theorem mh_bnds {p : Int} {n : Nat} {pt l : List Int} : ∀ t, t ≤ n → mh p n pt l t = bnds p l pt t
  | 0, _ => rfl
  | t + 1, h => by
    have ih := mh_bnds (p := p) (n := n) (pt := pt) (l := l) t (by omega)
    show fillL (fun j => (if t < n then _ else _) % p) _ _ = fillL _ _ _
    rw [ih, show (fun j => (if t < n then (bnds p l pt t).getD j 0 + pt.getD t 0 * ((bnds p l pt t).getD (j + 8 / 2 ^ (t + 1)) 0 - (bnds p l pt t).getD j 0) else (bnds p l pt t).getD j 0 + (bnds p l pt t).getD (j + 8 / 2 ^ (t + 1)) 0) % p) = (fun j => ((bnds p l pt t).getD j 0 + pt.getD t 0 * ((bnds p l pt t).getD (j + hlf t) 0 - (bnds p l pt t).getD j 0)) % p) from funext (fun j => by rw [if_pos (by omega)]; rfl)]
    rfl
theorem bnds_congr {p : Int} {l pt dr : List Int} : ∀ n, (∀ j, j < n → pt.getD j 0 = dr.getD j 0) → bnds p l pt n = bnds p l dr n
  | 0, _ => rfl
  | n + 1, h => by
    show bnd p (bnds p l pt n) n (pt.getD n 0) = bnd p (bnds p l dr n) n (dr.getD n 0)
    rw [bnds_congr n (fun j hj => h j (by omega)), h n (by omega)]
/-- the sum of what is left doesn't change where halves are put together -/
theorem mh_sum {p : Int} {n : Nat} {pt l : List Int} (hp : 0 < p) (hl : Fl p l) : ∀ d t, n ≤ t → t + d ≤ 3 → cr p (mh p n pt l (t + d)) (t + d) = cr p (mh p n pt l t) t
  | 0, t, _, _ => rfl
  | d + 1, t, h1, h2 => by
    have ih := mh_sum (pt := pt) hp hl d t h1 (by omega)
    rw [← ih]
    have hf := mh_half (t := t + d) (by omega)
    have e : mh p n pt l (t + d + 1) = fillL (fun j => ((mh p n pt l (t + d)).getD j 0 + (mh p n pt l (t + d)).getD (j + 8 / 2 ^ (t + d + 1)) 0) % p) (mh p n pt l (t + d)) (8 / 2 ^ (t + d + 1)) := by
      show fillL _ _ _ = _
      congr 1
      funext j
      rw [if_neg (by omega)]
    show sm (gf (mh p n pt l (t + d + 1))) (8 / 2 ^ (t + d + 1)) % p = sm (gf (mh p n pt l (t + d))) (8 / 2 ^ (t + d)) % p
    rw [e]
    rw [half_sum (mh_F hp hl _).1 (by omega), hf.2.2.1]
/-- what the sum by halves tells -/
theorem mh_is {p : Int} {n : Nat} {pt l : List Int} (hp : 0 < p) (hl : Fl p l) (hn : n ≤ 3) : (mh p n pt l 3).getD 0 0 = cr p (bnds p l pt n) n := by
  have q := mh_sum (n := n) (pt := pt) hp hl (3 - n) n (Nat.le_refl n) (by omega)
  rw [show n + (3 - n) = 3 by omega, mh_bnds n (Nat.le_refl n)] at q
  rw [← q]
  have b := (mh_F (n := n) (pt := pt) hp hl 3).2 0
  show _ = (0 + gf (mh p n pt l 3) 0) % p
  rw [Int.zero_add]
  exact (Int.emod_eq_of_lt b.1 b.2).symm
theorem cr_bnd {p : Int} {l : List Int} {r : Nat} {c : Int} (hl : l.length = 8) (hr : r ≤ 2) : cr p (bnd p l r c) (r + 1) = ln p (rz p l r) (ro p l r) c := bind_sum hl hr
theorem ln_0 {p z o : Int} (hz : 0 ≤ z ∧ z < p) : ln p z o 0 = z := by unfold ln; rw [Int.zero_mul, Int.add_zero]; exact Int.emod_eq_of_lt hz.1 hz.2
theorem ln_1 {p z o : Int} (ho : 0 ≤ o ∧ o < p) : ln p z o 1 = o := by unfold ln; rw [show z + 1 * (o - z) = o by omega]; exact Int.emod_eq_of_lt ho.1 ho.2

set_option maxRecDepth 20000 in
set_option maxHeartbeats 1000000 in
theorem S_X11_total {G : xG} {d rc rs : Nat} {ex : Bool} {h : xH} {Q : xQ} {σ : St} {cc0 : Int} {rr : Nat} {ss : Int} {row : Int} (w : MX σ cc0 rr ss h) (v : INV σ) (h_row : xr row) (e1 : ¬ (inb row 8) → ∀ h2 z, Ag 70 142 h h2 → MX σ 1 rr ss h2 → xr z → Q (.inl (some (vi z))) ex h2) (k : (inb row 8) → ∀ h2 r2 s2, Ag 70 142 h h2 → MX σ 0 r2 s2 h2 → Q (.inl (some (vi (sm (gf (σ.rw row.toNat)) 8 % (σ.p : Int))))) ex h2) : X G m_X11_total (d + 2) rc rs ex 0 (xe m_X11_total.2.2.1 [.ref 70, vi row]) [] h Q := by
  show X G m_X11_total _ _ _ _ 0 [some (.ref 70), some (vi row)] [] h Q
  have hp := PRb v.p
  have hq := gq_b v.p
  refine x_aload_n (dT U_X11_total 0 rfl) rfl ?_
  refine x_iload_n (dT U_X11_total 1 rfl) rfl ?_
  refine x_invokestatic (rc' := rc) (rs' := rs) (rc2 := 0) (rs2 := 0) (As := [_]) (st := _) M_X11_isRow K_X11_164 (dT U_X11_total 2 rfl) rfl rfl rfl rfl (Nat.le_of_ble_eq_true rfl) rfl (by decide) (Nat.le_of_ble_eq_true rfl) rfl rfl ?_
  refine S_X11_isRow h_row (fun q1 => ?_) (fun q1 => ?_)
  · refine xRet_some ?_
    refine x_iconst (dT U_X11_total 3 rfl) ?_
    refine x_invokevirtual (rc' := rc) (rs' := rs) (rc2 := 0) (rs2 := 0) (As := [_, _]) (st := _) M_X11_lets K_X11_167 (dT U_X11_total 4 rfl) rfl rfl (by decide) rfl rfl w.c70 (Nat.le_of_ble_eq_true rfl) (by decide) rfl (Nat.le_of_ble_eq_true rfl) rfl (by decide) (Nat.le_of_ble_eq_true rfl) rfl rfl ?_
    refine S_X11_lets1 w (fun h1 g1 w1 => ?_)
    refine xRet_some ?_
    obtain ⟨i, hi, rfl⟩ : ∃ j : Nat, j < 8 ∧ row = (j : Int) := ⟨row.toNat, by omega, by omega⟩
    try simp only [tnc] at e1 k
    refine x_if_eqn (tgt := 26) (dT U_X11_total 5 rfl) (by decide) (by decide) ?_
    refine x_aload_n (dT U_X11_total 6 rfl) rfl ?_
    refine x_aload_n (dT U_X11_total 7 rfl) rfl ?_
    refine x_getfield F_X11_18 (dT U_X11_total 8 rfl) w1.c70 (Nat.le_of_ble_eq_true rfl) rfl ?_
    refine x_iload_n (dT U_X11_total 9 rfl) rfl ?_
    refine x_aaload (i) (dT U_X11_total 10 rfl) w1.c73 (Nat.le_of_ble_eq_true rfl) (by decide) rfl (mrL_get (by omega)) (Nat.le_of_ble_eq_true rfl) ?_
    refine x_iconst (dT U_X11_total 11 rfl) ?_
    refine x_invokevirtual (rc' := rc) (rs' := rs) (rc2 := 0) (rs2 := 0) (As := [_, _]) (st := _) M_X11_sumOf K_X11_298 (dT U_X11_total 12 rfl) rfl rfl (by decide) rfl rfl w1.c70 (Nat.le_of_ble_eq_true rfl) (by decide) rfl (Nat.le_of_ble_eq_true rfl) rfl (by decide) (Nat.le_of_ble_eq_true rfl) rfl rfl ?_
    obtain ⟨l142, h142, q142⟩ := w1.s142
    refine S_X11_sumOf (m9 := 0) w1 v (w1.rows i hi) (by omega) (v.rw i hi) h142 q142 (fun j hj => absurd hj (Nat.not_lt_zero j)) (by omega) (fun {l37} h37 q37 f37 => ?_)
    rw [mh_is (by omega) (v.rw i hi) (by omega)]
    refine xRet_some ?_
    refine x_goto (tgt := 27) (dT U_X11_total 13 rfl) (by decide) ?_
    refine x_ireturn (dT U_X11_total 15 rfl) rfl ?_
    exact k (by omega) _ _ _ ((Ag.tr (Ag.rf 70 142 h) (g1.w (by omega))).set (by omega)) (w1.t137 (fun a ha => by rw [hset_fr (by omega)]) (hset_eq h37) q37)
  · refine xRet_some ?_
    refine x_iconst (dT U_X11_total 3 rfl) ?_
    refine x_invokevirtual (rc' := rc) (rs' := rs) (rc2 := 0) (rs2 := 0) (As := [_, _]) (st := _) M_X11_lets K_X11_167 (dT U_X11_total 4 rfl) rfl rfl (by decide) rfl rfl w.c70 (Nat.le_of_ble_eq_true rfl) (by decide) rfl (Nat.le_of_ble_eq_true rfl) rfl (by decide) (Nat.le_of_ble_eq_true rfl) rfl rfl ?_
    refine S_X11_lets0 w (fun h1 g1 w1 => ?_)
    refine xRet_some ?_
    refine x_if_eqj (tgt := 26) (dT U_X11_total 5 rfl) (by decide) (by decide) ?_
    refine x_iconst (dT U_X11_total 14 rfl) ?_
    refine x_ireturn (dT U_X11_total 15 rfl) rfl ?_
    exact e1 (by omega) _ _ (Ag.tr (Ag.rf 70 142 h) (g1.w (by omega))) w1 (by unfold xr; omega)

theorem set3 {l : List Int} {x y z : Int} (h : l.length = 3) : ((l.set 0 x).set 1 y).set 2 z = [x, y, z] := by
  refine list_ext (by simp [h]) (fun j hj => ?_)
  simp only [List.length_set, h] at hj
  have : j = 0 ∨ j = 1 ∨ j = 2 := by omega
  rcases this with rfl | rfl | rfl <;> simp [h]

set_option maxRecDepth 20000 in
set_option maxHeartbeats 1000000 in
theorem S_X11_extend {G : xG} {d rc rs : Nat} {ex : Bool} {h : xH} {Q : xQ} {σ : St} {cc0 : Int} {rr : Nat} {ss : Int} {row x y z : Int} (w : MX σ cc0 rr ss h) (v : INV σ) (h_row : xr row) (h_x : xr x) (h_y : xr y) (h_z : xr z) (e1 : ¬ (inb row 8) → ∀ h2 z, Ag 70 142 h h2 → MX σ 1 rr ss h2 → xr z → Q (.inl (some (vi z))) ex h2) (e2 : (inb row 8) → ¬ (inb x σ.p ∧ inb y σ.p ∧ inb z σ.p) → ∀ h2 z, Ag 70 142 h h2 → MX σ 2 rr ss h2 → xr z → Q (.inl (some (vi z))) ex h2) (k : (inb row 8) → (inb x σ.p ∧ inb y σ.p ∧ inb z σ.p) → ∀ h2 r2 s2, Ag 70 142 h h2 → MX σ 0 r2 s2 h2 → Q (.inl (some (vi ((ext (σ.p : Int) (σ.rw row.toNat) x y z).getD 0 0)))) ex h2) : X G m_X11_extend (d + 2) rc rs ex 0 (xe m_X11_extend.2.2.1 [.ref 70, vi row, vi x, vi y, vi z]) [] h Q := by
  show X G m_X11_extend _ _ _ _ 0 [some (.ref 70), some (vi row), some (vi x), some (vi y), some (vi z)] [] h Q
  have hp := PRb v.p
  have hq := gq_b v.p
  refine x_aload_n (dT U_X11_extend 0 rfl) rfl ?_
  refine x_iload_n (dT U_X11_extend 1 rfl) rfl ?_
  refine x_invokestatic (rc' := rc) (rs' := rs) (rc2 := 0) (rs2 := 0) (As := [_]) (st := _) M_X11_isRow K_X11_164 (dT U_X11_extend 2 rfl) rfl rfl rfl rfl (Nat.le_of_ble_eq_true rfl) rfl (by decide) (Nat.le_of_ble_eq_true rfl) rfl rfl ?_
  refine S_X11_isRow h_row (fun q1 => ?_) (fun q1 => ?_)
  · refine xRet_some ?_
    refine x_iconst (dT U_X11_extend 3 rfl) ?_
    refine x_invokevirtual (rc' := rc) (rs' := rs) (rc2 := 0) (rs2 := 0) (As := [_, _]) (st := _) M_X11_lets K_X11_167 (dT U_X11_extend 4 rfl) rfl rfl (by decide) rfl rfl w.c70 (Nat.le_of_ble_eq_true rfl) (by decide) rfl (Nat.le_of_ble_eq_true rfl) rfl (by decide) (Nat.le_of_ble_eq_true rfl) rfl rfl ?_
    refine S_X11_lets1 w (fun h1 g1 w1 => ?_)
    refine xRet_some ?_
    obtain ⟨i, hi, rfl⟩ : ∃ j : Nat, j < 8 ∧ row = (j : Int) := ⟨row.toNat, by omega, by omega⟩
    try simp only [tnc] at e1 e2 k
    refine x_if_eqn (tgt := 50) (dT U_X11_extend 5 rfl) (by decide) (by decide) ?_
    refine x_aload_n (dT U_X11_extend 6 rfl) rfl ?_
    refine x_aload_n (dT U_X11_extend 7 rfl) rfl ?_
    refine x_iload_n (dT U_X11_extend 8 rfl) rfl ?_
    refine x_invokevirtual (rc' := rc) (rs' := rs) (rc2 := 0) (rs2 := 0) (As := [_]) (st := _) M_X11_isNumber K_X11_174 (dT U_X11_extend 9 rfl) rfl rfl (by decide) rfl rfl w1.c70 (Nat.le_of_ble_eq_true rfl) (by decide) rfl (Nat.le_of_ble_eq_true rfl) rfl (by decide) (Nat.le_of_ble_eq_true rfl) rfl rfl ?_
    refine S_X11_isNumber (w1.mp) v.p h_x (fun q2 => ?_) (fun q2 => ?_)
    · refine xRet_some ?_
      refine x_if_eqn (tgt := 42) (dT U_X11_extend 10 rfl) (by decide) (by decide) ?_
      refine x_aload_n (dT U_X11_extend 11 rfl) rfl ?_
      refine x_iload_n (dT U_X11_extend 12 rfl) rfl ?_
      refine x_invokevirtual (rc' := rc) (rs' := rs) (rc2 := 0) (rs2 := 0) (As := [_]) (st := _) M_X11_isNumber K_X11_174 (dT U_X11_extend 13 rfl) rfl rfl (by decide) rfl rfl w1.c70 (Nat.le_of_ble_eq_true rfl) (by decide) rfl (Nat.le_of_ble_eq_true rfl) rfl (by decide) (Nat.le_of_ble_eq_true rfl) rfl rfl ?_
      refine S_X11_isNumber (w1.mp) v.p h_y (fun q3 => ?_) (fun q3 => ?_)
      · refine xRet_some ?_
        refine x_if_eqn (tgt := 42) (dT U_X11_extend 14 rfl) (by decide) (by decide) ?_
        refine x_aload_n (dT U_X11_extend 15 rfl) rfl ?_
        refine x_iload (dT U_X11_extend 16 rfl) rfl ?_
        refine x_invokevirtual (rc' := rc) (rs' := rs) (rc2 := 0) (rs2 := 0) (As := [_]) (st := _) M_X11_isNumber K_X11_174 (dT U_X11_extend 17 rfl) rfl rfl (by decide) rfl rfl w1.c70 (Nat.le_of_ble_eq_true rfl) (by decide) rfl (Nat.le_of_ble_eq_true rfl) rfl (by decide) (Nat.le_of_ble_eq_true rfl) rfl rfl ?_
        refine S_X11_isNumber (w1.mp) v.p h_z (fun q4 => ?_) (fun q4 => ?_)
        · refine xRet_some ?_
          refine x_if_eqn (tgt := 42) (dT U_X11_extend 18 rfl) (by decide) (by decide) ?_
          refine x_iconst (dT U_X11_extend 19 rfl) ?_
          refine x_goto (tgt := 43) (dT U_X11_extend 20 rfl) (by decide) ?_
          refine x_iconst (dT U_X11_extend 22 rfl) ?_
          refine x_invokevirtual (rc' := rc) (rs' := rs) (rc2 := 0) (rs2 := 0) (As := [_, _]) (st := _) M_X11_lets K_X11_167 (dT U_X11_extend 23 rfl) rfl rfl (by decide) rfl rfl w1.c70 (Nat.le_of_ble_eq_true rfl) (by decide) rfl (Nat.le_of_ble_eq_true rfl) rfl (by decide) (Nat.le_of_ble_eq_true rfl) rfl rfl ?_
          refine S_X11_lets1 w1 (fun h2 g2 w2 => ?_)
          refine xRet_some ?_
          refine x_if_nej (tgt := 52) (dT U_X11_extend 24 rfl) (by decide) (by decide) ?_
          obtain ⟨l142, h142, q142⟩ := w2.s142
          refine x_aload_n (dT U_X11_extend 27 rfl) rfl ?_
          refine x_getfield F_X11_115 (dT U_X11_extend 28 rfl) w2.c70 (Nat.le_of_ble_eq_true rfl) rfl ?_
          refine x_iconst (dT U_X11_extend 29 rfl) ?_
          refine x_iload_n (dT U_X11_extend 30 rfl) rfl ?_
          refine x_iastore (0) (dT U_X11_extend 31 rfl) h142 (Nat.le_of_ble_eq_true rfl) rfl (by simp [q142]) (by simp [q142]) ?_
          refine x_aload_n (dT U_X11_extend 32 rfl) rfl ?_
          refine x_getfield F_X11_115 (dT U_X11_extend 33 rfl) (hset_ne (by omega) (w2.c70)) (Nat.le_of_ble_eq_true rfl) rfl ?_
          refine x_iconst (dT U_X11_extend 34 rfl) ?_
          refine x_iload_n (dT U_X11_extend 35 rfl) rfl ?_
          refine x_iastore (1) (dT U_X11_extend 36 rfl) (hset_eq h142) (Nat.le_of_ble_eq_true rfl) rfl (by simp [q142]) (by simp [q142]) ?_
          rw [List.set_set]
          refine x_aload_n (dT U_X11_extend 37 rfl) rfl ?_
          refine x_getfield F_X11_115 (dT U_X11_extend 38 rfl) (hset_ne (by omega) (w2.c70)) (Nat.le_of_ble_eq_true rfl) rfl ?_
          refine x_iconst (dT U_X11_extend 39 rfl) ?_
          refine x_iload (dT U_X11_extend 40 rfl) rfl ?_
          refine x_iastore (2) (dT U_X11_extend 41 rfl) (hset_eq h142) (Nat.le_of_ble_eq_true rfl) rfl (by simp [q142]) (by simp [q142]) ?_
          rw [List.set_set, set3 q142]
          have w5 : MX σ 0 rr ss _ := w2.t142 (l := [x, y, z]) (fun a ha => by rw [hset_fr (by omega)]) (hset_eq h142) rfl
          refine x_aload_n (dT U_X11_extend 42 rfl) rfl ?_
          refine x_aload_n (dT U_X11_extend 43 rfl) rfl ?_
          refine x_getfield F_X11_18 (dT U_X11_extend 44 rfl) w5.c70 (Nat.le_of_ble_eq_true rfl) rfl ?_
          refine x_iload_n (dT U_X11_extend 45 rfl) rfl ?_
          refine x_aaload (i) (dT U_X11_extend 46 rfl) w5.c73 (Nat.le_of_ble_eq_true rfl) (by decide) rfl (mrL_get (by omega)) (Nat.le_of_ble_eq_true rfl) ?_
          refine x_iconst (dT U_X11_extend 47 rfl) ?_
          refine x_invokevirtual (rc' := rc) (rs' := rs) (rc2 := 0) (rs2 := 0) (As := [_, _]) (st := _) M_X11_sumOf K_X11_298 (dT U_X11_extend 48 rfl) rfl rfl (by decide) rfl rfl w5.c70 (Nat.le_of_ble_eq_true rfl) (by decide) rfl (Nat.le_of_ble_eq_true rfl) rfl (by decide) (Nat.le_of_ble_eq_true rfl) rfl rfl ?_
          refine S_X11_sumOf (m9 := 3) w5 v (w5.rows i hi) (by omega) (v.rw i hi) (hset_eq h142) rfl (fun j hj => by have : j = 0 ∨ j = 1 ∨ j = 2 := (by omega); rcases this with rfl | rfl | rfl; exact (show 0 ≤ x ∧ x < (σ.p : Int) by omega); exact (show 0 ≤ y ∧ y < (σ.p : Int) by omega); exact (show 0 ≤ z ∧ z < (σ.p : Int) by omega)) (by omega) (fun {l37} h37 q37 f37 => ?_)
          rw [mh_bnds 3 (Nat.le_refl 3)]
          refine xRet_some ?_
          refine x_ireturn (dT U_X11_extend 49 rfl) rfl ?_
          exact k (by omega) (by omega) _ _ _ (((Ag.tr (Ag.tr (Ag.rf 70 142 h) (g1.w (by omega))) (g2.w (by omega))).set (by omega)).set (by omega)) (w5.t137 (fun a ha => by rw [hset_fr (by omega)]) (hset_eq h37) q37)
        · refine xRet_some ?_
          refine x_if_eqj (tgt := 42) (dT U_X11_extend 18 rfl) (by decide) (by decide) ?_
          refine x_iconst (dT U_X11_extend 21 rfl) ?_
          refine x_iconst (dT U_X11_extend 22 rfl) ?_
          refine x_invokevirtual (rc' := rc) (rs' := rs) (rc2 := 0) (rs2 := 0) (As := [_, _]) (st := _) M_X11_lets K_X11_167 (dT U_X11_extend 23 rfl) rfl rfl (by decide) rfl rfl w1.c70 (Nat.le_of_ble_eq_true rfl) (by decide) rfl (Nat.le_of_ble_eq_true rfl) rfl (by decide) (Nat.le_of_ble_eq_true rfl) rfl rfl ?_
          refine S_X11_lets0 w1 (fun h2 g2 w2 => ?_)
          refine xRet_some ?_
          refine x_if_nen (tgt := 52) (dT U_X11_extend 24 rfl) (by decide) (by decide) ?_
          refine x_iconst (dT U_X11_extend 25 rfl) ?_
          refine x_ireturn (dT U_X11_extend 26 rfl) rfl ?_
          exact e2 (by omega) (by omega) _ _ (Ag.tr (Ag.tr (Ag.rf 70 142 h) (g1.w (by omega))) (g2.w (by omega))) w2 (by unfold xr; omega)
      · refine xRet_some ?_
        refine x_if_eqj (tgt := 42) (dT U_X11_extend 14 rfl) (by decide) (by decide) ?_
        refine x_iconst (dT U_X11_extend 21 rfl) ?_
        refine x_iconst (dT U_X11_extend 22 rfl) ?_
        refine x_invokevirtual (rc' := rc) (rs' := rs) (rc2 := 0) (rs2 := 0) (As := [_, _]) (st := _) M_X11_lets K_X11_167 (dT U_X11_extend 23 rfl) rfl rfl (by decide) rfl rfl w1.c70 (Nat.le_of_ble_eq_true rfl) (by decide) rfl (Nat.le_of_ble_eq_true rfl) rfl (by decide) (Nat.le_of_ble_eq_true rfl) rfl rfl ?_
        refine S_X11_lets0 w1 (fun h2 g2 w2 => ?_)
        refine xRet_some ?_
        refine x_if_nen (tgt := 52) (dT U_X11_extend 24 rfl) (by decide) (by decide) ?_
        refine x_iconst (dT U_X11_extend 25 rfl) ?_
        refine x_ireturn (dT U_X11_extend 26 rfl) rfl ?_
        exact e2 (by omega) (by omega) _ _ (Ag.tr (Ag.tr (Ag.rf 70 142 h) (g1.w (by omega))) (g2.w (by omega))) w2 (by unfold xr; omega)
    · refine xRet_some ?_
      refine x_if_eqj (tgt := 42) (dT U_X11_extend 10 rfl) (by decide) (by decide) ?_
      refine x_iconst (dT U_X11_extend 21 rfl) ?_
      refine x_iconst (dT U_X11_extend 22 rfl) ?_
      refine x_invokevirtual (rc' := rc) (rs' := rs) (rc2 := 0) (rs2 := 0) (As := [_, _]) (st := _) M_X11_lets K_X11_167 (dT U_X11_extend 23 rfl) rfl rfl (by decide) rfl rfl w1.c70 (Nat.le_of_ble_eq_true rfl) (by decide) rfl (Nat.le_of_ble_eq_true rfl) rfl (by decide) (Nat.le_of_ble_eq_true rfl) rfl rfl ?_
      refine S_X11_lets0 w1 (fun h2 g2 w2 => ?_)
      refine xRet_some ?_
      refine x_if_nen (tgt := 52) (dT U_X11_extend 24 rfl) (by decide) (by decide) ?_
      refine x_iconst (dT U_X11_extend 25 rfl) ?_
      refine x_ireturn (dT U_X11_extend 26 rfl) rfl ?_
      exact e2 (by omega) (by omega) _ _ (Ag.tr (Ag.tr (Ag.rf 70 142 h) (g1.w (by omega))) (g2.w (by omega))) w2 (by unfold xr; omega)
  · refine xRet_some ?_
    refine x_iconst (dT U_X11_extend 3 rfl) ?_
    refine x_invokevirtual (rc' := rc) (rs' := rs) (rc2 := 0) (rs2 := 0) (As := [_, _]) (st := _) M_X11_lets K_X11_167 (dT U_X11_extend 4 rfl) rfl rfl (by decide) rfl rfl w.c70 (Nat.le_of_ble_eq_true rfl) (by decide) rfl (Nat.le_of_ble_eq_true rfl) rfl (by decide) (Nat.le_of_ble_eq_true rfl) rfl rfl ?_
    refine S_X11_lets0 w (fun h1 g1 w1 => ?_)
    refine xRet_some ?_
    refine x_if_eqj (tgt := 50) (dT U_X11_extend 5 rfl) (by decide) (by decide) ?_
    refine x_iconst (dT U_X11_extend 25 rfl) ?_
    refine x_ireturn (dT U_X11_extend 26 rfl) rfl ?_
    exact e1 (by omega) _ _ (Ag.tr (Ag.rf 70 142 h) (g1.w (by omega))) w1 (by unfold xr; omega)

set_option maxRecDepth 20000 in
set_option maxHeartbeats 1000000 in
theorem S_X11_sentAt {G : xG} {d rc rs : Nat} {ex : Bool} {h : xH} {Q : xQ} {σ : St} {cc0 : Int} {rr : Nat} {ss : Int} {x : Int} (w : MX σ cc0 rr ss h) (v : INV σ) (hx : 0 ≤ x ∧ x < σ.p) (k : Q (.inl (some (vi (ln σ.p σ.g.z σ.g.o x)))) ex h) : X G m_X11_sentAt (d + 1) rc rs ex 0 (xe m_X11_sentAt.2.2.1 [.ref 70, vi x]) [] h Q := by
  show X G m_X11_sentAt _ _ _ _ 0 [some (.ref 70), some (vi x)] [] h Q
  have hp := PRb v.p
  have hq := gq_b v.p
  obtain ⟨g1, g2, g3, g4, g5, g6, g7, g8, g9, g10, g11, g12⟩ := v.g
  have xm1 := mulg (a := x) (b := σ.g.o) (m := 23) (n := 23) (by omega) (by omega)
  have xm2 := mulg (a := x) (b := σ.g.z) (m := 23) (n := 23) (by omega) (by omega)
  have xe : x * (σ.g.o - σ.g.z) = x * σ.g.o - x * σ.g.z := Int.mul_sub _ _ _
  refine x_aload_n (dT U_X11_sentAt 0 rfl) rfl ?_
  refine x_aload_n (dT U_X11_sentAt 1 rfl) rfl ?_
  refine x_getfield F_X11_304 (dT U_X11_sentAt 2 rfl) w.c70 (Nat.le_of_ble_eq_true rfl) rfl ?_
  refine x_i2l (dT U_X11_sentAt 3 rfl) (by unfold xr; omega) ?_
  refine x_iload_n (dT U_X11_sentAt 4 rfl) rfl ?_
  refine x_i2l (dT U_X11_sentAt 5 rfl) (by unfold xr; omega) ?_
  refine x_aload_n (dT U_X11_sentAt 6 rfl) rfl ?_
  refine x_getfield F_X11_307 (dT U_X11_sentAt 7 rfl) w.c70 (Nat.le_of_ble_eq_true rfl) rfl ?_
  refine x_i2l (dT U_X11_sentAt 8 rfl) (by unfold xr; omega) ?_
  refine x_aload_n (dT U_X11_sentAt 9 rfl) rfl ?_
  refine x_getfield F_X11_304 (dT U_X11_sentAt 10 rfl) w.c70 (Nat.le_of_ble_eq_true rfl) rfl ?_
  refine x_i2l (dT U_X11_sentAt 11 rfl) (by unfold xr; omega) ?_
  refine x_lsub (dT U_X11_sentAt 12 rfl) ?_
  refine x_lmul (dT U_X11_sentAt 13 rfl) ?_
  refine x_ladd (dT U_X11_sentAt 14 rfl) ?_
  refine x_invokevirtual (rc' := rc) (rs' := rs) (rc2 := 0) (rs2 := 0) (As := [_]) (st := _) M_X11_f K_X11_156 (dT U_X11_sentAt 15 rfl) rfl rfl (by decide) rfl rfl w.c70 (Nat.le_of_ble_eq_true rfl) (by decide) rfl (Nat.le_of_ble_eq_true rfl) rfl (by decide) (Nat.le_of_ble_eq_true rfl) rfl rfl ?_
  refine S_X11_f (w.mp) v.p (by unfold xrl; omega) ?_
  refine xRet_some ?_
  refine x_ireturn (dT U_X11_sentAt 16 rfl) rfl ?_
  exact k

set_option maxRecDepth 20000 in
set_option maxHeartbeats 1000000 in
theorem S_X11_winning1 {G : xG} {d rc rs : Nat} {ex : Bool} {h : xH} {Q : xQ} {p t : Nat} (w : MP p h) (hp5 : p ∈ PR) (ht : t < 4) (k : Q (.inl (some (vi (wo p t true)))) ex h) : X G m_X11_winning (d + 1) rc rs ex 0 (xe m_X11_winning.2.2.1 [.ref 70, vi 1, vi (t : Int)]) [] h Q := by
  show X G m_X11_winning _ _ _ _ 0 [some (.ref 70), some (vi 1), some (vi (t : Int))] [] h Q
  have hp := PRb hp5
  obtain ⟨c_, gc_, gb_, rr_, gcl_, ss_, gz_, go_, nc_, w70⟩ := id w
  refine x_iload_n (dT U_X11_winning 0 rfl) rfl ?_
  refine x_if_eqn (tgt := 15) (dT U_X11_winning 1 rfl) (by decide) (by decide) ?_
  refine x_aload_n (dT U_X11_winning 2 rfl) rfl ?_
  refine x_getfield F_X11_130 (dT U_X11_winning 3 rfl) w70 (Nat.le_of_ble_eq_true rfl) rfl ?_
  refine x_iload_n (dT U_X11_winning 4 rfl) rfl ?_
  refine x_invokestatic (rc' := rc) (rs' := rs) (rc2 := 0) (rs2 := 0) (As := [_, _]) (st := _) M_X11_powered K_X11_301 (dT U_X11_winning 5 rfl) rfl rfl rfl rfl (Nat.le_of_ble_eq_true rfl) rfl (by decide) (Nat.le_of_ble_eq_true rfl) rfl rfl ?_
  refine S_X11_powered (by omega) ?_
  refine xRet_some ?_
  refine x_goto (tgt := 34) (dT U_X11_winning 6 rfl) (by decide) ?_
  refine x_ireturn (dT U_X11_winning 18 rfl) rfl ?_
  exact k

set_option maxRecDepth 20000 in
set_option maxHeartbeats 1000000 in
theorem S_X11_winning0 {G : xG} {d rc rs : Nat} {ex : Bool} {h : xH} {Q : xQ} {p t : Nat} (w : MP p h) (hp5 : p ∈ PR) (ht : t < 4) (k : Q (.inl (some (vi (wo p t false)))) ex h) : X G m_X11_winning (d + 1) rc rs ex 0 (xe m_X11_winning.2.2.1 [.ref 70, vi 0, vi (t : Int)]) [] h Q := by
  show X G m_X11_winning _ _ _ _ 0 [some (.ref 70), some (vi 0), some (vi (t : Int))] [] h Q
  have hp := PRb hp5
  obtain ⟨c_, gc_, gb_, rr_, gcl_, ss_, gz_, go_, nc_, w70⟩ := id w
  refine x_iload_n (dT U_X11_winning 0 rfl) rfl ?_
  refine x_if_eqj (tgt := 15) (dT U_X11_winning 1 rfl) (by decide) (by decide) ?_
  refine x_aload_n (dT U_X11_winning 7 rfl) rfl ?_
  refine x_getfield F_X11_130 (dT U_X11_winning 8 rfl) w70 (Nat.le_of_ble_eq_true rfl) rfl ?_
  refine x_iload_n (dT U_X11_winning 9 rfl) rfl ?_
  refine x_invokestatic (rc' := rc) (rs' := rs) (rc2 := 0) (rs2 := 0) (As := [_, _]) (st := _) M_X11_powered K_X11_301 (dT U_X11_winning 10 rfl) rfl rfl rfl rfl (Nat.le_of_ble_eq_true rfl) rfl (by decide) (Nat.le_of_ble_eq_true rfl) rfl rfl ?_
  refine S_X11_powered (by omega) ?_
  refine xRet_some ?_
  refine x_aload_n (dT U_X11_winning 11 rfl) rfl ?_
  refine x_getfield F_X11_130 (dT U_X11_winning 12 rfl) w70 (Nat.le_of_ble_eq_true rfl) rfl ?_
  refine x_iconst (dT U_X11_winning 13 rfl) ?_
  refine x_isub (dT U_X11_winning 14 rfl) ?_
  refine x_iload_n (dT U_X11_winning 15 rfl) rfl ?_
  refine x_invokestatic (rc' := rc) (rs' := rs) (rc2 := 0) (rs2 := 0) (As := [_, _]) (st := _) M_X11_powered K_X11_301 (dT U_X11_winning 16 rfl) rfl rfl rfl rfl (Nat.le_of_ble_eq_true rfl) rfl (by decide) (Nat.le_of_ble_eq_true rfl) rfl rfl ?_
  rw [show (p : Int) - 1 = ((p - 1 : Nat) : Int) by omega]
  refine S_X11_powered (by omega) ?_
  refine xRet_some ?_
  refine x_isub (dT U_X11_winning 17 rfl) ?_
  refine x_ireturn (dT U_X11_winning 18 rfl) rfl ?_
  exact k
