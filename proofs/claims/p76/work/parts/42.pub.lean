set_option maxRecDepth 20000 in
set_option maxHeartbeats 1000000 in
theorem S_X10_modulus {G : xG} {d rc rs : Nat} {ex : Bool} {h : xH} {Q : xQ} {σ : St} (w : CW σ h) (v : INV σ) (k : Q (.inl (some (vi ((gq σ.p : Int))))) ex h) : X G m_X10_modulus d rc rs ex 0 (xe m_X10_modulus.2.2.1 [.ref 3]) [] h Q := by
  show X G m_X10_modulus _ _ _ _ 0 [some (.ref 3)] [] h Q
  have hp := PRb v.p
  have hq := gq_b v.p
  refine x_aload_n (dT U_X10_modulus 0 rfl) rfl ?_
  refine x_getfield F_X10_21 (dT U_X10_modulus 1 rfl) w.c3 (Nat.le_of_ble_eq_true rfl) rfl ?_
  refine x_getfield F_X10_136 (dT U_X10_modulus 2 rfl) w.gw.2.1 (Nat.le_of_ble_eq_true rfl) rfl ?_
  refine x_ireturn (dT U_X10_modulus 3 rfl) rfl ?_
  exact k

set_option maxRecDepth 20000 in
set_option maxHeartbeats 1000000 in
theorem S_X10_get {G : xG} {d rc rs : Nat} {ex : Bool} {h : xH} {Q : xQ} {σ : St} {row place : Int} (w : CW σ h) (v : INV σ) (h_row : xr row) (h_place : xr place) (e1 : ¬ (inb row 8 ∧ inb place 8) → Q (.inr IOE) false h) (k : (inb row 8 ∧ inb place 8) → Q (.inl (some (vi ((σ.rw row.toNat).getD place.toNat 0)))) ex h) : X G m_X10_get (d + 7) (rc + 2) (rs + 12) ex 0 (xe m_X10_get.2.2.1 [.ref 3, vi row, vi place]) [] h Q := by
  show X G m_X10_get _ _ _ _ 0 [some (.ref 3), some (vi row), some (vi place), none] [] h Q
  have hp := PRb v.p
  have hq := gq_b v.p
  refine x_aload_n (dT U_X10_get 0 rfl) rfl ?_
  refine x_iload_n (dT U_X10_get 1 rfl) rfl ?_
  refine x_invokevirtual (rc' := rc + 1) (rs' := rs + 6) (rc2 := 1) (rs2 := 6) (As := [_]) (st := _) M_X10_rowAt K_X10_139 (dT U_X10_get 2 rfl) rfl rfl (by decide) rfl rfl w.c3 (Nat.le_of_ble_eq_true rfl) (by decide) rfl (Nat.le_of_ble_eq_true rfl) rfl (by decide) (Nat.le_of_ble_eq_true rfl) rfl rfl ?_
  refine S_X10_rowAt w v h_row (fun q => xRet_thr (e1 (by omega))) (fun i hi ezi => ?_)
  subst ezi
  have li := v.rw i hi
  refine xRet_some ?_
  refine x_astore_n (ls' := [some (.ref _), some (vi _), some (vi _), some (.ref _)]) (dT U_X10_get 3 rfl) (by decide) rfl ?_
  refine x_iload_n (dT U_X10_get 4 rfl) rfl ?_
  refine x_invokestatic (rc' := rc) (rs' := rs) (rc2 := 1) (rs2 := 6) (As := [_]) (st := _) M_X10_needPlace K_X10_143 (dT U_X10_get 5 rfl) rfl rfl rfl rfl (Nat.le_of_ble_eq_true rfl) rfl (by decide) (Nat.le_of_ble_eq_true rfl) rfl rfl ?_
  refine S_X10_needPlace v h_place (fun q => xRet_thr (e1 (by omega))) (fun j hj ezj => ?_)
  subst ezj
  refine xRet_none ?_
  refine x_aload_n (dT U_X10_get 6 rfl) rfl ?_
  refine x_iload_n (dT U_X10_get 7 rfl) rfl ?_
  refine x_iaload (j) (dT U_X10_get 8 rfl) (w.rows i hi) (by omega) rfl (by rw [li.1]; omega) (by rw [li.1]; omega) ?_
  refine x_ireturn (dT U_X10_get 9 rfl) rfl ?_
  exact k (by omega)

theorem S_degF {G : xG} {d rc rs a p : Nat} {ex : Bool} {h : xH} {Q : xQ} {l : List Int} (hh : h[a]? = some (cA 0 l)) (h3 : 3 ≤ a) (hl : Fl (p : Int) l) (hp : p < 24) (k : Q (.inl (some (vi (dg (gf l) 8)))) ex h) : X G m_X1_degreeOf d rc rs ex 0 (xe m_X1_degreeOf.2.2.1 [.ref a]) [] h Q :=
  S_X1_degreeOf hh h3 hl.1 (fun t => by have := hl.2 t; unfold xr; omega) k
def row8 (p a b c d e f g h : Int) : List Int := [a % p, b % p, c % p, d % p, e % p, f % p, g % p, h % p]
theorem row8_set {l : List Int} {a b c d e f g h : Int} (q : l.length = 8) : (((((((l.set 0 a).set 1 b).set 2 c).set 3 d).set 4 e).set 5 f).set 6 g).set 7 h = [a, b, c, d, e, f, g, h] := by
  refine list_ext (by simp [q]) (fun j hj => ?_)
  simp only [List.length_set, q] at hj
  have : j = 0 ∨ j = 1 ∨ j = 2 ∨ j = 3 ∨ j = 4 ∨ j = 5 ∨ j = 6 ∨ j = 7 := by omega
  rcases this with rfl | rfl | rfl | rfl | rfl | rfl | rfl | rfl <;> simp [q]
theorem row8_F {p a b c d e f g h : Int} (hp : 0 < p) : Fl p (row8 p a b c d e f g h) := by
  refine ⟨rfl, fun j => ?_⟩
  by_cases hj : j < 8
  · have : j = 0 ∨ j = 1 ∨ j = 2 ∨ j = 3 ∨ j = 4 ∨ j = 5 ∨ j = 6 ∨ j = 7 := by omega
    rcases this with rfl | rfl | rfl | rfl | rfl | rfl | rfl | rfl <;> exact modb hp
  · rw [List.getD_eq_getElem?_getD, List.getElem?_eq_none (by show 8 ≤ j; omega)]
    exact ⟨Int.le_refl 0, hp⟩

set_option maxRecDepth 20000 in
set_option maxHeartbeats 1000000 in
theorem S_X10_fill {G : xG} {d rc rs : Nat} {ex : Bool} {h : xH} {Q : xQ} {σ : St} {row b1 b2 b3 b4 b5 b6 b7 b8 : Int} (w : CW σ h) (v : INV σ) (h_row : xr row) (h_b1 : xr b1) (h_b2 : xr b2) (h_b3 : xr b3) (h_b4 : xr b4) (h_b5 : xr b5) (h_b6 : xr b6) (h_b7 : xr b7) (h_b8 : xr b8) (e1 : ¬ (inb row 8) → Q (.inr IOE) false h) (k : (inb row 8) → ∀ h2, FC h h2 → CW (σ.sRow row.toNat (row8 (σ.p : Int) b1 b2 b3 b4 b5 b6 b7 b8)) h2 → Q (.inl (some (vi (dg (gf (row8 (σ.p : Int) b1 b2 b3 b4 b5 b6 b7 b8)) 8)))) ex h2) : X G m_X10_fill (d + 7) (rc + 1) (rs + 6) ex 0 (xe m_X10_fill.2.2.1 [.ref 3, vi row, vi b1, vi b2, vi b3, vi b4, vi b5, vi b6, vi b7, vi b8]) [] h Q := by
  show X G m_X10_fill _ _ _ _ 0 [some (.ref 3), some (vi row), some (vi b1), some (vi b2), some (vi b3), some (vi b4), some (vi b5), some (vi b6), some (vi b7), some (vi b8), none] [] h Q
  have hp := PRb v.p
  have hq := gq_b v.p
  refine x_aload_n (dT U_X10_fill 0 rfl) rfl ?_
  refine x_iload_n (dT U_X10_fill 1 rfl) rfl ?_
  refine x_invokevirtual (rc' := rc) (rs' := rs) (rc2 := 1) (rs2 := 6) (As := [_]) (st := _) M_X10_rowAt K_X10_139 (dT U_X10_fill 2 rfl) rfl rfl (by decide) rfl rfl w.c3 (Nat.le_of_ble_eq_true rfl) (by decide) rfl (Nat.le_of_ble_eq_true rfl) rfl (by decide) (Nat.le_of_ble_eq_true rfl) rfl rfl ?_
  refine S_X10_rowAt w v h_row (fun q => xRet_thr (e1 (by omega))) (fun i hi ezi => ?_)
  subst ezi
  have li := v.rw i hi
  refine xRet_some ?_
  refine x_astore (ls' := [some (.ref _), some (vi _), some (vi _), some (vi _), some (vi _), some (vi _), some (vi _), some (vi _), some (vi _), some (vi _), some (.ref _)]) (dT U_X10_fill 3 rfl) (by decide) rfl ?_
  refine x_aload (dT U_X10_fill 4 rfl) rfl ?_
  refine x_iconst (dT U_X10_fill 5 rfl) ?_
  refine x_aload_n (dT U_X10_fill 6 rfl) rfl ?_
  refine x_getfield F_X10_10 (dT U_X10_fill 7 rfl) w.c3 (Nat.le_of_ble_eq_true rfl) rfl ?_
  refine x_iload_n (dT U_X10_fill 8 rfl) rfl ?_
  refine x_invokevirtual (rc' := rc) (rs' := rs) (rc2 := 0) (rs2 := 0) (As := [_]) (st := _) M_X1_rest K_X10_150 (dT U_X10_fill 9 rfl) rfl rfl (by decide) rfl rfl w.gw.1 (Nat.le_of_ble_eq_true rfl) (by decide) rfl (Nat.le_of_ble_eq_true rfl) rfl (by decide) (Nat.le_of_ble_eq_true rfl) rfl rfl ?_
  refine S_X1_rest w.gw.1 hp h_b1 ?_
  refine xRet_some ?_
  refine x_iastore (0) (dT U_X10_fill 10 rfl) (w.rows i hi) (by omega) rfl (by simp [li.1]) (by simp [li.1]) ?_
  refine x_aload (dT U_X10_fill 11 rfl) rfl ?_
  refine x_iconst (dT U_X10_fill 12 rfl) ?_
  refine x_aload_n (dT U_X10_fill 13 rfl) rfl ?_
  refine x_getfield F_X10_10 (dT U_X10_fill 14 rfl) (hset_ne (by omega) w.c3) (Nat.le_of_ble_eq_true rfl) rfl ?_
  refine x_iload_n (dT U_X10_fill 15 rfl) rfl ?_
  refine x_invokevirtual (rc' := rc) (rs' := rs) (rc2 := 0) (rs2 := 0) (As := [_]) (st := _) M_X1_rest K_X10_150 (dT U_X10_fill 16 rfl) rfl rfl (by decide) rfl rfl (hset_ne (by omega) w.gw.1) (Nat.le_of_ble_eq_true rfl) (by decide) rfl (Nat.le_of_ble_eq_true rfl) rfl (by decide) (Nat.le_of_ble_eq_true rfl) rfl rfl ?_
  refine S_X1_rest (hset_ne (by omega) w.gw.1) hp h_b2 ?_
  refine xRet_some ?_
  refine x_iastore (1) (dT U_X10_fill 17 rfl) (hset_eq (w.rows i hi)) (by omega) rfl (by simp [li.1]) (by simp [li.1]) ?_
  rw [List.set_set]
  refine x_aload (dT U_X10_fill 18 rfl) rfl ?_
  refine x_iconst (dT U_X10_fill 19 rfl) ?_
  refine x_aload_n (dT U_X10_fill 20 rfl) rfl ?_
  refine x_getfield F_X10_10 (dT U_X10_fill 21 rfl) (hset_ne (by omega) w.c3) (Nat.le_of_ble_eq_true rfl) rfl ?_
  refine x_iload (dT U_X10_fill 22 rfl) rfl ?_
  refine x_invokevirtual (rc' := rc) (rs' := rs) (rc2 := 0) (rs2 := 0) (As := [_]) (st := _) M_X1_rest K_X10_150 (dT U_X10_fill 23 rfl) rfl rfl (by decide) rfl rfl (hset_ne (by omega) w.gw.1) (Nat.le_of_ble_eq_true rfl) (by decide) rfl (Nat.le_of_ble_eq_true rfl) rfl (by decide) (Nat.le_of_ble_eq_true rfl) rfl rfl ?_
  refine S_X1_rest (hset_ne (by omega) w.gw.1) hp h_b3 ?_
  refine xRet_some ?_
  refine x_iastore (2) (dT U_X10_fill 24 rfl) (hset_eq (w.rows i hi)) (by omega) rfl (by simp [li.1]) (by simp [li.1]) ?_
  rw [List.set_set]
  refine x_aload (dT U_X10_fill 25 rfl) rfl ?_
  refine x_iconst (dT U_X10_fill 26 rfl) ?_
  refine x_aload_n (dT U_X10_fill 27 rfl) rfl ?_
  refine x_getfield F_X10_10 (dT U_X10_fill 28 rfl) (hset_ne (by omega) w.c3) (Nat.le_of_ble_eq_true rfl) rfl ?_
  refine x_iload (dT U_X10_fill 29 rfl) rfl ?_
  refine x_invokevirtual (rc' := rc) (rs' := rs) (rc2 := 0) (rs2 := 0) (As := [_]) (st := _) M_X1_rest K_X10_150 (dT U_X10_fill 30 rfl) rfl rfl (by decide) rfl rfl (hset_ne (by omega) w.gw.1) (Nat.le_of_ble_eq_true rfl) (by decide) rfl (Nat.le_of_ble_eq_true rfl) rfl (by decide) (Nat.le_of_ble_eq_true rfl) rfl rfl ?_
  refine S_X1_rest (hset_ne (by omega) w.gw.1) hp h_b4 ?_
  refine xRet_some ?_
  refine x_iastore (3) (dT U_X10_fill 31 rfl) (hset_eq (w.rows i hi)) (by omega) rfl (by simp [li.1]) (by simp [li.1]) ?_
  rw [List.set_set]
  refine x_aload (dT U_X10_fill 32 rfl) rfl ?_
  refine x_iconst (dT U_X10_fill 33 rfl) ?_
  refine x_aload_n (dT U_X10_fill 34 rfl) rfl ?_
  refine x_getfield F_X10_10 (dT U_X10_fill 35 rfl) (hset_ne (by omega) w.c3) (Nat.le_of_ble_eq_true rfl) rfl ?_
  refine x_iload (dT U_X10_fill 36 rfl) rfl ?_
  refine x_invokevirtual (rc' := rc) (rs' := rs) (rc2 := 0) (rs2 := 0) (As := [_]) (st := _) M_X1_rest K_X10_150 (dT U_X10_fill 37 rfl) rfl rfl (by decide) rfl rfl (hset_ne (by omega) w.gw.1) (Nat.le_of_ble_eq_true rfl) (by decide) rfl (Nat.le_of_ble_eq_true rfl) rfl (by decide) (Nat.le_of_ble_eq_true rfl) rfl rfl ?_
  refine S_X1_rest (hset_ne (by omega) w.gw.1) hp h_b5 ?_
  refine xRet_some ?_
  refine x_iastore (4) (dT U_X10_fill 38 rfl) (hset_eq (w.rows i hi)) (by omega) rfl (by simp [li.1]) (by simp [li.1]) ?_
  rw [List.set_set]
  refine x_aload (dT U_X10_fill 39 rfl) rfl ?_
  refine x_iconst (dT U_X10_fill 40 rfl) ?_
  refine x_aload_n (dT U_X10_fill 41 rfl) rfl ?_
  refine x_getfield F_X10_10 (dT U_X10_fill 42 rfl) (hset_ne (by omega) w.c3) (Nat.le_of_ble_eq_true rfl) rfl ?_
  refine x_iload (dT U_X10_fill 43 rfl) rfl ?_
  refine x_invokevirtual (rc' := rc) (rs' := rs) (rc2 := 0) (rs2 := 0) (As := [_]) (st := _) M_X1_rest K_X10_150 (dT U_X10_fill 44 rfl) rfl rfl (by decide) rfl rfl (hset_ne (by omega) w.gw.1) (Nat.le_of_ble_eq_true rfl) (by decide) rfl (Nat.le_of_ble_eq_true rfl) rfl (by decide) (Nat.le_of_ble_eq_true rfl) rfl rfl ?_
  refine S_X1_rest (hset_ne (by omega) w.gw.1) hp h_b6 ?_
  refine xRet_some ?_
  refine x_iastore (5) (dT U_X10_fill 45 rfl) (hset_eq (w.rows i hi)) (by omega) rfl (by simp [li.1]) (by simp [li.1]) ?_
  rw [List.set_set]
  refine x_aload (dT U_X10_fill 46 rfl) rfl ?_
  refine x_bipush (dT U_X10_fill 47 rfl) (by decide) ?_
  refine x_aload_n (dT U_X10_fill 48 rfl) rfl ?_
  refine x_getfield F_X10_10 (dT U_X10_fill 49 rfl) (hset_ne (by omega) w.c3) (Nat.le_of_ble_eq_true rfl) rfl ?_
  refine x_iload (dT U_X10_fill 50 rfl) rfl ?_
  refine x_invokevirtual (rc' := rc) (rs' := rs) (rc2 := 0) (rs2 := 0) (As := [_]) (st := _) M_X1_rest K_X10_150 (dT U_X10_fill 51 rfl) rfl rfl (by decide) rfl rfl (hset_ne (by omega) w.gw.1) (Nat.le_of_ble_eq_true rfl) (by decide) rfl (Nat.le_of_ble_eq_true rfl) rfl (by decide) (Nat.le_of_ble_eq_true rfl) rfl rfl ?_
  refine S_X1_rest (hset_ne (by omega) w.gw.1) hp h_b7 ?_
  refine xRet_some ?_
  refine x_iastore (6) (dT U_X10_fill 52 rfl) (hset_eq (w.rows i hi)) (by omega) rfl (by simp [li.1]) (by simp [li.1]) ?_
  rw [List.set_set]
  refine x_aload (dT U_X10_fill 53 rfl) rfl ?_
  refine x_bipush (dT U_X10_fill 54 rfl) (by decide) ?_
  refine x_aload_n (dT U_X10_fill 55 rfl) rfl ?_
  refine x_getfield F_X10_10 (dT U_X10_fill 56 rfl) (hset_ne (by omega) w.c3) (Nat.le_of_ble_eq_true rfl) rfl ?_
  refine x_iload (dT U_X10_fill 57 rfl) rfl ?_
  refine x_invokevirtual (rc' := rc) (rs' := rs) (rc2 := 0) (rs2 := 0) (As := [_]) (st := _) M_X1_rest K_X10_150 (dT U_X10_fill 58 rfl) rfl rfl (by decide) rfl rfl (hset_ne (by omega) w.gw.1) (Nat.le_of_ble_eq_true rfl) (by decide) rfl (Nat.le_of_ble_eq_true rfl) rfl (by decide) (Nat.le_of_ble_eq_true rfl) rfl rfl ?_
  refine S_X1_rest (hset_ne (by omega) w.gw.1) hp h_b8 ?_
  refine xRet_some ?_
  refine x_iastore (7) (dT U_X10_fill 59 rfl) (hset_eq (w.rows i hi)) (by omega) rfl (by simp [li.1]) (by simp [li.1]) ?_
  rw [List.set_set]
  refine x_aload (dT U_X10_fill 60 rfl) rfl ?_
  refine x_invokestatic (rc' := rc) (rs' := rs) (rc2 := 0) (rs2 := 0) (As := [_]) (st := _) M_X1_degreeOf K_X10_154 (dT U_X10_fill 61 rfl) rfl rfl rfl rfl (Nat.le_of_ble_eq_true rfl) rfl (by decide) (Nat.le_of_ble_eq_true rfl) rfl rfl ?_
  rw [row8_set li.1]
  refine S_degF (p := σ.p) (l := (row8 (σ.p : Int) b1 b2 b3 b4 b5 b6 b7 b8)) (hset_eq (w.rows i hi)) (by omega) (row8_F (by omega)) hp.2 ?_
  refine xRet_some ?_
  refine x_ireturn (dT U_X10_fill 62 rfl) rfl ?_
  exact k (by omega) _ ((Ag.rf 3 69 h).set (by omega)) (w.row ((Ag.rf (10 + i) (10 + i) h).set (by omega)) hi (hset_eq (w.rows i hi)))

set_option maxRecDepth 20000 in
set_option maxHeartbeats 1000000 in
theorem S_X10_degree {G : xG} {d rc rs : Nat} {ex : Bool} {h : xH} {Q : xQ} {σ : St} {row : Int} (w : CW σ h) (v : INV σ) (h_row : xr row) (e1 : ¬ (inb row 8) → Q (.inr IOE) false h) (k : (inb row 8) → Q (.inl (some (vi (dg (gf (σ.rw row.toNat)) 8)))) ex h) : X G m_X10_degree (d + 7) (rc + 1) (rs + 6) ex 0 (xe m_X10_degree.2.2.1 [.ref 3, vi row]) [] h Q := by
  show X G m_X10_degree _ _ _ _ 0 [some (.ref 3), some (vi row)] [] h Q
  have hp := PRb v.p
  have hq := gq_b v.p
  refine x_aload_n (dT U_X10_degree 0 rfl) rfl ?_
  refine x_iload_n (dT U_X10_degree 1 rfl) rfl ?_
  refine x_invokevirtual (rc' := rc) (rs' := rs) (rc2 := 1) (rs2 := 6) (As := [_]) (st := _) M_X10_rowAt K_X10_139 (dT U_X10_degree 2 rfl) rfl rfl (by decide) rfl rfl w.c3 (Nat.le_of_ble_eq_true rfl) (by decide) rfl (Nat.le_of_ble_eq_true rfl) rfl (by decide) (Nat.le_of_ble_eq_true rfl) rfl rfl ?_
  refine S_X10_rowAt w v h_row (fun q => xRet_thr (e1 (by omega))) (fun i hi ezi => ?_)
  subst ezi
  have li := v.rw i hi
  refine xRet_some ?_
  refine x_invokestatic (rc' := rc) (rs' := rs) (rc2 := 0) (rs2 := 0) (As := [_]) (st := _) M_X1_degreeOf K_X10_154 (dT U_X10_degree 3 rfl) rfl rfl rfl rfl (Nat.le_of_ble_eq_true rfl) rfl (by decide) (Nat.le_of_ble_eq_true rfl) rfl rfl ?_
  refine S_X1_degreeOf (w.rows i hi) (by omega) li.1 (fun t => by have := li.2 t; unfold xr; omega) ?_
  refine xRet_some ?_
  refine x_ireturn (dT U_X10_degree 4 rfl) rfl ?_
  exact k (by omega)

set_option maxRecDepth 20000 in
set_option maxHeartbeats 1000000 in
theorem S_X10_value {G : xG} {d rc rs : Nat} {ex : Bool} {h : xH} {Q : xQ} {σ : St} {row x : Int} (w : CW σ h) (v : INV σ) (h_row : xr row) (h_x : xr x) (e1 : ¬ (inb row 8) → Q (.inr IOE) false h) (e2 : (inb row 8) → ¬ (inb x σ.p) → Q (.inr IAE) false h) (k : (inb row 8) → (inb x σ.p) → Q (.inl (some (vi (hor (gf (σ.rw row.toNat)) σ.p x 8)))) ex h) : X G m_X10_value (d + 7) (rc + 2) (rs + 12) ex 0 (xe m_X10_value.2.2.1 [.ref 3, vi row, vi x]) [] h Q := by
  show X G m_X10_value _ _ _ _ 0 [some (.ref 3), some (vi row), some (vi x), none] [] h Q
  have hp := PRb v.p
  have hq := gq_b v.p
  refine x_aload_n (dT U_X10_value 0 rfl) rfl ?_
  refine x_iload_n (dT U_X10_value 1 rfl) rfl ?_
  refine x_invokevirtual (rc' := rc + 1) (rs' := rs + 6) (rc2 := 1) (rs2 := 6) (As := [_]) (st := _) M_X10_rowAt K_X10_139 (dT U_X10_value 2 rfl) rfl rfl (by decide) rfl rfl w.c3 (Nat.le_of_ble_eq_true rfl) (by decide) rfl (Nat.le_of_ble_eq_true rfl) rfl (by decide) (Nat.le_of_ble_eq_true rfl) rfl rfl ?_
  refine S_X10_rowAt w v h_row (fun q => xRet_thr (e1 (by omega))) (fun i hi ezi => ?_)
  subst ezi
  have li := v.rw i hi
  refine xRet_some ?_
  refine x_astore_n (ls' := [some (.ref _), some (vi _), some (vi _), some (.ref _)]) (dT U_X10_value 3 rfl) (by decide) rfl ?_
  refine x_aload_n (dT U_X10_value 4 rfl) rfl ?_
  refine x_iload_n (dT U_X10_value 5 rfl) rfl ?_
  refine x_invokevirtual (rc' := rc) (rs' := rs) (rc2 := 1) (rs2 := 6) (As := [_]) (st := _) M_X10_needNumber K_X10_147 (dT U_X10_value 6 rfl) rfl rfl (by decide) rfl rfl w.c3 (Nat.le_of_ble_eq_true rfl) (by decide) rfl (Nat.le_of_ble_eq_true rfl) rfl (by decide) (Nat.le_of_ble_eq_true rfl) rfl rfl ?_
  refine S_X10_needNumber w v h_x (fun q => xRet_thr (e2 (by omega) (by omega))) (fun q1 => ?_)
  refine xRet_none ?_
  refine x_aload_n (dT U_X10_value 7 rfl) rfl ?_
  refine x_getfield F_X10_10 (dT U_X10_value 8 rfl) w.c3 (Nat.le_of_ble_eq_true rfl) rfl ?_
  refine x_aload_n (dT U_X10_value 9 rfl) rfl ?_
  refine x_iload_n (dT U_X10_value 10 rfl) rfl ?_
  refine x_invokevirtual (rc' := rc) (rs' := rs) (rc2 := 0) (rs2 := 0) (As := [_, _]) (st := _) M_X1_valueAt K_X10_158 (dT U_X10_value 11 rfl) rfl rfl (by decide) rfl rfl w.gw.1 (Nat.le_of_ble_eq_true rfl) (by decide) rfl (Nat.le_of_ble_eq_true rfl) rfl (by decide) (Nat.le_of_ble_eq_true rfl) rfl rfl ?_
  refine S_X1_valueAt w.gw.1 hp (w.rows i hi) (by omega) li (by omega) ?_
  refine xRet_some ?_
  refine x_ireturn (dT U_X10_value 12 rfl) rfl ?_
  exact k (by omega) (by omega)

set_option maxRecDepth 20000 in
set_option maxHeartbeats 1000000 in
theorem S_X10_mix {G : xG} {d rc rs : Nat} {ex : Bool} {h : xH} {Q : xQ} {σ : St} {row other factor to : Int} (w : CW σ h) (v : INV σ) (h_row : xr row) (h_other : xr other) (h_factor : xr factor) (h_to : xr to) (e1 : ¬ (inb row 8 ∧ inb other 8 ∧ inb to 8) → Q (.inr IOE) false h) (e2 : (inb row 8 ∧ inb other 8 ∧ inb to 8) → ¬ (inb factor σ.p) → Q (.inr IAE) false h) (k : (inb row 8 ∧ inb other 8 ∧ inb to 8) → (inb factor σ.p) → ∀ h2, FC h h2 → CW (σ.sRow to.toNat (tab (fun t => ((σ.rw row.toNat).getD t 0 + factor * (σ.rw other.toNat).getD t 0) % (σ.p : Int)) 8)) h2 → Q (.inl (some (vi (dg (gf (tab (fun t => ((σ.rw row.toNat).getD t 0 + factor * (σ.rw other.toNat).getD t 0) % (σ.p : Int)) 8)) 8)))) ex h2) : X G m_X10_mix (d + 7) (rc + 4) (rs + 24) ex 0 (xe m_X10_mix.2.2.1 [.ref 3, vi row, vi other, vi factor, vi to]) [] h Q := by
  show X G m_X10_mix _ _ _ _ 0 [some (.ref 3), some (vi row), some (vi other), some (vi factor), some (vi to), none, none, none] [] h Q
  have hp := PRb v.p
  have hq := gq_b v.p
  refine x_aload_n (dT U_X10_mix 0 rfl) rfl ?_
  refine x_iload_n (dT U_X10_mix 1 rfl) rfl ?_
  refine x_invokevirtual (rc' := rc + 3) (rs' := rs + 18) (rc2 := 1) (rs2 := 6) (As := [_]) (st := _) M_X10_rowAt K_X10_139 (dT U_X10_mix 2 rfl) rfl rfl (by decide) rfl rfl w.c3 (Nat.le_of_ble_eq_true rfl) (by decide) rfl (Nat.le_of_ble_eq_true rfl) rfl (by decide) (Nat.le_of_ble_eq_true rfl) rfl rfl ?_
  refine S_X10_rowAt w v h_row (fun q => xRet_thr (e1 (by omega))) (fun i hi ezi => ?_)
  subst ezi
  have li := v.rw i hi
  refine xRet_some ?_
  refine x_astore (ls' := [some (.ref _), some (vi _), some (vi _), some (vi _), some (vi _), some (.ref _), none, none]) (dT U_X10_mix 3 rfl) (by decide) rfl ?_
  refine x_aload_n (dT U_X10_mix 4 rfl) rfl ?_
  refine x_iload_n (dT U_X10_mix 5 rfl) rfl ?_
  refine x_invokevirtual (rc' := rc + 2) (rs' := rs + 12) (rc2 := 1) (rs2 := 6) (As := [_]) (st := _) M_X10_rowAt K_X10_139 (dT U_X10_mix 6 rfl) rfl rfl (by decide) rfl rfl w.c3 (Nat.le_of_ble_eq_true rfl) (by decide) rfl (Nat.le_of_ble_eq_true rfl) rfl (by decide) (Nat.le_of_ble_eq_true rfl) rfl rfl ?_
  refine S_X10_rowAt w v h_other (fun q => xRet_thr (e1 (by omega))) (fun j hj ezj => ?_)
  subst ezj
  have lj := v.rw j hj
  refine xRet_some ?_
  refine x_astore (ls' := [some (.ref _), some (vi _), some (vi _), some (vi _), some (vi _), some (.ref _), some (.ref _), none]) (dT U_X10_mix 7 rfl) (by decide) rfl ?_
  refine x_aload_n (dT U_X10_mix 8 rfl) rfl ?_
  refine x_iload (dT U_X10_mix 9 rfl) rfl ?_
  refine x_invokevirtual (rc' := rc + 1) (rs' := rs + 6) (rc2 := 1) (rs2 := 6) (As := [_]) (st := _) M_X10_rowAt K_X10_139 (dT U_X10_mix 10 rfl) rfl rfl (by decide) rfl rfl w.c3 (Nat.le_of_ble_eq_true rfl) (by decide) rfl (Nat.le_of_ble_eq_true rfl) rfl (by decide) (Nat.le_of_ble_eq_true rfl) rfl rfl ?_
  refine S_X10_rowAt w v h_to (fun q => xRet_thr (e1 (by omega))) (fun t ht ezt => ?_)
  subst ezt
  have lt := v.rw t ht
  refine xRet_some ?_
  refine x_astore (ls' := [some (.ref _), some (vi _), some (vi _), some (vi _), some (vi _), some (.ref _), some (.ref _), some (.ref _)]) (dT U_X10_mix 11 rfl) (by decide) rfl ?_
  refine x_aload_n (dT U_X10_mix 12 rfl) rfl ?_
  refine x_iload_n (dT U_X10_mix 13 rfl) rfl ?_
  refine x_invokevirtual (rc' := rc) (rs' := rs) (rc2 := 1) (rs2 := 6) (As := [_]) (st := _) M_X10_needNumber K_X10_147 (dT U_X10_mix 14 rfl) rfl rfl (by decide) rfl rfl w.c3 (Nat.le_of_ble_eq_true rfl) (by decide) rfl (Nat.le_of_ble_eq_true rfl) rfl (by decide) (Nat.le_of_ble_eq_true rfl) rfl rfl ?_
  refine S_X10_needNumber w v h_factor (fun q => xRet_thr (e2 (by omega) (by omega))) (fun q1 => ?_)
  refine xRet_none ?_
  refine x_aload_n (dT U_X10_mix 15 rfl) rfl ?_
  refine x_getfield F_X10_10 (dT U_X10_mix 16 rfl) w.c3 (Nat.le_of_ble_eq_true rfl) rfl ?_
  refine x_aload (dT U_X10_mix 17 rfl) rfl ?_
  refine x_aload (dT U_X10_mix 18 rfl) rfl ?_
  refine x_iload_n (dT U_X10_mix 19 rfl) rfl ?_
  refine x_aload (dT U_X10_mix 20 rfl) rfl ?_
  refine x_invokevirtual (rc' := rc) (rs' := rs) (rc2 := 0) (rs2 := 0) (As := [_, _, _, _]) (st := _) M_X1_addTimes K_X10_166 (dT U_X10_mix 21 rfl) rfl rfl (by decide) rfl rfl w.gw.1 (Nat.le_of_ble_eq_true rfl) (by decide) rfl (Nat.le_of_ble_eq_true rfl) rfl (by decide) (Nat.le_of_ble_eq_true rfl) rfl rfl ?_
  refine S_X1_addTimes w.gw.1 hp (w.rows i hi) (by omega) li (w.rows j hj) (by omega) lj (w.rows t ht) (by omega) lt.1 (by omega) ?_
  refine xRet_none ?_
  refine x_aload (dT U_X10_mix 22 rfl) rfl ?_
  refine x_invokestatic (rc' := rc) (rs' := rs) (rc2 := 0) (rs2 := 0) (As := [_]) (st := _) M_X1_degreeOf K_X10_154 (dT U_X10_mix 23 rfl) rfl rfl rfl rfl (Nat.le_of_ble_eq_true rfl) rfl (by decide) (Nat.le_of_ble_eq_true rfl) rfl rfl ?_
  refine S_degF (p := σ.p) (hset_eq (w.rows t ht)) (by omega) (Fl_tab (by omega) (fun t _ => modb (by omega))) hp.2 ?_
  refine xRet_some ?_
  refine x_ireturn (dT U_X10_mix 24 rfl) rfl ?_
  exact k (by omega) (by omega) _ ((Ag.rf 3 69 h).set (by omega)) (w.row ((Ag.rf (10 + t) (10 + t) h).set (by omega)) ht (hset_eq (w.rows t ht)))

set_option maxRecDepth 20000 in
set_option maxHeartbeats 1000000 in
theorem S_X10_times {G : xG} {d rc rs : Nat} {ex : Bool} {h : xH} {Q : xQ} {σ : St} {row other to : Int} (w : CW σ h) (v : INV σ) (h_row : xr row) (h_other : xr other) (h_to : xr to) (e1 : ¬ (inb row 8 ∧ inb other 8 ∧ inb to 8) → Q (.inr IOE) false h) (e2 : (inb row 8 ∧ inb other 8 ∧ inb to 8) → ¬ (¬ (8 ≤ dg (gf (σ.rw row.toNat)) 8 + dg (gf (σ.rw other.toNat)) 8 ∧ 0 ≤ dg (gf (σ.rw row.toNat)) 8 ∧ 0 ≤ dg (gf (σ.rw other.toNat)) 8)) → Q (.inr ISE) false h) (k : (inb row 8 ∧ inb other 8 ∧ inb to 8) → (¬ (8 ≤ dg (gf (σ.rw row.toNat)) 8 + dg (gf (σ.rw other.toNat)) 8 ∧ 0 ≤ dg (gf (σ.rw row.toNat)) 8 ∧ 0 ≤ dg (gf (σ.rw other.toNat)) 8)) → ∀ h2, FC h h2 → CW (σ.sRow to.toNat (tab (fun n => pm (gf (σ.rw row.toNat)) (gf (σ.rw other.toNat)) 8 n % (σ.p : Int)) 8)) h2 → Q (.inl (some (vi (dg (gf (tab (fun n => pm (gf (σ.rw row.toNat)) (gf (σ.rw other.toNat)) 8 n % (σ.p : Int)) 8)) 8)))) ex h2) : X G m_X10_times (d + 7) (rc + 4) (rs + 24) ex 0 (xe m_X10_times.2.2.1 [.ref 3, vi row, vi other, vi to]) [] h Q := by
  show X G m_X10_times _ _ _ _ 0 [some (.ref 3), some (vi row), some (vi other), some (vi to), none, none, none] [] h Q
  have hp := PRb v.p
  have hq := gq_b v.p
  obtain ⟨s19l, hs19, ls19⟩ := w.s19
  refine x_aload_n (dT U_X10_times 0 rfl) rfl ?_
  refine x_iload_n (dT U_X10_times 1 rfl) rfl ?_
  refine x_invokevirtual (rc' := rc + 3) (rs' := rs + 18) (rc2 := 1) (rs2 := 6) (As := [_]) (st := _) M_X10_rowAt K_X10_139 (dT U_X10_times 2 rfl) rfl rfl (by decide) rfl rfl w.c3 (Nat.le_of_ble_eq_true rfl) (by decide) rfl (Nat.le_of_ble_eq_true rfl) rfl (by decide) (Nat.le_of_ble_eq_true rfl) rfl rfl ?_
  refine S_X10_rowAt w v h_row (fun q => xRet_thr (e1 (by omega))) (fun i hi ezi => ?_)
  subst ezi
  have li := v.rw i hi
  refine xRet_some ?_
  refine x_astore (ls' := [some (.ref _), some (vi _), some (vi _), some (vi _), some (.ref _), none, none]) (dT U_X10_times 3 rfl) (by decide) rfl ?_
  refine x_aload_n (dT U_X10_times 4 rfl) rfl ?_
  refine x_iload_n (dT U_X10_times 5 rfl) rfl ?_
  refine x_invokevirtual (rc' := rc + 2) (rs' := rs + 12) (rc2 := 1) (rs2 := 6) (As := [_]) (st := _) M_X10_rowAt K_X10_139 (dT U_X10_times 6 rfl) rfl rfl (by decide) rfl rfl w.c3 (Nat.le_of_ble_eq_true rfl) (by decide) rfl (Nat.le_of_ble_eq_true rfl) rfl (by decide) (Nat.le_of_ble_eq_true rfl) rfl rfl ?_
  refine S_X10_rowAt w v h_other (fun q => xRet_thr (e1 (by omega))) (fun j hj ezj => ?_)
  subst ezj
  have lj := v.rw j hj
  refine xRet_some ?_
  refine x_astore (ls' := [some (.ref _), some (vi _), some (vi _), some (vi _), some (.ref _), some (.ref _), none]) (dT U_X10_times 7 rfl) (by decide) rfl ?_
  refine x_aload_n (dT U_X10_times 8 rfl) rfl ?_
  refine x_iload_n (dT U_X10_times 9 rfl) rfl ?_
  refine x_invokevirtual (rc' := rc + 1) (rs' := rs + 6) (rc2 := 1) (rs2 := 6) (As := [_]) (st := _) M_X10_rowAt K_X10_139 (dT U_X10_times 10 rfl) rfl rfl (by decide) rfl rfl w.c3 (Nat.le_of_ble_eq_true rfl) (by decide) rfl (Nat.le_of_ble_eq_true rfl) rfl (by decide) (Nat.le_of_ble_eq_true rfl) rfl rfl ?_
  refine S_X10_rowAt w v h_to (fun q => xRet_thr (e1 (by omega))) (fun t ht ezt => ?_)
  subst ezt
  have lt := v.rw t ht
  refine xRet_some ?_
  refine x_astore (ls' := [some (.ref _), some (vi _), some (vi _), some (vi _), some (.ref _), some (.ref _), some (.ref _)]) (dT U_X10_times 11 rfl) (by decide) rfl ?_
  refine x_aload_n (dT U_X10_times 12 rfl) rfl ?_
  refine x_getfield F_X10_33 (dT U_X10_times 13 rfl) w.c3 (Nat.le_of_ble_eq_true rfl) rfl ?_
  refine x_aload (dT U_X10_times 14 rfl) rfl ?_
  refine x_aload (dT U_X10_times 15 rfl) rfl ?_
  refine x_invokevirtual (rc' := rc + 1) (rs' := rs + 6) (rc2 := 0) (rs2 := 0) (As := [_, _]) (st := _) M_X6_isTooHigh K_X10_170 (dT U_X10_times 16 rfl) rfl rfl (by decide) rfl rfl w.c18 (Nat.le_of_ble_eq_true rfl) (by decide) rfl (Nat.le_of_ble_eq_true rfl) rfl (by decide) (Nat.le_of_ble_eq_true rfl) rfl rfl ?_
  refine S_X6_isTooHigh hp (w.rows i hi) (by refine ⟨by omega, by omega, by omega, by omega, by omega⟩) li (w.rows j hj) (by refine ⟨by omega, by omega, by omega, by omega, by omega⟩) lj (fun q1 q2 q3 => ?_) (fun q0 => ?_)
  · refine xRet_some ?_
    refine x_if_eq (tgt := 45) (dT U_X10_times 17 rfl) (by decide) (by unfold xr at *; omega) (fun c32 => ?_) (fun c32 => ?_)
    · exfalso; omega
    · skip
      refine x_throw T_IS rfl (is := 176) (text := "the degree would be above 7") (by decide) rfl (by omega) (Nat.le_of_ble_eq_true rfl) (by omega) (by omega) (dT U_X10_times 18 rfl) (dT U_X10_times 19 rfl) (dT U_X10_times 20 rfl) (dT U_X10_times 21 rfl) (dT U_X10_times 22 rfl) ?_
      exact e2 (by omega) (fun z => z ⟨q1, q2, q3⟩)
  · refine xRet_some ?_
    refine x_if_eq (tgt := 45) (dT U_X10_times 17 rfl) (by decide) (by unfold xr at *; omega) (fun c32 => ?_) (fun c32 => ?_)
    · skip
      refine x_aload_n (dT U_X10_times 23 rfl) rfl ?_
      refine x_getfield F_X10_33 (dT U_X10_times 24 rfl) w.c3 (Nat.le_of_ble_eq_true rfl) rfl ?_
      refine x_aload (dT U_X10_times 25 rfl) rfl ?_
      refine x_aload (dT U_X10_times 26 rfl) rfl ?_
      refine x_aload (dT U_X10_times 27 rfl) rfl ?_
      refine x_invokevirtual (rc' := rc + 1) (rs' := rs + 6) (rc2 := 0) (rs2 := 0) (As := [_, _, _]) (st := _) M_X6_multiply K_X10_179 (dT U_X10_times 28 rfl) rfl rfl (by decide) rfl rfl w.c18 (Nat.le_of_ble_eq_true rfl) (by decide) rfl (Nat.le_of_ble_eq_true rfl) rfl (by decide) (Nat.le_of_ble_eq_true rfl) rfl rfl ?_
      refine S_X6_multiply w.gw.1 hp w.c18 hs19 ls19 (w.rows i hi) (by refine ⟨by omega, by omega, by omega, by omega, by omega⟩) li (w.rows j hj) (by refine ⟨by omega, by omega, by omega, by omega, by omega⟩) lj (w.rows t ht) (by omega) lt.1 ?_
      refine xRet_none ?_
      refine x_aload (dT U_X10_times 29 rfl) rfl ?_
      refine x_invokestatic (rc' := rc + 1) (rs' := rs + 6) (rc2 := 0) (rs2 := 0) (As := [_]) (st := _) M_X1_degreeOf K_X10_154 (dT U_X10_times 30 rfl) rfl rfl rfl rfl (Nat.le_of_ble_eq_true rfl) rfl (by decide) (Nat.le_of_ble_eq_true rfl) rfl rfl ?_
      refine S_degF (p := σ.p) (hset_eq (hset_ne (by omega) (w.rows t ht))) (by omega) (Fl_tab (by omega) (fun t _ => modb (by omega))) hp.2 ?_
      refine xRet_some ?_
      refine x_ireturn (dT U_X10_times 31 rfl) rfl ?_
      exact k (by omega) q0 _ (((Ag.rf 3 69 h).set (by omega)).set (by omega)) ((w.t19 ((Ag.rf 19 19 h).set (by omega)) (hset_eq hs19) (tab_len _ _)).row ((Ag.rf (10 + t) (10 + t) _).set (by omega)) ht (hset_eq (hset_ne (by omega) (w.rows t ht))))
    · exfalso; omega
