theorem dg_max {f : Nat → Int} {g : Nat} : ∀ n, g < n → f g ≠ 0 → (∀ j, g < j → j < n → f j = 0) → dg f n = (g : Int)
  | 0, h, _, _ => absurd h (Nat.not_lt_zero g)
  | n + 1, h, h1, h2 => by
    unfold dg
    by_cases e : n = g
    · subst e; rw [if_pos h1]
    · rw [if_neg (fun z => z (h2 n (by omega) (by omega)))]
      exact dg_max n (by omega) h1 (fun j h3 h4 => h2 j h3 (by omega))
theorem dg_all {f : Nat → Int} : ∀ n, (∀ j, j < n → f j = 0) → dg f n = -1
  | 0, _ => rfl
  | n + 1, h => by
    unfold dg
    rw [if_neg (fun z => z (h n (by omega)))]
    exact dg_all n (fun j hj => h j (by omega))
theorem dg_neg0 {f : Nat → Int} : ∀ n, dg f n = -1 → ∀ j, j < n → f j = 0
  | 0, _, j, hj => absurd hj (Nat.not_lt_zero j)
  | n + 1, h, j, hj => by
    unfold dg at h
    split at h
    · omega
    · rename_i h1
      by_cases e : j = n
      · subst e; exact Decidable.byContradiction h1
      · exact dg_neg0 n h j (by omega)
theorem sm_0 {f : Nat → Int} : ∀ n, (∀ j, j < n → f j = 0) → sm f n = 0
  | 0, _ => rfl
  | n + 1, h => by show sm f n + f n = 0; rw [sm_0 n (fun j hj => h j (by omega)), h n (by omega)]; rfl
theorem sm_1 {f : Nat → Int} {a : Nat} : ∀ n, a < n → (∀ j, j < n → j ≠ a → f j = 0) → sm f n = f a
  | 0, h, _ => absurd h (Nat.not_lt_zero a)
  | n + 1, h, h1 => by
    show sm f n + f n = f a
    by_cases e : n = a
    · subst e; rw [sm_0 n (fun j hj => h1 j (by omega) (by omega)), Int.zero_add]
    · rw [sm_1 n (by omega) (fun j hj => h1 j (by omega)), h1 n (by omega) e, Int.add_zero]
theorem gf_out {l : List Int} {j : Nat} (h : l.length ≤ j) : gf l j = 0 := by
  show l.getD j 0 = 0
  rw [List.getD_eq_getElem?_getD, List.getElem?_eq_none h]; rfl
theorem pm_b {p : Int} {r o : List Int} (hr : Fl p r) (ho : Fl p o) (hp : 2 < p ∧ p < 24) (u n : Nat) (hu : u ≤ 8) : 0 ≤ pm (gf r) (gf o) u n ∧ pm (gf r) (gf o) u n ≤ 3872 := by
  have q := sm_b (f := fun t => if t ≤ n then gf r t * gf o (n - t) else 0) (a := 0) (b := 484) (by omega) (by omega) u (fun j _ => by
    show 0 ≤ (if j ≤ n then gf r j * gf o (n - j) else 0) ∧ (if j ≤ n then gf r j * gf o (n - j) else 0) ≤ 484
    split
    · exact mulb (hr.2 j) (ho.2 (n - j)) hp.2
    · omega)
  show 0 ≤ sm _ u ∧ sm _ u ≤ 3872
  omega
theorem pm_deg {p : Nat} (hp : p ∈ PR) {r o : List Int} (hr : Fl (p : Int) r) (ho : Fl (p : Int) o) :
    dg (gf (tab (fun n => pm (gf r) (gf o) 8 n % (p : Int)) 15)) 15 < 8 ↔ ¬ (8 ≤ dg (gf r) 8 + dg (gf o) 8 ∧ 0 ≤ dg (gf r) 8 ∧ 0 ≤ dg (gf o) 8) := by
  have hb := PRb hp
  have br := dg_b (gf r) 8
  have bo := dg_b (gf o) 8
  by_cases h1 : dg (gf r) 8 = -1
  · have z := dg_neg0 8 h1
    rw [dg_all 15 (fun j hj => by show (tab _ 15).getD j 0 = 0; rw [tab_get _ hj]; show sm _ 8 % _ = 0; rw [sm_0 8 (fun t ht => by show (if t ≤ j then gf r t * _ else 0) = 0; rw [z t ht, Int.zero_mul, ite_self])]; exact Int.zero_emod _)]
    omega
  by_cases h2 : dg (gf o) 8 = -1
  · have z := dg_neg0 8 h2
    have z2 : ∀ j, gf o j = 0 := fun j => if hj : j < 8 then z j hj else gf_out (by have := ho.1; omega)
    rw [dg_all 15 (fun j hj => by show (tab _ 15).getD j 0 = 0; rw [tab_get _ hj]; show sm _ 8 % _ = 0; rw [sm_0 8 (fun t ht => by show (if t ≤ j then gf r t * gf o (j - t) else 0) = 0; rw [z2, Int.mul_zero, ite_self])]; exact Int.zero_emod _)]
    omega
  obtain ⟨a, ea⟩ := Int.eq_ofNat_of_zero_le (show 0 ≤ dg (gf r) 8 by omega)
  obtain ⟨b, eb⟩ := Int.eq_ofNat_of_zero_le (show 0 ≤ dg (gf o) 8 by omega)
  obtain ⟨a1, a2⟩ := dg_nz (gf r) 8 a ea
  obtain ⟨b1, b2⟩ := dg_nz (gf o) 8 b eb
  have za : ∀ j, a < j → gf r j = 0 := fun j h => if hj : j < 8 then a2 j h hj else gf_out (by have := hr.1; omega)
  have zb : ∀ j, b < j → gf o j = 0 := fun j h => if hj : j < 8 then b2 j h hj else gf_out (by have := ho.1; omega)
  have e : dg (gf (tab (fun n => pm (gf r) (gf o) 8 n % (p : Int)) 15)) 15 = ((a + b : Nat) : Int) := by
    refine dg_max 15 (by omega) (fun z => ?_) (fun j h3 h4 => ?_)
    · have z : (tab (fun n => pm (gf r) (gf o) 8 n % (p : Int)) 15).getD (a + b) 0 = 0 := z
      rw [tab_get _ (by omega)] at z
      have z : sm (fun t => if t ≤ a + b then gf r t * gf o (a + b - t) else 0) 8 % (p : Int) = 0 := z
      rw [sm_1 (a := a) 8 (by omega) (fun t h5 h6 => by
        show (if t ≤ a + b then gf r t * gf o (a + b - t) else 0) = 0
        by_cases h7 : a < t
        · rw [za t h7, Int.zero_mul, ite_self]
        · rw [zb (a + b - t) (by omega), Int.mul_zero, ite_self])] at z
      rw [if_pos (by omega), show a + b - a = b by omega] at z
      have ra : 0 ≤ gf r a ∧ gf r a < (p : Int) := hr.2 a
      have rb : 0 ≤ gf o b ∧ gf o b < (p : Int) := ho.2 b
      have q := prm hp z (by rw [Int.emod_eq_of_lt ra.1 ra.2]; exact a1)
      rw [Int.emod_eq_of_lt rb.1 rb.2] at q
      exact b1 q
    · show (tab _ 15).getD j 0 = 0
      rw [tab_get _ h4]
      show sm _ 8 % _ = 0
      rw [sm_0 8 (fun t ht => by
        show (if t ≤ j then gf r t * gf o (j - t) else 0) = 0
        by_cases h7 : a < t
        · rw [za t h7, Int.zero_mul, ite_self]
        · rw [zb (j - t) (by omega), Int.mul_zero, ite_self])]
      exact Int.zero_emod _
  rw [e, ea, eb]
  omega
theorem pm_le {r o : Nat → Int} {u n : Nat} (h : u ≤ n) : pm r o (u + 1) n = pm r o u n + r u * o (n - u) := by
  show pm r o u n + (if u ≤ n then r u * o (n - u) else 0) = _
  rw [if_pos h]

set_option maxRecDepth 20000 in
set_option maxHeartbeats 1000000 in
theorem S_X11_times {G : xG} {d rc rs : Nat} {ex : Bool} {h : xH} {Q : xQ} {σ : St} {cc0 : Int} {rr : Nat} {ss : Int} {row other to : Int} (w : MX σ cc0 rr ss h) (v : INV σ) (h_row : xr row) (h_other : xr other) (h_to : xr to) (e1 : ¬ (inb row 8 ∧ inb other 8 ∧ inb to 8) → ∀ h2 z, Ag 70 142 h h2 → MX σ 1 rr ss h2 → xr z → Q (.inl (some (vi z))) ex h2) (e2 : (inb row 8 ∧ inb other 8 ∧ inb to 8) → ¬ (¬ (8 ≤ dg (gf (σ.rw row.toNat)) 8 + dg (gf (σ.rw other.toNat)) 8 ∧ 0 ≤ dg (gf (σ.rw row.toNat)) 8 ∧ 0 ≤ dg (gf (σ.rw other.toNat)) 8)) → ∀ h2 z, Ag 70 142 h h2 → MX σ 2 rr ss h2 → xr z → Q (.inl (some (vi z))) ex h2) (k : (inb row 8 ∧ inb other 8 ∧ inb to 8) → (¬ (8 ≤ dg (gf (σ.rw row.toNat)) 8 + dg (gf (σ.rw other.toNat)) 8 ∧ 0 ≤ dg (gf (σ.rw row.toNat)) 8 ∧ 0 ≤ dg (gf (σ.rw other.toNat)) 8)) → ∀ h2 r2 s2, Ag 70 142 h h2 → MX (σ.sRow to.toNat (tab (fun n => pm (gf (σ.rw row.toNat)) (gf (σ.rw other.toNat)) 8 n % (σ.p : Int)) 8)) 0 r2 s2 h2 → Q (.inl (some (vi (dg (gf (tab (fun n => pm (gf (σ.rw row.toNat)) (gf (σ.rw other.toNat)) 8 n % (σ.p : Int)) 8)) 8)))) ex h2) : X G m_X11_times (d + 2) rc rs ex 0 (xe m_X11_times.2.2.1 [.ref 70, vi row, vi other, vi to]) [] h Q := by
  show X G m_X11_times _ _ _ _ 0 [some (.ref 70), some (vi row), some (vi other), some (vi to), none, none, none, none] [] h Q
  have hp := PRb v.p
  have hq := gq_b v.p
  refine x_aload_n (dT U_X11_times 0 rfl) rfl ?_
  refine x_iload_n (dT U_X11_times 1 rfl) rfl ?_
  refine x_invokestatic (rc' := rc) (rs' := rs) (rc2 := 0) (rs2 := 0) (As := [_]) (st := _) M_X11_isRow K_X11_164 (dT U_X11_times 2 rfl) rfl rfl rfl rfl (Nat.le_of_ble_eq_true rfl) rfl (by decide) (Nat.le_of_ble_eq_true rfl) rfl rfl ?_
  refine S_X11_isRow h_row (fun q1 => ?_) (fun q1 => ?_)
  · refine xRet_some ?_
    refine x_if_eqn (tgt := 26) (dT U_X11_times 3 rfl) (by decide) (by decide) ?_
    refine x_iload_n (dT U_X11_times 4 rfl) rfl ?_
    refine x_invokestatic (rc' := rc) (rs' := rs) (rc2 := 0) (rs2 := 0) (As := [_]) (st := _) M_X11_isRow K_X11_164 (dT U_X11_times 5 rfl) rfl rfl rfl rfl (Nat.le_of_ble_eq_true rfl) rfl (by decide) (Nat.le_of_ble_eq_true rfl) rfl rfl ?_
    refine S_X11_isRow h_other (fun q2 => ?_) (fun q2 => ?_)
    · refine xRet_some ?_
      refine x_if_eqn (tgt := 26) (dT U_X11_times 6 rfl) (by decide) (by decide) ?_
      refine x_iload_n (dT U_X11_times 7 rfl) rfl ?_
      refine x_invokestatic (rc' := rc) (rs' := rs) (rc2 := 0) (rs2 := 0) (As := [_]) (st := _) M_X11_isRow K_X11_164 (dT U_X11_times 8 rfl) rfl rfl rfl rfl (Nat.le_of_ble_eq_true rfl) rfl (by decide) (Nat.le_of_ble_eq_true rfl) rfl rfl ?_
      refine S_X11_isRow h_to (fun q3 => ?_) (fun q3 => ?_)
      · refine xRet_some ?_
        refine x_if_eqn (tgt := 26) (dT U_X11_times 9 rfl) (by decide) (by decide) ?_
        refine x_iconst (dT U_X11_times 10 rfl) ?_
        refine x_goto (tgt := 27) (dT U_X11_times 11 rfl) (by decide) ?_
        refine x_iconst (dT U_X11_times 13 rfl) ?_
        refine x_invokevirtual (rc' := rc) (rs' := rs) (rc2 := 0) (rs2 := 0) (As := [_, _]) (st := _) M_X11_lets K_X11_167 (dT U_X11_times 14 rfl) rfl rfl (by decide) rfl rfl w.c70 (Nat.le_of_ble_eq_true rfl) (by decide) rfl (Nat.le_of_ble_eq_true rfl) rfl (by decide) (Nat.le_of_ble_eq_true rfl) rfl rfl ?_
        refine S_X11_lets1 w (fun h1 g1 w1 => ?_)
        refine xRet_some ?_
        obtain ⟨i, hi, rfl⟩ : ∃ j : Nat, j < 8 ∧ row = (j : Int) := ⟨row.toNat, by omega, by omega⟩
        try simp only [tnc] at e1 e2 k
        obtain ⟨j, hj, rfl⟩ : ∃ j : Nat, j < 8 ∧ other = (j : Int) := ⟨other.toNat, by omega, by omega⟩
        try simp only [tnc] at e1 e2 k
        obtain ⟨k9, hk9, rfl⟩ : ∃ j : Nat, j < 8 ∧ to = (j : Int) := ⟨to.toNat, by omega, by omega⟩
        try simp only [tnc] at e1 e2 k
        refine x_if_nej (tgt := 36) (dT U_X11_times 15 rfl) (by decide) (by decide) ?_
        refine x_iconst (dT U_X11_times 18 rfl) ?_
        refine x_istore (ls' := [some (.ref _), some (vi _), some (vi _), some (vi _), some (vi _), none, none, none]) (dT U_X11_times 19 rfl) (by decide) rfl ?_
        obtain ⟨ls, hl, ll⟩ := w1.s136
        have L : ∀ (n t : Nat), t + n = 15 → X G m_X11_times (d + 2) rc rs ex 39 [some (.ref 70), some (vi (i : Int)), some (vi (j : Int)), some (vi (k9 : Int)), some (vi (t : Int)), none, none, none] [] (h1.set 136 (cA 0 (fillL (fun n => pm (gf (σ.rw i)) (gf (σ.rw j)) 8 n % (σ.p : Int)) ls t))) Q := by
          intro n
          induction n with
          | zero =>
            intro t hi_ 
            refine x_iload (dT U_X11_times 20 rfl) rfl ?_
            refine x_bipush (dT U_X11_times 21 rfl) (by decide) ?_
            refine x_icmp_ge (tgt := 135) (dT U_X11_times 22 rfl) (by decide) (by unfold xr; omega) (by unfold xr; omega) (fun c43 => ?_) (fun c43 => ?_)
            · skip
              have e : t = 15 := by omega
              subst e
              rw [fillL_all ll]
              have wt := w1.t136 (fun a ha => by rw [hset_fr (by omega)]) (hset_eq hl) (tab_len (fun n => pm (gf (σ.rw i)) (gf (σ.rw j)) 8 n % (σ.p : Int)) 15)
              have tq := pm_deg v.p (v.rw i hi) (v.rw j hj)
              have tb := dg_b (gf (tab (fun n => pm (gf (σ.rw i)) (gf (σ.rw j)) 8 n % (σ.p : Int)) 15)) 15
              refine x_aload_n (dT U_X11_times 72 rfl) rfl ?_
              refine x_aload_n (dT U_X11_times 73 rfl) rfl ?_
              refine x_getfield F_X11_97 (dT U_X11_times 74 rfl) (hset_ne (by omega) (w1.c70)) (Nat.le_of_ble_eq_true rfl) rfl ?_
              refine x_invokestatic (rc' := rc) (rs' := rs) (rc2 := 0) (rs2 := 0) (As := [_]) (st := _) M_X11_top K_X11_177 (dT U_X11_times 75 rfl) rfl rfl rfl rfl (Nat.le_of_ble_eq_true rfl) rfl (by decide) (Nat.le_of_ble_eq_true rfl) rfl rfl ?_
              refine S_X11_top (hset_eq hl) (by omega) (by rw [tab_len]; omega) (fun t => tabx_r (fun t => by have := modb (z := pm (gf (σ.rw i)) (gf (σ.rw j)) 8 t) (p := (σ.p : Int)) (by omega); omega) t) ?_
              rw [tab_len]
              refine xRet_some ?_
              refine x_bipush (dT U_X11_times 76 rfl) (by decide) ?_
              refine x_icmp_ge (tgt := 152) (dT U_X11_times 77 rfl) (by decide) (by unfold xr; omega) (by unfold xr; omega) (fun c145 => ?_) (fun c145 => ?_)
              · skip
                refine x_iconst (dT U_X11_times 80 rfl) ?_
                refine x_iconst (dT U_X11_times 81 rfl) ?_
                refine x_invokevirtual (rc' := rc) (rs' := rs) (rc2 := 0) (rs2 := 0) (As := [_, _]) (st := _) M_X11_lets K_X11_167 (dT U_X11_times 82 rfl) rfl rfl (by decide) rfl rfl wt.c70 (Nat.le_of_ble_eq_true rfl) (by decide) rfl (Nat.le_of_ble_eq_true rfl) rfl (by decide) (Nat.le_of_ble_eq_true rfl) rfl rfl ?_
                refine S_X11_lets0 wt (fun h2 g2 w2 => ?_)
                refine xRet_some ?_
                refine x_if_nen (tgt := 162) (dT U_X11_times 83 rfl) (by decide) (by decide) ?_
                refine x_iconst (dT U_X11_times 84 rfl) ?_
                refine x_ireturn (dT U_X11_times 85 rfl) rfl ?_
                exact e2 (by omega) (by omega) _ _ (Ag.tr ((Ag.tr (Ag.rf 70 142 h) (g1.w (by omega))).set (by omega)) (g2.w (by omega))) w2 (by unfold xr; omega)
              · skip
                refine x_iconst (dT U_X11_times 78 rfl) ?_
                refine x_goto (tgt := 153) (dT U_X11_times 79 rfl) (by decide) ?_
                refine x_iconst (dT U_X11_times 81 rfl) ?_
                refine x_invokevirtual (rc' := rc) (rs' := rs) (rc2 := 0) (rs2 := 0) (As := [_, _]) (st := _) M_X11_lets K_X11_167 (dT U_X11_times 82 rfl) rfl rfl (by decide) rfl rfl wt.c70 (Nat.le_of_ble_eq_true rfl) (by decide) rfl (Nat.le_of_ble_eq_true rfl) rfl (by decide) (Nat.le_of_ble_eq_true rfl) rfl rfl ?_
                refine S_X11_lets1 wt (fun h2 g2 w2 => ?_)
                refine xRet_some ?_
                refine x_if_nej (tgt := 162) (dT U_X11_times 83 rfl) (by decide) (by decide) ?_
                refine x_aload_n (dT U_X11_times 86 rfl) rfl ?_
                refine x_getfield F_X11_18 (dT U_X11_times 87 rfl) w2.c70 (Nat.le_of_ble_eq_true rfl) rfl ?_
                refine x_iload_n (dT U_X11_times 88 rfl) rfl ?_
                refine x_aaload (k9) (dT U_X11_times 89 rfl) w2.c73 (Nat.le_of_ble_eq_true rfl) (by decide) rfl (mrL_get (by omega)) (Nat.le_of_ble_eq_true rfl) ?_
                refine x_aload_n (dT U_X11_times 90 rfl) rfl ?_
                refine x_getfield F_X11_97 (dT U_X11_times 91 rfl) w2.c70 (Nat.le_of_ble_eq_true rfl) rfl ?_
                refine x_invokestatic (rc' := rc) (rs' := rs) (rc2 := 0) (rs2 := 0) (As := [_, _]) (st := _) M_X11_becomes K_X11_189 (dT U_X11_times 92 rfl) rfl rfl rfl rfl (Nat.le_of_ble_eq_true rfl) rfl (by decide) (Nat.le_of_ble_eq_true rfl) rfl rfl ?_
                have hm9 := (g2.2 136 (by omega)).trans (show _ = some (cA 0 (tab (fun n => pm (gf (σ.rw i)) (gf (σ.rw j)) 8 n % (σ.p : Int)) 15)) from hset_eq hl)
                refine S_X11_becomes (w2.rows k9 hk9) (by omega) (by rw [(v.rw k9 hk9).1]; omega) hm9 (by omega) (by rw [tab_len]; omega) ?_
                rw [fillL_all (v.rw k9 hk9).1, show tab (gf (tab (fun n => pm (gf (σ.rw i)) (gf (σ.rw j)) 8 n % (σ.p : Int)) 15)) 8 = tab (fun n => pm (gf (σ.rw i)) (gf (σ.rw j)) 8 n % (σ.p : Int)) 8 from tab_congr (fun j hj => tab_get _ (by omega))]
                refine xRet_none ?_
                refine x_aload_n (dT U_X11_times 93 rfl) rfl ?_
                refine x_getfield F_X11_18 (dT U_X11_times 94 rfl) (hset_ne (by omega) (w2.c70)) (Nat.le_of_ble_eq_true rfl) rfl ?_
                refine x_iload_n (dT U_X11_times 95 rfl) rfl ?_
                refine x_aaload (k9) (dT U_X11_times 96 rfl) (hset_ne (by omega) (w2.c73)) (Nat.le_of_ble_eq_true rfl) (by decide) rfl (mrL_get (by omega)) (Nat.le_of_ble_eq_true rfl) ?_
                refine x_invokestatic (rc' := rc) (rs' := rs) (rc2 := 0) (rs2 := 0) (As := [_]) (st := _) M_X11_top K_X11_177 (dT U_X11_times 97 rfl) rfl rfl rfl rfl (Nat.le_of_ble_eq_true rfl) rfl (by decide) (Nat.le_of_ble_eq_true rfl) rfl rfl ?_
                refine S_topF (p := (σ.p : Int)) (hset_eq (w2.rows k9 hk9)) (by omega) (Fl_tab (by omega) (fun t _ => modb (by omega))) (by omega) ?_
                refine xRet_some ?_
                refine x_ireturn (dT U_X11_times 98 rfl) rfl ?_
                exact k (by omega) (by omega) _ _ _ ((Ag.tr ((Ag.tr (Ag.rf 70 142 h) (g1.w (by omega))).set (by omega)) (g2.w (by omega))).set (by omega)) (w2.row (i := k9) (l := tab (fun n => pm (gf (σ.rw i)) (gf (σ.rw j)) 8 n % (σ.p : Int)) 8) (fun a ha => by rw [hset_fr (by omega)]) hk9 (hset_eq (w2.rows k9 hk9)))
            · exfalso; omega
          | succ n ih =>
            intro t hi_ 
            refine x_iload (dT U_X11_times 20 rfl) rfl ?_
            refine x_bipush (dT U_X11_times 21 rfl) (by decide) ?_
            refine x_icmp_ge (tgt := 135) (dT U_X11_times 22 rfl) (by decide) (by unfold xr; omega) (by unfold xr; omega) (fun c43 => ?_) (fun c43 => ?_)
            · exfalso; omega
            · skip
              refine x_lconst (z := 0) (dT U_X11_times 23 rfl) rfl ?_
              refine x_lstore (ls' := [some (.ref _), some (vi _), some (vi _), some (vi _), some (vi _), some (vl _), none, none]) (dT U_X11_times 24 rfl) (by decide) rfl ?_
              refine x_iconst (dT U_X11_times 25 rfl) ?_
              refine x_istore (ls' := [some (.ref _), some (vi _), some (vi _), some (vi _), some (vi _), some (vl _), none, some (vi _)]) (dT U_X11_times 26 rfl) (by decide) rfl ?_
              have L2 : ∀ (n u : Nat), u + n = 8 → X G m_X11_times (d + 2) rc rs ex 52 [some (.ref 70), some (vi (i : Int)), some (vi (j : Int)), some (vi (k9 : Int)), some (vi (t : Int)), some (vl (pm (gf (σ.rw i)) (gf (σ.rw j)) u t)), none, some (vi (u : Int))] [] (h1.set 136 (cA 0 (fillL (fun n => pm (gf (σ.rw i)) (gf (σ.rw j)) 8 n % (σ.p : Int)) ls t))) Q := by
                intro n
                induction n with
                | zero =>
                  intro u hi_ 
                  refine x_iload (dT U_X11_times 27 rfl) rfl ?_
                  refine x_bipush (dT U_X11_times 28 rfl) (by decide) ?_
                  refine x_icmp_ge (tgt := 116) (dT U_X11_times 29 rfl) (by decide) (by unfold xr; omega) (by unfold xr; omega) (fun c56 => ?_) (fun c56 => ?_)
                  · skip
                    have e : u = 8 := by omega
                    subst e
                    refine x_aload_n (dT U_X11_times 63 rfl) rfl ?_
                    refine x_getfield F_X11_97 (dT U_X11_times 64 rfl) (hset_ne (by omega) (w1.c70)) (Nat.le_of_ble_eq_true rfl) rfl ?_
                    refine x_iload (dT U_X11_times 65 rfl) rfl ?_
                    refine x_aload_n (dT U_X11_times 66 rfl) rfl ?_
                    refine x_lload (dT U_X11_times 67 rfl) rfl ?_
                    refine x_invokevirtual (rc' := rc) (rs' := rs) (rc2 := 0) (rs2 := 0) (As := [_]) (st := _) M_X11_f K_X11_156 (dT U_X11_times 68 rfl) rfl rfl (by decide) rfl rfl (hset_ne (by omega) (w1.c70)) (Nat.le_of_ble_eq_true rfl) (by decide) rfl (Nat.le_of_ble_eq_true rfl) rfl (by decide) (Nat.le_of_ble_eq_true rfl) rfl rfl ?_
                    refine S_X11_f (MP.set (by omega) (w1.mp)) v.p (by have := pm_b (v.rw i hi) (v.rw j hj) (by omega) 8 t (by omega); unfold xrl; omega) ?_
                    refine xRet_some ?_
                    refine x_iastore (t) (dT U_X11_times 69 rfl) (hset_eq hl) (Nat.le_of_ble_eq_true rfl) rfl (by rw [fillL_len, ll]; omega) (by rw [fillL_len, ll]; omega) ?_
                    rw [List.set_set]
                    refine x_iinc (ls' := [some (.ref _), some (vi _), some (vi _), some (vi _), some (vi _), some (vl _), none, some (vi _)]) (dT U_X11_times 70 rfl) (by decide) rfl rfl ?_
                    refine x_goto (tgt := 39) (dT U_X11_times 71 rfl) (by decide) ?_
                    refine x_drop ?_ (ih (t + 1) (by omega))
                    repeat (first | exact trivial | refine ⟨rfl, ?_⟩ | refine ⟨trivial, ?_⟩)
                  · exfalso; omega
                | succ n ih2 =>
                  intro u hi_ 
                  refine x_iload (dT U_X11_times 27 rfl) rfl ?_
                  refine x_bipush (dT U_X11_times 28 rfl) (by decide) ?_
                  refine x_icmp_ge (tgt := 116) (dT U_X11_times 29 rfl) (by decide) (by unfold xr; omega) (by unfold xr; omega) (fun c56 => ?_) (fun c56 => ?_)
                  · exfalso; omega
                  · skip
                    refine x_lload (dT U_X11_times 30 rfl) rfl ?_
                    refine x_iload (dT U_X11_times 31 rfl) rfl ?_
                    refine x_iload (dT U_X11_times 32 rfl) rfl ?_
                    refine x_isub (dT U_X11_times 33 rfl) ?_
                    refine x_if_lt (tgt := 106) (dT U_X11_times 34 rfl) (by decide) (by unfold xr; omega) (fun c66 => ?_) (fun c66 => ?_)
                    · skip
                      refine x_lconst (z := 0) (dT U_X11_times 58 rfl) rfl ?_
                      refine x_ladd (dT U_X11_times 59 rfl) ?_
                      refine x_lstore (ls' := [some (.ref _), some (vi _), some (vi _), some (vi _), some (vi _), some (vl _), none, some (vi _)]) (dT U_X11_times 60 rfl) (by decide) rfl ?_
                      refine x_iinc (ls' := [some (.ref _), some (vi _), some (vi _), some (vi _), some (vi _), some (vl _), none, some (vi _)]) (dT U_X11_times 61 rfl) (by decide) rfl rfl ?_
                      refine x_goto (tgt := 52) (dT U_X11_times 62 rfl) (by decide) ?_
                      have q := ih2 (u + 1) (by omega)
                      first
                      | (rw [pm_le (by omega)] at q; exact q)
                      | (rw [pm_le (by omega), show gf (σ.rw j) (t - u) = 0 from gf_out (by have := (v.rw j hj).1; omega), Int.mul_zero] at q; exact q)
                      | (rw [pm_n (by omega)] at q; rw [Int.add_zero]; exact q)
                    · skip
                      refine x_iload (dT U_X11_times 35 rfl) rfl ?_
                      refine x_iload (dT U_X11_times 36 rfl) rfl ?_
                      refine x_isub (dT U_X11_times 37 rfl) ?_
                      refine x_bipush (dT U_X11_times 38 rfl) (by decide) ?_
                      refine x_icmp_ge (tgt := 106) (dT U_X11_times 39 rfl) (by decide) (by unfold xr; omega) (by unfold xr; omega) (fun c76 => ?_) (fun c76 => ?_)
                      · skip
                        refine x_lconst (z := 0) (dT U_X11_times 58 rfl) rfl ?_
                        refine x_ladd (dT U_X11_times 59 rfl) ?_
                        refine x_lstore (ls' := [some (.ref _), some (vi _), some (vi _), some (vi _), some (vi _), some (vl _), none, some (vi _)]) (dT U_X11_times 60 rfl) (by decide) rfl ?_
                        refine x_iinc (ls' := [some (.ref _), some (vi _), some (vi _), some (vi _), some (vi _), some (vl _), none, some (vi _)]) (dT U_X11_times 61 rfl) (by decide) rfl rfl ?_
                        refine x_goto (tgt := 52) (dT U_X11_times 62 rfl) (by decide) ?_
                        have q := ih2 (u + 1) (by omega)
                        first
                        | (rw [pm_le (by omega)] at q; exact q)
                        | (rw [pm_le (by omega), show gf (σ.rw j) (t - u) = 0 from gf_out (by have := (v.rw j hj).1; omega), Int.mul_zero] at q; exact q)
                        | (rw [pm_n (by omega)] at q; rw [Int.add_zero]; exact q)
                      · skip
                        refine x_aload_n (dT U_X11_times 40 rfl) rfl ?_
                        refine x_getfield F_X11_18 (dT U_X11_times 41 rfl) (hset_ne (by omega) (w1.c70)) (Nat.le_of_ble_eq_true rfl) rfl ?_
                        refine x_iload_n (dT U_X11_times 42 rfl) rfl ?_
                        refine x_aaload (i) (dT U_X11_times 43 rfl) (hset_ne (by omega) (w1.c73)) (Nat.le_of_ble_eq_true rfl) (by decide) rfl (mrL_get (by omega)) (Nat.le_of_ble_eq_true rfl) ?_
                        refine x_iload (dT U_X11_times 44 rfl) rfl ?_
                        refine x_iaload (u) (dT U_X11_times 45 rfl) (hset_ne (by omega) ((w1.rows i hi))) (by omega) rfl (by rw [(v.rw i hi).1]; omega) (by rw [(v.rw i hi).1]; omega) ?_
                        have xa := (v.rw i hi).2 u
                        refine x_i2l (dT U_X11_times 46 rfl) (by unfold xr; omega) ?_
                        refine x_aload_n (dT U_X11_times 47 rfl) rfl ?_
                        refine x_getfield F_X11_18 (dT U_X11_times 48 rfl) (hset_ne (by omega) (w1.c70)) (Nat.le_of_ble_eq_true rfl) rfl ?_
                        refine x_iload_n (dT U_X11_times 49 rfl) rfl ?_
                        refine x_aaload (j) (dT U_X11_times 50 rfl) (hset_ne (by omega) (w1.c73)) (Nat.le_of_ble_eq_true rfl) (by decide) rfl (mrL_get (by omega)) (Nat.le_of_ble_eq_true rfl) ?_
                        refine x_iload (dT U_X11_times 51 rfl) rfl ?_
                        refine x_iload (dT U_X11_times 52 rfl) rfl ?_
                        refine x_isub (dT U_X11_times 53 rfl) ?_
                        refine x_iaload ((t - u)) (dT U_X11_times 54 rfl) (hset_ne (by omega) ((w1.rows j hj))) (by omega) (by omega) (by rw [(v.rw j hj).1]; omega) (by rw [(v.rw j hj).1]; omega) ?_
                        have xb := (v.rw j hj).2 (t - u)
                        refine x_i2l (dT U_X11_times 55 rfl) (by unfold xr; omega) ?_
                        refine x_lmul (dT U_X11_times 56 rfl) ?_
                        refine x_goto (tgt := 107) (dT U_X11_times 57 rfl) (by decide) ?_
                        refine x_ladd (dT U_X11_times 59 rfl) ?_
                        refine x_lstore (ls' := [some (.ref _), some (vi _), some (vi _), some (vi _), some (vi _), some (vl _), none, some (vi _)]) (dT U_X11_times 60 rfl) (by decide) rfl ?_
                        refine x_iinc (ls' := [some (.ref _), some (vi _), some (vi _), some (vi _), some (vi _), some (vl _), none, some (vi _)]) (dT U_X11_times 61 rfl) (by decide) rfl rfl ?_
                        refine x_goto (tgt := 52) (dT U_X11_times 62 rfl) (by decide) ?_
                        have q := ih2 (u + 1) (by omega)
                        first
                        | (rw [pm_le (by omega)] at q; exact q)
                        | (rw [pm_le (by omega), show gf (σ.rw j) (t - u) = 0 from gf_out (by have := (v.rw j hj).1; omega), Int.mul_zero] at q; exact q)
                        | (rw [pm_n (by omega)] at q; rw [Int.add_zero]; exact q)
              exact L2 8 0 (by omega)
        have q := L 15 0 (by omega)
        rw [show fillL (fun n => pm (gf (σ.rw i)) (gf (σ.rw j)) 8 n % (σ.p : Int)) ls 0 = ls from rfl, hset_self hl] at q
        exact q
      · refine xRet_some ?_
        refine x_if_eqj (tgt := 26) (dT U_X11_times 9 rfl) (by decide) (by decide) ?_
        refine x_iconst (dT U_X11_times 12 rfl) ?_
        refine x_iconst (dT U_X11_times 13 rfl) ?_
        refine x_invokevirtual (rc' := rc) (rs' := rs) (rc2 := 0) (rs2 := 0) (As := [_, _]) (st := _) M_X11_lets K_X11_167 (dT U_X11_times 14 rfl) rfl rfl (by decide) rfl rfl w.c70 (Nat.le_of_ble_eq_true rfl) (by decide) rfl (Nat.le_of_ble_eq_true rfl) rfl (by decide) (Nat.le_of_ble_eq_true rfl) rfl rfl ?_
        refine S_X11_lets0 w (fun h1 g1 w1 => ?_)
        refine xRet_some ?_
        refine x_if_nen (tgt := 36) (dT U_X11_times 15 rfl) (by decide) (by decide) ?_
        refine x_iconst (dT U_X11_times 16 rfl) ?_
        refine x_ireturn (dT U_X11_times 17 rfl) rfl ?_
        exact e1 (by omega) _ _ (Ag.tr (Ag.rf 70 142 h) (g1.w (by omega))) w1 (by unfold xr; omega)
    · refine xRet_some ?_
      refine x_if_eqj (tgt := 26) (dT U_X11_times 6 rfl) (by decide) (by decide) ?_
      refine x_iconst (dT U_X11_times 12 rfl) ?_
      refine x_iconst (dT U_X11_times 13 rfl) ?_
      refine x_invokevirtual (rc' := rc) (rs' := rs) (rc2 := 0) (rs2 := 0) (As := [_, _]) (st := _) M_X11_lets K_X11_167 (dT U_X11_times 14 rfl) rfl rfl (by decide) rfl rfl w.c70 (Nat.le_of_ble_eq_true rfl) (by decide) rfl (Nat.le_of_ble_eq_true rfl) rfl (by decide) (Nat.le_of_ble_eq_true rfl) rfl rfl ?_
      refine S_X11_lets0 w (fun h1 g1 w1 => ?_)
      refine xRet_some ?_
      refine x_if_nen (tgt := 36) (dT U_X11_times 15 rfl) (by decide) (by decide) ?_
      refine x_iconst (dT U_X11_times 16 rfl) ?_
      refine x_ireturn (dT U_X11_times 17 rfl) rfl ?_
      exact e1 (by omega) _ _ (Ag.tr (Ag.rf 70 142 h) (g1.w (by omega))) w1 (by unfold xr; omega)
  · refine xRet_some ?_
    refine x_if_eqj (tgt := 26) (dT U_X11_times 3 rfl) (by decide) (by decide) ?_
    refine x_iconst (dT U_X11_times 12 rfl) ?_
    refine x_iconst (dT U_X11_times 13 rfl) ?_
    refine x_invokevirtual (rc' := rc) (rs' := rs) (rc2 := 0) (rs2 := 0) (As := [_, _]) (st := _) M_X11_lets K_X11_167 (dT U_X11_times 14 rfl) rfl rfl (by decide) rfl rfl w.c70 (Nat.le_of_ble_eq_true rfl) (by decide) rfl (Nat.le_of_ble_eq_true rfl) rfl (by decide) (Nat.le_of_ble_eq_true rfl) rfl rfl ?_
    refine S_X11_lets0 w (fun h1 g1 w1 => ?_)
    refine xRet_some ?_
    refine x_if_nen (tgt := 36) (dT U_X11_times 15 rfl) (by decide) (by decide) ?_
    refine x_iconst (dT U_X11_times 16 rfl) ?_
    refine x_ireturn (dT U_X11_times 17 rfl) rfl ?_
    exact e1 (by omega) _ _ (Ag.tr (Ag.rf 70 142 h) (g1.w (by omega))) w1 (by unfold xr; omega)
