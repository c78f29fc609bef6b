set_option maxRecDepth 20000 in
set_option maxHeartbeats 1000000 in
theorem S_X11_areUnlike {G : xG} {d rc rs : Nat} {ex : Bool} {h : xH} {Q : xQ} {p : Int} {m : Nat} {aa : Nat} {al : List Int} (ha : h[aa]? = some (cA 0 al)) (a3 : 3 ≤ aa) (la : Fl p al) (hp : p < 24) (hm : m ≤ 8) (k1 : (∀ a b : Nat, b < a → a < m → ¬ al.getD a 0 = al.getD b 0) → Q (.inl (some (vi 1))) ex h) (k0 : (∃ a b : Nat, b < a ∧ a < m ∧ al.getD a 0 = al.getD b 0) → Q (.inl (some (vi 0))) ex h) : X G m_X11_areUnlike d rc rs ex 0 (xe m_X11_areUnlike.2.2.1 [.ref 70, .ref aa, vi (m : Int)]) [] h Q := by
  show X G m_X11_areUnlike _ _ _ _ 0 [some (.ref 70), some (.ref aa), some (vi (m : Int)), none, none] [] h Q
  have L : ∀ (n t : Nat), t + n = m → (∀ a b : Nat, b < a → a < t → ¬ al.getD a 0 = al.getD b 0) → X G m_X11_areUnlike d rc rs ex 2 [some (.ref 70), some (.ref aa), some (vi (m : Int)), some (vi (t : Int)), none] [] h Q := by
    intro n
    induction n with
    | zero =>
      intro t hi_ hx
      refine x_iload_n (dT U_X11_areUnlike 2 rfl) rfl ?_
      refine x_iload_n (dT U_X11_areUnlike 3 rfl) rfl ?_
      refine x_icmp_ge (tgt := 40) (dT U_X11_areUnlike 4 rfl) (by decide) (by unfold xr; omega) (by unfold xr; omega) (fun c4 => ?_) (fun c4 => ?_)
      · skip
        refine x_iconst (dT U_X11_areUnlike 23 rfl) ?_
        refine x_zreturn (dT U_X11_areUnlike 24 rfl) rfl (by omega) ?_
        exact k1 (fun a b h1 h2 => hx a b h1 (by omega))
      · exfalso; omega
    | succ n ih =>
      intro t hi_ hx
      refine x_iload_n (dT U_X11_areUnlike 2 rfl) rfl ?_
      refine x_iload_n (dT U_X11_areUnlike 3 rfl) rfl ?_
      refine x_icmp_ge (tgt := 40) (dT U_X11_areUnlike 4 rfl) (by decide) (by unfold xr; omega) (by unfold xr; omega) (fun c4 => ?_) (fun c4 => ?_)
      · exfalso; omega
      · skip
        refine x_iconst (dT U_X11_areUnlike 5 rfl) ?_
        refine x_istore (ls' := [some (.ref _), some (.ref _), some (vi _), some (vi _), some (vi _)]) (dT U_X11_areUnlike 6 rfl) (by decide) rfl ?_
        have L2 : ∀ (n u : Nat), u + n = t → (∀ b, b < u → ¬ al.getD t 0 = al.getD b 0) → X G m_X11_areUnlike d rc rs ex 10 [some (.ref 70), some (.ref aa), some (vi (m : Int)), some (vi (t : Int)), some (vi (u : Int))] [] h Q := by
          intro n
          induction n with
          | zero =>
            intro u hi_ hy
            refine x_iload (dT U_X11_areUnlike 7 rfl) rfl ?_
            refine x_iload_n (dT U_X11_areUnlike 8 rfl) rfl ?_
            refine x_icmp_ge (tgt := 34) (dT U_X11_areUnlike 9 rfl) (by decide) (by unfold xr; omega) (by unfold xr; omega) (fun c13 => ?_) (fun c13 => ?_)
            · skip
              refine x_iinc (ls' := [some (.ref _), some (.ref _), some (vi _), some (vi _), some (vi _)]) (dT U_X11_areUnlike 21 rfl) (by decide) rfl rfl ?_
              refine x_goto (tgt := 2) (dT U_X11_areUnlike 22 rfl) (by decide) ?_
              refine x_drop ?_ (ih (t + 1) (by omega) (fun a b h1 h2 => ?_))
              · repeat (first | exact trivial | refine ⟨rfl, ?_⟩ | refine ⟨trivial, ?_⟩)
              · by_cases e : a = t
                · rw [e]; exact hy b (by omega)
                · exact hx a b h1 (by omega)
            · exfalso; omega
          | succ n ih2 =>
            intro u hi_ hy
            refine x_iload (dT U_X11_areUnlike 7 rfl) rfl ?_
            refine x_iload_n (dT U_X11_areUnlike 8 rfl) rfl ?_
            refine x_icmp_ge (tgt := 34) (dT U_X11_areUnlike 9 rfl) (by decide) (by unfold xr; omega) (by unfold xr; omega) (fun c13 => ?_) (fun c13 => ?_)
            · exfalso; omega
            · skip
              refine x_aload_n (dT U_X11_areUnlike 10 rfl) rfl ?_
              refine x_iload_n (dT U_X11_areUnlike 11 rfl) rfl ?_
              have xa := la.2 t
              have xb := la.2 u
              refine x_iaload (t) (dT U_X11_areUnlike 12 rfl) ha a3 rfl (by have := la.1; omega) (by have := la.1; omega) ?_
              refine x_aload_n (dT U_X11_areUnlike 13 rfl) rfl ?_
              refine x_iload (dT U_X11_areUnlike 14 rfl) rfl ?_
              refine x_iaload (u) (dT U_X11_areUnlike 15 rfl) ha a3 rfl (by have := la.1; omega) (by have := la.1; omega) ?_
              refine x_icmp_ne (tgt := 28) (dT U_X11_areUnlike 16 rfl) (by decide) (by unfold xr; omega) (by unfold xr; omega) (fun c23 => ?_) (fun c23 => ?_)
              · skip
                refine x_iinc (ls' := [some (.ref _), some (.ref _), some (vi _), some (vi _), some (vi _)]) (dT U_X11_areUnlike 19 rfl) (by decide) rfl rfl ?_
                refine x_goto (tgt := 10) (dT U_X11_areUnlike 20 rfl) (by decide) ?_
                exact ih2 (u + 1) (by omega) (fun b hb => if e : b = u then (by rw [e]; exact c23) else hy b (by omega))
              · skip
                refine x_iconst (dT U_X11_areUnlike 17 rfl) ?_
                refine x_zreturn (dT U_X11_areUnlike 18 rfl) rfl (by omega) ?_
                exact k0 ⟨t, u, by omega, by omega, by omega⟩
        exact L2 t 0 (by omega) (fun b hb => absurd hb (Nat.not_lt_zero b))
  refine x_iconst (dT U_X11_areUnlike 0 rfl) ?_
  refine x_istore_n (ls' := [some (.ref _), some (.ref _), some (vi _), some (vi _), none]) (dT U_X11_areUnlike 1 rfl) (by decide) rfl ?_
  exact L m 0 (by omega) (fun a b h1 h2 => absurd h2 (Nat.not_lt_zero a))

set_option maxRecDepth 20000 in
set_option maxHeartbeats 1000000 in
theorem S_X11_valueOfL {G : xG} {d rc rs : Nat} {ex : Bool} {h : xH} {Q : xQ} {p : Nat} {x : Int} {m : Nat} {aa : Nat} {al : List Int} (w : MP p h) (hp5 : p ∈ PR) (ha : h[aa]? = some (cA 0 al)) (a3 : 3 ≤ aa) (la : m ≤ al.length ∧ al.length < 1000) (hr : ∀ j, j < m → 0 ≤ al.getD j 0 ∧ al.getD j 0 < p) (hx : 0 ≤ x ∧ x < p) (k : Q (.inl (some (vi (horm m (gf al) p x m)))) ex h) : X G m_X11_valueOf (d + 1) rc rs ex 0 (xe m_X11_valueOf.2.2.1 [.ref 70, .ref aa, vi (m : Int), vi x]) [] h Q := by
  show X G m_X11_valueOf _ _ _ _ 0 [some (.ref 70), some (.ref aa), some (vi (m : Int)), some (vi x), none, none, none] [] h Q
  have hp := PRb hp5
  have hq := gq_b hp5
  have w9 := w
  obtain ⟨c_, gc_, gb_, rr_, gcl_, ss_, gz_, go_, nc_, w70⟩ := w9
  have L : ∀ (n t : Nat), t + n = m → X G m_X11_valueOf (d + 1) rc rs ex 8 [some (.ref 70), some (.ref aa), some (vi (m : Int)), some (vi x), some (vl (horm m (gf al) p x t)), none, some (vi ((m : Int) - 1 - (t : Int)))] [] h Q := by
    intro n
    induction n with
    | zero =>
      intro t hi_ 
      refine x_iload (dT U_X11_valueOf 6 rfl) rfl ?_
      refine x_if_lt (tgt := 37) (dT U_X11_valueOf 7 rfl) (by decide) (by unfold xr; omega) (fun c10 => ?_) (fun c10 => ?_)
      · skip
        have e : t = m := by omega
        subst e
        refine x_lload (dT U_X11_valueOf 23 rfl) rfl ?_
        refine x_l2i (dT U_X11_valueOf 24 rfl) ?_
        refine x_ireturn (dT U_X11_valueOf 25 rfl) rfl ?_
        exact k
      · exfalso; omega
    | succ n ih =>
      intro t hi_ 
      refine x_iload (dT U_X11_valueOf 6 rfl) rfl ?_
      refine x_if_lt (tgt := 37) (dT U_X11_valueOf 7 rfl) (by decide) (by unfold xr; omega) (fun c10 => ?_) (fun c10 => ?_)
      · exfalso; omega
      · skip
        have hq9 := horm_b (m := m) (f := gf al) (p := (p : Int)) (x := x) (by omega) t
        have hm9 := mulb hq9 hx (by omega)
        have h7 := hr (m - 1 - t) (by omega)
        refine x_aload_n (dT U_X11_valueOf 8 rfl) rfl ?_
        refine x_lload (dT U_X11_valueOf 9 rfl) rfl ?_
        refine x_iload_n (dT U_X11_valueOf 10 rfl) rfl ?_
        refine x_i2l (dT U_X11_valueOf 11 rfl) (by unfold xr; omega) ?_
        refine x_lmul (dT U_X11_valueOf 12 rfl) ?_
        refine x_aload_n (dT U_X11_valueOf 13 rfl) rfl ?_
        refine x_iload (dT U_X11_valueOf 14 rfl) rfl ?_
        refine x_iaload (m - 1 - t) (dT U_X11_valueOf 15 rfl) ha a3 (by omega) (by omega) (by omega) ?_
        refine x_i2l (dT U_X11_valueOf 16 rfl) (by unfold xr; omega) ?_
        refine x_ladd (dT U_X11_valueOf 17 rfl) ?_
        refine x_invokevirtual (rc' := rc) (rs' := rs) (rc2 := 0) (rs2 := 0) (As := [_]) (st := _) M_X11_f K_X11_156 (dT U_X11_valueOf 18 rfl) rfl rfl (by decide) rfl rfl w70 (Nat.le_of_ble_eq_true rfl) (by decide) rfl (Nat.le_of_ble_eq_true rfl) rfl (by decide) (Nat.le_of_ble_eq_true rfl) rfl rfl ?_
        refine S_X11_f w hp5 (by unfold xrl; omega) ?_
        refine xRet_some ?_
        refine x_i2l (dT U_X11_valueOf 19 rfl) (by have := modb (z := horm m (gf al) (p : Int) x t * x + al.getD (m - 1 - t) 0) (p := (p : Int)) (by omega); unfold xr; omega) ?_
        refine x_lstore (ls' := [some (.ref _), some (.ref _), some (vi _), some (vi _), some (vl _), none, some (vi _)]) (dT U_X11_valueOf 20 rfl) (by decide) rfl ?_
        refine x_iinc (ls' := [some (.ref _), some (.ref _), some (vi _), some (vi _), some (vl _), none, some (vi _)]) (dT U_X11_valueOf 21 rfl) (by decide) rfl rfl ?_
        refine x_goto (tgt := 8) (dT U_X11_valueOf 22 rfl) (by decide) ?_
        have e : (m : Int) - 1 - (t : Int) + -1 = (m : Int) - 1 - ((t + 1 : Nat) : Int) := by omega
        rw [e]
        exact ih (t + 1) (by omega)
  refine x_lconst (z := 0) (dT U_X11_valueOf 0 rfl) rfl ?_
  refine x_lstore (ls' := [some (.ref _), some (.ref _), some (vi _), some (vi _), some (vl _), none, none]) (dT U_X11_valueOf 1 rfl) (by decide) rfl ?_
  refine x_iload_n (dT U_X11_valueOf 2 rfl) rfl ?_
  refine x_iconst (dT U_X11_valueOf 3 rfl) ?_
  refine x_isub (dT U_X11_valueOf 4 rfl) ?_
  refine x_istore (ls' := [some (.ref _), some (.ref _), some (vi _), some (vi _), some (vl _), none, some (vi _)]) (dT U_X11_valueOf 5 rfl) (by decide) rfl ?_
  have q := L m 0 (by omega)
  rw [show (m : Int) - 1 - ((0 : Nat) : Int) = (m : Int) - 1 by omega] at q
  exact q

theorem S_overC {G : xG} {d rc rs : Nat} {ex : Bool} {h : xH} {Q : xQ} {p : Nat} {a b c : Int} (w : MP p h) (hp5 : p ∈ PR) (ha : 0 ≤ a ∧ a < p) (hb : 0 < b ∧ b < p) (hc : (a * (iv p b.toNat : Int)) % (p : Int) = c) (k : Q (.inl (some (vi c))) ex h) : X G m_X11_over (d + 1) rc rs ex 0 (xe m_X11_over.2.2.1 [.ref 70, vi a, vi b]) [] h Q :=
  S_overI w hp5 ha hb (by rw [hc]; exact k)
theorem lp_s {p : Int} {x : Nat → Int} {t : Nat} (h : t ≠ 9) : lp p x 9 (t + 1) = mbr p (x t) (lp p x 9 t) := if_neg h

set_option maxRecDepth 20000 in
set_option maxHeartbeats 1000000 in
theorem S_th1 {G : xG} {d rc rs : Nat} {ex : Bool} {h : xH} {Q : xQ} {σ : St} {rr : Nat} {ss : Int} {i j k9 m : Nat} {L0 : List Int} (w : MX σ 0 rr ss h) (v : INV σ) (hi : i < 8) (hj : j < 8) (hk9 : k9 < 8) (h8 : m ≤ 8) (hd : ∀ a b : Nat, b < a → a < m → gf (σ.rw i) a ≠ gf (σ.rw i) b) (h136 : h[136]? = some (cA 0 L0)) (l136 : L0.length = 15) (m0 : ∀ a, a < 8 → L0.getD a 0 = 0) (h138 : h[138]? = some (cA 0 (tab (lp (σ.p : Int) (gf (σ.rw i)) 9 0) 9))) (k : ∀ h2, Ag 70 142 h h2 → MX (σ.sRow k9 (tab (lit σ.p (gf (σ.rw i)) (gf (σ.rw j)) m m) 8)) 0 rr ss h2 → Q (.inl (some (vi (dg (gf (tab (lit σ.p (gf (σ.rw i)) (gf (σ.rw j)) m m) 8)) 8)))) ex h2) : X G m_X11_through (d + 2) rc rs ex 119 [some (.ref 70), some (vi (i : Int)), some (vi (j : Int)), some (vi (m : Int)), some (vi (k9 : Int)), some (vi 0), none, none, none] [] h Q := by
  have hp := PRb v.p
  have hq := gq_b v.p
  have hx : ∀ a, 0 ≤ gf (σ.rw i) a ∧ gf (σ.rw i) a < (σ.p : Int) := fun a => (v.rw i hi).2 a
  have L : ∀ (n t : Nat), t + n = m → ∀ L : List Int, L.length = 15 → (∀ n9, n9 < 8 → L.getD n9 0 = (nwM σ.p (gf (σ.rw i)) (gf (σ.rw j)) t) n9) → X G m_X11_through (d + 2) rc rs ex 119 [some (.ref 70), some (vi (i : Int)), some (vi (j : Int)), some (vi (m : Int)), some (vi (k9 : Int)), some (vi (t : Int)), none, none, none] [] ((h.set 138 (cA 0 (tab (lp (σ.p : Int) (gf (σ.rw i)) 9 t) 9))).set 136 (cA 0 L)) Q := by
    intro n
    induction n with
    | zero =>
      intro t hi_ L lL qL
      refine x_iload (dT U_X11_through 62 rfl) rfl ?_
      refine x_iload_n (dT U_X11_through 63 rfl) rfl ?_
      refine x_icmp_ge (tgt := 294) (dT U_X11_through 64 rfl) (by decide) (by unfold xr; omega) (by unfold xr; omega) (fun c122 => ?_) (fun c122 => ?_)
      · skip
        have e : t = m := by omega
        subst e
        have eL : tab (gf L) 8 = (tab (lit σ.p (gf (σ.rw i)) (gf (σ.rw j)) t t) 8) := tab_congr (fun a ha => (qL a ha).trans (nw_lit v.p h8 hx hd a))
        have wa := (w.t138 (l := tab (lp (σ.p : Int) (gf (σ.rw i)) 9 t) 9) (fun a ha => by rw [hset_fr (by omega)]) (hset_eq h138) (tab_len _ _)).t136 (h2 := ((h.set 138 (cA 0 (tab (lp (σ.p : Int) (gf (σ.rw i)) 9 t) 9))).set 136 (cA 0 L))) (l := L) (fun a ha => by rw [hset_fr (by omega)]) (hset_eq (hset_ne (by omega) h136)) lL
        refine x_aload_n (dT U_X11_through 159 rfl) rfl ?_
        refine x_getfield F_X11_18 (dT U_X11_through 160 rfl) (hset_ne (by omega) (hset_ne (by omega) (w.c70))) (Nat.le_of_ble_eq_true rfl) rfl ?_
        refine x_iload (dT U_X11_through 161 rfl) rfl ?_
        refine x_aaload (k9) (dT U_X11_through 162 rfl) (hset_ne (by omega) (hset_ne (by omega) (w.c73))) (Nat.le_of_ble_eq_true rfl) (by decide) rfl (mrL_get (by omega)) (Nat.le_of_ble_eq_true rfl) ?_
        refine x_aload_n (dT U_X11_through 163 rfl) rfl ?_
        refine x_getfield F_X11_97 (dT U_X11_through 164 rfl) (hset_ne (by omega) (hset_ne (by omega) (w.c70))) (Nat.le_of_ble_eq_true rfl) rfl ?_
        refine x_invokestatic (rc' := rc) (rs' := rs) (rc2 := 0) (rs2 := 0) (As := [_, _]) (st := _) M_X11_becomes K_X11_189 (dT U_X11_through 165 rfl) rfl rfl rfl rfl (Nat.le_of_ble_eq_true rfl) rfl (by decide) (Nat.le_of_ble_eq_true rfl) rfl rfl ?_
        refine S_X11_becomes (wa.rows k9 hk9) (by omega) (by rw [(v.rw k9 hk9).1]; omega) (hset_eq (hset_ne (by omega) h136)) (by omega) (by rw [lL]; omega) ?_
        rw [fillL_all (v.rw k9 hk9).1, eL]
        refine xRet_none ?_
        refine x_aload_n (dT U_X11_through 166 rfl) rfl ?_
        refine x_getfield F_X11_18 (dT U_X11_through 167 rfl) (hset_ne (by omega) (hset_ne (by omega) (hset_ne (by omega) (w.c70)))) (Nat.le_of_ble_eq_true rfl) rfl ?_
        refine x_iload (dT U_X11_through 168 rfl) rfl ?_
        refine x_aaload (k9) (dT U_X11_through 169 rfl) (hset_ne (by omega) (hset_ne (by omega) (hset_ne (by omega) (w.c73)))) (Nat.le_of_ble_eq_true rfl) (by decide) rfl (mrL_get (by omega)) (Nat.le_of_ble_eq_true rfl) ?_
        refine x_invokestatic (rc' := rc) (rs' := rs) (rc2 := 0) (rs2 := 0) (As := [_]) (st := _) M_X11_top K_X11_177 (dT U_X11_through 170 rfl) rfl rfl rfl rfl (Nat.le_of_ble_eq_true rfl) rfl (by decide) (Nat.le_of_ble_eq_true rfl) rfl rfl ?_
        refine S_topF (p := (σ.p : Int)) (hset_eq (wa.rows k9 hk9)) (by omega) (litL_F hp.1) (by omega) ?_
        refine xRet_some ?_
        refine x_ireturn (dT U_X11_through 171 rfl) rfl ?_
        exact k _ ((((Ag.rf 70 142 h).set (by omega)).set (by omega)).set (by omega)) (wa.row (i := k9) (l := (tab (lit σ.p (gf (σ.rw i)) (gf (σ.rw j)) t t) 8)) (fun a ha => by rw [hset_fr (by omega)]) hk9 (hset_eq (wa.rows k9 hk9)))
      · exfalso; omega
    | succ n ih =>
      intro t hi_ L lL qL
      refine x_iload (dT U_X11_through 62 rfl) rfl ?_
      refine x_iload_n (dT U_X11_through 63 rfl) rfl ?_
      refine x_icmp_ge (tgt := 294) (dT U_X11_through 64 rfl) (by decide) (by unfold xr; omega) (by unfold xr; omega) (fun c122 => ?_) (fun c122 => ?_)
      · exfalso; omega
      · skip
        have xb : 0 ≤ (σ.rw i).getD t 0 ∧ (σ.rw i).getD t 0 < (σ.p : Int) := hx t
        have yb := (v.rw j hj).2 t
        have hb8 := horm_b (m := 8) (f := (nwM σ.p (gf (σ.rw i)) (gf (σ.rw j)) t)) (p := (σ.p : Int)) (x := (σ.rw i).getD t 0) (by omega) 8
        have ow := ow_pos (p := σ.p) (x := (gf (σ.rw i))) (m := m) v.p h8 hx hd (i := t) (by omega)
        refine x_aload_n (dT U_X11_through 65 rfl) rfl ?_
        refine x_getfield F_X11_18 (dT U_X11_through 66 rfl) (hset_ne (by omega) (hset_ne (by omega) (w.c70))) (Nat.le_of_ble_eq_true rfl) rfl ?_
        refine x_iload_n (dT U_X11_through 67 rfl) rfl ?_
        refine x_aaload (i) (dT U_X11_through 68 rfl) (hset_ne (by omega) (hset_ne (by omega) (w.c73))) (Nat.le_of_ble_eq_true rfl) (by decide) rfl (mrL_get (by omega)) (Nat.le_of_ble_eq_true rfl) ?_
        refine x_iload (dT U_X11_through 69 rfl) rfl ?_
        refine x_iaload (t) (dT U_X11_through 70 rfl) (hset_ne (by omega) (hset_ne (by omega) ((w.rows i hi)))) (by omega) rfl (by rw [(v.rw i hi).1]; omega) (by rw [(v.rw i hi).1]; omega) ?_
        refine x_istore (ls' := [some (.ref _), some (vi _), some (vi _), some (vi _), some (vi _), some (vi _), some (vi _), none, none]) (dT U_X11_through 71 rfl) (by decide) rfl ?_
        refine x_aload_n (dT U_X11_through 72 rfl) rfl ?_
        refine x_aload_n (dT U_X11_through 73 rfl) rfl ?_
        refine x_aload_n (dT U_X11_through 74 rfl) rfl ?_
        refine x_getfield F_X11_18 (dT U_X11_through 75 rfl) (hset_ne (by omega) (hset_ne (by omega) (w.c70))) (Nat.le_of_ble_eq_true rfl) rfl ?_
        refine x_iload_n (dT U_X11_through 76 rfl) rfl ?_
        refine x_aaload (j) (dT U_X11_through 77 rfl) (hset_ne (by omega) (hset_ne (by omega) (w.c73))) (Nat.le_of_ble_eq_true rfl) (by decide) rfl (mrL_get (by omega)) (Nat.le_of_ble_eq_true rfl) ?_
        refine x_iload (dT U_X11_through 78 rfl) rfl ?_
        refine x_iaload (t) (dT U_X11_through 79 rfl) (hset_ne (by omega) (hset_ne (by omega) ((w.rows j hj)))) (by omega) rfl (by rw [(v.rw j hj).1]; omega) (by rw [(v.rw j hj).1]; omega) ?_
        refine x_i2l (dT U_X11_through 80 rfl) (by unfold xr; omega) ?_
        refine x_aload_n (dT U_X11_through 81 rfl) rfl ?_
        refine x_aload_n (dT U_X11_through 82 rfl) rfl ?_
        refine x_getfield F_X11_97 (dT U_X11_through 83 rfl) (hset_ne (by omega) (hset_ne (by omega) (w.c70))) (Nat.le_of_ble_eq_true rfl) rfl ?_
        refine x_bipush (dT U_X11_through 84 rfl) (by decide) ?_
        refine x_iload (dT U_X11_through 85 rfl) rfl ?_
        refine x_invokevirtual (rc' := rc) (rs' := rs) (rc2 := 0) (rs2 := 0) (As := [_, _, _]) (st := _) M_X11_valueOf K_X11_181 (dT U_X11_through 86 rfl) rfl rfl (by decide) rfl rfl (hset_ne (by omega) (hset_ne (by omega) (w.c70))) (Nat.le_of_ble_eq_true rfl) (by decide) rfl (Nat.le_of_ble_eq_true rfl) rfl (by decide) (Nat.le_of_ble_eq_true rfl) rfl rfl ?_
        refine S_X11_valueOfL (m := 8) (MP.set (by omega) (MP.set (by omega) (w.mp))) v.p (hset_eq (hset_ne (by omega) h136)) (by omega) (by rw [lL]; omega) (fun a ha => by rw [qL a ha]; exact nwM_b hp.1 t a) xb ?_
        rw [horm_cg (f := gf L) (g := (nwM σ.p (gf (σ.rw i)) (gf (σ.rw j)) t)) (fun a ha => qL a ha) 8 (Nat.le_refl 8)]
        refine xRet_some ?_
        refine x_i2l (dT U_X11_through 87 rfl) (by unfold xr; omega) ?_
        refine x_lsub (dT U_X11_through 88 rfl) ?_
        refine x_invokevirtual (rc' := rc) (rs' := rs) (rc2 := 0) (rs2 := 0) (As := [_]) (st := _) M_X11_f K_X11_156 (dT U_X11_through 89 rfl) rfl rfl (by decide) rfl rfl (hset_ne (by omega) (hset_ne (by omega) (w.c70))) (Nat.le_of_ble_eq_true rfl) (by decide) rfl (Nat.le_of_ble_eq_true rfl) rfl (by decide) (Nat.le_of_ble_eq_true rfl) rfl rfl ?_
        refine S_X11_f (MP.set (by omega) (MP.set (by omega) (w.mp))) v.p (by unfold xrl; omega) ?_
        have fb := modb (z := (σ.rw j).getD t 0 - horm 8 (nwM σ.p (gf (σ.rw i)) (gf (σ.rw j)) t) (σ.p : Int) ((σ.rw i).getD t 0) 8) (p := (σ.p : Int)) (by omega)
        refine xRet_some ?_
        refine x_aload_n (dT U_X11_through 90 rfl) rfl ?_
        refine x_aload_n (dT U_X11_through 91 rfl) rfl ?_
        refine x_getfield F_X11_103 (dT U_X11_through 92 rfl) (hset_ne (by omega) (hset_ne (by omega) (w.c70))) (Nat.le_of_ble_eq_true rfl) rfl ?_
        refine x_bipush (dT U_X11_through 93 rfl) (by decide) ?_
        refine x_iload (dT U_X11_through 94 rfl) rfl ?_
        refine x_invokevirtual (rc' := rc) (rs' := rs) (rc2 := 0) (rs2 := 0) (As := [_, _, _]) (st := _) M_X11_valueOf K_X11_181 (dT U_X11_through 95 rfl) rfl rfl (by decide) rfl rfl (hset_ne (by omega) (hset_ne (by omega) (w.c70))) (Nat.le_of_ble_eq_true rfl) (by decide) rfl (Nat.le_of_ble_eq_true rfl) rfl (by decide) (Nat.le_of_ble_eq_true rfl) rfl rfl ?_
        refine S_X11_valueOfL (m := 9) (MP.set (by omega) (MP.set (by omega) (w.mp))) v.p (hset_ne (by omega) (hset_eq h138)) (by omega) (by rw [tab_len]; omega) (fun a ha => by rw [tab_get _ ha]; exact lp_b (by omega) t a) xb ?_
        rw [horm_cg (f := gf (tab (lp (σ.p : Int) (gf (σ.rw i)) 9 t) 9)) (g := (lp (σ.p : Int) (gf (σ.rw i)) 9 t)) (fun a ha => tab_get _ ha) 9 (Nat.le_refl 9)]
        refine xRet_some ?_
        refine x_invokevirtual (rc' := rc) (rs' := rs) (rc2 := 0) (rs2 := 0) (As := [_, _]) (st := _) M_X11_over K_X11_193 (dT U_X11_through 96 rfl) rfl rfl (by decide) rfl rfl (hset_ne (by omega) (hset_ne (by omega) (w.c70))) (Nat.le_of_ble_eq_true rfl) (by decide) rfl (Nat.le_of_ble_eq_true rfl) rfl (by decide) (Nat.le_of_ble_eq_true rfl) rfl rfl ?_
        refine S_overC (c := (nwC σ.p (gf (σ.rw i)) (gf (σ.rw j)) t (nwM σ.p (gf (σ.rw i)) (gf (σ.rw j)) t))) (MP.set (by omega) (MP.set (by omega) (w.mp))) v.p fb ow rfl ?_
        have cb : 0 ≤ (nwC σ.p (gf (σ.rw i)) (gf (σ.rw j)) t (nwM σ.p (gf (σ.rw i)) (gf (σ.rw j)) t)) ∧ (nwC σ.p (gf (σ.rw i)) (gf (σ.rw j)) t (nwM σ.p (gf (σ.rw i)) (gf (σ.rw j)) t)) < (σ.p : Int) := modb (by omega)
        refine xRet_some ?_
        refine x_istore (ls' := [some (.ref _), some (vi _), some (vi _), some (vi _), some (vi _), some (vi _), some (vi _), some (vi _), none]) (dT U_X11_through 97 rfl) (by decide) rfl ?_
        refine x_iconst (dT U_X11_through 98 rfl) ?_
        refine x_istore (ls' := [some (.ref _), some (vi _), some (vi _), some (vi _), some (vi _), some (vi _), some (vi _), some (vi _), some (vi _)]) (dT U_X11_through 99 rfl) (by decide) rfl ?_
        have L1_ : ∀ (n u : Nat), u + n = 8 → X G m_X11_through (d + 2) rc rs ex 185 [some (.ref 70), some (vi (i : Int)), some (vi (j : Int)), some (vi (m : Int)), some (vi (k9 : Int)), some (vi (t : Int)), some (vi ((σ.rw i).getD t 0)), some (vi (nwC σ.p (gf (σ.rw i)) (gf (σ.rw j)) t (nwM σ.p (gf (σ.rw i)) (gf (σ.rw j)) t))), some (vi (u : Int))] [] ((h.set 138 (cA 0 (tab (lp (σ.p : Int) (gf (σ.rw i)) 9 t) 9))).set 136 (cA 0 (fillL (nwM σ.p (gf (σ.rw i)) (gf (σ.rw j)) (t + 1)) L u))) Q := by
          intro n
          induction n with
          | zero =>
            intro u hi_ 
            refine x_iload (dT U_X11_through 100 rfl) rfl ?_
            refine x_bipush (dT U_X11_through 101 rfl) (by decide) ?_
            refine x_icmp_ge (tgt := 230) (dT U_X11_through 102 rfl) (by decide) (by unfold xr; omega) (by unfold xr; omega) (fun c189 => ?_) (fun c189 => ?_)
            · skip
              refine x_bipush (dT U_X11_through 125 rfl) (by decide) ?_
              refine x_istore (ls' := [some (.ref _), some (vi _), some (vi _), some (vi _), some (vi _), some (vi _), some (vi _), some (vi _), some (vi _)]) (dT U_X11_through 126 rfl) (by decide) rfl ?_
              have e : u = 8 := by omega
              subst e
              obtain ⟨L2, hL2⟩ : ∃ L2, L2 = fillL (nwM σ.p (gf (σ.rw i)) (gf (σ.rw j)) (t + 1)) L 8 := ⟨_, rfl⟩
              have l2 : L2.length = 15 := by rw [hL2, fillL_len]; exact lL
              have q2 : ∀ n9, n9 < 8 → L2.getD n9 0 = (nwM σ.p (gf (σ.rw i)) (gf (σ.rw j)) (t + 1)) n9 := fun n9 h9 => by rw [hL2]; exact fillL_lt _ _ _ _ h9 (by omega)
              rw [← hL2]
              have L2_ : ∀ (n u : Nat), u + n = 9 → X G m_X11_through (d + 2) rc rs ex 234 [some (.ref 70), some (vi (i : Int)), some (vi (j : Int)), some (vi (m : Int)), some (vi (k9 : Int)), some (vi (t : Int)), some (vi ((σ.rw i).getD t 0)), none, some (vi (8 - (u : Int)))] [] ((h.set 138 (cA 0 (tab (fun n => if 9 ≤ n + u then (lp (σ.p : Int) (gf (σ.rw i)) 9 (t + 1)) n else (lp (σ.p : Int) (gf (σ.rw i)) 9 t) n) 9))).set 136 (cA 0 L2)) Q := by
                intro n
                induction n with
                | zero =>
                  intro u hi_ 
                  refine x_iload (dT U_X11_through 127 rfl) rfl ?_
                  refine x_if_lt (tgt := 288) (dT U_X11_through 128 rfl) (by decide) (by unfold xr; omega) (fun c236 => ?_) (fun c236 => ?_)
                  · skip
                    refine x_iinc (ls' := [some (.ref _), some (vi _), some (vi _), some (vi _), some (vi _), some (vi _), some (vi _), none, some (vi _)]) (dT U_X11_through 157 rfl) (by decide) rfl rfl ?_
                    refine x_goto (tgt := 119) (dT U_X11_through 158 rfl) (by decide) ?_
                    have e : u = 9 := by omega
                    subst e
                    rw [show tab (fun n => if 9 ≤ n + 9 then (lp (σ.p : Int) (gf (σ.rw i)) 9 (t + 1)) n else (lp (σ.p : Int) (gf (σ.rw i)) 9 t) n) 9 = tab (lp (σ.p : Int) (gf (σ.rw i)) 9 (t + 1)) 9 from tab_congr (fun n _ => if_pos (by omega))]
                    refine x_drop ?_ (ih (t + 1) (by omega) L2 l2 q2)
                    repeat (first | exact trivial | refine ⟨rfl, ?_⟩ | refine ⟨trivial, ?_⟩)
                  · exfalso; omega
                | succ n ih3 =>
                  intro u hi_ 
                  refine x_iload (dT U_X11_through 127 rfl) rfl ?_
                  refine x_if_lt (tgt := 288) (dT U_X11_through 128 rfl) (by decide) (by unfold xr; omega) (fun c236 => ?_) (fun c236 => ?_)
                  · exfalso; omega
                  · skip
                    have lb8 := lp_b (p := (σ.p : Int)) (x := (gf (σ.rw i))) (one := 9) (by omega) t (8 - u)
                    have lb7 := lp_b (p := (σ.p : Int)) (x := (gf (σ.rw i))) (one := 9) (by omega) t (7 - u)
                    have v8 : (tab (fun n => if 9 ≤ n + u then (lp (σ.p : Int) (gf (σ.rw i)) 9 (t + 1)) n else (lp (σ.p : Int) (gf (σ.rw i)) 9 t) n) 9).getD (8 - u) 0 = (lp (σ.p : Int) (gf (σ.rw i)) 9 t) (8 - u) := (tab_get _ (by omega)).trans (if_neg (by omega))
                    have xm := mulb xb lb8 (by omega)
                    refine x_aload_n (dT U_X11_through 129 rfl) rfl ?_
                    refine x_getfield F_X11_103 (dT U_X11_through 130 rfl) (hset_ne (by omega) (hset_ne (by omega) (w.c70))) (Nat.le_of_ble_eq_true rfl) rfl ?_
                    refine x_iload (dT U_X11_through 131 rfl) rfl ?_
                    refine x_aload_n (dT U_X11_through 132 rfl) rfl ?_
                    refine x_iload (dT U_X11_through 133 rfl) rfl ?_
                    refine x_if_le (tgt := 263) (dT U_X11_through 134 rfl) (by decide) (by unfold xr; omega) (fun c248 => ?_) (fun c248 => ?_)
                    · skip
                      refine x_iconst (dT U_X11_through 142 rfl) ?_
                      refine x_i2l (dT U_X11_through 143 rfl) (by unfold xr; omega) ?_
                      refine x_iload (dT U_X11_through 144 rfl) rfl ?_
                      refine x_i2l (dT U_X11_through 145 rfl) (by unfold xr; omega) ?_
                      refine x_aload_n (dT U_X11_through 146 rfl) rfl ?_
                      refine x_getfield F_X11_103 (dT U_X11_through 147 rfl) (hset_ne (by omega) (hset_ne (by omega) (w.c70))) (Nat.le_of_ble_eq_true rfl) rfl ?_
                      refine x_iload (dT U_X11_through 148 rfl) rfl ?_
                      refine x_ialoadv ((8 - u)) (dT U_X11_through 149 rfl) (hset_ne (by omega) (hset_eq h138)) (Nat.le_of_ble_eq_true rfl) (by omega) (by rw [tab_len]; omega) (by rw [tab_len]; omega) v8 ?_
                      refine x_i2l (dT U_X11_through 150 rfl) (by unfold xr; omega) ?_
                      refine x_lmul (dT U_X11_through 151 rfl) ?_
                      refine x_lsub (dT U_X11_through 152 rfl) ?_
                      refine x_invokevirtual (rc' := rc) (rs' := rs) (rc2 := 0) (rs2 := 0) (As := [_]) (st := _) M_X11_f K_X11_156 (dT U_X11_through 153 rfl) rfl rfl (by decide) rfl rfl (hset_ne (by omega) (hset_ne (by omega) (w.c70))) (Nat.le_of_ble_eq_true rfl) (by decide) rfl (Nat.le_of_ble_eq_true rfl) rfl (by decide) (Nat.le_of_ble_eq_true rfl) rfl rfl ?_
                      refine S_X11_f (MP.set (by omega) (MP.set (by omega) (w.mp))) v.p (by unfold xrl; omega) ?_
                      refine xRet_some ?_
                      refine x_iastore ((8 - u)) (dT U_X11_through 154 rfl) (hset_ne (by omega) (hset_eq h138)) (Nat.le_of_ble_eq_true rfl) (by omega) (by rw [tab_len]; omega) (by rw [tab_len]; omega) ?_
                      rw [List.set_comm _ _ (show (136 : Nat) ≠ 138 by decide), List.set_set, tab_set (g := (fun n => if 9 ≤ n + (u + 1) then (lp (σ.p : Int) (gf (σ.rw i)) 9 (t + 1)) n else (lp (σ.p : Int) (gf (σ.rw i)) 9 t) n)) (by omega) (by rw [if_pos (by omega), lp_s (by omega)]; unfold mbr; first | (rw [if_neg (by omega), show 8 - u - 1 = 7 - u by omega]; rfl) | (rw [if_pos (by omega), show 8 - u = 0 by omega, Int.zero_sub, Int.neg_mul]; rfl)) (fun n h1 h2 => if h5 : 9 ≤ n + u then (by rw [if_pos h5, if_pos (by omega)]) else (by rw [if_neg h5, if_neg (by omega)]))]
                      refine x_iinc (ls' := [some (.ref _), some (vi _), some (vi _), some (vi _), some (vi _), some (vi _), some (vi _), none, some (vi _)]) (dT U_X11_through 155 rfl) (by decide) rfl rfl ?_
                      refine x_goto (tgt := 234) (dT U_X11_through 156 rfl) (by decide) ?_
                      have q := ih3 (u + 1) (by omega)
                      rw [show 8 - ((u + 1 : Nat) : Int) = 8 - (u : Int) + -1 by omega] at q
                      exact q
                    · skip
                      refine x_aload_n (dT U_X11_through 135 rfl) rfl ?_
                      refine x_getfield F_X11_103 (dT U_X11_through 136 rfl) (hset_ne (by omega) (hset_ne (by omega) (w.c70))) (Nat.le_of_ble_eq_true rfl) rfl ?_
                      refine x_iload (dT U_X11_through 137 rfl) rfl ?_
                      refine x_iconst (dT U_X11_through 138 rfl) ?_
                      refine x_isub (dT U_X11_through 139 rfl) ?_
                      refine x_ialoadv ((7 - u)) (dT U_X11_through 140 rfl) (hset_ne (by omega) (hset_eq h138)) (Nat.le_of_ble_eq_true rfl) (by omega) (by rw [tab_len]; omega) (by rw [tab_len]; omega) ((tab_get _ (by omega)).trans (if_neg (by omega)) : (tab (fun n => if 9 ≤ n + u then (lp (σ.p : Int) (gf (σ.rw i)) 9 (t + 1)) n else (lp (σ.p : Int) (gf (σ.rw i)) 9 t) n) 9).getD (7 - u) 0 = (lp (σ.p : Int) (gf (σ.rw i)) 9 t) (7 - u)) ?_
                      refine x_goto (tgt := 264) (dT U_X11_through 141 rfl) (by decide) ?_
                      refine x_i2l (dT U_X11_through 143 rfl) (by unfold xr; omega) ?_
                      refine x_iload (dT U_X11_through 144 rfl) rfl ?_
                      refine x_i2l (dT U_X11_through 145 rfl) (by unfold xr; omega) ?_
                      refine x_aload_n (dT U_X11_through 146 rfl) rfl ?_
                      refine x_getfield F_X11_103 (dT U_X11_through 147 rfl) (hset_ne (by omega) (hset_ne (by omega) (w.c70))) (Nat.le_of_ble_eq_true rfl) rfl ?_
                      refine x_iload (dT U_X11_through 148 rfl) rfl ?_
                      refine x_ialoadv ((8 - u)) (dT U_X11_through 149 rfl) (hset_ne (by omega) (hset_eq h138)) (Nat.le_of_ble_eq_true rfl) (by omega) (by rw [tab_len]; omega) (by rw [tab_len]; omega) v8 ?_
                      refine x_i2l (dT U_X11_through 150 rfl) (by unfold xr; omega) ?_
                      refine x_lmul (dT U_X11_through 151 rfl) ?_
                      refine x_lsub (dT U_X11_through 152 rfl) ?_
                      refine x_invokevirtual (rc' := rc) (rs' := rs) (rc2 := 0) (rs2 := 0) (As := [_]) (st := _) M_X11_f K_X11_156 (dT U_X11_through 153 rfl) rfl rfl (by decide) rfl rfl (hset_ne (by omega) (hset_ne (by omega) (w.c70))) (Nat.le_of_ble_eq_true rfl) (by decide) rfl (Nat.le_of_ble_eq_true rfl) rfl (by decide) (Nat.le_of_ble_eq_true rfl) rfl rfl ?_
                      refine S_X11_f (MP.set (by omega) (MP.set (by omega) (w.mp))) v.p (by unfold xrl; omega) ?_
                      refine xRet_some ?_
                      refine x_iastore ((8 - u)) (dT U_X11_through 154 rfl) (hset_ne (by omega) (hset_eq h138)) (Nat.le_of_ble_eq_true rfl) (by omega) (by rw [tab_len]; omega) (by rw [tab_len]; omega) ?_
                      rw [List.set_comm _ _ (show (136 : Nat) ≠ 138 by decide), List.set_set, tab_set (g := (fun n => if 9 ≤ n + (u + 1) then (lp (σ.p : Int) (gf (σ.rw i)) 9 (t + 1)) n else (lp (σ.p : Int) (gf (σ.rw i)) 9 t) n)) (by omega) (by rw [if_pos (by omega), lp_s (by omega)]; unfold mbr; first | (rw [if_neg (by omega), show 8 - u - 1 = 7 - u by omega]; rfl) | (rw [if_pos (by omega), show 8 - u = 0 by omega, Int.zero_sub, Int.neg_mul]; rfl)) (fun n h1 h2 => if h5 : 9 ≤ n + u then (by rw [if_pos h5, if_pos (by omega)]) else (by rw [if_neg h5, if_neg (by omega)]))]
                      refine x_iinc (ls' := [some (.ref _), some (vi _), some (vi _), some (vi _), some (vi _), some (vi _), some (vi _), none, some (vi _)]) (dT U_X11_through 155 rfl) (by decide) rfl rfl ?_
                      refine x_goto (tgt := 234) (dT U_X11_through 156 rfl) (by decide) ?_
                      have q := ih3 (u + 1) (by omega)
                      rw [show 8 - ((u + 1 : Nat) : Int) = 8 - (u : Int) + -1 by omega] at q
                      exact q
              have q := L2_ 9 0 (by omega)
              rw [show tab (fun n => if 9 ≤ n + 0 then (lp (σ.p : Int) (gf (σ.rw i)) 9 (t + 1)) n else (lp (σ.p : Int) (gf (σ.rw i)) 9 t) n) 9 = tab (lp (σ.p : Int) (gf (σ.rw i)) 9 t) 9 from tab_congr (fun n hn => if_neg (by omega))] at q
              refine x_drop ?_ q
              repeat (first | exact trivial | refine ⟨rfl, ?_⟩ | refine ⟨trivial, ?_⟩)
            · exfalso; omega
          | succ n ih4 =>
            intro u hi_ 
            refine x_iload (dT U_X11_through 100 rfl) rfl ?_
            refine x_bipush (dT U_X11_through 101 rfl) (by decide) ?_
            refine x_icmp_ge (tgt := 230) (dT U_X11_through 102 rfl) (by decide) (by unfold xr; omega) (by unfold xr; omega) (fun c189 => ?_) (fun c189 => ?_)
            · exfalso; omega
            · skip
              have vL : (fillL (nwM σ.p (gf (σ.rw i)) (gf (σ.rw j)) (t + 1)) L u).getD u 0 = (nwM σ.p (gf (σ.rw i)) (gf (σ.rw j)) t) u := (fillL_ge _ _ u u (Nat.le_refl u)).trans (qL u (by omega))
              have vO : (tab (lp (σ.p : Int) (gf (σ.rw i)) 9 t) 9).getD u 0 = (lp (σ.p : Int) (gf (σ.rw i)) 9 t) u := tab_get _ (by omega)
              have nb := nwM_b (p := σ.p) (x := (gf (σ.rw i))) (y := (gf (σ.rw j))) hp.1 t u
              have lb := lp_b (p := (σ.p : Int)) (x := (gf (σ.rw i))) (one := 9) (by omega) t u
              have xm := mulb cb lb (by omega)
              refine x_aload_n (dT U_X11_through 103 rfl) rfl ?_
              refine x_getfield F_X11_97 (dT U_X11_through 104 rfl) (hset_ne (by omega) (hset_ne (by omega) (w.c70))) (Nat.le_of_ble_eq_true rfl) rfl ?_
              refine x_iload (dT U_X11_through 105 rfl) rfl ?_
              refine x_aload_n (dT U_X11_through 106 rfl) rfl ?_
              refine x_aload_n (dT U_X11_through 107 rfl) rfl ?_
              refine x_getfield F_X11_97 (dT U_X11_through 108 rfl) (hset_ne (by omega) (hset_ne (by omega) (w.c70))) (Nat.le_of_ble_eq_true rfl) rfl ?_
              refine x_iload (dT U_X11_through 109 rfl) rfl ?_
              refine x_ialoadv (u) (dT U_X11_through 110 rfl) (hset_eq (hset_ne (by omega) h136)) (Nat.le_of_ble_eq_true rfl) rfl (by rw [fillL_len, lL]; omega) (by rw [fillL_len, lL]; omega) vL ?_
              refine x_i2l (dT U_X11_through 111 rfl) (by unfold xr; omega) ?_
              refine x_iload (dT U_X11_through 112 rfl) rfl ?_
              refine x_i2l (dT U_X11_through 113 rfl) (by unfold xr; omega) ?_
              refine x_aload_n (dT U_X11_through 114 rfl) rfl ?_
              refine x_getfield F_X11_103 (dT U_X11_through 115 rfl) (hset_ne (by omega) (hset_ne (by omega) (w.c70))) (Nat.le_of_ble_eq_true rfl) rfl ?_
              refine x_iload (dT U_X11_through 116 rfl) rfl ?_
              refine x_ialoadv (u) (dT U_X11_through 117 rfl) (hset_ne (by omega) (hset_eq h138)) (Nat.le_of_ble_eq_true rfl) rfl (by rw [tab_len]; omega) (by rw [tab_len]; omega) vO ?_
              refine x_i2l (dT U_X11_through 118 rfl) (by unfold xr; omega) ?_
              refine x_lmul (dT U_X11_through 119 rfl) ?_
              refine x_ladd (dT U_X11_through 120 rfl) ?_
              refine x_invokevirtual (rc' := rc) (rs' := rs) (rc2 := 0) (rs2 := 0) (As := [_]) (st := _) M_X11_f K_X11_156 (dT U_X11_through 121 rfl) rfl rfl (by decide) rfl rfl (hset_ne (by omega) (hset_ne (by omega) (w.c70))) (Nat.le_of_ble_eq_true rfl) (by decide) rfl (Nat.le_of_ble_eq_true rfl) rfl (by decide) (Nat.le_of_ble_eq_true rfl) rfl rfl ?_
              refine S_X11_f (MP.set (by omega) (MP.set (by omega) (w.mp))) v.p (by unfold xrl; omega) ?_
              refine xRet_some ?_
              refine x_iastore (u) (dT U_X11_through 122 rfl) (hset_eq (hset_ne (by omega) h136)) (Nat.le_of_ble_eq_true rfl) rfl (by rw [fillL_len, lL]; omega) (by rw [fillL_len, lL]; omega) ?_
              rw [List.set_set]
              refine x_iinc (ls' := [some (.ref _), some (vi _), some (vi _), some (vi _), some (vi _), some (vi _), some (vi _), some (vi _), some (vi _)]) (dT U_X11_through 123 rfl) (by decide) rfl rfl ?_
              refine x_goto (tgt := 185) (dT U_X11_through 124 rfl) (by decide) ?_
              exact ih4 (u + 1) (by omega)
        exact L1_ 8 0 (by omega)
  have q := L m 0 (by omega) L0 l136 m0
  rw [hset_self h138, hset_self h136] at q
  exact q
