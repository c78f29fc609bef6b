theorem dg_cg {f g : Nat → Int} : ∀ n, (∀ j, j < n → f j = g j) → dg f n = dg g n
  | 0, _ => rfl
  | n + 1, h => by
    unfold dg
    rw [h n (by omega), dg_cg n (fun j hj => h j (by omega))]
theorem dg_lo {f : Nat → Int} : ∀ n, ∀ j, j < n → dg f n < (j : Int) → f j = 0
  | 0, j, hj, _ => absurd hj (Nat.not_lt_zero j)
  | n + 1, j, hj, h => by
    unfold dg at h
    split at h
    · omega
    · rename_i h1
      by_cases e : j = n
      · subst e; exact Decidable.byContradiction h1
      · exact dg_lo n j (by omega) h
section
variable {p : Int} {b r : Nat → Int} {g : Nat} {v : Int}
theorem dvR_triv (hp : 0 < p) (hr : ∀ j, 0 ≤ r j ∧ r j < p) {t : Nat} (z : dvR p b g v r t (7 - t) = 0) : dvR p b g v r (t + 1) = dvR p b g v r t := by
  funext m
  have hb := dvR_b (b := b) (g := g) (v := v) hp hr t m
  show (if 7 - g - t ≤ m ∧ m ≤ 7 - t then (dvR p b g v r t m - (dvR p b g v r t (7 - t) * v % p) * b (m - (7 - g - t))) % p else dvR p b g v r t m) = _
  rw [z, Int.zero_mul, Int.zero_emod, Int.zero_mul, Int.sub_zero, Int.emod_eq_of_lt hb.1 hb.2, ite_self]
theorem dvR_skip (hp : 0 < p) (hr : ∀ j, 0 ≤ r j ∧ r j < p) {t : Nat} : ∀ n, t + n ≤ 8 → (∀ j, 7 < j + t + n → j + t ≤ 7 → dvR p b g v r t j = 0) → dvR p b g v r (t + n) = dvR p b g v r t
  | 0, _, _ => rfl
  | n + 1, hn, z => by
    have ih := dvR_skip hp hr (t := t) n (by omega) (fun j h1 h2 => z j (by omega) h2)
    have q := dvR_triv (b := b) (g := g) (v := v) hp hr (t := t + n) (by rw [ih]; exact z (7 - (t + n)) (by omega) (by omega))
    rw [ih] at q
    exact q
theorem dvQ_skip (hp : 0 < p) (hr : ∀ j, 0 ≤ r j ∧ r j < p) {t n : Nat} (hn : t + n + g ≤ 8) (z : ∀ j, 7 < j + t + n → j + t ≤ 7 → dvR p b g v r t j = 0) (i : Nat) : dvQ p b g v r (t + n) i = dvQ p b g v r t i := by
  unfold dvQ
  by_cases h1 : 8 - g - t ≤ i ∧ i + g < 8
  · rw [if_pos h1, if_pos (by omega)]
  · rw [if_neg h1]
    by_cases h2 : 8 - g - (t + n) ≤ i ∧ i + g < 8
    · rw [if_pos h2]
      have e := dvR_skip (b := b) (g := g) (v := v) hp hr (t := t) (7 - g - i - t) (by omega) (fun j h3 h4 => z j (by omega) h4)
      rw [show t + (7 - g - i - t) = 7 - g - i by omega] at e
      rw [e, z (i + g) (by omega) (by omega), Int.zero_mul, Int.zero_emod]
    · rw [if_neg h2]
end
theorem dv_zero {p : Nat} (hp : p ∈ PR) {x b : Int} (hb : 0 < b ∧ b < p) : (x - (x * (iv p b.toNat : Int) % (p : Int)) * b) % (p : Int) = 0 := by
  have hv := (iv_ok hp (a := b.toNat) (by omega) (by omega)).1
  have hV : b * (iv p b.toNat : Int) % (p : Int) = 1 := by
    have h1 : ((b.toNat * iv p b.toNat % p : Nat) : Int) = 1 := by rw [hv]; rfl
    rw [Int.natCast_emod, Int.natCast_mul, Int.toNat_of_nonneg (by omega)] at h1
    exact h1
  generalize (iv p b.toNat : Int) = V at *
  obtain ⟨k, hk⟩ := emx (a := x * V) (p := (p : Int))
  obtain ⟨u, hu⟩ := emx (a := b * V) (p := (p : Int))
  rw [hV] at hu
  rw [hk]
  have q := emq (a := x - (x * V - (p : Int) * k) * b) (b := 0) (p := (p : Int)) (k * b - x * u) (by
    have h1 : x * 1 = x * (b * V - p * u) := by rw [← hu]
    grind)
  rw [q]; exact Int.zero_emod _
section
variable {p : Nat} {bl rl : List Int} {g t : Nat}
theorem dv_go (hp : p ∈ PR) (hb : Fl (p : Int) bl) (hr : Fl (p : Int) rl) {T : Nat} (hg : dg (gf bl) 8 = (g : Int)) (Z : ∀ j, 8 ≤ j + t → j < 8 → dvR p (gf bl) g (iv p (gf bl g).toNat) (gf rl) t j = 0) (hT : dg (dvR p (gf bl) g (iv p (gf bl g).toNat) (gf rl) t) 8 = (T : Int)) (hgT : g ≤ T) :
    ∃ s, T + s = 7 ∧ t ≤ s ∧ s + g < 8 ∧ dvR p (gf bl) g (iv p (gf bl g).toNat) (gf rl) s = dvR p (gf bl) g (iv p (gf bl g).toNat) (gf rl) t ∧ (∀ j, 8 ≤ j + (s + 1) → j < 8 → dvR p (gf bl) g (iv p (gf bl g).toNat) (gf rl) (s + 1) j = 0) ∧ (∀ i, i < 8 → i ≠ 7 - g - s → dvQ p (gf bl) g (iv p (gf bl g).toNat) (gf rl) (s + 1) i = dvQ p (gf bl) g (iv p (gf bl g).toNat) (gf rl) t i) ∧ dvQ p (gf bl) g (iv p (gf bl g).toNat) (gf rl) (s + 1) (7 - g - s) = dvR p (gf bl) g (iv p (gf bl g).toNat) (gf rl) s (7 - s) * (iv p (gf bl g).toNat : Int) % (p : Int) := by
  have hpp := PRb hp
  have hr2 : ∀ j, 0 ≤ gf rl j ∧ gf rl j < (p : Int) := fun j => hr.2 j
  obtain ⟨b1, b2⟩ := dg_nz (gf bl) 8 g hg
  have bb : 0 ≤ gf bl g ∧ gf bl g < (p : Int) := hb.2 g
  obtain ⟨T1, T2⟩ := dg_nz _ 8 T hT
  have Tb := dg_b (dvR p (gf bl) g (iv p (gf bl g).toNat) (gf rl) t) 8
  have ht : T + t < 8 := Decidable.byContradiction (fun z => T1 (Z T (by omega) (by omega)))
  have z0 : ∀ j, T < j → j < 8 → dvR p (gf bl) g (iv p (gf bl g).toNat) (gf rl) t j = 0 := T2
  have e := dvR_skip (p := (p : Int)) (b := gf bl) (g := g) (v := (iv p (gf bl g).toNat : Int)) (by omega) hr2 (t := t) (7 - T - t) (by omega) (fun j h3 h4 => z0 j (by omega) (by omega))
  have e2 := dvQ_skip (p := (p : Int)) (b := gf bl) (g := g) (v := (iv p (gf bl g).toNat : Int)) (by omega) hr2 (t := t) (n := 7 - T - t) (by omega) (fun j h3 h4 => z0 j (by omega) (by omega))
  rw [show t + (7 - T - t) = 7 - T by omega] at e e2
  refine ⟨7 - T, by omega, by omega, by omega, e, fun j h1 h2 => ?_, fun i hi ne => ?_, ?_⟩
  · show (if 7 - g - (7 - T) ≤ j ∧ j ≤ 7 - (7 - T) then (dvR p (gf bl) g _ (gf rl) (7 - T) j - (dvR p (gf bl) g _ (gf rl) (7 - T) (7 - (7 - T)) * _ % (p : Int)) * gf bl (j - (7 - g - (7 - T)))) % (p : Int) else dvR p (gf bl) g _ (gf rl) (7 - T) j) = 0
    by_cases h3 : j = T
    · rw [if_pos (by omega), show 7 - (7 - T) = j by omega, show j - (7 - g - (7 - T)) = g by omega]
      exact dv_zero hp (by omega)
    · rw [if_neg (by omega), e]
      exact z0 j (by omega) h2
  · rw [← e2 i]
    unfold dvQ
    by_cases h1 : 8 - g - (7 - T) ≤ i ∧ i + g < 8
    · rw [if_pos h1, if_pos (by omega)]
    · rw [if_neg h1, if_neg (by omega)]
  · unfold dvQ
    rw [if_pos (by omega), show 7 - g - (7 - g - (7 - T)) = 7 - T by omega, show 7 - g - (7 - T) + g = 7 - (7 - T) by omega]
theorem dv_end (hp : p ∈ PR) (hr : Fl (p : Int) rl) (ht : t + g ≤ 8) (Z : ∀ j, 8 ≤ j + t → j < 8 → dvR p (gf bl) g (iv p (gf bl g).toNat) (gf rl) t j = 0) (hT : dg (dvR p (gf bl) g (iv p (gf bl g).toNat) (gf rl) t) 8 < (g : Int)) :
    dvR p (gf bl) g (iv p (gf bl g).toNat) (gf rl) (8 - g) = dvR p (gf bl) g (iv p (gf bl g).toNat) (gf rl) t ∧ ∀ i, dvQ p (gf bl) g (iv p (gf bl g).toNat) (gf rl) (8 - g) i = dvQ p (gf bl) g (iv p (gf bl g).toNat) (gf rl) t i := by
  have hpp := PRb hp
  have hr2 : ∀ j, 0 ≤ gf rl j ∧ gf rl j < (p : Int) := fun j => hr.2 j
  have z0 : ∀ j : Nat, j < 8 → g ≤ j → dvR p (gf bl) g (iv p (gf bl g).toNat) (gf rl) t j = 0 := fun j h1 h2 => dg_lo 8 j h1 (by omega)
  have e := dvR_skip (p := (p : Int)) (b := gf bl) (g := g) (v := (iv p (gf bl g).toNat : Int)) (by omega) hr2 (t := t) (8 - g - t) (by omega) (fun j h3 h4 => z0 j (by omega) (by omega))
  have e2 := dvQ_skip (p := (p : Int)) (b := gf bl) (g := g) (v := (iv p (gf bl g).toNat : Int)) (by omega) hr2 (t := t) (n := 8 - g - t) (by omega) (fun j h3 h4 => z0 j (by omega) (by omega))
  rw [show t + (8 - g - t) = 8 - g by omega] at e e2
  exact ⟨e, e2⟩
end

set_option maxRecDepth 20000 in
set_option maxHeartbeats 1000000 in
theorem S_dv1 {G : xG} {d rc rs : Nat} {ex : Bool} {h : xH} {Q : xQ} {σ : St} {rr : Nat} {ss : Int} {i j k9 l9 g : Nat} {mL0 OL l0 : List Int} (w : MX σ 0 rr ss h) (v : INV σ) (hi : i < 8) (hj : j < 8) (hk9 : k9 < 8) (hl9 : l9 < 8) (ne : k9 ≠ l9) (h136 : h[136]? = some (cA 0 mL0)) (l136 : mL0.length = 15) (m0 : ∀ a, a < 8 → mL0.getD a 0 = 0) (h137 : h[137]? = some (cA 0 (σ.rw i))) (h138 : h[138]? = some (cA 0 OL)) (lO : OL.length = 9) (gO : ∀ a, OL.getD a 0 = gf (σ.rw j) a) (hg : dg (gf (σ.rw j)) 8 = (g : Int)) (k : ∀ h2, Ag 70 142 h h2 → MX ((σ.sRow k9 (dvQL σ.p (σ.rw i) (σ.rw j))).sRow l9 (dvRL σ.p (σ.rw i) (σ.rw j))) 0 rr ss h2 → Q (.inl (some (vi (dg (gf (dvRL σ.p (σ.rw i) (σ.rw j))) 8)))) ex h2) : X G m_X11_divide (d + 2) rc rs ex 159 [some (.ref 70), some (vi (i : Int)), some (vi (j : Int)), some (vi (k9 : Int)), some (vi (l9 : Int)), none, some (vi (g : Int)), none, none, none] [] h Q := by
  have hp := PRb v.p
  have hq := gq_b v.p
  have hr2 : ∀ a, 0 ≤ gf (σ.rw i) a ∧ gf (σ.rw i) a < (σ.p : Int) := fun a => (v.rw i hi).2 a
  obtain ⟨b1, b2⟩ := dg_nz (gf (σ.rw j)) 8 g hg
  have bg0 : 0 ≤ gf (σ.rw j) g ∧ gf (σ.rw j) g < (σ.p : Int) := (v.rw j hj).2 g
  have bg : 0 < gf (σ.rw j) g ∧ gf (σ.rw j) g < (σ.p : Int) := by omega
  have gb8 := dg_b (gf (σ.rw j)) 8
  have L : ∀ (n z9 : Nat), z9 + n = 8 - g → ∀ (t : Nat) (mL : List Int), z9 ≤ t → t + g ≤ 8 → (∀ j9, 8 ≤ j9 + t → j9 < 8 → (dvR (σ.p : Int) (gf (σ.rw j)) g (iv σ.p (gf (σ.rw j) g).toNat : Int) (gf (σ.rw i)) t) j9 = 0) → mL.length = 15 → (∀ i9, i9 < 8 → mL.getD i9 0 = (dvQ (σ.p : Int) (gf (σ.rw j)) g (iv σ.p (gf (σ.rw j) g).toNat : Int) (gf (σ.rw i)) t) i9) → X G m_X11_divide (d + 2) rc rs ex 159 [some (.ref 70), some (vi (i : Int)), some (vi (j : Int)), some (vi (k9 : Int)), some (vi (l9 : Int)), none, some (vi (g : Int)), none, none, none] [] ((h.set 136 (cA 0 mL)).set 137 (cA 0 (tab (dvR (σ.p : Int) (gf (σ.rw j)) g (iv σ.p (gf (σ.rw j) g).toNat : Int) (gf (σ.rw i)) t) 8))) Q := by
    intro n
    induction n with
    | zero =>
      intro z9 hi_ t mL zt tg Z lm qm
      refine x_aload_n (dT U_X11_divide 81 rfl) rfl ?_
      refine x_getfield F_X11_100 (dT U_X11_divide 82 rfl) (hset_ne (by omega) (hset_ne (by omega) (w.c70))) (Nat.le_of_ble_eq_true rfl) rfl ?_
      refine x_invokestatic (rc' := rc) (rs' := rs) (rc2 := 0) (rs2 := 0) (As := [_]) (st := _) M_X11_top K_X11_177 (dT U_X11_divide 83 rfl) rfl rfl rfl rfl (Nat.le_of_ble_eq_true rfl) rfl (by decide) (Nat.le_of_ble_eq_true rfl) rfl rfl ?_
      refine S_X11_top (hset_eq (hset_ne (by omega) h137)) (by omega) (by rw [tab_len]; omega) (fun t9 => tabx_r (fun t9 => by have := dvR_b (p := (σ.p : Int)) (b := gf (σ.rw j)) (g := g) (v := (iv σ.p (gf (σ.rw j) g).toNat : Int)) (by omega) hr2 t t9; omega) t9) ?_
      rw [tab_len, show dg (gf (tab (dvR (σ.p : Int) (gf (σ.rw j)) g (iv σ.p (gf (σ.rw j) g).toNat : Int) (gf (σ.rw i)) t) 8)) 8 = dg (dvR (σ.p : Int) (gf (σ.rw j)) g (iv σ.p (gf (σ.rw j) g).toNat : Int) (gf (σ.rw i)) t) 8 from dg_cg 8 (fun j hj => tab_get _ hj)]
      have bT := dg_b (dvR (σ.p : Int) (gf (σ.rw j)) g (iv σ.p (gf (σ.rw j) g).toNat : Int) (gf (σ.rw i)) t) 8
      refine xRet_some ?_
      refine x_iload (dT U_X11_divide 84 rfl) rfl ?_
      refine x_icmp_lt (tgt := 272) (dT U_X11_divide 85 rfl) (by decide) (by unfold xr; omega) (by unfold xr; omega) (fun c168 => ?_) (fun c168 => ?_)
      · skip
        obtain ⟨ee, eq⟩ := dv_end (bl := σ.rw j) (rl := σ.rw i) (g := g) (t := t) v.p (v.rw i hi) (by omega) Z (by omega)
        have eQ : tab (gf mL) 8 = (dvQL σ.p (σ.rw i) (σ.rw j)) := by unfold dvQL; rw [hg, show (g : Int).toNat = g from rfl]; exact tab_congr (fun a ha => by rw [eq a]; exact qm a ha)
        have eR : tab (dvR (σ.p : Int) (gf (σ.rw j)) g (iv σ.p (gf (σ.rw j) g).toNat : Int) (gf (σ.rw i)) t) 8 = (dvRL σ.p (σ.rw i) (σ.rw j)) := by unfold dvRL; rw [hg, show (g : Int).toNat = g from rfl, ee]
        rw [eR]
        have fR := dvRL_F (p := σ.p) (b := σ.rw j) (by omega) (v.rw i hi)
        have wa := (w.t136 (l := mL) (fun a ha => by rw [hset_fr (by omega)]) (hset_eq h136) lm).t137 (h2 := (h.set 136 (cA 0 mL)).set 137 (cA 0 (dvRL σ.p (σ.rw i) (σ.rw j)))) (fun a ha => by rw [hset_fr (by omega)]) (hset_eq (hset_ne (by omega) h137)) fR.1
        refine x_aload_n (dT U_X11_divide 142 rfl) rfl ?_
        refine x_getfield F_X11_18 (dT U_X11_divide 143 rfl) (hset_ne (by omega) (hset_ne (by omega) (w.c70))) (Nat.le_of_ble_eq_true rfl) rfl ?_
        refine x_iload_n (dT U_X11_divide 144 rfl) rfl ?_
        refine x_aaload (k9) (dT U_X11_divide 145 rfl) (hset_ne (by omega) (hset_ne (by omega) (w.c73))) (Nat.le_of_ble_eq_true rfl) (by decide) rfl (mrL_get (by omega)) (Nat.le_of_ble_eq_true rfl) ?_
        refine x_aload_n (dT U_X11_divide 146 rfl) rfl ?_
        refine x_getfield F_X11_97 (dT U_X11_divide 147 rfl) (hset_ne (by omega) (hset_ne (by omega) (w.c70))) (Nat.le_of_ble_eq_true rfl) rfl ?_
        refine x_invokestatic (rc' := rc) (rs' := rs) (rc2 := 0) (rs2 := 0) (As := [_, _]) (st := _) M_X11_becomes K_X11_189 (dT U_X11_divide 148 rfl) rfl rfl rfl rfl (Nat.le_of_ble_eq_true rfl) rfl (by decide) (Nat.le_of_ble_eq_true rfl) rfl rfl ?_
        refine S_X11_becomes (wa.rows k9 hk9) (by omega) (by rw [(v.rw k9 hk9).1]; omega) (hset_ne (by omega) (hset_eq h136)) (by omega) (by rw [lm]; omega) ?_
        rw [fillL_all (v.rw k9 hk9).1, eQ]
        have wb := wa.row (i := k9) (l := (dvQL σ.p (σ.rw i) (σ.rw j))) (fun a ha => by rw [hset_fr (by omega)]) hk9 (hset_eq (wa.rows k9 hk9))
        refine xRet_none ?_
        refine x_aload_n (dT U_X11_divide 149 rfl) rfl ?_
        refine x_getfield F_X11_18 (dT U_X11_divide 150 rfl) wb.c70 (Nat.le_of_ble_eq_true rfl) rfl ?_
        refine x_iload (dT U_X11_divide 151 rfl) rfl ?_
        refine x_aaload (l9) (dT U_X11_divide 152 rfl) wb.c73 (Nat.le_of_ble_eq_true rfl) (by decide) rfl (mrL_get (by omega)) (Nat.le_of_ble_eq_true rfl) ?_
        refine x_aload_n (dT U_X11_divide 153 rfl) rfl ?_
        refine x_getfield F_X11_100 (dT U_X11_divide 154 rfl) wb.c70 (Nat.le_of_ble_eq_true rfl) rfl ?_
        refine x_invokestatic (rc' := rc) (rs' := rs) (rc2 := 0) (rs2 := 0) (As := [_, _]) (st := _) M_X11_becomes K_X11_189 (dT U_X11_divide 155 rfl) rfl rfl rfl rfl (Nat.le_of_ble_eq_true rfl) rfl (by decide) (Nat.le_of_ble_eq_true rfl) rfl rfl ?_
        have lr9 : ((σ.sRow k9 (dvQL σ.p (σ.rw i) (σ.rw j))).rw l9).length = 8 := by rw [show (σ.sRow k9 (dvQL σ.p (σ.rw i) (σ.rw j))).rw l9 = σ.rw l9 from fup_ne (by omega)]; exact (v.rw l9 hl9).1
        refine S_becomes8 (wb.rows l9 hl9) (by omega) lr9 (hset_ne (by omega) (hset_eq (hset_ne (by omega) h137))) (by omega) fR.1 ?_
        refine xRet_none ?_
        refine x_aload_n (dT U_X11_divide 156 rfl) rfl ?_
        refine x_getfield F_X11_100 (dT U_X11_divide 157 rfl) (hset_ne (by omega) (wb.c70)) (Nat.le_of_ble_eq_true rfl) rfl ?_
        refine x_invokestatic (rc' := rc) (rs' := rs) (rc2 := 0) (rs2 := 0) (As := [_]) (st := _) M_X11_top K_X11_177 (dT U_X11_divide 158 rfl) rfl rfl rfl rfl (Nat.le_of_ble_eq_true rfl) rfl (by decide) (Nat.le_of_ble_eq_true rfl) rfl rfl ?_
        refine S_topF (p := (σ.p : Int)) (hset_ne (by omega) (hset_ne (by omega) (hset_eq (hset_ne (by omega) h137)))) (by omega) fR (by omega) ?_
        refine xRet_some ?_
        refine x_ireturn (dT U_X11_divide 159 rfl) rfl ?_
        exact k _ ((((Ag.rf 70 142 h).set (by omega)).set (by omega)).set (by omega) |>.set (by omega)) (wb.row (i := l9) (l := (dvRL σ.p (σ.rw i) (σ.rw j))) (fun a ha => by rw [hset_fr (by omega)]) hl9 (hset_eq (wb.rows l9 hl9)))
      · exfalso; obtain ⟨T, hT⟩ := Int.eq_ofNat_of_zero_le (show 0 ≤ dg (dvR (σ.p : Int) (gf (σ.rw j)) g (iv σ.p (gf (σ.rw j) g).toNat : Int) (gf (σ.rw i)) t) 8 by omega); obtain ⟨s, s1, s2, s3, _⟩ := dv_go (bl := σ.rw j) (rl := σ.rw i) (g := g) (t := t) v.p (v.rw j hj) (v.rw i hi) hg Z hT (by omega); omega
    | succ n ih =>
      intro z9 hi_ t mL zt tg Z lm qm
      refine x_aload_n (dT U_X11_divide 81 rfl) rfl ?_
      refine x_getfield F_X11_100 (dT U_X11_divide 82 rfl) (hset_ne (by omega) (hset_ne (by omega) (w.c70))) (Nat.le_of_ble_eq_true rfl) rfl ?_
      refine x_invokestatic (rc' := rc) (rs' := rs) (rc2 := 0) (rs2 := 0) (As := [_]) (st := _) M_X11_top K_X11_177 (dT U_X11_divide 83 rfl) rfl rfl rfl rfl (Nat.le_of_ble_eq_true rfl) rfl (by decide) (Nat.le_of_ble_eq_true rfl) rfl rfl ?_
      refine S_X11_top (hset_eq (hset_ne (by omega) h137)) (by omega) (by rw [tab_len]; omega) (fun t9 => tabx_r (fun t9 => by have := dvR_b (p := (σ.p : Int)) (b := gf (σ.rw j)) (g := g) (v := (iv σ.p (gf (σ.rw j) g).toNat : Int)) (by omega) hr2 t t9; omega) t9) ?_
      rw [tab_len, show dg (gf (tab (dvR (σ.p : Int) (gf (σ.rw j)) g (iv σ.p (gf (σ.rw j) g).toNat : Int) (gf (σ.rw i)) t) 8)) 8 = dg (dvR (σ.p : Int) (gf (σ.rw j)) g (iv σ.p (gf (σ.rw j) g).toNat : Int) (gf (σ.rw i)) t) 8 from dg_cg 8 (fun j hj => tab_get _ hj)]
      have bT := dg_b (dvR (σ.p : Int) (gf (σ.rw j)) g (iv σ.p (gf (σ.rw j) g).toNat : Int) (gf (σ.rw i)) t) 8
      refine xRet_some ?_
      refine x_iload (dT U_X11_divide 84 rfl) rfl ?_
      refine x_icmp_lt (tgt := 272) (dT U_X11_divide 85 rfl) (by decide) (by unfold xr; omega) (by unfold xr; omega) (fun c168 => ?_) (fun c168 => ?_)
      · skip
        obtain ⟨ee, eq⟩ := dv_end (bl := σ.rw j) (rl := σ.rw i) (g := g) (t := t) v.p (v.rw i hi) (by omega) Z (by omega)
        have eQ : tab (gf mL) 8 = (dvQL σ.p (σ.rw i) (σ.rw j)) := by unfold dvQL; rw [hg, show (g : Int).toNat = g from rfl]; exact tab_congr (fun a ha => by rw [eq a]; exact qm a ha)
        have eR : tab (dvR (σ.p : Int) (gf (σ.rw j)) g (iv σ.p (gf (σ.rw j) g).toNat : Int) (gf (σ.rw i)) t) 8 = (dvRL σ.p (σ.rw i) (σ.rw j)) := by unfold dvRL; rw [hg, show (g : Int).toNat = g from rfl, ee]
        rw [eR]
        have fR := dvRL_F (p := σ.p) (b := σ.rw j) (by omega) (v.rw i hi)
        have wa := (w.t136 (l := mL) (fun a ha => by rw [hset_fr (by omega)]) (hset_eq h136) lm).t137 (h2 := (h.set 136 (cA 0 mL)).set 137 (cA 0 (dvRL σ.p (σ.rw i) (σ.rw j)))) (fun a ha => by rw [hset_fr (by omega)]) (hset_eq (hset_ne (by omega) h137)) fR.1
        refine x_aload_n (dT U_X11_divide 142 rfl) rfl ?_
        refine x_getfield F_X11_18 (dT U_X11_divide 143 rfl) (hset_ne (by omega) (hset_ne (by omega) (w.c70))) (Nat.le_of_ble_eq_true rfl) rfl ?_
        refine x_iload_n (dT U_X11_divide 144 rfl) rfl ?_
        refine x_aaload (k9) (dT U_X11_divide 145 rfl) (hset_ne (by omega) (hset_ne (by omega) (w.c73))) (Nat.le_of_ble_eq_true rfl) (by decide) rfl (mrL_get (by omega)) (Nat.le_of_ble_eq_true rfl) ?_
        refine x_aload_n (dT U_X11_divide 146 rfl) rfl ?_
        refine x_getfield F_X11_97 (dT U_X11_divide 147 rfl) (hset_ne (by omega) (hset_ne (by omega) (w.c70))) (Nat.le_of_ble_eq_true rfl) rfl ?_
        refine x_invokestatic (rc' := rc) (rs' := rs) (rc2 := 0) (rs2 := 0) (As := [_, _]) (st := _) M_X11_becomes K_X11_189 (dT U_X11_divide 148 rfl) rfl rfl rfl rfl (Nat.le_of_ble_eq_true rfl) rfl (by decide) (Nat.le_of_ble_eq_true rfl) rfl rfl ?_
        refine S_X11_becomes (wa.rows k9 hk9) (by omega) (by rw [(v.rw k9 hk9).1]; omega) (hset_ne (by omega) (hset_eq h136)) (by omega) (by rw [lm]; omega) ?_
        rw [fillL_all (v.rw k9 hk9).1, eQ]
        have wb := wa.row (i := k9) (l := (dvQL σ.p (σ.rw i) (σ.rw j))) (fun a ha => by rw [hset_fr (by omega)]) hk9 (hset_eq (wa.rows k9 hk9))
        refine xRet_none ?_
        refine x_aload_n (dT U_X11_divide 149 rfl) rfl ?_
        refine x_getfield F_X11_18 (dT U_X11_divide 150 rfl) wb.c70 (Nat.le_of_ble_eq_true rfl) rfl ?_
        refine x_iload (dT U_X11_divide 151 rfl) rfl ?_
        refine x_aaload (l9) (dT U_X11_divide 152 rfl) wb.c73 (Nat.le_of_ble_eq_true rfl) (by decide) rfl (mrL_get (by omega)) (Nat.le_of_ble_eq_true rfl) ?_
        refine x_aload_n (dT U_X11_divide 153 rfl) rfl ?_
        refine x_getfield F_X11_100 (dT U_X11_divide 154 rfl) wb.c70 (Nat.le_of_ble_eq_true rfl) rfl ?_
        refine x_invokestatic (rc' := rc) (rs' := rs) (rc2 := 0) (rs2 := 0) (As := [_, _]) (st := _) M_X11_becomes K_X11_189 (dT U_X11_divide 155 rfl) rfl rfl rfl rfl (Nat.le_of_ble_eq_true rfl) rfl (by decide) (Nat.le_of_ble_eq_true rfl) rfl rfl ?_
        have lr9 : ((σ.sRow k9 (dvQL σ.p (σ.rw i) (σ.rw j))).rw l9).length = 8 := by rw [show (σ.sRow k9 (dvQL σ.p (σ.rw i) (σ.rw j))).rw l9 = σ.rw l9 from fup_ne (by omega)]; exact (v.rw l9 hl9).1
        refine S_becomes8 (wb.rows l9 hl9) (by omega) lr9 (hset_ne (by omega) (hset_eq (hset_ne (by omega) h137))) (by omega) fR.1 ?_
        refine xRet_none ?_
        refine x_aload_n (dT U_X11_divide 156 rfl) rfl ?_
        refine x_getfield F_X11_100 (dT U_X11_divide 157 rfl) (hset_ne (by omega) (wb.c70)) (Nat.le_of_ble_eq_true rfl) rfl ?_
        refine x_invokestatic (rc' := rc) (rs' := rs) (rc2 := 0) (rs2 := 0) (As := [_]) (st := _) M_X11_top K_X11_177 (dT U_X11_divide 158 rfl) rfl rfl rfl rfl (Nat.le_of_ble_eq_true rfl) rfl (by decide) (Nat.le_of_ble_eq_true rfl) rfl rfl ?_
        refine S_topF (p := (σ.p : Int)) (hset_ne (by omega) (hset_ne (by omega) (hset_eq (hset_ne (by omega) h137)))) (by omega) fR (by omega) ?_
        refine xRet_some ?_
        refine x_ireturn (dT U_X11_divide 159 rfl) rfl ?_
        exact k _ ((((Ag.rf 70 142 h).set (by omega)).set (by omega)).set (by omega) |>.set (by omega)) (wb.row (i := l9) (l := (dvRL σ.p (σ.rw i) (σ.rw j))) (fun a ha => by rw [hset_fr (by omega)]) hl9 (hset_eq (wb.rows l9 hl9)))
      · skip
        obtain ⟨T, hT⟩ := Int.eq_ofNat_of_zero_le (show 0 ≤ dg (dvR (σ.p : Int) (gf (σ.rw j)) g (iv σ.p (gf (σ.rw j) g).toNat : Int) (gf (σ.rw i)) t) 8 by omega)
        obtain ⟨s, s1, s2, s3, eS, Z2, Q1, Q0⟩ := dv_go (bl := σ.rw j) (rl := σ.rw i) (g := g) (t := t) v.p (v.rw j hj) (v.rw i hi) hg Z hT (by omega)
        refine x_aload_n (dT U_X11_divide 86 rfl) rfl ?_
        refine x_getfield F_X11_100 (dT U_X11_divide 87 rfl) (hset_ne (by omega) (hset_ne (by omega) (w.c70))) (Nat.le_of_ble_eq_true rfl) rfl ?_
        refine x_invokestatic (rc' := rc) (rs' := rs) (rc2 := 0) (rs2 := 0) (As := [_]) (st := _) M_X11_top K_X11_177 (dT U_X11_divide 88 rfl) rfl rfl rfl rfl (Nat.le_of_ble_eq_true rfl) rfl (by decide) (Nat.le_of_ble_eq_true rfl) rfl rfl ?_
        refine S_X11_top (hset_eq (hset_ne (by omega) h137)) (by omega) (by rw [tab_len]; omega) (fun t9 => tabx_r (fun t9 => by have := dvR_b (p := (σ.p : Int)) (b := gf (σ.rw j)) (g := g) (v := (iv σ.p (gf (σ.rw j) g).toNat : Int)) (by omega) hr2 t t9; omega) t9) ?_
        rw [tab_len, show dg (gf (tab (dvR (σ.p : Int) (gf (σ.rw j)) g (iv σ.p (gf (σ.rw j) g).toNat : Int) (gf (σ.rw i)) t) 8)) 8 = dg (dvR (σ.p : Int) (gf (σ.rw j)) g (iv σ.p (gf (σ.rw j) g).toNat : Int) (gf (σ.rw i)) t) 8 from dg_cg 8 (fun j hj => tab_get _ hj)]
        rw [hT, ← eS]
        have xa := dvR_b (p := (σ.p : Int)) (b := gf (σ.rw j)) (g := g) (v := (iv σ.p (gf (σ.rw j) g).toNat : Int)) (by omega) hr2 s (7 - s)
        have xt : (tab (dvR (σ.p : Int) (gf (σ.rw j)) g (iv σ.p (gf (σ.rw j) g).toNat : Int) (gf (σ.rw i)) s) 8).getD (7 - s) 0 = (dvR (σ.p : Int) (gf (σ.rw j)) g (iv σ.p (gf (σ.rw j) g).toNat : Int) (gf (σ.rw i)) s) (7 - s) := tab_get _ (by omega)
        refine xRet_some ?_
        refine x_iload (dT U_X11_divide 89 rfl) rfl ?_
        refine x_isub (dT U_X11_divide 90 rfl) ?_
        rw [show (T : Int) - (g : Int) = ((7 - g - s : Nat) : Int) by omega]
        refine x_istore (ls' := [some (.ref _), some (vi _), some (vi _), some (vi _), some (vi _), none, some (vi _), some (vi _), none, none]) (dT U_X11_divide 91 rfl) (by decide) rfl ?_
        refine x_aload_n (dT U_X11_divide 92 rfl) rfl ?_
        refine x_aload_n (dT U_X11_divide 93 rfl) rfl ?_
        refine x_getfield F_X11_100 (dT U_X11_divide 94 rfl) (hset_ne (by omega) (hset_ne (by omega) (w.c70))) (Nat.le_of_ble_eq_true rfl) rfl ?_
        refine x_iload (dT U_X11_divide 95 rfl) rfl ?_
        refine x_iload (dT U_X11_divide 96 rfl) rfl ?_
        refine x_iadd (dT U_X11_divide 97 rfl) ?_
        refine x_ialoadv ((7 - s)) (dT U_X11_divide 98 rfl) (hset_eq (hset_ne (by omega) h137)) (Nat.le_of_ble_eq_true rfl) (by omega) (by rw [tab_len]; omega) (by rw [tab_len]; omega) xt ?_
        refine x_aload_n (dT U_X11_divide 99 rfl) rfl ?_
        refine x_getfield F_X11_103 (dT U_X11_divide 100 rfl) (hset_ne (by omega) (hset_ne (by omega) (w.c70))) (Nat.le_of_ble_eq_true rfl) rfl ?_
        refine x_iload (dT U_X11_divide 101 rfl) rfl ?_
        refine x_iaload (g) (dT U_X11_divide 102 rfl) (hset_ne (by omega) (hset_ne (by omega) h138)) (Nat.le_of_ble_eq_true rfl) rfl (by rw [lO]; omega) (by rw [lO]; omega) ?_
        refine x_invokevirtual (rc' := rc) (rs' := rs) (rc2 := 0) (rs2 := 0) (As := [_, _]) (st := _) M_X11_over K_X11_193 (dT U_X11_divide 103 rfl) rfl rfl (by decide) rfl rfl (hset_ne (by omega) (hset_ne (by omega) (w.c70))) (Nat.le_of_ble_eq_true rfl) (by decide) rfl (Nat.le_of_ble_eq_true rfl) rfl (by decide) (Nat.le_of_ble_eq_true rfl) rfl rfl ?_
        rw [gO]
        refine S_overI (MP.set (by omega) (MP.set (by omega) (w.mp))) v.p xa bg ?_
        have wb := modb (z := (dvR (σ.p : Int) (gf (σ.rw j)) g (iv σ.p (gf (σ.rw j) g).toNat : Int) (gf (σ.rw i)) s) (7 - s) * (iv σ.p (gf (σ.rw j) g).toNat : Int)) (p := (σ.p : Int)) (by omega)
        refine xRet_some ?_
        refine x_istore (ls' := [some (.ref _), some (vi _), some (vi _), some (vi _), some (vi _), none, some (vi _), some (vi _), some (vi _), none]) (dT U_X11_divide 104 rfl) (by decide) rfl ?_
        refine x_aload_n (dT U_X11_divide 105 rfl) rfl ?_
        refine x_getfield F_X11_97 (dT U_X11_divide 106 rfl) (hset_ne (by omega) (hset_ne (by omega) (w.c70))) (Nat.le_of_ble_eq_true rfl) rfl ?_
        refine x_iload (dT U_X11_divide 107 rfl) rfl ?_
        refine x_iload (dT U_X11_divide 108 rfl) rfl ?_
        refine x_iastore ((7 - g - s)) (dT U_X11_divide 109 rfl) (hset_ne (by omega) (hset_eq h136)) (Nat.le_of_ble_eq_true rfl) rfl (by rw [lm]; omega) (by rw [lm]; omega) ?_
        rw [List.set_comm _ _ (show (137 : Nat) ≠ 136 by decide), List.set_set]
        obtain ⟨mL2, hm2⟩ : ∃ mL2, mL2 = mL.set (7 - g - s) ((dvR (σ.p : Int) (gf (σ.rw j)) g (iv σ.p (gf (σ.rw j) g).toNat : Int) (gf (σ.rw i)) s) (7 - s) * (iv σ.p (gf (σ.rw j) g).toNat : Int) % (σ.p : Int)) := ⟨_, rfl⟩
        rw [← hm2]
        have l2 : mL2.length = 15 := by rw [hm2, List.length_set]; exact lm
        have Q2 : ∀ i9, i9 < 8 → mL2.getD i9 0 = (dvQ (σ.p : Int) (gf (σ.rw j)) g (iv σ.p (gf (σ.rw j) g).toNat : Int) (gf (σ.rw i)) (s + 1)) i9 := fun i9 h5 => if e : i9 = 7 - g - s then (by rw [hm2, e, Q0, List.getD_eq_getElem?_getD, List.getElem?_set_self (by omega)]; rfl) else (by rw [hm2, Q1 i9 h5 e, ← qm i9 h5, List.getD_eq_getElem?_getD, List.getElem?_set_ne (by omega), ← List.getD_eq_getElem?_getD])
        refine x_iconst (dT U_X11_divide 110 rfl) ?_
        refine x_istore (ls' := [some (.ref _), some (vi _), some (vi _), some (vi _), some (vi _), none, some (vi _), some (vi _), some (vi _), some (vi _)]) (dT U_X11_divide 111 rfl) (by decide) rfl ?_
        have L2 : ∀ (n u : Nat), u + n = g + 1 → X G m_X11_divide (d + 2) rc rs ex 218 [some (.ref 70), some (vi (i : Int)), some (vi (j : Int)), some (vi (k9 : Int)), some (vi (l9 : Int)), none, some (vi (g : Int)), some (vi ((7 - g - s : Nat) : Int)), some (vi ((dvR (σ.p : Int) (gf (σ.rw j)) g (iv σ.p (gf (σ.rw j) g).toNat : Int) (gf (σ.rw i)) s) (7 - s) * (iv σ.p (gf (σ.rw j) g).toNat : Int) % (σ.p : Int))), some (vi (u : Int))] [] ((h.set 136 (cA 0 mL2)).set 137 (cA 0 (tab (fun m => if 7 - g - s ≤ m ∧ m < 7 - g - s + u then ((dvR (σ.p : Int) (gf (σ.rw j)) g (iv σ.p (gf (σ.rw j) g).toNat : Int) (gf (σ.rw i)) s) m - ((dvR (σ.p : Int) (gf (σ.rw j)) g (iv σ.p (gf (σ.rw j) g).toNat : Int) (gf (σ.rw i)) s) (7 - s) * (iv σ.p (gf (σ.rw j) g).toNat : Int) % (σ.p : Int)) * gf (σ.rw j) (m - (7 - g - s))) % (σ.p : Int) else (dvR (σ.p : Int) (gf (σ.rw j)) g (iv σ.p (gf (σ.rw j) g).toNat : Int) (gf (σ.rw i)) s) m) 8))) Q := by
          intro n
          induction n with
          | zero =>
            intro u hi_ 
            refine x_iload (dT U_X11_divide 112 rfl) rfl ?_
            refine x_iload (dT U_X11_divide 113 rfl) rfl ?_
            refine x_icmp_gt (tgt := 269) (dT U_X11_divide 114 rfl) (by decide) (by unfold xr; omega) (by unfold xr; omega) (fun c222 => ?_) (fun c222 => ?_)
            · skip
              refine x_goto (tgt := 159) (dT U_X11_divide 141 rfl) (by decide) ?_
              have e : u = g + 1 := by omega
              subst e
              rw [show tab (fun m => if 7 - g - s ≤ m ∧ m < 7 - g - s + (g + 1) then ((dvR (σ.p : Int) (gf (σ.rw j)) g (iv σ.p (gf (σ.rw j) g).toNat : Int) (gf (σ.rw i)) s) m - ((dvR (σ.p : Int) (gf (σ.rw j)) g (iv σ.p (gf (σ.rw j) g).toNat : Int) (gf (σ.rw i)) s) (7 - s) * (iv σ.p (gf (σ.rw j) g).toNat : Int) % (σ.p : Int)) * gf (σ.rw j) (m - (7 - g - s))) % (σ.p : Int) else (dvR (σ.p : Int) (gf (σ.rw j)) g (iv σ.p (gf (σ.rw j) g).toNat : Int) (gf (σ.rw i)) s) m) 8 = tab (dvR (σ.p : Int) (gf (σ.rw j)) g (iv σ.p (gf (σ.rw j) g).toNat : Int) (gf (σ.rw i)) (s + 1)) 8 from tab_congr (fun m hm => by
                show _ = (if 7 - g - s ≤ m ∧ m ≤ 7 - s then _ else _)
                by_cases h5 : 7 - g - s ≤ m ∧ m ≤ 7 - s
                · rw [if_pos h5, if_pos (by omega)]
                · rw [if_neg h5, if_neg (by omega)])]
              refine x_drop ?_ (ih (z9 + 1) (by omega) (s + 1) mL2 (by omega) (by omega) Z2 l2 Q2)
              repeat (first | exact trivial | refine ⟨rfl, ?_⟩ | refine ⟨trivial, ?_⟩)
            · exfalso; omega
          | succ n ih3 =>
            intro u hi_ 
            refine x_iload (dT U_X11_divide 112 rfl) rfl ?_
            refine x_iload (dT U_X11_divide 113 rfl) rfl ?_
            refine x_icmp_gt (tgt := 269) (dT U_X11_divide 114 rfl) (by decide) (by unfold xr; omega) (by unfold xr; omega) (fun c222 => ?_) (fun c222 => ?_)
            · exfalso; omega
            · skip
              have xa := dvR_b (p := (σ.p : Int)) (b := gf (σ.rw j)) (g := g) (v := (iv σ.p (gf (σ.rw j) g).toNat : Int)) (by omega) hr2 s
              have xv := xa (7 - g - s + u)
              have xw := gO u
              have xo : 0 ≤ OL.getD u 0 ∧ OL.getD u 0 < (σ.p : Int) := by rw [gO]; exact (v.rw j hj).2 u
              have xm := mulb wb xo (by omega)
              have xt : (tab (fun m => if 7 - g - s ≤ m ∧ m < 7 - g - s + u then ((dvR (σ.p : Int) (gf (σ.rw j)) g (iv σ.p (gf (σ.rw j) g).toNat : Int) (gf (σ.rw i)) s) m - ((dvR (σ.p : Int) (gf (σ.rw j)) g (iv σ.p (gf (σ.rw j) g).toNat : Int) (gf (σ.rw i)) s) (7 - s) * (iv σ.p (gf (σ.rw j) g).toNat : Int) % (σ.p : Int)) * gf (σ.rw j) (m - (7 - g - s))) % (σ.p : Int) else (dvR (σ.p : Int) (gf (σ.rw j)) g (iv σ.p (gf (σ.rw j) g).toNat : Int) (gf (σ.rw i)) s) m) 8).getD (7 - g - s + u) 0 = (dvR (σ.p : Int) (gf (σ.rw j)) g (iv σ.p (gf (σ.rw j) g).toNat : Int) (gf (σ.rw i)) s) (7 - g - s + u) := by rw [tab_get _ (by omega)]; exact if_neg (by omega)
              refine x_aload_n (dT U_X11_divide 115 rfl) rfl ?_
              refine x_getfield F_X11_100 (dT U_X11_divide 116 rfl) (hset_ne (by omega) (hset_ne (by omega) (w.c70))) (Nat.le_of_ble_eq_true rfl) rfl ?_
              refine x_iload (dT U_X11_divide 117 rfl) rfl ?_
              refine x_iload (dT U_X11_divide 118 rfl) rfl ?_
              refine x_iadd (dT U_X11_divide 119 rfl) ?_
              refine x_aload_n (dT U_X11_divide 120 rfl) rfl ?_
              refine x_aload_n (dT U_X11_divide 121 rfl) rfl ?_
              refine x_getfield F_X11_100 (dT U_X11_divide 122 rfl) (hset_ne (by omega) (hset_ne (by omega) (w.c70))) (Nat.le_of_ble_eq_true rfl) rfl ?_
              refine x_iload (dT U_X11_divide 123 rfl) rfl ?_
              refine x_iload (dT U_X11_divide 124 rfl) rfl ?_
              refine x_iadd (dT U_X11_divide 125 rfl) ?_
              refine x_ialoadv ((7 - g - s + u)) (dT U_X11_divide 126 rfl) (hset_eq (hset_ne (by omega) h137)) (Nat.le_of_ble_eq_true rfl) (by omega) (by rw [tab_len]; omega) (by rw [tab_len]; omega) xt ?_
              refine x_i2l (dT U_X11_divide 127 rfl) (by unfold xr; omega) ?_
              refine x_iload (dT U_X11_divide 128 rfl) rfl ?_
              refine x_i2l (dT U_X11_divide 129 rfl) (by unfold xr; omega) ?_
              refine x_aload_n (dT U_X11_divide 130 rfl) rfl ?_
              refine x_getfield F_X11_103 (dT U_X11_divide 131 rfl) (hset_ne (by omega) (hset_ne (by omega) (w.c70))) (Nat.le_of_ble_eq_true rfl) rfl ?_
              refine x_iload (dT U_X11_divide 132 rfl) rfl ?_
              refine x_iaload (u) (dT U_X11_divide 133 rfl) (hset_ne (by omega) (hset_ne (by omega) h138)) (Nat.le_of_ble_eq_true rfl) rfl (by rw [lO]; omega) (by rw [lO]; omega) ?_
              refine x_i2l (dT U_X11_divide 134 rfl) (by unfold xr; omega) ?_
              refine x_lmul (dT U_X11_divide 135 rfl) ?_
              refine x_lsub (dT U_X11_divide 136 rfl) ?_
              refine x_invokevirtual (rc' := rc) (rs' := rs) (rc2 := 0) (rs2 := 0) (As := [_]) (st := _) M_X11_f K_X11_156 (dT U_X11_divide 137 rfl) rfl rfl (by decide) rfl rfl (hset_ne (by omega) (hset_ne (by omega) (w.c70))) (Nat.le_of_ble_eq_true rfl) (by decide) rfl (Nat.le_of_ble_eq_true rfl) rfl (by decide) (Nat.le_of_ble_eq_true rfl) rfl rfl ?_
              refine S_X11_f (MP.set (by omega) (MP.set (by omega) (w.mp))) v.p (by unfold xrl; omega) ?_
              rw [gO]
              refine xRet_some ?_
              refine x_iastore ((7 - g - s + u)) (dT U_X11_divide 138 rfl) (hset_eq (hset_ne (by omega) h137)) (Nat.le_of_ble_eq_true rfl) (by omega) (by rw [tab_len]; omega) (by rw [tab_len]; omega) ?_
              rw [List.set_set, tab_set (g := (fun m => if 7 - g - s ≤ m ∧ m < 7 - g - s + (u + 1) then ((dvR (σ.p : Int) (gf (σ.rw j)) g (iv σ.p (gf (σ.rw j) g).toNat : Int) (gf (σ.rw i)) s) m - ((dvR (σ.p : Int) (gf (σ.rw j)) g (iv σ.p (gf (σ.rw j) g).toNat : Int) (gf (σ.rw i)) s) (7 - s) * (iv σ.p (gf (σ.rw j) g).toNat : Int) % (σ.p : Int)) * gf (σ.rw j) (m - (7 - g - s))) % (σ.p : Int) else (dvR (σ.p : Int) (gf (σ.rw j)) g (iv σ.p (gf (σ.rw j) g).toNat : Int) (gf (σ.rw i)) s) m)) (by omega) (by rw [if_pos (by omega), show 7 - g - s + u - (7 - g - s) = u by omega]) (fun n h1 h2 => if h5 : 7 - g - s ≤ n ∧ n < 7 - g - s + u then (by rw [if_pos h5, if_pos (by omega)]) else (by rw [if_neg h5, if_neg (by omega)]))]
              refine x_iinc (ls' := [some (.ref _), some (vi _), some (vi _), some (vi _), some (vi _), none, some (vi _), some (vi _), some (vi _), some (vi _)]) (dT U_X11_divide 139 rfl) (by decide) rfl rfl ?_
              refine x_goto (tgt := 218) (dT U_X11_divide 140 rfl) (by decide) ?_
              exact ih3 (u + 1) (by omega)
        have q := L2 (g + 1) 0 (by omega)
        rw [show tab (fun m => if 7 - g - s ≤ m ∧ m < 7 - g - s + 0 then ((dvR (σ.p : Int) (gf (σ.rw j)) g (iv σ.p (gf (σ.rw j) g).toNat : Int) (gf (σ.rw i)) s) m - ((dvR (σ.p : Int) (gf (σ.rw j)) g (iv σ.p (gf (σ.rw j) g).toNat : Int) (gf (σ.rw i)) s) (7 - s) * (iv σ.p (gf (σ.rw j) g).toNat : Int) % (σ.p : Int)) * gf (σ.rw j) (m - (7 - g - s))) % (σ.p : Int) else (dvR (σ.p : Int) (gf (σ.rw j)) g (iv σ.p (gf (σ.rw j) g).toNat : Int) (gf (σ.rw i)) s) m) 8 = tab (dvR (σ.p : Int) (gf (σ.rw j)) g (iv σ.p (gf (σ.rw j) g).toNat : Int) (gf (σ.rw i)) s) 8 from tab_congr (fun m _ => if_neg (by omega))] at q
        exact q
  have q := L (8 - g) 0 (by omega) 0 mL0 (Nat.le_refl 0) (by omega) (fun a h1 h2 => absurd h1 (by omega)) l136 (fun a ha => by rw [m0 a ha]; exact (if_neg (by omega)).symm)
  rw [show tab (dvR (σ.p : Int) (gf (σ.rw j)) g (iv σ.p (gf (σ.rw j) g).toNat : Int) (gf (σ.rw i)) 0) 8 = σ.rw i from tab_self (v.rw i hi).1, hset_self h136, hset_self h137] at q
  exact q
