theorem gset_e {l : List Int} {n : Nat} {v : Int} (h : n < l.length) : (l.set n v).getD n 0 = v := by rw [List.getD_eq_getElem?_getD, List.getElem?_set_self h]; rfl
theorem gset_n {l : List Int} {n j : Nat} {v : Int} (h : j ≠ n) : (l.set n v).getD j 0 = l.getD j 0 := by rw [List.getD_eq_getElem?_getD, List.getElem?_set_ne (Ne.symm h), ← List.getD_eq_getElem?_getD]

theorem sm_split {f : Nat → Int} (h : Nat) : ∀ n, sm f (h + n) = sm f h + sm (fun j => f (h + j)) n
  | 0 => by show sm f h = sm f h + 0; omega
  | n + 1 => by
    have ih := sm_split (f := f) h n
    show sm f (h + n) + f (h + n) = sm f h + (sm (fun j => f (h + j)) n + f (h + n))
    omega
theorem sm_lc {f g : Nat → Int} {c : Int} : ∀ n, sm (fun j => f j + c * g j) n = sm f n + c * sm g n
  | 0 => by show (0 : Int) = 0 + c * 0; omega
  | n + 1 => by
    have ih := sm_lc (f := f) (g := g) (c := c) n
    show sm _ n + (f n + c * g n) = sm f n + f n + c * (sm g n + g n)
    rw [ih, Int.mul_add]
    omega
theorem sm_mod {f : Nat → Int} {p : Int} : ∀ n, sm (fun j => f j % p) n % p = sm f n % p
  | 0 => rfl
  | n + 1 => by
    have ih := sm_mod (f := f) (p := p) n
    show (sm _ n + f n % p) % p = (sm f n + f n) % p
    rw [am_r, ← am_l, ih, am_l]
theorem gf_fill {f : Nat → Int} {l : List Int} {i j : Nat} (h : j < i) (hl : j < l.length) : gf (fillL f l i) j = f j := fillL_lt f l i j h hl
/-- what is bound keeps its line -/
theorem bind_sum {p c : Int} {l : List Int} {r : Nat} (hl : l.length = 8) (hr : r ≤ 2) : sm (gf (bnd p l r c)) (hlf r) % p = ln p (rz p l r) (ro p l r) c := by
  have hh := (hlf_ok (r := r) (by omega)).2.2
  have e2 := hh.2.2 (by omega)
  unfold bnd
  rw [sm_congr (g := fun j => (gf l j + c * (gf l (j + hlf r) - gf l j)) % p) (hlf r) (fun j hj => gf_fill hj (by omega)), sm_mod, sm_lc]
  have e1 : sm (fun j => gf l (j + hlf r) - gf l j) (hlf r) = sm (gf l) (2 * hlf r) - sm (gf l) (hlf r) - sm (gf l) (hlf r) := by
    have q := sm_split (f := gf l) (hlf r) (hlf r)
    have q2 := sm_lc (f := fun j => gf l (j + hlf r)) (g := gf l) (c := -1) (hlf r)
    rw [show hlf r + hlf r = 2 * hlf r by omega] at q
    rw [sm_congr (f := fun j => gf l (hlf r + j)) (g := fun j => gf l (j + hlf r)) (hlf r) (fun j _ => by rw [Nat.add_comm])] at q
    rw [sm_congr (f := fun j => gf l (j + hlf r) - gf l j) (g := fun j => gf l (j + hlf r) + -1 * gf l j) (hlf r) (fun j _ => by omega), q2]
    omega
  rw [e1]
  unfold ln rz ro
  generalize sm (gf l) (hlf r) = A
  generalize sm (gf l) (2 * hlf r) = B
  obtain ⟨x, hx⟩ := emx (a := A) (p := p)
  obtain ⟨y, hy⟩ := emx (a := B - A) (p := p)
  rw [hx, hy]
  exact emq (x + c * (y - x)) (by grind)
theorem bnds_congr {p : Int} {l pt dr : List Int} : ∀ n, (∀ j, j < n → pt.getD j 0 = dr.getD j 0) → bnds p l pt n = bnds p l dr n
  | 0, _ => rfl
  | n + 1, h => by
    show bnd p (bnds p l pt n) n (pt.getD n 0) = bnd p (bnds p l dr n) n (dr.getD n 0)
    rw [bnds_congr n (fun j hj => h j (by omega)), h n (by omega)]
theorem cr_bnd {p : Int} {l : List Int} {r : Nat} {c : Int} (hl : l.length = 8) (hr : r ≤ 2) : cr p (bnd p l r c) (r + 1) = ln p (rz p l r) (ro p l r) c := bind_sum hl hr
theorem dg_max {f : Nat → Int} {g : Nat} : ∀ n, g < n → f g ≠ 0 → (∀ j, g < j → j < n → f j = 0) → dg f n = (g : Int)
  | 0, h, _, _ => absurd h (Nat.not_lt_zero g)
  | n + 1, h, h1, h2 => by
    unfold dg
    by_cases e : n = g
    · subst e; rw [if_pos h1]
    · rw [if_neg (fun z => z (h2 n (by omega) (by omega)))]
      exact dg_max n (by omega) h1 (fun j h3 h4 => h2 j h3 (by omega))
theorem dg_all {f : Nat → Int} : ∀ n, (∀ j, j < n → f j = 0) → dg f n = -1
  | 0, _ => rfl
  | n + 1, h => by
    unfold dg
    rw [if_neg (fun z => z (h n (by omega)))]
    exact dg_all n (fun j hj => h j (by omega))
theorem dg_neg0 {f : Nat → Int} : ∀ n, dg f n = -1 → ∀ j, j < n → f j = 0
  | 0, _, j, hj => absurd hj (Nat.not_lt_zero j)
  | n + 1, h, j, hj => by
    unfold dg at h
    split at h
    · omega
    · rename_i h1
      by_cases e : j = n
      · subst e; exact Decidable.byContradiction h1
      · exact dg_neg0 n h j (by omega)
theorem dg_cg {f g : Nat → Int} : ∀ n, (∀ j, j < n → f j = g j) → dg f n = dg g n
  | 0, _ => rfl
  | n + 1, h => by
    unfold dg
    rw [h n (by omega), dg_cg n (fun j hj => h j (by omega))]
theorem dg_lo {f : Nat → Int} : ∀ n, ∀ j, j < n → dg f n < (j : Int) → f j = 0
  | 0, j, hj, _ => absurd hj (Nat.not_lt_zero j)
  | n + 1, j, hj, h => by
    unfold dg at h
    split at h
    · omega
    · rename_i h1
      by_cases e : j = n
      · subst e; exact Decidable.byContradiction h1
      · exact dg_lo n j (by omega) h
/-! the invariant of each new state -/
theorem INV.play {σ : St} {i : Nat} {i9 claim : Int} (v : INV σ) (hi : i < 8) (hc : 0 ≤ claim ∧ claim < (σ.p : Int)) (h9 : i9 = 1 ∧ claim = cr σ.p (σ.rw i) 0 ∨ i9 = 0) : INV (σ.sg (1, 0, i9, claim, 0, σ.g.z, σ.g.o, σ.rw i, σ.rw i, σ.g.dr)) := by
  have hp := PRb v.p
  obtain ⟨g1, g2, g3, g4, g5, g6, g7, g8, g9, g10, g11, g12⟩ := v.g
  exact v.sg ⟨Or.inr rfl, Or.inl rfl, by show i9 = 0 ∨ i9 = 1; omega, Nat.zero_le 3, fun z => absurd (show (0 : Int) = 1 from z) (by decide), ⟨hc.1, by show claim < 24; omega⟩, g7, g8, (v.rw i hi).1, (v.rw i hi).1, g11,
    fun _ => ⟨hc, v.rw i hi, v.rw i hi, fun j hj => absurd hj (Nat.not_lt_zero j), rfl, fun z => absurd (show (0 : Int) = 1 from z) (by decide), fun z _ => by
      rcases h9 with h9 | h9
      · exact h9.2
      · exact absurd (show i9 = 1 from z) (by omega), fun _ z => absurd (show (0 : Int) = 1 from z) (by decide)⟩⟩
theorem INV.send {σ : St} {i9 zero one : Int} (v : INV σ) (hs : σ.g.b = 1 ∧ σ.g.s = 0 ∧ σ.g.r < 3) (hz : 0 ≤ zero ∧ zero < (σ.p : Int)) (ho : 0 ≤ one ∧ one < (σ.p : Int)) (h9 : i9 = 1 ∧ σ.g.i = 1 ∧ zero = rz σ.p σ.g.l σ.g.r ∧ one = ro σ.p σ.g.l σ.g.r ∨ i9 = 0) : INV (σ.sg (σ.g.b, 1, i9, σ.g.c, σ.g.r, zero, one, σ.g.l, σ.g.tbl, σ.g.dr)) := by
  have hp := PRb v.p
  obtain ⟨g1, g2, g3, g4, g5, g6, g7, g8, g9, g10, g11, g12⟩ := v.g
  obtain ⟨y1, y2, y3, y4, y5, y6, y7, y8⟩ := g12 hs.1
  exact v.sg ⟨g1, Or.inr rfl, by show i9 = 0 ∨ i9 = 1; omega, g4, fun _ => by show σ.g.r ≤ 2; omega, g6, ⟨hz.1, by show zero < 24; omega⟩, ⟨ho.1, by show one < 24; omega⟩, g9, g10, g11,
    fun _ => ⟨y1, y2, y3, y4, y5, fun _ => ⟨hz, ho⟩, fun _ z => absurd (show (1 : Int) = 0 from z) (by decide), fun z _ => by
      rcases h9 with h9 | h9
      · exact h9.2.2
      · exact absurd (show i9 = 1 from z) (by omega)⟩⟩
theorem INV.draw {σ : St} {c : Int} (v : INV σ) (hs : σ.g.b = 1 ∧ σ.g.s = 1) (hc : 0 ≤ c ∧ c < (σ.p : Int)) : INV (σ.sg (σ.g.b, 0, σ.g.i, ln σ.p σ.g.z σ.g.o c, σ.g.r + 1, σ.g.z, σ.g.o, bnd σ.p σ.g.l σ.g.r c, σ.g.tbl, σ.g.dr.set σ.g.r c)) := by
  have hp := PRb v.p
  obtain ⟨g1, g2, g3, g4, g5, g6, g7, g8, g9, g10, g11, g12⟩ := v.g
  obtain ⟨y1, y2, y3, y4, y5, y6, y7, y8⟩ := g12 hs.1
  have r2 := g5 hs.2
  have lb : 0 ≤ ln σ.p σ.g.z σ.g.o c ∧ ln σ.p σ.g.z σ.g.o c < (σ.p : Int) := modb (by omega)
  have bF : Fl (σ.p : Int) (bnd σ.p σ.g.l σ.g.r c) := bnd_F (by omega) y2
  refine v.sg ⟨g1, Or.inl rfl, g3, by show σ.g.r + 1 ≤ 3; omega, fun z => absurd (show (0 : Int) = 1 from z) (by decide), ⟨lb.1, by show ln σ.p σ.g.z σ.g.o c < 24; omega⟩, g7, g8, bF.1, g10, by show (σ.g.dr.set σ.g.r c).length = 3; rw [List.length_set]; exact g11,
    fun _ => ⟨lb, bF, y3, fun j hj => ?_, ?_, fun z => absurd (show (0 : Int) = 1 from z) (by decide), fun z _ => ?_, fun _ z => absurd (show (0 : Int) = 1 from z) (by decide)⟩⟩
  · have hj : j < σ.g.r + 1 := hj
    show 0 ≤ (σ.g.dr.set σ.g.r c).getD j 0 ∧ (σ.g.dr.set σ.g.r c).getD j 0 < (σ.p : Int)
    by_cases e : j = σ.g.r
    · rw [e, gset_e (by omega)]; exact hc
    · rw [gset_n e]; exact y4 j (by omega)
  · show bnd σ.p σ.g.l σ.g.r c = bnd σ.p (bnds σ.p σ.g.tbl (σ.g.dr.set σ.g.r c) σ.g.r) σ.g.r ((σ.g.dr.set σ.g.r c).getD σ.g.r 0)
    rw [gset_e (by omega), bnds_congr (dr := σ.g.dr) σ.g.r (fun j hj => gset_n (by omega)), ← y5]
  · have q := y8 z hs.2
    show ln σ.p σ.g.z σ.g.o c = cr σ.p (bnd σ.p σ.g.l σ.g.r c) (σ.g.r + 1)
    rw [q.1, q.2, cr_bnd g9 r2]
theorem INV.gate {σ : St} {kind a b c : Int} (v : INV σ) (h1 : inb a 8 ∧ (kind = 0 ∨ kind = 1 → inb b 8 ∧ inb c 8) ∧ (kind = 4 → inb b 8)) (h2 : inb kind 5 ∧ (kind = 2 → inb b σ.p)) (h3 : σ.G.n < 8) : INV (σ.sG (σ.G.n + 1, σ.G.k.set σ.G.n kind, σ.G.a.set σ.G.n a, σ.G.b.set σ.G.n b, σ.G.c.set σ.G.n c)) := by
  obtain ⟨k1, ⟨l1, l2, l3, l4⟩, k3⟩ := v.G
  refine v.sG ⟨by show σ.G.n + 1 ≤ 8; omega, ⟨by show (σ.G.k.set σ.G.n kind).length = 8; rw [List.length_set]; exact l1, by show (σ.G.a.set σ.G.n a).length = 8; rw [List.length_set]; exact l2, by show (σ.G.b.set σ.G.n b).length = 8; rw [List.length_set]; exact l3, by show (σ.G.c.set σ.G.n c).length = 8; rw [List.length_set]; exact l4⟩, fun i hi => ?_⟩
  have hi : i < σ.G.n + 1 := hi
  show gok (σ.p : Int) ((σ.G.k.set σ.G.n kind).getD i 0) ((σ.G.a.set σ.G.n a).getD i 0) ((σ.G.b.set σ.G.n b).getD i 0) ((σ.G.c.set σ.G.n c).getD i 0)
  by_cases e : i = σ.G.n
  · subst e
    rw [gset_e (by omega), gset_e (by omega), gset_e (by omega), gset_e (by omega)]
    exact ⟨by omega, by omega, h1.2.1, h2.2, h1.2.2⟩
  · rw [gset_n e, gset_n e, gset_n e, gset_n e]
    exact k3 i (by omega)
theorem INV.ungate {σ : St} (v : INV σ) : INV (σ.sG (0, σ.G.k, σ.G.a, σ.G.b, σ.G.c)) := v.sG ⟨Nat.zero_le 8, v.G.2.1, fun i hi => absurd hi (Nat.not_lt_zero i)⟩
/-! the ledger -/
def nzl (l : List Int) (i : Nat) : Int := if l.getD i 0 = -1 then 0 else l.getD i 0
theorem stnd_nzl {p : Nat} {l : List Int} {n : Nat} : stnd p (gf l) n = sm (nzl l) n % (p : Int) := rfl
theorem nzl_e {l : List Int} {n : Nat} {v : Int} (h : n < l.length) (hv : v ≠ -1) : nzl (l.set n v) n = v := by unfold nzl; rw [gset_e h, if_neg hv]
theorem nzl_m {l : List Int} {n : Nat} (h : n < l.length) : nzl (l.set n (-1)) n = 0 := by unfold nzl; rw [gset_e h, if_pos rfl]
theorem nzl_n {l : List Int} {n j : Nat} {v : Int} (h : j ≠ n) : nzl (l.set n v) j = nzl l j := by unfold nzl; rw [gset_n h]
theorem nzl_i {l : List Int} {n : Nat} (h : l.getD n 0 ≠ -1) : nzl l n = l.getD n 0 := if_neg h
theorem sm_upd {f g : Nat → Int} {k : Nat} : ∀ n, k < n → (∀ j, j ≠ k → f j = g j) → sm f n = sm g n - g k + f k
  | 0, h, _ => absurd h (Nat.not_lt_zero k)
  | n + 1, h, e => by
    show sm f n + f n = sm g n + g n - g k + f k
    by_cases q : k = n
    · subst q
      rw [sm_congr k (fun j hj => e j (by omega))]
      omega
    · rw [sm_upd n (by omega) e, e n (by omega)]
      omega
theorem led_a {l : List Int} {p : Nat} {n : Nat} {e : Int} (hl : l.length = 16) (hn : n < 16) (he : 0 ≤ e ∧ e < (p : Int)) (h : ∀ i, i < n → l.getD i 0 = -1 ∨ (0 ≤ l.getD i 0 ∧ l.getD i 0 < p)) : ∀ i, i < n + 1 → (l.set n e).getD i 0 = -1 ∨ (0 ≤ (l.set n e).getD i 0 ∧ (l.set n e).getD i 0 < p) := by
  intro i hi
  by_cases q : i = n
  · rw [q, gset_e (by omega)]; exact Or.inr he
  · rw [gset_n q]; exact h i (by omega)
theorem led_b {l g : List Int} {p n : Nat} {e : Int} (hl : l.length = 16) (hg : g.length = 16) (hn : n < 16) (he : 0 ≤ e ∧ e < (p : Int)) (h : ∀ i, i < n → g.getD i 0 = nv p (l.getD i 0)) : ∀ i, i < n + 1 → (g.set n (MM p e)).getD i 0 = nv p ((l.set n e).getD i 0) := by
  intro i hi
  by_cases q : i = n
  · rw [q, gset_e (by omega), gset_e (by omega)]
    unfold nv
    rw [if_neg (by omega)]
  · rw [gset_n q, gset_n q]; exact h i (by omega)
theorem led_c {l : List Int} {p : Nat} {n k : Nat} (hl : l.length = 16) (hk : k < 16) (h : ∀ i, i < n → l.getD i 0 = -1 ∨ (0 ≤ l.getD i 0 ∧ l.getD i 0 < p)) : ∀ i, i < n → (l.set k (-1)).getD i 0 = -1 ∨ (0 ≤ (l.set k (-1)).getD i 0 ∧ (l.set k (-1)).getD i 0 < p) := by
  intro i hi
  by_cases q : i = k
  · rw [q, gset_e (by omega)]; exact Or.inl rfl
  · rw [gset_n q]; exact h i hi
theorem led_d {l g : List Int} {p n k : Nat} (hl : l.length = 16) (hg : g.length = 16) (hk : k < 16) (h : ∀ i, i < n → g.getD i 0 = nv p (l.getD i 0)) : ∀ i, i < n → (g.set k 0).getD i 0 = nv p ((l.set k (-1)).getD i 0) := by
  intro i hi
  by_cases q : i = k
  · rw [q, gset_e (by omega), gset_e (by omega)]
    rfl
  · rw [gset_n q, gset_n q]; exact h i hi
theorem INV.mint {σ : St} {e : Int} (v : INV σ) (hn : σ.L.n + 1 ≤ 16) (he : 0 ≤ e ∧ e < (σ.p : Int)) : INV (σ.sL (σ.L.n + 1, (σ.L.mi + e) % (σ.p : Int), σ.L.pa, σ.L.nn.set σ.L.n e, σ.L.gl.set σ.L.n (MM σ.p e))) := by
  have hp := PRb v.p
  obtain ⟨l1, l2, l3, l4, l5, l6, l7⟩ := v.L
  refine v.sL ⟨hn, by show (σ.L.nn.set σ.L.n e).length = 16; rw [List.length_set]; exact l2, by show (σ.L.gl.set σ.L.n (MM σ.p e)).length = 16; rw [List.length_set]; exact l3, led_a l2 (by omega) he l4, led_b l2 l3 (by omega) he l5, l6, ?_⟩
  show (σ.L.mi + e) % (σ.p : Int) = (stnd σ.p (gf (σ.L.nn.set σ.L.n e)) (σ.L.n + 1) + σ.L.pa) % (σ.p : Int)
  rw [l7, stnd_nzl, stnd_nzl]
  show _ = ((sm (nzl (σ.L.nn.set σ.L.n e)) σ.L.n + nzl (σ.L.nn.set σ.L.n e) σ.L.n) % (σ.p : Int) + σ.L.pa) % (σ.p : Int)
  rw [nzl_e (by omega) (by omega), sm_congr (g := nzl σ.L.nn) σ.L.n (fun j hj => nzl_n (by omega)), am_l, am_l]
  obtain ⟨x, hx⟩ := emx (a := sm (nzl σ.L.nn) σ.L.n) (p := (σ.p : Int))
  rw [hx]
  exact emq (-x) (by grind)
theorem INV.pay {σ : St} {k : Nat} (v : INV σ) (hk : k < σ.L.n) (hu : ¬ σ.L.nn.getD k 0 = -1) : INV (σ.sL (σ.L.n, σ.L.mi, (σ.L.pa + σ.L.nn.getD k 0) % (σ.p : Int), σ.L.nn.set k (-1), σ.L.gl.set k 0)) := by
  have hp := PRb v.p
  obtain ⟨l1, l2, l3, l4, l5, l6, l7⟩ := v.L
  refine v.sL ⟨l1, by show (σ.L.nn.set k (-1)).length = 16; rw [List.length_set]; exact l2, by show (σ.L.gl.set k 0).length = 16; rw [List.length_set]; exact l3, led_c l2 (by omega) l4, led_d l2 l3 (by omega) l5, modb (by omega), ?_⟩
  show σ.L.mi = (stnd σ.p (gf (σ.L.nn.set k (-1))) σ.L.n + (σ.L.pa + σ.L.nn.getD k 0) % (σ.p : Int)) % (σ.p : Int)
  rw [l7, stnd_nzl, stnd_nzl, sm_upd (g := nzl σ.L.nn) σ.L.n hk (fun j hj => nzl_n hj), nzl_m (by omega), nzl_i hu]
  obtain ⟨x, hx⟩ := emx (a := sm (nzl σ.L.nn) σ.L.n) (p := (σ.p : Int))
  obtain ⟨y, hy⟩ := emx (a := sm (nzl σ.L.nn) σ.L.n - σ.L.nn.getD k 0 + 0) (p := (σ.p : Int))
  obtain ⟨z, hz⟩ := emx (a := σ.L.pa + σ.L.nn.getD k 0) (p := (σ.p : Int))
  rw [hx, hy, hz]
  exact emq (y + z - x) (by grind)
theorem INV.split {σ : St} {k : Nat} {e : Int} (v : INV σ) (hk : k < σ.L.n) (hu : ¬ σ.L.nn.getD k 0 = -1) (hn : σ.L.n + 2 ≤ 16) (he : 0 ≤ e ∧ e < (σ.p : Int)) : INV (σ.sL (σ.L.n + 2, σ.L.mi, σ.L.pa, ((σ.L.nn.set k (-1)).set σ.L.n e).set (σ.L.n + 1) ((σ.L.nn.getD k 0 - e) % (σ.p : Int)), ((σ.L.gl.set k 0).set σ.L.n (MM σ.p e)).set (σ.L.n + 1) (MM σ.p ((σ.L.nn.getD k 0 - e) % (σ.p : Int))))) := by
  have hp := PRb v.p
  obtain ⟨l1, l2, l3, l4, l5, l6, l7⟩ := v.L
  have s1 : (σ.L.nn.set k (-1)).length = 16 := by rw [List.length_set]; exact l2
  have s2 : ((σ.L.nn.set k (-1)).set σ.L.n e).length = 16 := by rw [List.length_set]; exact s1
  have t1 : (σ.L.gl.set k 0).length = 16 := by rw [List.length_set]; exact l3
  have t2 : ((σ.L.gl.set k 0).set σ.L.n (MM σ.p e)).length = 16 := by rw [List.length_set]; exact t1
  have z := modb (z := σ.L.nn.getD k 0 - e) (p := (σ.p : Int)) (by omega)
  refine v.sL ⟨hn, by show (List.set _ _ _).length = 16; rw [List.length_set]; exact s2, by show (List.set _ _ _).length = 16; rw [List.length_set]; exact t2, led_a s2 (by omega) z (led_a s1 (by omega) he (led_c l2 (by omega) l4)), led_b s2 t2 (by omega) z (led_b s1 t1 (by omega) he (led_d l2 l3 (by omega) l5)), l6, ?_⟩
  show σ.L.mi = (stnd σ.p (gf (((σ.L.nn.set k (-1)).set σ.L.n e).set (σ.L.n + 1) ((σ.L.nn.getD k 0 - e) % (σ.p : Int)))) (σ.L.n + 2) + σ.L.pa) % (σ.p : Int)
  rw [l7, stnd_nzl, stnd_nzl]
  show _ = ((sm (nzl (((σ.L.nn.set k (-1)).set σ.L.n e).set (σ.L.n + 1) ((σ.L.nn.getD k 0 - e) % (σ.p : Int)))) σ.L.n + nzl (((σ.L.nn.set k (-1)).set σ.L.n e).set (σ.L.n + 1) ((σ.L.nn.getD k 0 - e) % (σ.p : Int))) σ.L.n + nzl (((σ.L.nn.set k (-1)).set σ.L.n e).set (σ.L.n + 1) ((σ.L.nn.getD k 0 - e) % (σ.p : Int))) (σ.L.n + 1)) % (σ.p : Int) + σ.L.pa) % (σ.p : Int)
  rw [nzl_e (n := σ.L.n + 1) (by omega) (by omega), nzl_n (n := σ.L.n + 1) (j := σ.L.n) (by omega), nzl_e (by omega) (by omega), sm_congr (g := nzl (σ.L.nn.set k (-1))) σ.L.n (fun j hj => (nzl_n (by omega)).trans (nzl_n (by omega))), sm_upd (g := nzl σ.L.nn) σ.L.n hk (fun j hj => nzl_n hj), nzl_m (by omega), nzl_i hu]
  obtain ⟨x, hx⟩ := emx (a := sm (nzl σ.L.nn) σ.L.n) (p := (σ.p : Int))
  obtain ⟨y, hy⟩ := emx (a := σ.L.nn.getD k 0 - e) (p := (σ.p : Int))
  rw [hx, hy, am_l]
  exact emq (y - x) (by grind)
theorem INV.merge {σ : St} {k m : Nat} (v : INV σ) (hk : k < σ.L.n) (hm : m < σ.L.n) (hkm : k ≠ m) (hu : ¬ σ.L.nn.getD k 0 = -1) (hw : ¬ σ.L.nn.getD m 0 = -1) (hn : σ.L.n + 1 ≤ 16) : INV (σ.sL (σ.L.n + 1, σ.L.mi, σ.L.pa, ((σ.L.nn.set k (-1)).set m (-1)).set σ.L.n ((σ.L.nn.getD k 0 + σ.L.nn.getD m 0) % (σ.p : Int)), ((σ.L.gl.set k 0).set m 0).set σ.L.n (MM σ.p ((σ.L.nn.getD k 0 + σ.L.nn.getD m 0) % (σ.p : Int))))) := by
  have hp := PRb v.p
  obtain ⟨l1, l2, l3, l4, l5, l6, l7⟩ := v.L
  have s1 : (σ.L.nn.set k (-1)).length = 16 := by rw [List.length_set]; exact l2
  have s2 : ((σ.L.nn.set k (-1)).set m (-1)).length = 16 := by rw [List.length_set]; exact s1
  have t1 : (σ.L.gl.set k 0).length = 16 := by rw [List.length_set]; exact l3
  have t2 : ((σ.L.gl.set k 0).set m 0).length = 16 := by rw [List.length_set]; exact t1
  have z := modb (z := σ.L.nn.getD k 0 + σ.L.nn.getD m 0) (p := (σ.p : Int)) (by omega)
  refine v.sL ⟨hn, by show (List.set _ _ _).length = 16; rw [List.length_set]; exact s2, by show (List.set _ _ _).length = 16; rw [List.length_set]; exact t2, led_a s2 (by omega) z (led_c s1 (by omega) (led_c l2 (by omega) l4)), led_b s2 t2 (by omega) z (led_d s1 t1 (by omega) (led_d l2 l3 (by omega) l5)), l6, ?_⟩
  show σ.L.mi = (stnd σ.p (gf (((σ.L.nn.set k (-1)).set m (-1)).set σ.L.n ((σ.L.nn.getD k 0 + σ.L.nn.getD m 0) % (σ.p : Int)))) (σ.L.n + 1) + σ.L.pa) % (σ.p : Int)
  rw [l7, stnd_nzl, stnd_nzl]
  show _ = ((sm (nzl (((σ.L.nn.set k (-1)).set m (-1)).set σ.L.n ((σ.L.nn.getD k 0 + σ.L.nn.getD m 0) % (σ.p : Int)))) σ.L.n + nzl (((σ.L.nn.set k (-1)).set m (-1)).set σ.L.n ((σ.L.nn.getD k 0 + σ.L.nn.getD m 0) % (σ.p : Int))) σ.L.n) % (σ.p : Int) + σ.L.pa) % (σ.p : Int)
  rw [nzl_e (by omega) (by omega), sm_congr (g := nzl ((σ.L.nn.set k (-1)).set m (-1))) σ.L.n (fun j hj => nzl_n (by omega)), sm_upd (g := nzl (σ.L.nn.set k (-1))) σ.L.n hm (fun j hj => nzl_n hj), nzl_m (by omega), nzl_n (n := k) (j := m) (Ne.symm hkm), sm_upd (g := nzl σ.L.nn) σ.L.n hk (fun j hj => nzl_n hj), nzl_m (by omega), nzl_i hu, nzl_i hw]
  obtain ⟨x, hx⟩ := emx (a := sm (nzl σ.L.nn) σ.L.n) (p := (σ.p : Int))
  obtain ⟨y, hy⟩ := emx (a := σ.L.nn.getD k 0 + σ.L.nn.getD m 0) (p := (σ.p : Int))
  rw [hx, hy, am_l]
  exact emq (y - x) (by grind)
