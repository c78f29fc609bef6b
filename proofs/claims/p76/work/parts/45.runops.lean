theorem no_le {a b : Nat} {P : Prop} (h : a ≤ b) (q : Nat.ble a b = false) : P := by rw [Nat.ble_eq_true_of_le h] at q; cases q
def rBegin (R : RS) (e v : Int) (l : List Int) : RS := (1, e, v, R.fa, R.w, R.c, R.t, R.mb, false, false, l, R.mask, R.answer)
def rOpen (p : Nat) (R : RS) (l : List Int) (b : Int) : RS := (2, R.e, R.v, cm p l b, inn R.form l % (p : Int), R.c, R.t, b, true, R.rt, R.form, l, R.answer)
def rSay (R : RS) (a w : Int) : RS := (2, R.e, R.v, a, w, R.c, R.t, R.mb, R.mk, R.rt, R.form, R.mask, R.answer)
def rDare (R : RS) (c : Int) : RS := (3, R.e, R.v, R.fa, R.w, c, R.t, R.mb, R.mk, R.rt, R.form, R.mask, R.answer)
def rReply (p : Nat) (R : RS) (l : List Int) (b : Int) (rt : Bool) : RS := (4, R.e, R.v, R.fa, R.w, R.c, (R.mb + R.c * b) % (p : Int), R.mb, R.mk, rt, R.form, R.mask, tab (fun j => (R.mask.getD j 0 + R.c * l.getD j 0) % (p : Int)) 8)
def rTell (R : RS) (l : List Int) (t : Int) : RS := (4, R.e, R.v, R.fa, R.w, R.c, t, R.mb, R.mk, R.rt, R.form, R.mask, l)
def rSim (p : Nat) (R : RS) (c : Int) (l : List Int) (t : Int) : RS := (4, R.e, R.v, (cm p l t - c * R.e) % (p : Int), (inn R.form l - c * R.v) % (p : Int), c, t, R.mb, R.mk, R.rt, R.form, R.mask, l)
def rNone (R : RS) : RS := (0, R.e, R.v, R.fa, R.w, R.c, R.t, R.mb, false, false, R.form, R.mask, R.answer)
theorem rNone_raw {p : Nat} {R : RS} : (rNone R).raw p = (-1, -1, -1, -1, -1, -1, -1, 0) := rfl
theorem rBegin_raw {p : Nat} {R : RS} {e v : Int} {l : List Int} : (rBegin R e v l).raw p = (MM p e, v, -1, -1, -1, -1, -1, 0) := rfl
theorem rOpen_raw {p : Nat} {R : RS} {l : List Int} {b : Int} (h : R.st = 1) : (rOpen p R l b).raw p = (R.y p, R.vv, MM p (cm p l b), inn R.form l % (p : Int), R.cc, R.tt, b, R.rr) := by
  rw [RS.y1 (p := p) (R := R) (by omega), RS.v1 (R := R) (by omega), show R.cc = -1 from if_neg (by omega), show R.tt = -1 from if_neg (by omega)]
  rfl
theorem rSay_raw {p : Nat} {R : RS} {a w : Int} (h : R.st = 1) : (rSay R a w).raw p = (R.y p, R.vv, MM p a, w, R.cc, R.tt, R.mm, R.rr) := by
  rw [RS.y1 (p := p) (R := R) (by omega), RS.v1 (R := R) (by omega), show R.cc = -1 from if_neg (by omega), show R.tt = -1 from if_neg (by omega)]
  rfl
theorem rDare_raw {p : Nat} {R : RS} {c : Int} (h : R.st = 2) : (rDare R c).raw p = (R.y p, R.vv, R.a p, R.ww, c, R.tt, R.mm, R.rr) := by
  rw [RS.y1 (p := p) (R := R) (by omega), RS.v1 (R := R) (by omega), RS.a1 (p := p) (R := R) (by omega), RS.w1 (R := R) (by omega), show R.tt = -1 from if_neg (by omega)]
  rfl
theorem rReply_raw {p : Nat} {R : RS} {l : List Int} {b : Int} {rt : Bool} (h : R.st = 3) : (rReply p R l b rt).raw p = (R.y p, R.vv, R.a p, R.ww, R.cc, (R.mb + R.c * b) % (p : Int), R.mm, if rt = true then 1 else 0) := by
  rw [RS.y1 (p := p) (R := R) (by omega), RS.v1 (R := R) (by omega), RS.a1 (p := p) (R := R) (by omega), RS.w1 (R := R) (by omega), RS.c1 (R := R) (by omega)]
  rfl
theorem rTell_raw {p : Nat} {R : RS} {l : List Int} {t : Int} (h : R.st = 3) : (rTell R l t).raw p = (R.y p, R.vv, R.a p, R.ww, R.cc, t, R.mm, R.rr) := by
  rw [RS.y1 (p := p) (R := R) (by omega), RS.v1 (R := R) (by omega), RS.a1 (p := p) (R := R) (by omega), RS.w1 (R := R) (by omega), RS.c1 (R := R) (by omega)]
  rfl
theorem rSim_raw {p : Nat} {R : RS} {l : List Int} {c t : Int} (h : R.st = 1) : (rSim p R c l t).raw p = (R.y p, R.vv, MM p ((cm p l t - c * R.e) % (p : Int)), (inn R.form l - c * R.v) % (p : Int), c, t, R.mm, R.rr) := by
  rw [RS.y1 (p := p) (R := R) (by omega), RS.v1 (R := R) (by omega)]
  rfl
theorem nort {p : Nat} {R : RS} (k : okRun p R) (h : R.st ≠ 4) : R.rt = true → False := fun q => h (k.2.1 q).1
theorem nomk {p : Nat} {R : RS} (k : okRun p R) (h : R.st ≤ 1) : R.mk = true → False := fun q => by have := (k.1.mk q).1; omega
theorem rNone_ok {p q : Nat} {R : RS} (k : okRun q R) : okRun p (rNone R) :=
  ⟨⟨Nat.zero_le 4, fun h => (by first | exact no_le h rfl | exact Bool.noConfusion (show false = true from h)), fun h => (by first | exact no_le h rfl | exact Bool.noConfusion (show false = true from h)), fun h => (by first | exact no_le h rfl | exact Bool.noConfusion (show false = true from h)), fun h => (by first | exact no_le h rfl | exact Bool.noConfusion (show false = true from h)), fun h => (by first | exact no_le h rfl | exact Bool.noConfusion (show false = true from h)), fun h => (by first | exact no_le h rfl | exact Bool.noConfusion (show false = true from h)), fun h => (by first | exact no_le h rfl | exact Bool.noConfusion (show false = true from h)), fun h => (by first | exact no_le h rfl | exact Bool.noConfusion (show false = true from h)), fun h => (by first | exact no_le h rfl | exact Bool.noConfusion (show false = true from h)), k.1.f24, k.1.m24, k.1.a24⟩, fun h => (by first | exact no_le h rfl | exact Bool.noConfusion (show false = true from h)), fun h => (by first | exact no_le h rfl | exact Bool.noConfusion (show false = true from h))⟩
theorem rBegin_ok {p : Nat} {R : RS} {e v : Int} {l : List Int} (hp : p < 24) (k : okRun p R) (he : 0 ≤ e ∧ e < p) (hv : 0 ≤ v ∧ v < p) (hl : Fl (p : Int) l) : okRun p (rBegin R e v l) :=
  ⟨⟨(by decide : (1 : Nat) ≤ 4), fun _ => he, fun _ => hv, fun _ => hl, fun h => (by first | exact no_le h rfl | exact Bool.noConfusion (show false = true from h)), fun h => (by first | exact no_le h rfl | exact Bool.noConfusion (show false = true from h)), fun h => (by first | exact no_le h rfl | exact Bool.noConfusion (show false = true from h)), fun h => (by first | exact no_le h rfl | exact Bool.noConfusion (show false = true from h)), fun h => (by first | exact no_le h rfl | exact Bool.noConfusion (show false = true from h)), fun h => (by first | exact no_le h rfl | exact Bool.noConfusion (show false = true from h)), hl.mono (by omega), k.1.m24, k.1.a24⟩, fun h => (by first | exact no_le h rfl | exact Bool.noConfusion (show false = true from h)), fun h => (by first | exact no_le h rfl | exact Bool.noConfusion (show false = true from h))⟩
theorem rOpen_ok {p : Nat} {R : RS} {l : List Int} {b : Int} (hp : 2 < p ∧ p < 24) (k : okRun p R) (h1 : R.st = 1) (hb : 0 ≤ b ∧ b < p) (hl : Fl (p : Int) l) : okRun p (rOpen p R l b) :=
  ⟨⟨(by decide : (2 : Nat) ≤ 4), fun _ => k.1.e (by omega), fun _ => k.1.v (by omega), fun _ => k.1.f (by omega), fun _ => cm_b hp.1, fun _ => modb (by omega), fun h => (by first | exact no_le h rfl | exact Bool.noConfusion (show false = true from h)), fun h => (by first | exact no_le h rfl | exact Bool.noConfusion (show false = true from h)), fun h => (by first | exact no_le h rfl | exact Bool.noConfusion (show false = true from h)), fun _ => ⟨Nat.le_refl 2, hb, hl⟩, k.1.f24, hl.mono (by omega), k.1.a24⟩, fun h => (nort k (by omega) h).elim, fun _ => ⟨rfl, rfl⟩⟩
theorem rSay_ok {p : Nat} {R : RS} {a w : Int} (k : okRun p R) (h1 : R.st = 1) (ha : 0 ≤ a ∧ a < p) (hw : 0 ≤ w ∧ w < p) : okRun p (rSay R a w) :=
  ⟨⟨(by decide : (2 : Nat) ≤ 4), fun _ => k.1.e (by omega), fun _ => k.1.v (by omega), fun _ => k.1.f (by omega), fun _ => ha, fun _ => hw, fun h => (by first | exact no_le h rfl | exact Bool.noConfusion (show false = true from h)), fun h => (by first | exact no_le h rfl | exact Bool.noConfusion (show false = true from h)), fun h => (by first | exact no_le h rfl | exact Bool.noConfusion (show false = true from h)), fun h => (nomk k (by omega) h).elim, k.1.f24, k.1.m24, k.1.a24⟩, fun h => (nort k (by omega) h).elim, fun h => (nomk k (by omega) h).elim⟩
theorem rDare_ok {p : Nat} {R : RS} {c : Int} (k : okRun p R) (h1 : R.st = 2) (hc : 0 ≤ c ∧ c < p) : okRun p (rDare R c) :=
  ⟨⟨(by decide : (3 : Nat) ≤ 4), fun _ => k.1.e (by omega), fun _ => k.1.v (by omega), fun _ => k.1.f (by omega), fun _ => k.1.fa (by omega), fun _ => k.1.w (by omega), fun _ => hc, fun h => (by first | exact no_le h rfl | exact Bool.noConfusion (show false = true from h)), fun h => (by first | exact no_le h rfl | exact Bool.noConfusion (show false = true from h)), fun h => ⟨(by decide : (2 : Nat) ≤ 3), (k.1.mk h).2⟩, k.1.f24, k.1.m24, k.1.a24⟩, fun h => (nort k (by omega) h).elim, k.2.2⟩
theorem rTell_ok {p : Nat} {R : RS} {l : List Int} {t : Int} (hp : p < 24) (k : okRun p R) (h1 : R.st = 3) (ht : 0 ≤ t ∧ t < p) (hl : Fl (p : Int) l) : okRun p (rTell R l t) :=
  ⟨⟨Nat.le_refl 4, fun _ => k.1.e (by omega), fun _ => k.1.v (by omega), fun _ => k.1.f (by omega), fun _ => k.1.fa (by omega), fun _ => k.1.w (by omega), fun _ => k.1.c (by omega), fun _ => ht, fun _ => hl, fun h => ⟨(by decide : (2 : Nat) ≤ 4), (k.1.mk h).2⟩, k.1.f24, k.1.m24, hl.mono (by omega)⟩, fun h => (nort k (by omega) h).elim, k.2.2⟩
theorem rSim_ok {p : Nat} {R : RS} {l : List Int} {c t : Int} (hp : 2 < p ∧ p < 24) (k : okRun p R) (h1 : R.st = 1) (hc : 0 ≤ c ∧ c < p) (ht : 0 ≤ t ∧ t < p) (hl : Fl (p : Int) l) : okRun p (rSim p R c l t) :=
  ⟨⟨Nat.le_refl 4, fun _ => k.1.e (by omega), fun _ => k.1.v (by omega), fun _ => k.1.f (by omega), fun _ => modb (by omega), fun _ => modb (by omega), fun _ => hc, fun _ => ht, fun _ => hl, fun h => (nomk k (by omega) h).elim, k.1.f24, k.1.m24, hl.mono (by omega)⟩, fun h => (nort k (by omega) h).elim, fun h => (nomk k (by omega) h).elim⟩
/-- sums of rows that were mixed modulo p -/
theorem sm_lin {p c : Int} {k a b : Nat → Int} : ∀ n, ∃ q, sm (fun j => k j * ((a j + c * b j) % p)) n = sm (fun j => k j * a j) n + c * sm (fun j => k j * b j) n - p * q
  | 0 => ⟨0, by show (0 : Int) = 0 + c * 0 - p * 0; omega⟩
  | n + 1 => by
    obtain ⟨q, hq⟩ := sm_lin (p := p) (c := c) (k := k) (a := a) (b := b) n
    obtain ⟨y, hy⟩ := emx (a := a n + c * b n) (p := p)
    refine ⟨q + k n * y, ?_⟩
    show sm (fun j => k j * ((a j + c * b j) % p)) n + k n * ((a n + c * b n) % p) = (sm (fun j => k j * a j) n + k n * a n) + c * (sm (fun j => k j * b j) n + k n * b n) - p * (q + k n * y)
    rw [hq, hy]
    grind
theorem rReply_acc {p : Nat} {R : RS} {l : List Int} {b : Int} (k : okRun p R) (h3 : R.st = 3) (hm : R.mk = true) (hs : suit p R l b) : acc p (rReply p R l b true) := by
  obtain ⟨m1, m2⟩ := k.2.2 hm
  obtain ⟨-, s2, s3⟩ := hs
  refine ⟨rfl, ?_, ?_⟩
  · show cm p (tab (fun j => (R.mask.getD j 0 + R.c * l.getD j 0) % (p : Int)) 8) ((R.mb + R.c * b) % (p : Int)) = (R.fa + R.c * R.e) % (p : Int)
    rw [m1, ← s2]
    unfold cm wt
    rw [sm_congr (g := fun j => (bs p j : Int) * ((R.mask.getD j 0 + R.c * l.getD j 0) % (p : Int))) 8 (fun j hj => by rw [tab_get _ hj])]
    obtain ⟨q, hq⟩ := sm_lin (p := (p : Int)) (c := R.c) (k := fun j => (bs p j : Int)) (a := fun j => R.mask.getD j 0) (b := fun j => l.getD j 0) 8
    obtain ⟨x, hx⟩ := emx (a := R.mb + R.c * b) (p := (p : Int))
    obtain ⟨y, hy⟩ := emx (a := sm (fun i => (bs p i : Int) * R.mask.getD i 0) 8 + (bs p 8 : Int) * R.mb) (p := (p : Int))
    obtain ⟨z, hz⟩ := emx (a := sm (fun i => (bs p i : Int) * l.getD i 0) 8 + (bs p 8 : Int) * b) (p := (p : Int))
    rw [hq, hx, hy, hz]
    generalize sm (fun i => (bs p i : Int) * R.mask.getD i 0) 8 = A
    generalize sm (fun i => (bs p i : Int) * l.getD i 0) 8 = B
    exact emq (-q - (bs p 8 : Int) * x + y + R.c * z) (by grind)
  · show inn R.form (tab (fun j => (R.mask.getD j 0 + R.c * l.getD j 0) % (p : Int)) 8) % (p : Int) = (R.w + R.c * R.v) % (p : Int)
    rw [m2, ← s3]
    unfold inn
    rw [sm_congr (g := fun j => R.form.getD j 0 * ((R.mask.getD j 0 + R.c * l.getD j 0) % (p : Int))) 8 (fun j hj => by rw [tab_get _ hj]), am_l, ← am_r, ml_r, am_r]
    obtain ⟨q, hq⟩ := sm_lin (p := (p : Int)) (c := R.c) (k := fun j => R.form.getD j 0) (a := fun j => R.mask.getD j 0) (b := fun j => l.getD j 0) 8
    rw [hq]
    exact emq (-q) (by grind)
theorem rReply_ok {p : Nat} {R : RS} {l : List Int} {b : Int} {rt : Bool} (hp : 2 < p ∧ p < 24) (k : okRun p R) (h3 : R.st = 3) (hm : R.mk = true) (hr : rt = true → suit p R l b) : okRun p (rReply p R l b rt) :=
  have F : Fl (p : Int) (tab (fun j => (R.mask.getD j 0 + R.c * l.getD j 0) % (p : Int)) 8) := Fl_tab (by omega) (fun _ _ => modb (by omega))
  ⟨⟨Nat.le_refl 4, fun _ => k.1.e (by omega), fun _ => k.1.v (by omega), fun _ => k.1.f (by omega), fun _ => k.1.fa (by omega), fun _ => k.1.w (by omega), fun _ => k.1.c (by omega), fun _ => modb (by omega), fun _ => F, fun h => ⟨(by decide : (2 : Nat) ≤ 4), (k.1.mk h).2⟩, k.1.f24, k.1.m24, F.mono (by omega)⟩, fun h => by have h2 : rt = true := h; subst h2; exact rReply_acc k h3 hm (hr rfl), k.2.2⟩
