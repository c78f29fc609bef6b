theorem sm_lin2 {p V : Int} {k a b : Nat → Int} : ∀ n, ∃ q, sm (fun j => k j * (((a j - b j) * V) % p)) n = V * (sm (fun j => k j * a j) n - sm (fun j => k j * b j) n) - p * q
  | 0 => ⟨0, by show (0 : Int) = V * (0 - 0) - p * 0; omega⟩
  | n + 1 => by
    obtain ⟨q, hq⟩ := sm_lin2 (p := p) (V := V) (k := k) (a := a) (b := b) n
    obtain ⟨y, hy⟩ := emx (a := (a n - b n) * V) (p := p)
    refine ⟨q + k n * y, ?_⟩
    show sm (fun j => k j * (((a j - b j) * V) % p)) n + k n * (((a n - b n) * V) % p) = V * ((sm (fun j => k j * a j) n + k n * a n) - (sm (fun j => k j * b j) n + k n * b n)) - p * (q + k n * y)
    rw [hq, hy]
    grind
theorem id1 {p V A B b8 t t2 fa c c2 e q x y1 y2 z1 z2 u d : Int} (hA : A + b8 * t - p * y1 = fa + c * e - p * z1) (hB : B + b8 * t2 - p * y2 = fa + c2 * e - p * z2) (hu : 1 = (c - c2 - p * d) * V - p * u) : V * (A - B) - p * q + b8 * ((t - t2) * V - p * x) - e = p * (-q - b8 * x + V * (y1 - y2 - z1 + z2) + u * e + d * V * e) := by
  have h1 : A = fa + c * e - p * z1 - b8 * t + p * y1 := by omega
  have h2 : B = fa + c2 * e - p * z2 - b8 * t2 + p * y2 := by omega
  have he : e * 1 = e * ((c - c2 - p * d) * V - p * u) := by rw [← hu]
  subst h1
  subst h2
  clear hA hB hu
  grind
theorem id2 {p V A B w c c2 v q y1 y2 z1 z2 u d : Int} (hA : A - p * y1 = w + c * v - p * z1) (hB : B - p * y2 = w + c2 * v - p * z2) (hu : 1 = (c - c2 - p * d) * V - p * u) : V * (A - B) - p * q - v = p * (-q + V * (y1 - y2 - z1 + z2) + u * v + d * V * v) := by
  have h1 : A = w + c * v - p * z1 + p * y1 := by omega
  have h2 : B = w + c2 * v - p * z2 + p * y2 := by omega
  have he : v * 1 = v * ((c - c2 - p * d) * V - p * u) := by rw [← hu]
  subst h1
  subst h2
  clear hA hB hu
  grind
theorem id3 {p A B b8 t b fa c e q x y1 y2 z1 : Int} (hA : A + b8 * t - p * y1 = fa + c * e - p * z1) (hB : B + b8 * b - p * y2 = e) : A + -c * B - p * q + b8 * (t - c * b - p * x) - fa = p * (-q - b8 * x + y1 - z1 - c * y2) := by
  have h1 : A = fa + c * e - p * z1 - b8 * t + p * y1 := by omega
  have h2 : B = e - b8 * b + p * y2 := by omega
  subst h1
  subst h2
  clear hA hB
  grind
/-- two accepted runs of one first message show the secret -/
theorem fork_suit {p : Nat} {R S : RS} (hp : p ∈ PR) (kR : R.ok p) (kS : S.ok p) (f : fork p R S) : suit p R (tab (fun j => ((R.answer.getD j 0 - S.answer.getD j 0) * (iv p ((R.c - S.c) % (p : Int)).toNat : Int)) % (p : Int)) 8) (((R.t - S.t) * (iv p ((R.c - S.c) % (p : Int)).toNat : Int)) % (p : Int)) := by
  have hb := PRb hp
  obtain ⟨⟨a1, a2, a3⟩, ⟨b1, b2, b3⟩, c1, c2, c3, c4, c5, c6⟩ := f
  have rc := kR.c (by omega)
  have sc := kS.c (by omega)
  have re := kR.e (by omega)
  have rv := kR.v (by omega)
  have db := modb (z := R.c - S.c) (p := (p : Int)) (by omega)
  have dn : (R.c - S.c) % (p : Int) ≠ 0 := fun z => c6 ((sub_m0 rc sc).mp z)
  have hiv := iv_ok hp (a := ((R.c - S.c) % (p : Int)).toNat) (by omega) (by omega)
  obtain ⟨d, hd⟩ := emx (a := R.c - S.c) (p := (p : Int))
  have hV : ((R.c - S.c) % (p : Int)) * (iv p ((R.c - S.c) % (p : Int)).toNat : Int) % (p : Int) = 1 := by
    have h1 : (((((R.c - S.c) % (p : Int)).toNat * iv p ((R.c - S.c) % (p : Int)).toNat % p : Nat)) : Int) = 1 := by rw [hiv.1]; rfl
    rw [Int.natCast_emod, Int.natCast_mul, Int.toNat_of_nonneg db.1] at h1
    exact h1
  generalize (iv p ((R.c - S.c) % (p : Int)).toNat : Int) = V at *
  obtain ⟨u, hu⟩ := emx (a := ((R.c - S.c) % (p : Int)) * V) (p := (p : Int))
  rw [hV, hd] at hu
  refine ⟨by omega, ?_, ?_⟩
  · unfold cm wt at *
    rw [sm_congr (g := fun j => (bs p j : Int) * (((R.answer.getD j 0 - S.answer.getD j 0) * V) % (p : Int))) 8 (fun j hj => by rw [tab_get _ hj])]
    obtain ⟨q, hq⟩ := sm_lin2 (p := (p : Int)) (V := V) (k := fun j => (bs p j : Int)) (a := fun j => R.answer.getD j 0) (b := fun j => S.answer.getD j 0) 8
    obtain ⟨x, hx⟩ := emx (a := (R.t - S.t) * V) (p := (p : Int))
    obtain ⟨y1, hy1⟩ := emx (a := sm (fun i => (bs p i : Int) * R.answer.getD i 0) 8 + (bs p 8 : Int) * R.t) (p := (p : Int))
    obtain ⟨y2, hy2⟩ := emx (a := sm (fun i => (bs p i : Int) * S.answer.getD i 0) 8 + (bs p 8 : Int) * S.t) (p := (p : Int))
    obtain ⟨z1, hz1⟩ := emx (a := R.fa + R.c * R.e) (p := (p : Int))
    obtain ⟨z2, hz2⟩ := emx (a := S.fa + S.c * S.e) (p := (p : Int))
    rw [hy1, hz1] at a2
    rw [hy2, hz2, ← c1, ← c4] at b2
    rw [hq, hx]
    rw [show R.e = R.e % (p : Int) from (Int.emod_eq_of_lt re.1 re.2).symm]
    generalize sm (fun i => (bs p i : Int) * R.answer.getD i 0) 8 = A at *
    generalize sm (fun i => (bs p i : Int) * S.answer.getD i 0) 8 = B at *
    exact emq _ (id1 a2 b2 hu)
  · unfold inn at *
    rw [sm_congr (g := fun j => R.form.getD j 0 * (((R.answer.getD j 0 - S.answer.getD j 0) * V) % (p : Int))) 8 (fun j hj => by rw [tab_get _ hj])]
    obtain ⟨q, hq⟩ := sm_lin2 (p := (p : Int)) (V := V) (k := fun j => R.form.getD j 0) (a := fun j => R.answer.getD j 0) (b := fun j => S.answer.getD j 0) 8
    obtain ⟨y1, hy1⟩ := emx (a := sm (fun i => R.form.getD i 0 * R.answer.getD i 0) 8) (p := (p : Int))
    rw [← c3] at b3
    obtain ⟨y2, hy2⟩ := emx (a := sm (fun i => R.form.getD i 0 * S.answer.getD i 0) 8) (p := (p : Int))
    obtain ⟨z1, hz1⟩ := emx (a := R.w + R.c * R.v) (p := (p : Int))
    obtain ⟨z2, hz2⟩ := emx (a := S.w + S.c * S.v) (p := (p : Int))
    rw [hy1, hz1] at a3
    rw [hy2, hz2, ← c2, ← c5] at b3
    rw [hq]
    rw [show R.v = R.v % (p : Int) from (Int.emod_eq_of_lt rv.1 rv.2).symm]
    generalize sm (fun i => R.form.getD i 0 * R.answer.getD i 0) 8 = A at *
    generalize sm (fun i => R.form.getD i 0 * S.answer.getD i 0) 8 = B at *
    exact emq _ (id2 a3 b3 hu)
/-- a secret that fits an accepted run shows its mask -/
theorem mask_starts {p : Nat} {R : RS} {l : List Int} {b : Int} (hp : 2 < p) (k : R.ok p) (ac : acc p R) (su : suit p R l b) : cm p (tab (fun j => (R.answer.getD j 0 + -R.c * l.getD j 0) % (p : Int)) 8) ((R.t - R.c * b) % (p : Int)) = R.fa ∧ inn R.form (tab (fun j => (R.answer.getD j 0 + -R.c * l.getD j 0) % (p : Int)) 8) % (p : Int) = R.w := by
  obtain ⟨a1, a2, a3⟩ := ac
  obtain ⟨-, s2, s3⟩ := su
  have rf := k.fa (by omega)
  have rw_ := k.w (by omega)
  constructor
  · unfold cm wt at *
    rw [sm_congr (g := fun j => (bs p j : Int) * ((R.answer.getD j 0 + -R.c * l.getD j 0) % (p : Int))) 8 (fun j hj => by rw [tab_get _ hj])]
    obtain ⟨q, hq⟩ := sm_lin (p := (p : Int)) (c := -R.c) (k := fun j => (bs p j : Int)) (a := fun j => R.answer.getD j 0) (b := fun j => l.getD j 0) 8
    obtain ⟨x, hx⟩ := emx (a := R.t - R.c * b) (p := (p : Int))
    obtain ⟨y1, hy1⟩ := emx (a := sm (fun i => (bs p i : Int) * R.answer.getD i 0) 8 + (bs p 8 : Int) * R.t) (p := (p : Int))
    obtain ⟨y2, hy2⟩ := emx (a := sm (fun i => (bs p i : Int) * l.getD i 0) 8 + (bs p 8 : Int) * b) (p := (p : Int))
    obtain ⟨z1, hz1⟩ := emx (a := R.fa + R.c * R.e) (p := (p : Int))
    rw [hy1, hz1] at a2
    rw [hy2] at s2
    rw [hq, hx]
    rw [show R.fa = R.fa % (p : Int) from (Int.emod_eq_of_lt rf.1 rf.2).symm]
    generalize sm (fun i => (bs p i : Int) * R.answer.getD i 0) 8 = A at *
    generalize sm (fun i => (bs p i : Int) * l.getD i 0) 8 = B at *
    exact emq _ (id3 a2 s2)
  · unfold inn at *
    rw [sm_congr (g := fun j => R.form.getD j 0 * ((R.answer.getD j 0 + -R.c * l.getD j 0) % (p : Int))) 8 (fun j hj => by rw [tab_get _ hj])]
    obtain ⟨q, hq⟩ := sm_lin (p := (p : Int)) (c := -R.c) (k := fun j => R.form.getD j 0) (a := fun j => R.answer.getD j 0) (b := fun j => l.getD j 0) 8
    obtain ⟨y1, hy1⟩ := emx (a := sm (fun i => R.form.getD i 0 * R.answer.getD i 0) 8) (p := (p : Int))
    obtain ⟨y2, hy2⟩ := emx (a := sm (fun i => R.form.getD i 0 * l.getD i 0) 8) (p := (p : Int))
    obtain ⟨z1, hz1⟩ := emx (a := R.w + R.c * R.v) (p := (p : Int))
    rw [hy1, hz1] at a3
    rw [hy2] at s3
    rw [hq]
    rw [show R.w = R.w % (p : Int) from (Int.emod_eq_of_lt rw_.1 rw_.2).symm]
    generalize sm (fun i => R.form.getD i 0 * R.answer.getD i 0) 8 = A at *
    generalize sm (fun i => R.form.getD i 0 * l.getD i 0) 8 = B at *
    exact emq (-q + y1 - z1 - R.c * y2) (by grind)
