abbrev Rn : Type := Int × Int × Int × Int × Int × Int × Int × Int
def Rn.y (R : Rn) : Int := R.1
def Rn.v (R : Rn) : Int := R.2.1
def Rn.a (R : Rn) : Int := R.2.2.1
def Rn.w (R : Rn) : Int := R.2.2.2.1
def Rn.c (R : Rn) : Int := R.2.2.2.2.1
def Rn.t (R : Rn) : Int := R.2.2.2.2.2.1
def Rn.mb (R : Rn) : Int := R.2.2.2.2.2.2.1
def Rn.rt (R : Rn) : Int := R.2.2.2.2.2.2.2
def cR (ra : Nat) (R : Rn) : xC := cO 7 [.ref 5, .ref 4, .ref (ra + 1), .ref (ra + 2), .ref (ra + 3), vi R.y, vi R.v, vi R.a, vi R.w, vi R.c, vi R.t, vi R.mb, vi R.rt]
def RS : Type := Nat × Int × Int × Int × Int × Int × Int × Int × Bool × Bool × List Int × List Int × List Int
def RS.st (R : RS) : Nat := R.1
def RS.e (R : RS) : Int := R.2.1
def RS.v (R : RS) : Int := R.2.2.1
def RS.fa (R : RS) : Int := R.2.2.2.1
def RS.w (R : RS) : Int := R.2.2.2.2.1
def RS.c (R : RS) : Int := R.2.2.2.2.2.1
def RS.t (R : RS) : Int := R.2.2.2.2.2.2.1
def RS.mb (R : RS) : Int := R.2.2.2.2.2.2.2.1
def RS.mk (R : RS) : Bool := R.2.2.2.2.2.2.2.2.1
def RS.rt (R : RS) : Bool := R.2.2.2.2.2.2.2.2.2.1
def RS.form (R : RS) : List Int := R.2.2.2.2.2.2.2.2.2.2.1
def RS.mask (R : RS) : List Int := R.2.2.2.2.2.2.2.2.2.2.2.1
def RS.answer (R : RS) : List Int := R.2.2.2.2.2.2.2.2.2.2.2.2
def RS.y (p : Nat) (R : RS) : Int := if 1 ≤ R.st then MM p R.e else -1
def RS.vv (R : RS) : Int := if 1 ≤ R.st then R.v else -1
def RS.a (p : Nat) (R : RS) : Int := if 2 ≤ R.st then MM p R.fa else -1
def RS.ww (R : RS) : Int := if 2 ≤ R.st then R.w else -1
def RS.cc (R : RS) : Int := if 3 ≤ R.st then R.c else -1
def RS.tt (R : RS) : Int := if 4 ≤ R.st then R.t else -1
def RS.mm (R : RS) : Int := if R.mk = true then R.mb else -1
def RS.rr (R : RS) : Int := if R.rt = true then 1 else 0
def RS.raw (p : Nat) (R : RS) : Rn := (R.y p, R.vv, R.a p, R.ww, R.cc, R.tt, R.mm, R.rr)
def RS.ok (p : Nat) (R : RS) : Prop := (R.st ≤ 4) ∧ (1 ≤ R.st → 0 ≤ R.e ∧ R.e < p) ∧ (1 ≤ R.st → 0 ≤ R.v ∧ R.v < p) ∧ (1 ≤ R.st → Fl p R.form) ∧ (2 ≤ R.st → 0 ≤ R.fa ∧ R.fa < p) ∧ (2 ≤ R.st → 0 ≤ R.w ∧ R.w < p) ∧ (3 ≤ R.st → 0 ≤ R.c ∧ R.c < p) ∧ (4 ≤ R.st → 0 ≤ R.t ∧ R.t < p) ∧ (4 ≤ R.st → Fl p R.answer) ∧ (R.mk = true → 2 ≤ R.st ∧ (0 ≤ R.mb ∧ R.mb < p) ∧ Fl p R.mask) ∧ (Fl 24 R.form) ∧ (Fl 24 R.mask) ∧ (Fl 24 R.answer)
theorem RS.ok.s4 {p : Nat} {R : RS} (k : R.ok p) : R.st ≤ 4 := k.1
theorem RS.ok.e {p : Nat} {R : RS} (k : R.ok p) : 1 ≤ R.st → 0 ≤ R.e ∧ R.e < p := k.2.1
theorem RS.ok.v {p : Nat} {R : RS} (k : R.ok p) : 1 ≤ R.st → 0 ≤ R.v ∧ R.v < p := k.2.2.1
theorem RS.ok.f {p : Nat} {R : RS} (k : R.ok p) : 1 ≤ R.st → Fl p R.form := k.2.2.2.1
theorem RS.ok.fa {p : Nat} {R : RS} (k : R.ok p) : 2 ≤ R.st → 0 ≤ R.fa ∧ R.fa < p := k.2.2.2.2.1
theorem RS.ok.w {p : Nat} {R : RS} (k : R.ok p) : 2 ≤ R.st → 0 ≤ R.w ∧ R.w < p := k.2.2.2.2.2.1
theorem RS.ok.c {p : Nat} {R : RS} (k : R.ok p) : 3 ≤ R.st → 0 ≤ R.c ∧ R.c < p := k.2.2.2.2.2.2.1
theorem RS.ok.t {p : Nat} {R : RS} (k : R.ok p) : 4 ≤ R.st → 0 ≤ R.t ∧ R.t < p := k.2.2.2.2.2.2.2.1
theorem RS.ok.an {p : Nat} {R : RS} (k : R.ok p) : 4 ≤ R.st → Fl p R.answer := k.2.2.2.2.2.2.2.2.1
theorem RS.ok.mk {p : Nat} {R : RS} (k : R.ok p) : R.mk = true → 2 ≤ R.st ∧ (0 ≤ R.mb ∧ R.mb < p) ∧ Fl p R.mask := k.2.2.2.2.2.2.2.2.2.1
theorem RS.ok.f24 {p : Nat} {R : RS} (k : R.ok p) : Fl 24 R.form := k.2.2.2.2.2.2.2.2.2.2.1
theorem RS.ok.m24 {p : Nat} {R : RS} (k : R.ok p) : Fl 24 R.mask := k.2.2.2.2.2.2.2.2.2.2.2.1
theorem RS.ok.a24 {p : Nat} {R : RS} (k : R.ok p) : Fl 24 R.answer := k.2.2.2.2.2.2.2.2.2.2.2.2
theorem RS.y1 {p : Nat} {R : RS} (h : 1 ≤ R.st) : R.y p = MM p R.e := if_pos h
theorem RS.v1 {R : RS} (h : 1 ≤ R.st) : R.vv = R.v := if_pos h
theorem RS.a1 {p : Nat} {R : RS} (h : 2 ≤ R.st) : R.a p = MM p R.fa := if_pos h
theorem RS.w1 {R : RS} (h : 2 ≤ R.st) : R.ww = R.w := if_pos h
theorem RS.c1 {R : RS} (h : 3 ≤ R.st) : R.cc = R.c := if_pos h
theorem RS.t1 {R : RS} (h : 4 ≤ R.st) : R.tt = R.t := if_pos h
theorem RS.m1 {R : RS} (h : R.mk = true) : R.mm = R.mb := if_pos h
theorem RS.ok.yb {p : Nat} {R : RS} (k : R.ok p) (hp : p ∈ PR) : -1 ≤ R.y p ∧ R.y p < 192 := by
  unfold RS.y
  have hq := gq_b hp
  split
  · rename_i h
    have := MM_b hp (k.e h)
    omega
  · omega
theorem RS.ok.yi {p : Nat} {R : RS} (k : R.ok p) (hp : p ∈ PR) : R.y p = -1 ↔ ¬ 1 ≤ R.st := by
  unfold RS.y
  split
  · rename_i h
    have := MM_b hp (k.e h)
    exact ⟨fun _ => by omega, fun q => absurd h q⟩
  · rename_i h
    exact ⟨fun _ => h, fun _ => rfl⟩
theorem RS.ok.ab {p : Nat} {R : RS} (k : R.ok p) (hp : p ∈ PR) : -1 ≤ R.a p ∧ R.a p < 192 := by
  unfold RS.a
  have hq := gq_b hp
  split
  · rename_i h
    have := MM_b hp (k.fa h)
    omega
  · omega
theorem RS.ok.ai {p : Nat} {R : RS} (k : R.ok p) (hp : p ∈ PR) : R.a p = -1 ↔ ¬ 2 ≤ R.st := by
  unfold RS.a
  split
  · rename_i h
    have := MM_b hp (k.fa h)
    exact ⟨fun _ => by omega, fun q => absurd h q⟩
  · rename_i h
    exact ⟨fun _ => h, fun _ => rfl⟩
theorem RS.ok.vb {p : Nat} {R : RS} (k : R.ok p) : -1 ≤ R.vv ∧ R.vv < p := by
  unfold RS.vv
  split
  · rename_i h
    have := k.v h
    omega
  · omega
theorem RS.ok.wb {p : Nat} {R : RS} (k : R.ok p) : -1 ≤ R.ww ∧ R.ww < p := by
  unfold RS.ww
  split
  · rename_i h
    have := k.w h
    omega
  · omega
theorem RS.ok.cb {p : Nat} {R : RS} (k : R.ok p) : -1 ≤ R.cc ∧ R.cc < p := by
  unfold RS.cc
  split
  · rename_i h
    have := k.c h
    omega
  · omega
theorem RS.ok.tb {p : Nat} {R : RS} (k : R.ok p) : -1 ≤ R.tt ∧ R.tt < p := by
  unfold RS.tt
  split
  · rename_i h
    have := k.t h
    omega
  · omega
theorem RS.ok.ci {p : Nat} {R : RS} (k : R.ok p) : R.cc = -1 ↔ ¬ 3 ≤ R.st := by
  unfold RS.cc
  split
  · rename_i h
    have := k.c h
    exact ⟨fun _ => by omega, fun q => absurd h q⟩
  · rename_i h
    exact ⟨fun _ => h, fun _ => rfl⟩
theorem RS.ok.ti {p : Nat} {R : RS} (k : R.ok p) : R.tt = -1 ↔ ¬ 4 ≤ R.st := by
  unfold RS.tt
  split
  · rename_i h
    have := k.t h
    exact ⟨fun _ => by omega, fun q => absurd h q⟩
  · rename_i h
    exact ⟨fun _ => h, fun _ => rfl⟩
theorem RS.ok.mb' {p : Nat} {R : RS} (k : R.ok p) : -1 ≤ R.mm ∧ R.mm < p := by
  unfold RS.mm
  split
  · rename_i h
    have := (k.mk h).2.1
    omega
  · omega
theorem RS.ok.mi {p : Nat} {R : RS} (k : R.ok p) : R.mm = -1 ↔ ¬ R.mk = true := by
  unfold RS.mm
  split
  · rename_i h
    have := (k.mk h).2.1
    exact ⟨fun _ => by omega, fun q => absurd h q⟩
  · rename_i h
    exact ⟨fun _ => h, fun _ => rfl⟩
def RA (p ra : Nat) (R : RS) (h : xH) : Prop := 9 ≤ ra ∧ h[ra]? = some (cR ra (R.raw p)) ∧ h[ra + 1]? = some (cA 0 R.form) ∧ h[ra + 2]? = some (cA 0 R.mask) ∧ h[ra + 3]? = some (cA 0 R.answer)
def inn (a b : List Int) : Int := sm (fun j => a.getD j 0 * b.getD j 0) 8
abbrev acc (p : Nat) (R : RS) : Prop := R.st = 4 ∧ cm p R.answer R.t = (R.fa + R.c * R.e) % (p : Int) ∧ inn R.form R.answer % (p : Int) = (R.w + R.c * R.v) % (p : Int)
abbrev suit (p : Nat) (R : RS) (l : List Int) (b : Int) : Prop := 1 ≤ R.st ∧ cm p l b = R.e ∧ inn R.form l % (p : Int) = R.v
theorem inn_b {a b : List Int} (ha : Fl 24 a) (hb : Fl 24 b) : 0 ≤ inn a b ∧ inn a b ≤ 4232 := by
  have hq := sm_b (f := fun j => a.getD j 0 * b.getD j 0) (a := 0) (b := 529) (by omega) (by omega) 8 (fun j _ => mulg (m := 23) (n := 23) (by have := ha.2 j; omega) (by have := hb.2 j; omega))
  unfold inn
  omega
theorem sub_m0 {a b p : Int} (ha : 0 ≤ a ∧ a < p) (hb : 0 ≤ b ∧ b < p) : (a - b) % p = 0 ↔ a = b := by
  constructor
  · intro h
    by_cases c : 0 ≤ a - b
    · rw [Int.emod_eq_of_lt c (by omega)] at h; omega
    · have h3 : (a - b + p) % p = (a - b) % p := Int.add_emod_right _ p
      rw [Int.emod_eq_of_lt (by omega) (by omega)] at h3
      omega
  · intro h
    rw [h, Int.sub_self, Int.zero_emod]

set_option maxRecDepth 20000 in
set_option maxHeartbeats 1000000 in
theorem S_X7_hasStatement {G : xG} {d rc rs : Nat} {ex : Bool} {h : xH} {Q : xQ} {p ra : Nat} {R : RS} (hp5 : p ∈ PR) (hr : RA p ra R h) (ok : R.ok p) (hw : GW p h) (k1 : 1 ≤ R.st → Q (.inl (some (vi 1))) ex h) (k0 : ¬ 1 ≤ R.st → Q (.inl (some (vi 0))) ex h) : X G m_X7_hasStatement d rc rs ex 0 (xe m_X7_hasStatement.2.2.1 [.ref ra]) [] h Q := by
  show X G m_X7_hasStatement _ _ _ _ 0 [some (.ref ra)] [] h Q
  have hp := PRb hp5
  have hq := gq_b hp5
  obtain ⟨hf, hg, hml, hex, hbs⟩ := id hw
  obtain ⟨r9, hR, hfo, hma, han⟩ := id hr
  have hR : h[ra]? = some (cO 7 [.ref 5, .ref 4, .ref (ra + 1), .ref (ra + 2), .ref (ra + 3), vi (R.y p), vi (R.vv), vi (R.a p), vi (R.ww), vi (R.cc), vi (R.tt), vi (R.mm), vi (R.rr)]) := hR
  have yb := ok.yb hp5
  have ab := ok.ab hp5
  have vb := ok.vb
  have wb := ok.wb
  have cb := ok.cb
  have tb := ok.tb
  have mb := ok.mb'
  refine x_aload_n (dT U_X7_hasStatement 0 rfl) rfl ?_
  refine x_getfield F_X7_35 (dT U_X7_hasStatement 1 rfl) hR (by omega) rfl ?_
  refine x_iconst (dT U_X7_hasStatement 2 rfl) ?_
  refine x_icmp_eq (tgt := 12) (dT U_X7_hasStatement 3 rfl) (by decide) (by unfold xr; omega) (by unfold xr at *; omega) (fun c5 => ?_) (fun c5 => ?_)
  · skip
    refine x_iconst (dT U_X7_hasStatement 6 rfl) ?_
    refine x_zreturn (dT U_X7_hasStatement 7 rfl) rfl (by omega) ?_
    first | exact k0 ((ok.yi hp5).mp (by assumption)) | exact k1 (Decidable.byContradiction fun z => absurd ((ok.yi hp5).mpr z) (by assumption))
  · skip
    refine x_iconst (dT U_X7_hasStatement 4 rfl) ?_
    refine x_goto (tgt := 13) (dT U_X7_hasStatement 5 rfl) (by decide) ?_
    refine x_zreturn (dT U_X7_hasStatement 7 rfl) rfl (by omega) ?_
    first | exact k0 ((ok.yi hp5).mp (by assumption)) | exact k1 (Decidable.byContradiction fun z => absurd ((ok.yi hp5).mpr z) (by assumption))

set_option maxRecDepth 20000 in
set_option maxHeartbeats 1000000 in
theorem S_X7_hasFirst {G : xG} {d rc rs : Nat} {ex : Bool} {h : xH} {Q : xQ} {p ra : Nat} {R : RS} (hp5 : p ∈ PR) (hr : RA p ra R h) (ok : R.ok p) (hw : GW p h) (k1 : 2 ≤ R.st → Q (.inl (some (vi 1))) ex h) (k0 : ¬ 2 ≤ R.st → Q (.inl (some (vi 0))) ex h) : X G m_X7_hasFirst d rc rs ex 0 (xe m_X7_hasFirst.2.2.1 [.ref ra]) [] h Q := by
  show X G m_X7_hasFirst _ _ _ _ 0 [some (.ref ra)] [] h Q
  have hp := PRb hp5
  have hq := gq_b hp5
  obtain ⟨hf, hg, hml, hex, hbs⟩ := id hw
  obtain ⟨r9, hR, hfo, hma, han⟩ := id hr
  have hR : h[ra]? = some (cO 7 [.ref 5, .ref 4, .ref (ra + 1), .ref (ra + 2), .ref (ra + 3), vi (R.y p), vi (R.vv), vi (R.a p), vi (R.ww), vi (R.cc), vi (R.tt), vi (R.mm), vi (R.rr)]) := hR
  have yb := ok.yb hp5
  have ab := ok.ab hp5
  have vb := ok.vb
  have wb := ok.wb
  have cb := ok.cb
  have tb := ok.tb
  have mb := ok.mb'
  refine x_aload_n (dT U_X7_hasFirst 0 rfl) rfl ?_
  refine x_getfield F_X7_42 (dT U_X7_hasFirst 1 rfl) hR (by omega) rfl ?_
  refine x_iconst (dT U_X7_hasFirst 2 rfl) ?_
  refine x_icmp_eq (tgt := 12) (dT U_X7_hasFirst 3 rfl) (by decide) (by unfold xr; omega) (by unfold xr at *; omega) (fun c5 => ?_) (fun c5 => ?_)
  · skip
    refine x_iconst (dT U_X7_hasFirst 6 rfl) ?_
    refine x_zreturn (dT U_X7_hasFirst 7 rfl) rfl (by omega) ?_
    first | exact k0 ((ok.ai hp5).mp (by assumption)) | exact k1 (Decidable.byContradiction fun z => absurd ((ok.ai hp5).mpr z) (by assumption))
  · skip
    refine x_iconst (dT U_X7_hasFirst 4 rfl) ?_
    refine x_goto (tgt := 13) (dT U_X7_hasFirst 5 rfl) (by decide) ?_
    refine x_zreturn (dT U_X7_hasFirst 7 rfl) rfl (by omega) ?_
    first | exact k0 ((ok.ai hp5).mp (by assumption)) | exact k1 (Decidable.byContradiction fun z => absurd ((ok.ai hp5).mpr z) (by assumption))

set_option maxRecDepth 20000 in
set_option maxHeartbeats 1000000 in
theorem S_X7_hasChallenge {G : xG} {d rc rs : Nat} {ex : Bool} {h : xH} {Q : xQ} {p ra : Nat} {R : RS} (hp5 : p ∈ PR) (hr : RA p ra R h) (ok : R.ok p) (hw : GW p h) (k1 : 3 ≤ R.st → Q (.inl (some (vi 1))) ex h) (k0 : ¬ 3 ≤ R.st → Q (.inl (some (vi 0))) ex h) : X G m_X7_hasChallenge d rc rs ex 0 (xe m_X7_hasChallenge.2.2.1 [.ref ra]) [] h Q := by
  show X G m_X7_hasChallenge _ _ _ _ 0 [some (.ref ra)] [] h Q
  have hp := PRb hp5
  have hq := gq_b hp5
  obtain ⟨hf, hg, hml, hex, hbs⟩ := id hw
  obtain ⟨r9, hR, hfo, hma, han⟩ := id hr
  have hR : h[ra]? = some (cO 7 [.ref 5, .ref 4, .ref (ra + 1), .ref (ra + 2), .ref (ra + 3), vi (R.y p), vi (R.vv), vi (R.a p), vi (R.ww), vi (R.cc), vi (R.tt), vi (R.mm), vi (R.rr)]) := hR
  have yb := ok.yb hp5
  have ab := ok.ab hp5
  have vb := ok.vb
  have wb := ok.wb
  have cb := ok.cb
  have tb := ok.tb
  have mb := ok.mb'
  refine x_aload_n (dT U_X7_hasChallenge 0 rfl) rfl ?_
  refine x_getfield F_X7_48 (dT U_X7_hasChallenge 1 rfl) hR (by omega) rfl ?_
  refine x_iconst (dT U_X7_hasChallenge 2 rfl) ?_
  refine x_icmp_eq (tgt := 12) (dT U_X7_hasChallenge 3 rfl) (by decide) (by unfold xr; omega) (by unfold xr at *; omega) (fun c5 => ?_) (fun c5 => ?_)
  · skip
    refine x_iconst (dT U_X7_hasChallenge 6 rfl) ?_
    refine x_zreturn (dT U_X7_hasChallenge 7 rfl) rfl (by omega) ?_
    first | exact k0 (ok.ci.mp (by assumption)) | exact k1 (Decidable.byContradiction fun z => absurd (ok.ci.mpr z) (by assumption))
  · skip
    refine x_iconst (dT U_X7_hasChallenge 4 rfl) ?_
    refine x_goto (tgt := 13) (dT U_X7_hasChallenge 5 rfl) (by decide) ?_
    refine x_zreturn (dT U_X7_hasChallenge 7 rfl) rfl (by omega) ?_
    first | exact k0 (ok.ci.mp (by assumption)) | exact k1 (Decidable.byContradiction fun z => absurd (ok.ci.mpr z) (by assumption))

set_option maxRecDepth 20000 in
set_option maxHeartbeats 1000000 in
theorem S_X7_hasAnswer {G : xG} {d rc rs : Nat} {ex : Bool} {h : xH} {Q : xQ} {p ra : Nat} {R : RS} (hp5 : p ∈ PR) (hr : RA p ra R h) (ok : R.ok p) (hw : GW p h) (k1 : 4 ≤ R.st → Q (.inl (some (vi 1))) ex h) (k0 : ¬ 4 ≤ R.st → Q (.inl (some (vi 0))) ex h) : X G m_X7_hasAnswer d rc rs ex 0 (xe m_X7_hasAnswer.2.2.1 [.ref ra]) [] h Q := by
  show X G m_X7_hasAnswer _ _ _ _ 0 [some (.ref ra)] [] h Q
  have hp := PRb hp5
  have hq := gq_b hp5
  obtain ⟨hf, hg, hml, hex, hbs⟩ := id hw
  obtain ⟨r9, hR, hfo, hma, han⟩ := id hr
  have hR : h[ra]? = some (cO 7 [.ref 5, .ref 4, .ref (ra + 1), .ref (ra + 2), .ref (ra + 3), vi (R.y p), vi (R.vv), vi (R.a p), vi (R.ww), vi (R.cc), vi (R.tt), vi (R.mm), vi (R.rr)]) := hR
  have yb := ok.yb hp5
  have ab := ok.ab hp5
  have vb := ok.vb
  have wb := ok.wb
  have cb := ok.cb
  have tb := ok.tb
  have mb := ok.mb'
  refine x_aload_n (dT U_X7_hasAnswer 0 rfl) rfl ?_
  refine x_getfield F_X7_51 (dT U_X7_hasAnswer 1 rfl) hR (by omega) rfl ?_
  refine x_iconst (dT U_X7_hasAnswer 2 rfl) ?_
  refine x_icmp_eq (tgt := 12) (dT U_X7_hasAnswer 3 rfl) (by decide) (by unfold xr; omega) (by unfold xr at *; omega) (fun c5 => ?_) (fun c5 => ?_)
  · skip
    refine x_iconst (dT U_X7_hasAnswer 6 rfl) ?_
    refine x_zreturn (dT U_X7_hasAnswer 7 rfl) rfl (by omega) ?_
    first | exact k0 (ok.ti.mp (by assumption)) | exact k1 (Decidable.byContradiction fun z => absurd (ok.ti.mpr z) (by assumption))
  · skip
    refine x_iconst (dT U_X7_hasAnswer 4 rfl) ?_
    refine x_goto (tgt := 13) (dT U_X7_hasAnswer 5 rfl) (by decide) ?_
    refine x_zreturn (dT U_X7_hasAnswer 7 rfl) rfl (by omega) ?_
    first | exact k0 (ok.ti.mp (by assumption)) | exact k1 (Decidable.byContradiction fun z => absurd (ok.ti.mpr z) (by assumption))

set_option maxRecDepth 20000 in
set_option maxHeartbeats 1000000 in
theorem S_X7_hasMask {G : xG} {d rc rs : Nat} {ex : Bool} {h : xH} {Q : xQ} {p ra : Nat} {R : RS} (hp5 : p ∈ PR) (hr : RA p ra R h) (ok : R.ok p) (hw : GW p h) (k1 : R.mk = true → Q (.inl (some (vi 1))) ex h) (k0 : ¬ R.mk = true → Q (.inl (some (vi 0))) ex h) : X G m_X7_hasMask d rc rs ex 0 (xe m_X7_hasMask.2.2.1 [.ref ra]) [] h Q := by
  show X G m_X7_hasMask _ _ _ _ 0 [some (.ref ra)] [] h Q
  have hp := PRb hp5
  have hq := gq_b hp5
  obtain ⟨hf, hg, hml, hex, hbs⟩ := id hw
  obtain ⟨r9, hR, hfo, hma, han⟩ := id hr
  have hR : h[ra]? = some (cO 7 [.ref 5, .ref 4, .ref (ra + 1), .ref (ra + 2), .ref (ra + 3), vi (R.y p), vi (R.vv), vi (R.a p), vi (R.ww), vi (R.cc), vi (R.tt), vi (R.mm), vi (R.rr)]) := hR
  have yb := ok.yb hp5
  have ab := ok.ab hp5
  have vb := ok.vb
  have wb := ok.wb
  have cb := ok.cb
  have tb := ok.tb
  have mb := ok.mb'
  refine x_aload_n (dT U_X7_hasMask 0 rfl) rfl ?_
  refine x_getfield F_X7_54 (dT U_X7_hasMask 1 rfl) hR (by omega) rfl ?_
  refine x_iconst (dT U_X7_hasMask 2 rfl) ?_
  refine x_icmp_eq (tgt := 12) (dT U_X7_hasMask 3 rfl) (by decide) (by unfold xr; omega) (by unfold xr at *; omega) (fun c5 => ?_) (fun c5 => ?_)
  · skip
    refine x_iconst (dT U_X7_hasMask 6 rfl) ?_
    refine x_zreturn (dT U_X7_hasMask 7 rfl) rfl (by omega) ?_
    first | exact k0 (ok.mi.mp (by assumption)) | exact k1 (Decidable.byContradiction fun z => absurd (ok.mi.mpr z) (by assumption))
  · skip
    refine x_iconst (dT U_X7_hasMask 4 rfl) ?_
    refine x_goto (tgt := 13) (dT U_X7_hasMask 5 rfl) (by decide) ?_
    refine x_zreturn (dT U_X7_hasMask 7 rfl) rfl (by omega) ?_
    first | exact k0 (ok.mi.mp (by assumption)) | exact k1 (Decidable.byContradiction fun z => absurd (ok.mi.mpr z) (by assumption))

set_option maxRecDepth 20000 in
set_option maxHeartbeats 1000000 in
theorem S_X7_forget {G : xG} {d rc rs : Nat} {ex : Bool} {h : xH} {Q : xQ} {ra : Nat} {R : Rn} (r9 : 3 ≤ ra) (hr : h[ra]? = some (cR ra R)) (k : Q (.inl none) ex (h.set ra (cR ra (-1, -1, -1, -1, -1, -1, -1, 0)))) : X G m_X7_forget d rc rs ex 0 (xe m_X7_forget.2.2.1 [.ref ra]) [] h Q := by
  show X G m_X7_forget _ _ _ _ 0 [some (.ref ra)] [] h Q
  have hR : h[ra]? = some (cO 7 [.ref 5, .ref 4, .ref (ra + 1), .ref (ra + 2), .ref (ra + 3), vi (R.y), vi (R.v), vi (R.a), vi (R.w), vi (R.c), vi (R.t), vi (R.mb), vi (R.rt)]) := hr
  refine x_aload_n (dT U_X7_forget 0 rfl) rfl ?_
  refine x_iconst (dT U_X7_forget 1 rfl) ?_
  refine x_putfield F_X7_35 (dT U_X7_forget 2 rfl) hR (by omega) (Nat.le_of_ble_eq_true rfl) rfl rfl ?_
  try rw [List.set_set]
  refine x_aload_n (dT U_X7_forget 3 rfl) rfl ?_
  refine x_iconst (dT U_X7_forget 4 rfl) ?_
  refine x_putfield F_X7_39 (dT U_X7_forget 5 rfl) (hset_eq hR) (by omega) (Nat.le_of_ble_eq_true rfl) rfl rfl ?_
  try rw [List.set_set]
  refine x_aload_n (dT U_X7_forget 6 rfl) rfl ?_
  refine x_iconst (dT U_X7_forget 7 rfl) ?_
  refine x_putfield F_X7_42 (dT U_X7_forget 8 rfl) (hset_eq hR) (by omega) (Nat.le_of_ble_eq_true rfl) rfl rfl ?_
  try rw [List.set_set]
  refine x_aload_n (dT U_X7_forget 9 rfl) rfl ?_
  refine x_iconst (dT U_X7_forget 10 rfl) ?_
  refine x_putfield F_X7_45 (dT U_X7_forget 11 rfl) (hset_eq hR) (by omega) (Nat.le_of_ble_eq_true rfl) rfl rfl ?_
  try rw [List.set_set]
  refine x_aload_n (dT U_X7_forget 12 rfl) rfl ?_
  refine x_iconst (dT U_X7_forget 13 rfl) ?_
  refine x_putfield F_X7_48 (dT U_X7_forget 14 rfl) (hset_eq hR) (by omega) (Nat.le_of_ble_eq_true rfl) rfl rfl ?_
  try rw [List.set_set]
  refine x_aload_n (dT U_X7_forget 15 rfl) rfl ?_
  refine x_iconst (dT U_X7_forget 16 rfl) ?_
  refine x_putfield F_X7_51 (dT U_X7_forget 17 rfl) (hset_eq hR) (by omega) (Nat.le_of_ble_eq_true rfl) rfl rfl ?_
  try rw [List.set_set]
  refine x_aload_n (dT U_X7_forget 18 rfl) rfl ?_
  refine x_iconst (dT U_X7_forget 19 rfl) ?_
  refine x_putfield F_X7_54 (dT U_X7_forget 20 rfl) (hset_eq hR) (by omega) (Nat.le_of_ble_eq_true rfl) rfl rfl ?_
  try rw [List.set_set]
  refine x_aload_n (dT U_X7_forget 21 rfl) rfl ?_
  refine x_iconst (dT U_X7_forget 22 rfl) ?_
  refine x_putfield F_X7_57 (dT U_X7_forget 23 rfl) (hset_eq hR) (by omega) (Nat.le_of_ble_eq_true rfl) rfl rfl ?_
  try rw [List.set_set]
  refine x_return (dT U_X7_forget 24 rfl) rfl ?_
  exact k

set_option maxRecDepth 20000 in
set_option maxHeartbeats 1000000 in
theorem S_X7_beginWith {G : xG} {d rc rs : Nat} {ex : Bool} {h : xH} {Q : xQ} {ra : Nat} {R : Rn} {m n : Int} {fl rl : List Int} {xa : Nat} (r9 : 3 ≤ ra) (hr : h[ra]? = some (cR ra R)) (hfo : h[ra + 1]? = some (cA 0 fl)) (lf : fl.length = 8) (hx : h[xa]? = some (cA 0 rl)) (x3 : 3 ≤ xa ∧ xa ≠ ra) (lx : rl.length = 8) (k : Q (.inl none) ex ((h.set ra (cR ra (m, n, -1, -1, -1, -1, -1, 0))).set (ra + 1) (cA 0 rl))) : X G m_X7_beginWith (d + 1) rc rs ex 0 (xe m_X7_beginWith.2.2.1 [.ref ra, vi m, .ref xa, vi n]) [] h Q := by
  show X G m_X7_beginWith _ _ _ _ 0 [some (.ref ra), some (vi m), some (.ref xa), some (vi n)] [] h Q
  have hR : h[ra]? = some (cO 7 [.ref 5, .ref 4, .ref (ra + 1), .ref (ra + 2), .ref (ra + 3), vi (R.y), vi (R.v), vi (R.a), vi (R.w), vi (R.c), vi (R.t), vi (R.mb), vi (R.rt)]) := hr
  refine x_aload_n (dT U_X7_beginWith 0 rfl) rfl ?_
  refine x_invokevirtual (rc' := rc) (rs' := rs) (rc2 := 0) (rs2 := 0) (As := []) (st := _) M_X7_forget K_X7_32 (dT U_X7_beginWith 1 rfl) rfl rfl (by decide) rfl rfl hR (by omega) (by decide) rfl (Nat.le_of_ble_eq_true rfl) rfl (by decide) (Nat.le_of_ble_eq_true rfl) rfl rfl ?_
  refine S_X7_forget r9 hr ?_
  refine xRet_none ?_
  refine x_aload_n (dT U_X7_beginWith 2 rfl) rfl ?_
  refine x_aload_n (dT U_X7_beginWith 3 rfl) rfl ?_
  refine x_getfield F_X7_22 (dT U_X7_beginWith 4 rfl) (hset_eq hR) (by omega) rfl ?_
  refine x_invokestatic (rc' := rc) (rs' := rs) (rc2 := 0) (rs2 := 0) (As := [_, _]) (st := _) M_X1_copy K_X7_61 (dT U_X7_beginWith 5 rfl) rfl rfl rfl rfl (Nat.le_of_ble_eq_true rfl) rfl (by decide) (Nat.le_of_ble_eq_true rfl) rfl rfl ?_
  refine S_X1_copy (hset_ne (by omega) hx) x3.1 lx (hset_ne (by omega) hfo) (by omega) lf ?_
  refine xRet_none ?_
  refine x_aload_n (dT U_X7_beginWith 6 rfl) rfl ?_
  refine x_iload_n (dT U_X7_beginWith 7 rfl) rfl ?_
  refine x_putfield F_X7_35 (dT U_X7_beginWith 8 rfl) (hset_ne (by omega) (hset_eq hR)) (by omega) (Nat.le_of_ble_eq_true rfl) rfl rfl ?_
  rw [st2a (by omega)]
  refine x_aload_n (dT U_X7_beginWith 9 rfl) rfl ?_
  refine x_iload_n (dT U_X7_beginWith 10 rfl) rfl ?_
  refine x_putfield F_X7_39 (dT U_X7_beginWith 11 rfl) (hset_ne (by omega) (hset_eq hR)) (by omega) (Nat.le_of_ble_eq_true rfl) rfl rfl ?_
  rw [st2a (by omega)]
  refine x_return (dT U_X7_beginWith 12 rfl) rfl ?_
  exact k

set_option maxRecDepth 20000 in
set_option maxHeartbeats 1000000 in
theorem S_X7_gap {G : xG} {d rc rs : Nat} {ex : Bool} {h : xH} {Q : xQ} {p ra : Nat} {R : RS}{xa : Nat} {xl : List Int} (hp5 : p ∈ PR) (hr : RA p ra R h) (ok : R.ok p) (hw : GW p h) (hx : h[xa]? = some (cA 0 xl)) (x3 : 3 ≤ xa ∧ xa ≠ ra ∧ xa ≠ ra + 1 ∧ xa ≠ ra + 2 ∧ xa ≠ ra + 3 ∧ 9 ≤ xa) (lx : Fl (p : Int) xl) (k : Q (.inl (some (vi ((inn R.form xl % (p : Int) - R.vv) % (p : Int))))) ex h) : X G m_X7_gap (d + 2) rc rs ex 0 (xe m_X7_gap.2.2.1 [.ref ra, .ref xa]) [] h Q := by
  show X G m_X7_gap _ _ _ _ 0 [some (.ref ra), some (.ref xa)] [] h Q
  have hp := PRb hp5
  have hq := gq_b hp5
  obtain ⟨hf, hg, hml, hex, hbs⟩ := id hw
  obtain ⟨r9, hR, hfo, hma, han⟩ := id hr
  have hR : h[ra]? = some (cO 7 [.ref 5, .ref 4, .ref (ra + 1), .ref (ra + 2), .ref (ra + 3), vi (R.y p), vi (R.vv), vi (R.a p), vi (R.ww), vi (R.cc), vi (R.tt), vi (R.mm), vi (R.rr)]) := hR
  have yb := ok.yb hp5
  have ab := ok.ab hp5
  have vb := ok.vb
  have wb := ok.wb
  have cb := ok.cb
  have tb := ok.tb
  have mb := ok.mb'
  refine x_aload_n (dT U_X7_gap 0 rfl) rfl ?_
  refine x_getfield F_X7_21 (dT U_X7_gap 1 rfl) hR (by omega) rfl ?_
  refine x_aload_n (dT U_X7_gap 2 rfl) rfl ?_
  refine x_getfield F_X7_21 (dT U_X7_gap 3 rfl) hR (by omega) rfl ?_
  refine x_aload_n (dT U_X7_gap 4 rfl) rfl ?_
  refine x_getfield F_X7_22 (dT U_X7_gap 5 rfl) hR (by omega) rfl ?_
  refine x_aload_n (dT U_X7_gap 6 rfl) rfl ?_
  refine x_invokevirtual (rc' := rc) (rs' := rs) (rc2 := 0) (rs2 := 0) (As := [_, _]) (st := _) M_X1_innerOf K_X7_71 (dT U_X7_gap 7 rfl) rfl rfl (by decide) rfl rfl hf (by omega) (by decide) rfl (Nat.le_of_ble_eq_true rfl) rfl (by decide) (Nat.le_of_ble_eq_true rfl) rfl rfl ?_
  refine S_X1_innerOf hf hp hfo (by omega) ok.f24 hx (by omega) (lx.mono (by omega)) ?_
  change xRet _ _ _ _ _ _ _ _ _ _ (.inl (some (vi (inn R.form xl % (p : Int))))) _ _
  refine xRet_some ?_
  refine x_aload_n (dT U_X7_gap 8 rfl) rfl ?_
  refine x_getfield F_X7_39 (dT U_X7_gap 9 rfl) hR (by omega) rfl ?_
  refine x_invokevirtual (rc' := rc) (rs' := rs) (rc2 := 0) (rs2 := 0) (As := [_, _]) (st := _) M_X1_less K_X7_96 (dT U_X7_gap 10 rfl) rfl rfl (by decide) rfl rfl hf (by omega) (by decide) rfl (Nat.le_of_ble_eq_true rfl) rfl (by decide) (Nat.le_of_ble_eq_true rfl) rfl rfl ?_
  have hi := modb (z := inn R.form xl) (p := (p : Int)) (by omega)
  refine S_X1_less hf hp (by unfold xr; omega) ?_
  refine xRet_some ?_
  refine x_ireturn (dT U_X7_gap 11 rfl) rfl ?_
  exact k

set_option maxRecDepth 20000 in
set_option maxHeartbeats 1000000 in
theorem S_X7_suits {G : xG} {d rc rs : Nat} {ex : Bool} {h : xH} {Q : xQ} {p ra : Nat} {R : RS}{xa : Nat} {xl : List Int}{b : Int} (hp5 : p ∈ PR) (hr : RA p ra R h) (ok : R.ok p) (hw : GW p h) (hx : h[xa]? = some (cA 0 xl)) (x3 : 3 ≤ xa ∧ xa ≠ ra ∧ xa ≠ ra + 1 ∧ xa ≠ ra + 2 ∧ xa ≠ ra + 3 ∧ 9 ≤ xa) (lx : Fl (p : Int) xl) (hb : 0 ≤ b ∧ b < p) (k1 : suit p R xl b → Q (.inl (some (vi 1))) ex h) (k0 : ¬ suit p R xl b → Q (.inl (some (vi 0))) ex h) : X G m_X7_suits (d + 3) rc rs ex 0 (xe m_X7_suits.2.2.1 [.ref ra, .ref xa, vi b]) [] h Q := by
  show X G m_X7_suits _ _ _ _ 0 [some (.ref ra), some (.ref xa), some (vi b)] [] h Q
  have hp := PRb hp5
  have hq := gq_b hp5
  obtain ⟨hf, hg, hml, hex, hbs⟩ := id hw
  obtain ⟨r9, hR, hfo, hma, han⟩ := id hr
  have hR : h[ra]? = some (cO 7 [.ref 5, .ref 4, .ref (ra + 1), .ref (ra + 2), .ref (ra + 3), vi (R.y p), vi (R.vv), vi (R.a p), vi (R.ww), vi (R.cc), vi (R.tt), vi (R.mm), vi (R.rr)]) := hR
  have yb := ok.yb hp5
  have ab := ok.ab hp5
  have vb := ok.vb
  have wb := ok.wb
  have cb := ok.cb
  have tb := ok.tb
  have mb := ok.mb'
  refine x_aload_n (dT U_X7_suits 0 rfl) rfl ?_
  refine x_invokevirtual (rc' := rc) (rs' := rs) (rc2 := 0) (rs2 := 0) (As := []) (st := _) M_X7_hasStatement K_X7_104 (dT U_X7_suits 1 rfl) rfl rfl (by decide) rfl rfl hR (by omega) (by decide) rfl (Nat.le_of_ble_eq_true rfl) rfl (by decide) (Nat.le_of_ble_eq_true rfl) rfl rfl ?_
  refine S_X7_hasStatement hp5 hr ok hw (fun s1 => ?_) (fun s1 => ?_)
  · refine xRet_some ?_
    refine x_if_eq (tgt := 35) (dT U_X7_suits 2 rfl) (by decide) (by unfold xr; omega) (fun q => absurd q (by omega)) (fun _ => ?_)
    have se := ok.e s1
    have sv := ok.v s1
    have sq := RS.y1 (p := p) s1
    have svv := RS.v1 s1
    refine x_aload_n (dT U_X7_suits 3 rfl) rfl ?_
    refine x_getfield F_X7_9 (dT U_X7_suits 4 rfl) hR (by omega) rfl ?_
    refine x_aload_n (dT U_X7_suits 5 rfl) rfl ?_
    refine x_iload_n (dT U_X7_suits 6 rfl) rfl ?_
    refine x_invokevirtual (rc' := rc) (rs' := rs) (rc2 := 0) (rs2 := 0) (As := [_, _]) (st := _) M_X3_commitmentOf K_X7_67 (dT U_X7_suits 7 rfl) rfl rfl (by decide) rfl rfl hg (by omega) (by decide) rfl (Nat.le_of_ble_eq_true rfl) rfl (by decide) (Nat.le_of_ble_eq_true rfl) rfl rfl ?_
    refine S_X3_commitmentOf hw hp5 hx (by omega) lx hb ?_
    refine xRet_some ?_
    refine x_aload_n (dT U_X7_suits 8 rfl) rfl ?_
    refine x_getfield F_X7_35 (dT U_X7_suits 9 rfl) hR (by omega) rfl ?_
    have hc := modb (z := wt p xl + (bs p 8 : Int) * b) (p := (p : Int)) (by omega)
    change 0 ≤ cm p xl b ∧ cm p xl b < p at hc
    have hM := MM_b hp5 hc
    refine x_icmp_ne (tgt := 35) (dT U_X7_suits 10 rfl) (by decide) (by unfold xr; omega) (by unfold xr; omega) (fun c20 => ?_) (fun c20 => ?_)
    · skip
      have e1 : ¬ suit p R xl b := fun z => by have h8 := congrArg (MM p) z.2.1; omega
      refine x_iconst (dT U_X7_suits 17 rfl) ?_
      refine x_zreturn (dT U_X7_suits 18 rfl) rfl (by omega) ?_
      first | exact k0 e1 | exact k1 ⟨s1, e1, by rw [← svv]; exact hz.mp (by omega)⟩ | exact k0 (fun z => by have := hz.mpr (by rw [svv]; exact z.2.2); omega)
    · skip
      have e1 : cm p xl b = R.e := MM_inj hp5 hc se (by omega)
      refine x_aload_n (dT U_X7_suits 11 rfl) rfl ?_
      refine x_aload_n (dT U_X7_suits 12 rfl) rfl ?_
      refine x_invokevirtual (rc' := rc) (rs' := rs) (rc2 := 0) (rs2 := 0) (As := [_]) (st := _) M_X7_gap K_X7_107 (dT U_X7_suits 13 rfl) rfl rfl (by decide) rfl rfl hR (by omega) (by decide) rfl (Nat.le_of_ble_eq_true rfl) rfl (by decide) (Nat.le_of_ble_eq_true rfl) rfl rfl ?_
      refine S_X7_gap hp5 hr ok hw hx x3 lx ?_
      have hi := modb (z := inn R.form xl % (p : Int) - R.vv) (p := (p : Int)) (by omega)
      have hi2 := modb (z := inn R.form xl) (p := (p : Int)) (by omega)
      have hz := sub_m0 hi2 sv
      rw [← svv] at hz
      refine xRet_some ?_
      refine x_if_ne (tgt := 35) (dT U_X7_suits 14 rfl) (by decide) (by unfold xr; omega) (fun c28 => ?_) (fun c28 => ?_)
      · skip
        refine x_iconst (dT U_X7_suits 17 rfl) ?_
        refine x_zreturn (dT U_X7_suits 18 rfl) rfl (by omega) ?_
        first | exact k0 e1 | exact k1 ⟨s1, e1, by rw [← svv]; exact hz.mp (by omega)⟩ | exact k0 (fun z => by have := hz.mpr (by rw [svv]; exact z.2.2); omega)
      · skip
        refine x_iconst (dT U_X7_suits 15 rfl) ?_
        refine x_goto (tgt := 36) (dT U_X7_suits 16 rfl) (by decide) ?_
        refine x_zreturn (dT U_X7_suits 18 rfl) rfl (by omega) ?_
        first | exact k0 e1 | exact k1 ⟨s1, e1, by rw [← svv]; exact hz.mp (by omega)⟩ | exact k0 (fun z => by have := hz.mpr (by rw [svv]; exact z.2.2); omega)
  · refine xRet_some ?_
    refine x_if_eq (tgt := 35) (dT U_X7_suits 2 rfl) (by decide) (by unfold xr; omega) (fun _ => ?_) (fun q => absurd rfl q)
    exact x_iconst (dT U_X7_suits 17 rfl) (x_zreturn (dT U_X7_suits 18 rfl) rfl (by omega) (k0 (fun z => s1 z.1)))

theorem am_r (a b p : Int) : (a + b % p) % p = (a + b) % p := by rw [Int.add_comm, Int.emod_add_emod, Int.add_comm]
theorem am_l (a b p : Int) : (a % p + b) % p = (a + b) % p := Int.emod_add_emod _ _ _
theorem sm_l (a b p : Int) : (a % p - b) % p = (a - b) % p := by rw [Int.sub_eq_add_neg, am_l, ← Int.sub_eq_add_neg]
theorem sm_r (a b p : Int) : (a - b % p) % p = (a - b) % p := by rw [Int.sub_emod, Int.emod_emod, ← Int.sub_emod]
theorem ml_r (a b p : Int) : (a * (b % p)) % p = (a * b) % p := by rw [Int.mul_emod, Int.emod_emod, ← Int.mul_emod]
theorem ml_l (a b p : Int) : (a % p * b) % p = (a * b) % p := by rw [Int.mul_emod, Int.emod_emod, ← Int.mul_emod]
theorem GW.s1 {p a : Nat} {x : xC} {h : xH} (w : GW p h) (ha : 9 ≤ a) : GW p (h.set a x) := by
  obtain ⟨a1, b, ⟨ml, c1, c2, c3⟩, d, e⟩ := w
  exact ⟨hset_ne (by omega) a1, hset_ne (by omega) b, ⟨ml, hset_ne (by omega) c1, c2, c3⟩, hset_ne (by omega) d, hset_ne (by omega) e⟩
theorem GW.s2 {p a b : Nat} {x y : xC} {h : xH} (w : GW p h) (ha : 9 ≤ a) (hb : 9 ≤ b) : GW p ((h.set a x).set b y) := (w.s1 ha).s1 hb
theorem cm_b {p : Nat} {l : List Int} {b : Int} (hp : 2 < p) : 0 ≤ cm p l b ∧ cm p l b < p := modb (by omega)

set_option maxRecDepth 20000 in
set_option maxHeartbeats 1000000 in
theorem S_X7_takeMask {G : xG} {d rc rs : Nat} {ex : Bool} {h : xH} {Q : xQ} {p ra : Nat} {R : RS}{xa : Nat} {xl : List Int}{b : Int} (hp5 : p ∈ PR) (hr : RA p ra R h) (ok : R.ok p) (hw : GW p h) (hx : h[xa]? = some (cA 0 xl)) (x3 : 3 ≤ xa ∧ xa ≠ ra ∧ xa ≠ ra + 1 ∧ xa ≠ ra + 2 ∧ xa ≠ ra + 3 ∧ 9 ≤ xa) (lx : Fl (p : Int) xl) (hb : 0 ≤ b ∧ b < p) (k : Q (.inl none) ex ((h.set ra (cR ra (R.y p, R.vv, MM p (cm p xl b), inn R.form xl % (p : Int), R.cc, R.tt, b, R.rr))).set (ra + 2) (cA 0 xl))) : X G m_X7_takeMask (d + 3) rc rs ex 0 (xe m_X7_takeMask.2.2.1 [.ref ra, .ref xa, vi b]) [] h Q := by
  show X G m_X7_takeMask _ _ _ _ 0 [some (.ref ra), some (.ref xa), some (vi b)] [] h Q
  have hp := PRb hp5
  have hq := gq_b hp5
  obtain ⟨hf, hg, hml, hex, hbs⟩ := id hw
  obtain ⟨r9, hR, hfo, hma, han⟩ := id hr
  have hR : h[ra]? = some (cO 7 [.ref 5, .ref 4, .ref (ra + 1), .ref (ra + 2), .ref (ra + 3), vi (R.y p), vi (R.vv), vi (R.a p), vi (R.ww), vi (R.cc), vi (R.tt), vi (R.mm), vi (R.rr)]) := hR
  have yb := ok.yb hp5
  have ab := ok.ab hp5
  have vb := ok.vb
  have wb := ok.wb
  have cb := ok.cb
  have tb := ok.tb
  have mb := ok.mb'
  refine x_aload_n (dT U_X7_takeMask 0 rfl) rfl ?_
  refine x_aload_n (dT U_X7_takeMask 1 rfl) rfl ?_
  refine x_getfield F_X7_26 (dT U_X7_takeMask 2 rfl) hR (by omega) rfl ?_
  refine x_invokestatic (rc' := rc) (rs' := rs) (rc2 := 0) (rs2 := 0) (As := [_, _]) (st := _) M_X1_copy K_X7_61 (dT U_X7_takeMask 3 rfl) rfl rfl rfl rfl (Nat.le_of_ble_eq_true rfl) rfl (by decide) (Nat.le_of_ble_eq_true rfl) rfl rfl ?_
  refine S_X1_copy hx (by omega) lx.1 hma (by omega) ok.m24.1 ?_
  refine xRet_none ?_
  refine x_aload_n (dT U_X7_takeMask 4 rfl) rfl ?_
  refine x_iload_n (dT U_X7_takeMask 5 rfl) rfl ?_
  refine x_putfield F_X7_54 (dT U_X7_takeMask 6 rfl) (hset_ne (by omega) hR) (by omega) (Nat.le_of_ble_eq_true rfl) rfl rfl ?_
  rw [List.set_comm _ _ (by omega)]
  refine x_aload_n (dT U_X7_takeMask 7 rfl) rfl ?_
  refine x_aload_n (dT U_X7_takeMask 8 rfl) rfl ?_
  refine x_getfield F_X7_9 (dT U_X7_takeMask 9 rfl) (hset_ne (by omega) (hset_eq hR)) (by omega) rfl ?_
  refine x_aload_n (dT U_X7_takeMask 10 rfl) rfl ?_
  refine x_iload_n (dT U_X7_takeMask 11 rfl) rfl ?_
  refine x_invokevirtual (rc' := rc) (rs' := rs) (rc2 := 0) (rs2 := 0) (As := [_, _]) (st := _) M_X3_commitmentOf K_X7_67 (dT U_X7_takeMask 12 rfl) rfl rfl (by decide) rfl rfl (hset_ne (by omega) (hset_ne (by omega) hg)) (by omega) (by decide) rfl (Nat.le_of_ble_eq_true rfl) rfl (by decide) (Nat.le_of_ble_eq_true rfl) rfl rfl ?_
  refine S_X3_commitmentOf (hw.s2 (by omega) (by omega)) hp5 (hset_ne (by omega) (hset_ne (by omega) hx)) (by omega) lx hb ?_
  refine xRet_some ?_
  refine x_putfield F_X7_42 (dT U_X7_takeMask 13 rfl) (hset_ne (by omega) (hset_eq hR)) (by omega) (Nat.le_of_ble_eq_true rfl) rfl rfl ?_
  rw [st2a (by omega)]
  refine x_aload_n (dT U_X7_takeMask 14 rfl) rfl ?_
  refine x_aload_n (dT U_X7_takeMask 15 rfl) rfl ?_
  refine x_getfield F_X7_21 (dT U_X7_takeMask 16 rfl) (hset_ne (by omega) (hset_eq hR)) (by omega) rfl ?_
  refine x_aload_n (dT U_X7_takeMask 17 rfl) rfl ?_
  refine x_getfield F_X7_22 (dT U_X7_takeMask 18 rfl) (hset_ne (by omega) (hset_eq hR)) (by omega) rfl ?_
  refine x_aload_n (dT U_X7_takeMask 19 rfl) rfl ?_
  refine x_invokevirtual (rc' := rc) (rs' := rs) (rc2 := 0) (rs2 := 0) (As := [_, _]) (st := _) M_X1_innerOf K_X7_71 (dT U_X7_takeMask 20 rfl) rfl rfl (by decide) rfl rfl (hset_ne (by omega) (hset_ne (by omega) hf)) (by omega) (by decide) rfl (Nat.le_of_ble_eq_true rfl) rfl (by decide) (Nat.le_of_ble_eq_true rfl) rfl rfl ?_
  refine S_X1_innerOf (hset_ne (by omega) (hset_ne (by omega) hf)) hp (hset_ne (by omega) (hset_ne (by omega) hfo)) (by omega) ok.f24 (hset_ne (by omega) (hset_ne (by omega) hx)) (by omega) (lx.mono (by omega)) ?_
  refine xRet_some ?_
  refine x_putfield F_X7_45 (dT U_X7_takeMask 21 rfl) (hset_ne (by omega) (hset_eq hR)) (by omega) (Nat.le_of_ble_eq_true rfl) rfl rfl ?_
  rw [st2a (by omega)]
  refine x_return (dT U_X7_takeMask 22 rfl) rfl ?_
  exact k

set_option maxRecDepth 20000 in
set_option maxHeartbeats 1000000 in
theorem S_X7_makeUp {G : xG} {d rc rs : Nat} {ex : Bool} {h : xH} {Q : xQ} {p ra : Nat} {R : RS}{xa : Nat} {xl : List Int}{b c : Int} (hp5 : p ∈ PR) (hr : RA p ra R h) (ok : R.ok p) (hw : GW p h) (hx : h[xa]? = some (cA 0 xl)) (x3 : 3 ≤ xa ∧ xa ≠ ra ∧ xa ≠ ra + 1 ∧ xa ≠ ra + 2 ∧ xa ≠ ra + 3 ∧ 9 ≤ xa) (lx : Fl (p : Int) xl) (hst : 1 ≤ R.st) (hc : 0 ≤ c ∧ c < p) (hb : 0 ≤ b ∧ b < p) (k : Q (.inl none) ex ((h.set ra (cR ra (R.y p, R.vv, MM p ((cm p xl b - c * R.e) % (p : Int)), (inn R.form xl - c * R.v) % (p : Int), c, b, R.mm, R.rr))).set (ra + 3) (cA 0 xl))) : X G m_X7_makeUp (d + 3) rc rs ex 0 (xe m_X7_makeUp.2.2.1 [.ref ra, vi c, .ref xa, vi b]) [] h Q := by
  show X G m_X7_makeUp _ _ _ _ 0 [some (.ref ra), some (vi c), some (.ref xa), some (vi b)] [] h Q
  have hp := PRb hp5
  have hq := gq_b hp5
  obtain ⟨hf, hg, hml, hex, hbs⟩ := id hw
  obtain ⟨r9, hR, hfo, hma, han⟩ := id hr
  have hR : h[ra]? = some (cO 7 [.ref 5, .ref 4, .ref (ra + 1), .ref (ra + 2), .ref (ra + 3), vi (R.y p), vi (R.vv), vi (R.a p), vi (R.ww), vi (R.cc), vi (R.tt), vi (R.mm), vi (R.rr)]) := hR
  have yb := ok.yb hp5
  have ab := ok.ab hp5
  have vb := ok.vb
  have wb := ok.wb
  have cb := ok.cb
  have tb := ok.tb
  have mb := ok.mb'
  refine x_aload_n (dT U_X7_makeUp 0 rfl) rfl ?_
  refine x_aload_n (dT U_X7_makeUp 1 rfl) rfl ?_
  refine x_getfield F_X7_29 (dT U_X7_makeUp 2 rfl) hR (by omega) rfl ?_
  refine x_invokestatic (rc' := rc) (rs' := rs) (rc2 := 0) (rs2 := 0) (As := [_, _]) (st := _) M_X1_copy K_X7_61 (dT U_X7_makeUp 3 rfl) rfl rfl rfl rfl (Nat.le_of_ble_eq_true rfl) rfl (by decide) (Nat.le_of_ble_eq_true rfl) rfl rfl ?_
  refine S_X1_copy hx (by omega) lx.1 han (by omega) ok.a24.1 ?_
  refine xRet_none ?_
  refine x_aload_n (dT U_X7_makeUp 4 rfl) rfl ?_
  refine x_iload_n (dT U_X7_makeUp 5 rfl) rfl ?_
  refine x_putfield F_X7_48 (dT U_X7_makeUp 6 rfl) (hset_ne (by omega) hR) (by omega) (Nat.le_of_ble_eq_true rfl) rfl rfl ?_
  rw [List.set_comm _ _ (by omega)]
  refine x_aload_n (dT U_X7_makeUp 7 rfl) rfl ?_
  refine x_iload_n (dT U_X7_makeUp 8 rfl) rfl ?_
  refine x_putfield F_X7_51 (dT U_X7_makeUp 9 rfl) (hset_ne (by omega) (hset_eq hR)) (by omega) (Nat.le_of_ble_eq_true rfl) rfl rfl ?_
  rw [st2a (by omega)]
  refine x_aload_n (dT U_X7_makeUp 10 rfl) rfl ?_
  refine x_aload_n (dT U_X7_makeUp 11 rfl) rfl ?_
  refine x_getfield F_X7_9 (dT U_X7_makeUp 12 rfl) (hset_ne (by omega) (hset_eq hR)) (by omega) rfl ?_
  refine x_aload_n (dT U_X7_makeUp 13 rfl) rfl ?_
  refine x_getfield F_X7_9 (dT U_X7_makeUp 14 rfl) (hset_ne (by omega) (hset_eq hR)) (by omega) rfl ?_
  refine x_aload_n (dT U_X7_makeUp 15 rfl) rfl ?_
  refine x_iload_n (dT U_X7_makeUp 16 rfl) rfl ?_
  refine x_invokevirtual (rc' := rc) (rs' := rs) (rc2 := 0) (rs2 := 0) (As := [_, _]) (st := _) M_X3_commitmentOf K_X7_67 (dT U_X7_makeUp 17 rfl) rfl rfl (by decide) rfl rfl (hset_ne (by omega) (hset_ne (by omega) hg)) (by omega) (by decide) rfl (Nat.le_of_ble_eq_true rfl) rfl (by decide) (Nat.le_of_ble_eq_true rfl) rfl rfl ?_
  refine S_X3_commitmentOf (hw.s2 (by omega) (by omega)) hp5 (hset_ne (by omega) (hset_ne (by omega) hx)) (by omega) lx hb ?_
  refine xRet_some ?_
  refine x_aload_n (dT U_X7_makeUp 18 rfl) rfl ?_
  refine x_getfield F_X7_9 (dT U_X7_makeUp 19 rfl) (hset_ne (by omega) (hset_eq hR)) (by omega) rfl ?_
  refine x_aload_n (dT U_X7_makeUp 20 rfl) rfl ?_
  refine x_getfield F_X7_35 (dT U_X7_makeUp 21 rfl) (hset_ne (by omega) (hset_eq hR)) (by omega) rfl ?_
  refine x_iload_n (dT U_X7_makeUp 22 rfl) rfl ?_
  refine x_invokevirtual (rc' := rc) (rs' := rs) (rc2 := 0) (rs2 := 0) (As := [_, _]) (st := _) M_X3_power K_X7_90 (dT U_X7_makeUp 23 rfl) rfl rfl (by decide) rfl rfl (hset_ne (by omega) (hset_ne (by omega) hg)) (by omega) (by decide) rfl (Nat.le_of_ble_eq_true rfl) rfl (by decide) (Nat.le_of_ble_eq_true rfl) rfl rfl ?_
  have se := ok.e hst
  have sv := ok.v hst
  have cb2 := cm_b (p := p) (l := xl) (b := b) hp.1
  rw [show R.y p = MM p R.e from RS.y1 hst]
  refine S_X3_power (hw.s2 (by omega) (by omega)) hp5 se hc ?_
  have eb := modb (z := R.e * c) (p := (p : Int)) (by omega)
  refine xRet_some ?_
  refine x_invokevirtual (rc' := rc) (rs' := rs) (rc2 := 0) (rs2 := 0) (As := [_, _]) (st := _) M_X3_quotient K_X7_93 (dT U_X7_makeUp 24 rfl) rfl rfl (by decide) rfl rfl (hset_ne (by omega) (hset_ne (by omega) hg)) (by omega) (by decide) rfl (Nat.le_of_ble_eq_true rfl) rfl (by decide) (Nat.le_of_ble_eq_true rfl) rfl rfl ?_
  refine S_X3_quotient (hw.s2 (by omega) (by omega)) hp5 cb2 eb ?_
  rw [sm_r, Int.mul_comm R.e c]
  refine xRet_some ?_
  refine x_putfield F_X7_42 (dT U_X7_makeUp 25 rfl) (hset_ne (by omega) (hset_eq hR)) (by omega) (Nat.le_of_ble_eq_true rfl) rfl rfl ?_
  rw [st2a (by omega)]
  refine x_aload_n (dT U_X7_makeUp 26 rfl) rfl ?_
  refine x_aload_n (dT U_X7_makeUp 27 rfl) rfl ?_
  refine x_getfield F_X7_21 (dT U_X7_makeUp 28 rfl) (hset_ne (by omega) (hset_eq hR)) (by omega) rfl ?_
  refine x_aload_n (dT U_X7_makeUp 29 rfl) rfl ?_
  refine x_getfield F_X7_21 (dT U_X7_makeUp 30 rfl) (hset_ne (by omega) (hset_eq hR)) (by omega) rfl ?_
  refine x_aload_n (dT U_X7_makeUp 31 rfl) rfl ?_
  refine x_getfield F_X7_22 (dT U_X7_makeUp 32 rfl) (hset_ne (by omega) (hset_eq hR)) (by omega) rfl ?_
  refine x_aload_n (dT U_X7_makeUp 33 rfl) rfl ?_
  refine x_invokevirtual (rc' := rc) (rs' := rs) (rc2 := 0) (rs2 := 0) (As := [_, _]) (st := _) M_X1_innerOf K_X7_71 (dT U_X7_makeUp 34 rfl) rfl rfl (by decide) rfl rfl (hset_ne (by omega) (hset_ne (by omega) hf)) (by omega) (by decide) rfl (Nat.le_of_ble_eq_true rfl) rfl (by decide) (Nat.le_of_ble_eq_true rfl) rfl rfl ?_
  refine S_X1_innerOf (hset_ne (by omega) (hset_ne (by omega) hf)) hp (hset_ne (by omega) (hset_ne (by omega) hfo)) (by omega) ok.f24 (hset_ne (by omega) (hset_ne (by omega) hx)) (by omega) (lx.mono (by omega)) ?_
  change xRet _ _ _ _ _ _ _ _ _ _ (.inl (some (vi (inn R.form xl % (p : Int))))) _ _
  refine xRet_some ?_
  refine x_aload_n (dT U_X7_makeUp 35 rfl) rfl ?_
  refine x_getfield F_X7_21 (dT U_X7_makeUp 36 rfl) (hset_ne (by omega) (hset_eq hR)) (by omega) rfl ?_
  refine x_iload_n (dT U_X7_makeUp 37 rfl) rfl ?_
  refine x_aload_n (dT U_X7_makeUp 38 rfl) rfl ?_
  refine x_getfield F_X7_39 (dT U_X7_makeUp 39 rfl) (hset_ne (by omega) (hset_eq hR)) (by omega) rfl ?_
  refine x_invokevirtual (rc' := rc) (rs' := rs) (rc2 := 0) (rs2 := 0) (As := [_, _]) (st := _) M_X1_product K_X7_83 (dT U_X7_makeUp 40 rfl) rfl rfl (by decide) rfl rfl (hset_ne (by omega) (hset_ne (by omega) hf)) (by omega) (by decide) rfl (Nat.le_of_ble_eq_true rfl) rfl (by decide) (Nat.le_of_ble_eq_true rfl) rfl rfl ?_
  rw [RS.v1 hst]
  have mv := mulb hc sv (by omega)
  refine S_X1_product (hset_ne (by omega) (hset_ne (by omega) hf)) hp (by unfold xr; omega) ?_
  refine xRet_some ?_
  refine x_invokevirtual (rc' := rc) (rs' := rs) (rc2 := 0) (rs2 := 0) (As := [_, _]) (st := _) M_X1_less K_X7_96 (dT U_X7_makeUp 41 rfl) rfl rfl (by decide) rfl rfl (hset_ne (by omega) (hset_ne (by omega) hf)) (by omega) (by decide) rfl (Nat.le_of_ble_eq_true rfl) rfl (by decide) (Nat.le_of_ble_eq_true rfl) rfl rfl ?_
  have b1 := modb (z := inn R.form xl) (p := (p : Int)) (by omega)
  have b2 := modb (z := c * R.v) (p := (p : Int)) (by omega)
  refine S_X1_less (hset_ne (by omega) (hset_ne (by omega) hf)) hp (by unfold xr; omega) ?_
  rw [sm_r, sm_l]
  refine xRet_some ?_
  refine x_putfield F_X7_45 (dT U_X7_makeUp 42 rfl) (hset_ne (by omega) (hset_eq hR)) (by omega) (Nat.le_of_ble_eq_true rfl) rfl rfl ?_
  rw [st2a (by omega)]
  refine x_return (dT U_X7_makeUp 43 rfl) rfl ?_
  rw [RS.v1 hst, RS.y1 (p := p) hst] at k
  exact k

set_option maxRecDepth 20000 in
set_option maxHeartbeats 1000000 in
theorem S_X7_accepted {G : xG} {d rc rs : Nat} {ex : Bool} {h : xH} {Q : xQ} {p ra : Nat} {R : RS} (hp5 : p ∈ PR) (hr : RA p ra R h) (ok : R.ok p) (hw : GW p h) (k1 : acc p R → Q (.inl (some (vi 1))) ex h) (k0 : ¬ acc p R → Q (.inl (some (vi 0))) ex h) : X G m_X7_accepted (d + 3) rc rs ex 0 (xe m_X7_accepted.2.2.1 [.ref ra]) [] h Q := by
  show X G m_X7_accepted _ _ _ _ 0 [some (.ref ra)] [] h Q
  have hp := PRb hp5
  have hq := gq_b hp5
  obtain ⟨hf, hg, hml, hex, hbs⟩ := id hw
  obtain ⟨r9, hR, hfo, hma, han⟩ := id hr
  have hR : h[ra]? = some (cO 7 [.ref 5, .ref 4, .ref (ra + 1), .ref (ra + 2), .ref (ra + 3), vi (R.y p), vi (R.vv), vi (R.a p), vi (R.ww), vi (R.cc), vi (R.tt), vi (R.mm), vi (R.rr)]) := hR
  have yb := ok.yb hp5
  have ab := ok.ab hp5
  have vb := ok.vb
  have wb := ok.wb
  have cb := ok.cb
  have tb := ok.tb
  have mb := ok.mb'
  refine x_aload_n (dT U_X7_accepted 0 rfl) rfl ?_
  refine x_invokevirtual (rc' := rc) (rs' := rs) (rc2 := 0) (rs2 := 0) (As := []) (st := _) M_X7_hasAnswer K_X7_99 (dT U_X7_accepted 1 rfl) rfl rfl (by decide) rfl rfl hR (by omega) (by decide) rfl (Nat.le_of_ble_eq_true rfl) rfl (by decide) (Nat.le_of_ble_eq_true rfl) rfl rfl ?_
  refine S_X7_hasAnswer hp5 hr ok hw (fun s1 => ?_) (fun s0 => ?_)
  · refine xRet_some ?_
    have s4 : R.st = 4 := by have := ok.s4; omega
    rw [RS.y1 (p := p) (R := R) (by omega), RS.v1 (R := R) (by omega), RS.a1 (p := p) (R := R) (by omega), RS.w1 (R := R) (by omega), RS.c1 (R := R) (by omega), RS.t1 (R := R) (by omega)] at hR
    have se := ok.e (by omega)
    have sv := ok.v (by omega)
    have sf := ok.f (by omega)
    have sfa := ok.fa (by omega)
    have sw := ok.w (by omega)
    have sc := ok.c (by omega)
    have sx := ok.t (by omega)
    have san := ok.an (by omega)
    refine x_if_eq (tgt := 99) (dT U_X7_accepted 2 rfl) (by decide) (by unfold xr at *; omega) (fun c4 => ?_) (fun c4 => ?_)
    · exfalso; omega
    · skip
      refine x_aload_n (dT U_X7_accepted 3 rfl) rfl ?_
      refine x_getfield F_X7_9 (dT U_X7_accepted 4 rfl) hR (by omega) rfl ?_
      refine x_aload_n (dT U_X7_accepted 5 rfl) rfl ?_
      refine x_getfield F_X7_29 (dT U_X7_accepted 6 rfl) hR (by omega) rfl ?_
      refine x_aload_n (dT U_X7_accepted 7 rfl) rfl ?_
      refine x_getfield F_X7_51 (dT U_X7_accepted 8 rfl) hR (by omega) rfl ?_
      refine x_invokevirtual (rc' := rc) (rs' := rs) (rc2 := 0) (rs2 := 0) (As := [_, _]) (st := _) M_X3_commitmentOf K_X7_67 (dT U_X7_accepted 9 rfl) rfl rfl (by decide) rfl rfl hg (by omega) (by decide) rfl (Nat.le_of_ble_eq_true rfl) rfl (by decide) (Nat.le_of_ble_eq_true rfl) rfl rfl ?_
      refine S_X3_commitmentOf hw hp5 han (by omega) san sx ?_
      refine xRet_some ?_
      refine x_aload_n (dT U_X7_accepted 10 rfl) rfl ?_
      refine x_getfield F_X7_9 (dT U_X7_accepted 11 rfl) hR (by omega) rfl ?_
      refine x_aload_n (dT U_X7_accepted 12 rfl) rfl ?_
      refine x_getfield F_X7_42 (dT U_X7_accepted 13 rfl) hR (by omega) rfl ?_
      refine x_aload_n (dT U_X7_accepted 14 rfl) rfl ?_
      refine x_getfield F_X7_9 (dT U_X7_accepted 15 rfl) hR (by omega) rfl ?_
      refine x_aload_n (dT U_X7_accepted 16 rfl) rfl ?_
      refine x_getfield F_X7_35 (dT U_X7_accepted 17 rfl) hR (by omega) rfl ?_
      refine x_aload_n (dT U_X7_accepted 18 rfl) rfl ?_
      refine x_getfield F_X7_48 (dT U_X7_accepted 19 rfl) hR (by omega) rfl ?_
      refine x_invokevirtual (rc' := rc) (rs' := rs) (rc2 := 0) (rs2 := 0) (As := [_, _]) (st := _) M_X3_power K_X7_90 (dT U_X7_accepted 20 rfl) rfl rfl (by decide) rfl rfl hg (by omega) (by decide) rfl (Nat.le_of_ble_eq_true rfl) rfl (by decide) (Nat.le_of_ble_eq_true rfl) rfl rfl ?_
      refine S_X3_power hw hp5 se sc ?_
      refine xRet_some ?_
      refine x_invokevirtual (rc' := rc) (rs' := rs) (rc2 := 0) (rs2 := 0) (As := [_, _]) (st := _) M_X3_product K_X7_103 (dT U_X7_accepted 21 rfl) rfl rfl (by decide) rfl rfl hg (by omega) (by decide) rfl (Nat.le_of_ble_eq_true rfl) rfl (by decide) (Nat.le_of_ble_eq_true rfl) rfl rfl ?_
      have eb := modb (z := R.e * R.c) (p := (p : Int)) (by omega)
      have m1 := MM_b hp5 sfa
      have m2 := MM_b hp5 eb
      refine S_X3_product hg (by omega) (by omega) (by omega) ?_
      rw [MM_mul hp5 sfa eb, am_r, Int.mul_comm R.e R.c]
      have b1 := modb (z := R.fa + R.c * R.e) (p := (p : Int)) (by omega)
      have b2 := cm_b (p := p) (l := R.answer) (b := R.t) hp.1
      have m3 := MM_b hp5 b1
      have m4 := MM_b hp5 b2
      refine xRet_some ?_
      refine x_icmp_ne (tgt := 99) (dT U_X7_accepted 22 rfl) (by decide) (by unfold xr; omega) (by unfold xr; omega) (fun c48 => ?_) (fun c48 => ?_)
      · skip
        have n1 : ¬ acc p R := fun z => by have h8 := congrArg (MM p) z.2.1; omega
        refine x_iconst (dT U_X7_accepted 45 rfl) ?_
        refine x_zreturn (dT U_X7_accepted 46 rfl) rfl (by omega) ?_
        first | exact k0 n1 | exact k1 ⟨s4, n2, by assumption⟩ | exact k1 ⟨s4, n2, Decidable.byContradiction (fun z => by omega)⟩ | exact k0 (fun z => by have := z.2.2; omega)
      · skip
        have n2 : cm p R.answer R.t = (R.fa + R.c * R.e) % (p : Int) := MM_inj hp5 b2 b1 (by omega)
        refine x_aload_n (dT U_X7_accepted 23 rfl) rfl ?_
        refine x_getfield F_X7_21 (dT U_X7_accepted 24 rfl) hR (by omega) rfl ?_
        refine x_aload_n (dT U_X7_accepted 25 rfl) rfl ?_
        refine x_getfield F_X7_22 (dT U_X7_accepted 26 rfl) hR (by omega) rfl ?_
        refine x_aload_n (dT U_X7_accepted 27 rfl) rfl ?_
        refine x_getfield F_X7_29 (dT U_X7_accepted 28 rfl) hR (by omega) rfl ?_
        refine x_invokevirtual (rc' := rc) (rs' := rs) (rc2 := 0) (rs2 := 0) (As := [_, _]) (st := _) M_X1_innerOf K_X7_71 (dT U_X7_accepted 29 rfl) rfl rfl (by decide) rfl rfl hf (by omega) (by decide) rfl (Nat.le_of_ble_eq_true rfl) rfl (by decide) (Nat.le_of_ble_eq_true rfl) rfl rfl ?_
        refine S_X1_innerOf hf hp hfo (by omega) ok.f24 han (by omega) ok.a24 ?_
        change xRet _ _ _ _ _ _ _ _ _ _ (.inl (some (vi (inn R.form R.answer % (p : Int))))) _ _
        refine xRet_some ?_
        refine x_aload_n (dT U_X7_accepted 30 rfl) rfl ?_
        refine x_getfield F_X7_21 (dT U_X7_accepted 31 rfl) hR (by omega) rfl ?_
        refine x_aload_n (dT U_X7_accepted 32 rfl) rfl ?_
        refine x_getfield F_X7_45 (dT U_X7_accepted 33 rfl) hR (by omega) rfl ?_
        refine x_aload_n (dT U_X7_accepted 34 rfl) rfl ?_
        refine x_getfield F_X7_21 (dT U_X7_accepted 35 rfl) hR (by omega) rfl ?_
        refine x_aload_n (dT U_X7_accepted 36 rfl) rfl ?_
        refine x_getfield F_X7_48 (dT U_X7_accepted 37 rfl) hR (by omega) rfl ?_
        refine x_aload_n (dT U_X7_accepted 38 rfl) rfl ?_
        refine x_getfield F_X7_39 (dT U_X7_accepted 39 rfl) hR (by omega) rfl ?_
        refine x_invokevirtual (rc' := rc) (rs' := rs) (rc2 := 0) (rs2 := 0) (As := [_, _]) (st := _) M_X1_product K_X7_83 (dT U_X7_accepted 40 rfl) rfl rfl (by decide) rfl rfl hf (by omega) (by decide) rfl (Nat.le_of_ble_eq_true rfl) rfl (by decide) (Nat.le_of_ble_eq_true rfl) rfl rfl ?_
        have mv := mulb sc sv (by omega)
        refine S_X1_product hf hp (by unfold xr; omega) ?_
        refine xRet_some ?_
        refine x_invokevirtual (rc' := rc) (rs' := rs) (rc2 := 0) (rs2 := 0) (As := [_, _]) (st := _) M_X1_sum K_X7_87 (dT U_X7_accepted 41 rfl) rfl rfl (by decide) rfl rfl hf (by omega) (by decide) rfl (Nat.le_of_ble_eq_true rfl) rfl (by decide) (Nat.le_of_ble_eq_true rfl) rfl rfl ?_
        have b5 := modb (z := R.c * R.v) (p := (p : Int)) (by omega)
        refine S_X1_sum hf hp (by unfold xr; omega) ?_
        rw [am_r]
        have b6 := modb (z := R.w + R.c * R.v) (p := (p : Int)) (by omega)
        have b7 := modb (z := inn R.form R.answer) (p := (p : Int)) (by omega)
        refine xRet_some ?_
        refine x_icmp_ne (tgt := 99) (dT U_X7_accepted 42 rfl) (by decide) (by unfold xr; omega) (by unfold xr; omega) (fun c92 => ?_) (fun c92 => ?_)
        · skip
          refine x_iconst (dT U_X7_accepted 45 rfl) ?_
          refine x_zreturn (dT U_X7_accepted 46 rfl) rfl (by omega) ?_
          first | exact k0 n1 | exact k1 ⟨s4, n2, by assumption⟩ | exact k1 ⟨s4, n2, Decidable.byContradiction (fun z => by omega)⟩ | exact k0 (fun z => by have := z.2.2; omega)
        · skip
          refine x_iconst (dT U_X7_accepted 43 rfl) ?_
          refine x_goto (tgt := 100) (dT U_X7_accepted 44 rfl) (by decide) ?_
          refine x_zreturn (dT U_X7_accepted 46 rfl) rfl (by omega) ?_
          first | exact k0 n1 | exact k1 ⟨s4, n2, by assumption⟩ | exact k1 ⟨s4, n2, Decidable.byContradiction (fun z => by omega)⟩ | exact k0 (fun z => by have := z.2.2; omega)
  · refine xRet_some ?_
    refine x_if_eq (tgt := 99) (dT U_X7_accepted 2 rfl) (by decide) (by unfold xr at *; omega) (fun c4 => ?_) (fun c4 => ?_)
    · skip
      refine x_iconst (dT U_X7_accepted 45 rfl) ?_
      refine x_zreturn (dT U_X7_accepted 46 rfl) rfl (by omega) ?_
      exact k0 (fun z => by have := z.1; omega)
    · exfalso; omega
