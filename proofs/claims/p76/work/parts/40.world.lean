abbrev GA : Type := Nat × List Int × List Int × List Int × List Int
abbrev GS : Type := Int × Int × Int × Int × Nat × Int × Int × List Int × List Int × List Int
abbrev LD : Type := Nat × Int × Int × List Int × List Int
abbrev St : Type := Nat × (Nat → List Int) × (Nat → RS) × (Nat → PS) × GA × GS × LD
def St.p (σ : St) : Nat := σ.1
def St.rw (σ : St) : Nat → List Int := σ.2.1
def St.R (σ : St) : Nat → RS := σ.2.2.1
def St.P (σ : St) : Nat → PS := σ.2.2.2.1
def St.G (σ : St) : GA := σ.2.2.2.2.1
def St.g (σ : St) : GS := σ.2.2.2.2.2.1
def St.L (σ : St) : LD := σ.2.2.2.2.2.2
def fup {α : Type} (f : Nat → α) (i : Nat) (v : α) : Nat → α := fun j => if j = i then v else f j
theorem fup_eq {α : Type} {f : Nat → α} {i : Nat} {v : α} : fup f i v i = v := if_pos rfl
theorem fup_ne {α : Type} {f : Nat → α} {i j : Nat} {v : α} (h : j ≠ i) : fup f i v j = f j := if_neg h
def St.sRow (σ : St) (i : Nat) (l : List Int) : St := (σ.p, fup σ.rw i l, σ.R, σ.P, σ.G, σ.g, σ.L)
def St.sRun (σ : St) (i : Nat) (R : RS) : St := (σ.p, σ.rw, fup σ.R i R, σ.P, σ.G, σ.g, σ.L)
def St.sPair (σ : St) (i : Nat) (P : PS) : St := (σ.p, σ.rw, σ.R, fup σ.P i P, σ.G, σ.g, σ.L)
def St.sG (σ : St) (G : GA) : St := (σ.p, σ.rw, σ.R, σ.P, G, σ.g, σ.L)
def St.sg (σ : St) (g : GS) : St := (σ.p, σ.rw, σ.R, σ.P, σ.G, g, σ.L)
def St.sL (σ : St) (L : LD) : St := (σ.p, σ.rw, σ.R, σ.P, σ.G, σ.g, L)
def GA.n (G : GA) : Nat := G.1
def GA.k (G : GA) : List Int := G.2.1
def GA.a (G : GA) : List Int := G.2.2.1
def GA.b (G : GA) : List Int := G.2.2.2.1
def GA.c (G : GA) : List Int := G.2.2.2.2
def GS.b (g : GS) : Int := g.1
def GS.s (g : GS) : Int := g.2.1
def GS.i (g : GS) : Int := g.2.2.1
def GS.c (g : GS) : Int := g.2.2.2.1
def GS.r (g : GS) : Nat := g.2.2.2.2.1
def GS.z (g : GS) : Int := g.2.2.2.2.2.1
def GS.o (g : GS) : Int := g.2.2.2.2.2.2.1
def GS.l (g : GS) : List Int := g.2.2.2.2.2.2.2.1
def GS.tbl (g : GS) : List Int := g.2.2.2.2.2.2.2.2.1
def GS.dr (g : GS) : List Int := g.2.2.2.2.2.2.2.2.2
def LD.n (L : LD) : Nat := L.1
def LD.mi (L : LD) : Int := L.2.1
def LD.pa (L : LD) : Int := L.2.2.1
def LD.nn (L : LD) : List Int := L.2.2.2.1
def LD.gl (L : LD) : List Int := L.2.2.2.2
def runsL : List (Option Nat) := [some 22, some 26, some 30, some 34]
def pairsL : List (Option Nat) := [some 39, some 43]
theorem runsL_get0 : ∀ j ∈ List.range 4, runsL[j]? = some (some (22 + 4 * j)) := by decide
theorem runsL_get {j : Nat} (h : j < 4) : runsL[j]? = some (some (22 + 4 * j)) := runsL_get0 j (List.mem_range.mpr h)
theorem pairsL_get0 : ∀ j ∈ List.range 2, pairsL[j]? = some (some (39 + 4 * j)) := by decide
theorem pairsL_get {j : Nat} (h : j < 2) : pairsL[j]? = some (some (39 + 4 * j)) := pairsL_get0 j (List.mem_range.mpr h)
/-- h2 is h but for the cells from lo to hi -/
def Ag (lo hi : Nat) (h h2 : xH) : Prop := h2.length = h.length ∧ ∀ a, ¬ (lo ≤ a ∧ a ≤ hi) → h2[a]? = h[a]?
theorem Ag.rf (lo hi : Nat) (h : xH) : Ag lo hi h h := ⟨rfl, fun _ _ => rfl⟩
theorem Ag.set {lo hi a : Nat} {x : xC} {h h2 : xH} (g : Ag lo hi h h2) (ha : lo ≤ a ∧ a ≤ hi) : Ag lo hi h (h2.set a x) := ⟨by rw [List.length_set]; exact g.1, fun b hb => by rw [hset_fr (by omega)]; exact g.2 b hb⟩
theorem Ag.get {lo hi a : Nat} {c : xC} {h h2 : xH} (g : Ag lo hi h h2) (hc : h[a]? = some c) (ha : ¬ (lo ≤ a ∧ a ≤ hi)) : h2[a]? = some c := (g.2 a ha).trans hc
theorem Ag.w {lo hi lo2 hi2 : Nat} {h h2 : xH} (g : Ag lo hi h h2) (q : lo2 ≤ lo ∧ hi ≤ hi2) : Ag lo2 hi2 h h2 := ⟨g.1, fun b hb => g.2 b (by omega)⟩
theorem Ag.tr {lo hi : Nat} {h h2 h3 : xH} (g : Ag lo hi h h2) (k : Ag lo hi h2 h3) : Ag lo hi h h3 := ⟨k.1.trans g.1, fun b hb => (k.2 b hb).trans (g.2 b hb)⟩
abbrev FC (h h2 : xH) : Prop := Ag 3 69 h h2
theorem GW.ag {p lo hi : Nat} {h h2 : xH} (w : GW p h) (g : Ag lo hi h h2) (q : 9 ≤ lo ∨ hi < 4) : GW p h2 := by
  obtain ⟨a1, b, ⟨ml, c1, c2, c3⟩, d, e⟩ := w
  exact ⟨g.get a1 (by omega), g.get b (by omega), ⟨ml, g.get c1 (by omega), c2, c3⟩, g.get d (by omega), g.get e (by omega)⟩
theorem RA.ag {p ra lo hi : Nat} {R : RS} {h h2 : xH} (w : RA p ra R h) (g : Ag lo hi h h2) (q : ra + 3 < lo ∨ hi < ra) : RA p ra R h2 := by
  obtain ⟨a, b, c, d, e⟩ := w
  exact ⟨a, g.get b (by omega), g.get c (by omega), g.get d (by omega), g.get e (by omega)⟩
theorem PAt.ag {p pa lo hi : Nat} {P : PS} {h h2 : xH} (w : PAt p pa P h) (g : Ag lo hi h h2) (q : pa + 3 < lo ∨ hi < pa) : PAt p pa P h2 := by
  obtain ⟨a, b, c, d, e⟩ := w
  exact ⟨a, g.get b (by omega), g.get c (by omega), g.get d (by omega), g.get e (by omega)⟩

def CW (σ : St) (h : xH) : Prop := (h[3]? = some (cO 10 [.ref 4, .ref 5, .ref 9, .ref 18, .ref 21, .ref 38, .ref 47, .ref 52, .ref 54, .ref 56, .ref 58, .ref 60, .ref 64, .ref 68, .ref 69])) ∧ (GW σ.p h) ∧ (h[9]? = some (cQ 4 rowsL)) ∧ (∀ j, j < 8 → h[10 + j]? = some (cA 0 (σ.rw j))) ∧ (h[18]? = some (cO 6 [.ref 4, .ref 19, .ref 20])) ∧ (∃ l : List Int, h[19]? = some (cA 0 l) ∧ l.length = 8) ∧ (∃ l : List Int, h[20]? = some (cA 0 l) ∧ l.length = 8) ∧ (h[21]? = some (cQ 5 runsL)) ∧ (∀ i, i < 4 → RA σ.p (22 + 4 * i) (σ.R i) h) ∧ (h[38]? = some (cQ 6 pairsL)) ∧ (∀ j, j < 2 → PAt σ.p (39 + 4 * j) (σ.P j) h) ∧ (h[47]? = some (cC σ.G.n)) ∧ (h[48]? = some (cA 0 σ.G.k)) ∧ (h[49]? = some (cA 0 σ.G.a)) ∧ (h[50]? = some (cA 0 σ.G.b)) ∧ (h[51]? = some (cA 0 σ.G.c)) ∧ (h[52]? = some (cG σ.g.b σ.g.s σ.g.i σ.g.c σ.g.r σ.g.z σ.g.o)) ∧ (h[53]? = some (cA 0 σ.g.l)) ∧ (h[54]? = some (cL σ.L.n (MM σ.p σ.L.mi) (MM σ.p σ.L.pa))) ∧ (h[55]? = some (cA 0 σ.L.gl)) ∧ (h[56]? = some (cO 8 [.ref 57])) ∧ (∃ l : List Int, h[57]? = some (cA 0 l) ∧ l.length = 16) ∧ (h[58]? = some (cO 8 [.ref 59])) ∧ (∃ l : List Int, h[59]? = some (cA 0 l) ∧ l.length = 16) ∧ (h[60]? = some (cO 9 [.ref 61, .ref 62, .ref 63])) ∧ (∃ l : List Int, h[61]? = some (cA 0 l) ∧ l.length = 4) ∧ (∃ l : List Int, h[62]? = some (cA 0 l) ∧ l.length = 4) ∧ (∃ l : List Int, h[63]? = some (cA 0 l) ∧ l.length = 4) ∧ (h[64]? = some (cO 9 [.ref 65, .ref 66, .ref 67])) ∧ (∃ l : List Int, h[65]? = some (cA 0 l) ∧ l.length = 4) ∧ (∃ l : List Int, h[66]? = some (cA 0 l) ∧ l.length = 4) ∧ (∃ l : List Int, h[67]? = some (cA 0 l) ∧ l.length = 4) ∧ (∃ l : List Int, h[68]? = some (cA 0 l) ∧ l.length = 8) ∧ (∃ l : List Int, h[69]? = some (cA 0 l) ∧ l.length = 8)
theorem CW.c3 {σ : St} {h : xH} (w : CW σ h) : h[3]? = some (cO 10 [.ref 4, .ref 5, .ref 9, .ref 18, .ref 21, .ref 38, .ref 47, .ref 52, .ref 54, .ref 56, .ref 58, .ref 60, .ref 64, .ref 68, .ref 69]) := w.1
theorem CW.gw {σ : St} {h : xH} (w : CW σ h) : GW σ.p h := w.2.1
theorem CW.c9 {σ : St} {h : xH} (w : CW σ h) : h[9]? = some (cQ 4 rowsL) := w.2.2.1
theorem CW.rows {σ : St} {h : xH} (w : CW σ h) : ∀ j, j < 8 → h[10 + j]? = some (cA 0 (σ.rw j)) := w.2.2.2.1
theorem CW.c18 {σ : St} {h : xH} (w : CW σ h) : h[18]? = some (cO 6 [.ref 4, .ref 19, .ref 20]) := w.2.2.2.2.1
theorem CW.s19 {σ : St} {h : xH} (w : CW σ h) : ∃ l : List Int, h[19]? = some (cA 0 l) ∧ l.length = 8 := w.2.2.2.2.2.1
theorem CW.s20 {σ : St} {h : xH} (w : CW σ h) : ∃ l : List Int, h[20]? = some (cA 0 l) ∧ l.length = 8 := w.2.2.2.2.2.2.1
theorem CW.c21 {σ : St} {h : xH} (w : CW σ h) : h[21]? = some (cQ 5 runsL) := w.2.2.2.2.2.2.2.1
theorem CW.runs {σ : St} {h : xH} (w : CW σ h) : ∀ i, i < 4 → RA σ.p (22 + 4 * i) (σ.R i) h := w.2.2.2.2.2.2.2.2.1
theorem CW.c38 {σ : St} {h : xH} (w : CW σ h) : h[38]? = some (cQ 6 pairsL) := w.2.2.2.2.2.2.2.2.2.1
theorem CW.pairs {σ : St} {h : xH} (w : CW σ h) : ∀ j, j < 2 → PAt σ.p (39 + 4 * j) (σ.P j) h := w.2.2.2.2.2.2.2.2.2.2.1
theorem CW.c47 {σ : St} {h : xH} (w : CW σ h) : h[47]? = some (cC σ.G.n) := w.2.2.2.2.2.2.2.2.2.2.2.1
theorem CW.c48 {σ : St} {h : xH} (w : CW σ h) : h[48]? = some (cA 0 σ.G.k) := w.2.2.2.2.2.2.2.2.2.2.2.2.1
theorem CW.c49 {σ : St} {h : xH} (w : CW σ h) : h[49]? = some (cA 0 σ.G.a) := w.2.2.2.2.2.2.2.2.2.2.2.2.2.1
theorem CW.c50 {σ : St} {h : xH} (w : CW σ h) : h[50]? = some (cA 0 σ.G.b) := w.2.2.2.2.2.2.2.2.2.2.2.2.2.2.1
theorem CW.c51 {σ : St} {h : xH} (w : CW σ h) : h[51]? = some (cA 0 σ.G.c) := w.2.2.2.2.2.2.2.2.2.2.2.2.2.2.2.1
theorem CW.c52 {σ : St} {h : xH} (w : CW σ h) : h[52]? = some (cG σ.g.b σ.g.s σ.g.i σ.g.c σ.g.r σ.g.z σ.g.o) := w.2.2.2.2.2.2.2.2.2.2.2.2.2.2.2.2.1
theorem CW.c53 {σ : St} {h : xH} (w : CW σ h) : h[53]? = some (cA 0 σ.g.l) := w.2.2.2.2.2.2.2.2.2.2.2.2.2.2.2.2.2.1
theorem CW.c54 {σ : St} {h : xH} (w : CW σ h) : h[54]? = some (cL σ.L.n (MM σ.p σ.L.mi) (MM σ.p σ.L.pa)) := w.2.2.2.2.2.2.2.2.2.2.2.2.2.2.2.2.2.2.1
theorem CW.c55 {σ : St} {h : xH} (w : CW σ h) : h[55]? = some (cA 0 σ.L.gl) := w.2.2.2.2.2.2.2.2.2.2.2.2.2.2.2.2.2.2.2.1
theorem CW.c56 {σ : St} {h : xH} (w : CW σ h) : h[56]? = some (cO 8 [.ref 57]) := w.2.2.2.2.2.2.2.2.2.2.2.2.2.2.2.2.2.2.2.2.1
theorem CW.s57 {σ : St} {h : xH} (w : CW σ h) : ∃ l : List Int, h[57]? = some (cA 0 l) ∧ l.length = 16 := w.2.2.2.2.2.2.2.2.2.2.2.2.2.2.2.2.2.2.2.2.2.1
theorem CW.c58 {σ : St} {h : xH} (w : CW σ h) : h[58]? = some (cO 8 [.ref 59]) := w.2.2.2.2.2.2.2.2.2.2.2.2.2.2.2.2.2.2.2.2.2.2.1
theorem CW.s59 {σ : St} {h : xH} (w : CW σ h) : ∃ l : List Int, h[59]? = some (cA 0 l) ∧ l.length = 16 := w.2.2.2.2.2.2.2.2.2.2.2.2.2.2.2.2.2.2.2.2.2.2.2.1
theorem CW.c60 {σ : St} {h : xH} (w : CW σ h) : h[60]? = some (cO 9 [.ref 61, .ref 62, .ref 63]) := w.2.2.2.2.2.2.2.2.2.2.2.2.2.2.2.2.2.2.2.2.2.2.2.2.1
theorem CW.s61 {σ : St} {h : xH} (w : CW σ h) : ∃ l : List Int, h[61]? = some (cA 0 l) ∧ l.length = 4 := w.2.2.2.2.2.2.2.2.2.2.2.2.2.2.2.2.2.2.2.2.2.2.2.2.2.1
theorem CW.s62 {σ : St} {h : xH} (w : CW σ h) : ∃ l : List Int, h[62]? = some (cA 0 l) ∧ l.length = 4 := w.2.2.2.2.2.2.2.2.2.2.2.2.2.2.2.2.2.2.2.2.2.2.2.2.2.2.1
theorem CW.s63 {σ : St} {h : xH} (w : CW σ h) : ∃ l : List Int, h[63]? = some (cA 0 l) ∧ l.length = 4 := w.2.2.2.2.2.2.2.2.2.2.2.2.2.2.2.2.2.2.2.2.2.2.2.2.2.2.2.1
theorem CW.c64 {σ : St} {h : xH} (w : CW σ h) : h[64]? = some (cO 9 [.ref 65, .ref 66, .ref 67]) := w.2.2.2.2.2.2.2.2.2.2.2.2.2.2.2.2.2.2.2.2.2.2.2.2.2.2.2.2.1
theorem CW.s65 {σ : St} {h : xH} (w : CW σ h) : ∃ l : List Int, h[65]? = some (cA 0 l) ∧ l.length = 4 := w.2.2.2.2.2.2.2.2.2.2.2.2.2.2.2.2.2.2.2.2.2.2.2.2.2.2.2.2.2.1
theorem CW.s66 {σ : St} {h : xH} (w : CW σ h) : ∃ l : List Int, h[66]? = some (cA 0 l) ∧ l.length = 4 := w.2.2.2.2.2.2.2.2.2.2.2.2.2.2.2.2.2.2.2.2.2.2.2.2.2.2.2.2.2.2.1
theorem CW.s67 {σ : St} {h : xH} (w : CW σ h) : ∃ l : List Int, h[67]? = some (cA 0 l) ∧ l.length = 4 := w.2.2.2.2.2.2.2.2.2.2.2.2.2.2.2.2.2.2.2.2.2.2.2.2.2.2.2.2.2.2.2.1
theorem CW.s68 {σ : St} {h : xH} (w : CW σ h) : ∃ l : List Int, h[68]? = some (cA 0 l) ∧ l.length = 8 := w.2.2.2.2.2.2.2.2.2.2.2.2.2.2.2.2.2.2.2.2.2.2.2.2.2.2.2.2.2.2.2.2.1
theorem CW.s69 {σ : St} {h : xH} (w : CW σ h) : ∃ l : List Int, h[69]? = some (cA 0 l) ∧ l.length = 8 := w.2.2.2.2.2.2.2.2.2.2.2.2.2.2.2.2.2.2.2.2.2.2.2.2.2.2.2.2.2.2.2.2.2
set_option maxRecDepth 20000 in
theorem CW.out {σ : St} {h h2 : xH} {lo hi : Nat} (w : CW σ h) (g : Ag lo hi h h2) (q : 70 ≤ lo) : CW σ h2 := ⟨
  g.get w.c3 (by omega),
  w.gw.ag g (by omega),
  g.get w.c9 (by omega),
  fun j hj => g.get (w.rows j hj) (by omega),
  g.get w.c18 (by omega),
  Exists.elim w.s19 (fun l q => ⟨l, g.get q.1 (by omega), q.2⟩),
  Exists.elim w.s20 (fun l q => ⟨l, g.get q.1 (by omega), q.2⟩),
  g.get w.c21 (by omega),
  fun i hi => (w.runs i hi).ag g (by omega),
  g.get w.c38 (by omega),
  fun j hj => (w.pairs j hj).ag g (by omega),
  g.get w.c47 (by omega),
  g.get w.c48 (by omega),
  g.get w.c49 (by omega),
  g.get w.c50 (by omega),
  g.get w.c51 (by omega),
  g.get w.c52 (by omega),
  g.get w.c53 (by omega),
  g.get w.c54 (by omega),
  g.get w.c55 (by omega),
  g.get w.c56 (by omega),
  Exists.elim w.s57 (fun l q => ⟨l, g.get q.1 (by omega), q.2⟩),
  g.get w.c58 (by omega),
  Exists.elim w.s59 (fun l q => ⟨l, g.get q.1 (by omega), q.2⟩),
  g.get w.c60 (by omega),
  Exists.elim w.s61 (fun l q => ⟨l, g.get q.1 (by omega), q.2⟩),
  Exists.elim w.s62 (fun l q => ⟨l, g.get q.1 (by omega), q.2⟩),
  Exists.elim w.s63 (fun l q => ⟨l, g.get q.1 (by omega), q.2⟩),
  g.get w.c64 (by omega),
  Exists.elim w.s65 (fun l q => ⟨l, g.get q.1 (by omega), q.2⟩),
  Exists.elim w.s66 (fun l q => ⟨l, g.get q.1 (by omega), q.2⟩),
  Exists.elim w.s67 (fun l q => ⟨l, g.get q.1 (by omega), q.2⟩),
  Exists.elim w.s68 (fun l q => ⟨l, g.get q.1 (by omega), q.2⟩),
  Exists.elim w.s69 (fun l q => ⟨l, g.get q.1 (by omega), q.2⟩)⟩
set_option maxRecDepth 20000 in
theorem CW.t19 {σ : St} {h h2 : xH} {l : List Int} (w : CW σ h) (g : Ag 19 19 h h2) (q : h2[19]? = some (cA 0 l)) (ql : l.length = 8) : CW σ h2 := ⟨
  g.get w.c3 (by omega),
  w.gw.ag g (by omega),
  g.get w.c9 (by omega),
  fun j hj => g.get (w.rows j hj) (by omega),
  g.get w.c18 (by omega),
  ⟨l, q, ql⟩,
  Exists.elim w.s20 (fun l q => ⟨l, g.get q.1 (by omega), q.2⟩),
  g.get w.c21 (by omega),
  fun i hi => (w.runs i hi).ag g (by omega),
  g.get w.c38 (by omega),
  fun j hj => (w.pairs j hj).ag g (by omega),
  g.get w.c47 (by omega),
  g.get w.c48 (by omega),
  g.get w.c49 (by omega),
  g.get w.c50 (by omega),
  g.get w.c51 (by omega),
  g.get w.c52 (by omega),
  g.get w.c53 (by omega),
  g.get w.c54 (by omega),
  g.get w.c55 (by omega),
  g.get w.c56 (by omega),
  Exists.elim w.s57 (fun l q => ⟨l, g.get q.1 (by omega), q.2⟩),
  g.get w.c58 (by omega),
  Exists.elim w.s59 (fun l q => ⟨l, g.get q.1 (by omega), q.2⟩),
  g.get w.c60 (by omega),
  Exists.elim w.s61 (fun l q => ⟨l, g.get q.1 (by omega), q.2⟩),
  Exists.elim w.s62 (fun l q => ⟨l, g.get q.1 (by omega), q.2⟩),
  Exists.elim w.s63 (fun l q => ⟨l, g.get q.1 (by omega), q.2⟩),
  g.get w.c64 (by omega),
  Exists.elim w.s65 (fun l q => ⟨l, g.get q.1 (by omega), q.2⟩),
  Exists.elim w.s66 (fun l q => ⟨l, g.get q.1 (by omega), q.2⟩),
  Exists.elim w.s67 (fun l q => ⟨l, g.get q.1 (by omega), q.2⟩),
  Exists.elim w.s68 (fun l q => ⟨l, g.get q.1 (by omega), q.2⟩),
  Exists.elim w.s69 (fun l q => ⟨l, g.get q.1 (by omega), q.2⟩)⟩
set_option maxRecDepth 20000 in
theorem CW.t20 {σ : St} {h h2 : xH} {l : List Int} (w : CW σ h) (g : Ag 20 20 h h2) (q : h2[20]? = some (cA 0 l)) (ql : l.length = 8) : CW σ h2 := ⟨
  g.get w.c3 (by omega),
  w.gw.ag g (by omega),
  g.get w.c9 (by omega),
  fun j hj => g.get (w.rows j hj) (by omega),
  g.get w.c18 (by omega),
  Exists.elim w.s19 (fun l q => ⟨l, g.get q.1 (by omega), q.2⟩),
  ⟨l, q, ql⟩,
  g.get w.c21 (by omega),
  fun i hi => (w.runs i hi).ag g (by omega),
  g.get w.c38 (by omega),
  fun j hj => (w.pairs j hj).ag g (by omega),
  g.get w.c47 (by omega),
  g.get w.c48 (by omega),
  g.get w.c49 (by omega),
  g.get w.c50 (by omega),
  g.get w.c51 (by omega),
  g.get w.c52 (by omega),
  g.get w.c53 (by omega),
  g.get w.c54 (by omega),
  g.get w.c55 (by omega),
  g.get w.c56 (by omega),
  Exists.elim w.s57 (fun l q => ⟨l, g.get q.1 (by omega), q.2⟩),
  g.get w.c58 (by omega),
  Exists.elim w.s59 (fun l q => ⟨l, g.get q.1 (by omega), q.2⟩),
  g.get w.c60 (by omega),
  Exists.elim w.s61 (fun l q => ⟨l, g.get q.1 (by omega), q.2⟩),
  Exists.elim w.s62 (fun l q => ⟨l, g.get q.1 (by omega), q.2⟩),
  Exists.elim w.s63 (fun l q => ⟨l, g.get q.1 (by omega), q.2⟩),
  g.get w.c64 (by omega),
  Exists.elim w.s65 (fun l q => ⟨l, g.get q.1 (by omega), q.2⟩),
  Exists.elim w.s66 (fun l q => ⟨l, g.get q.1 (by omega), q.2⟩),
  Exists.elim w.s67 (fun l q => ⟨l, g.get q.1 (by omega), q.2⟩),
  Exists.elim w.s68 (fun l q => ⟨l, g.get q.1 (by omega), q.2⟩),
  Exists.elim w.s69 (fun l q => ⟨l, g.get q.1 (by omega), q.2⟩)⟩
set_option maxRecDepth 20000 in
theorem CW.t57 {σ : St} {h h2 : xH} {l : List Int} (w : CW σ h) (g : Ag 57 57 h h2) (q : h2[57]? = some (cA 0 l)) (ql : l.length = 16) : CW σ h2 := ⟨
  g.get w.c3 (by omega),
  w.gw.ag g (by omega),
  g.get w.c9 (by omega),
  fun j hj => g.get (w.rows j hj) (by omega),
  g.get w.c18 (by omega),
  Exists.elim w.s19 (fun l q => ⟨l, g.get q.1 (by omega), q.2⟩),
  Exists.elim w.s20 (fun l q => ⟨l, g.get q.1 (by omega), q.2⟩),
  g.get w.c21 (by omega),
  fun i hi => (w.runs i hi).ag g (by omega),
  g.get w.c38 (by omega),
  fun j hj => (w.pairs j hj).ag g (by omega),
  g.get w.c47 (by omega),
  g.get w.c48 (by omega),
  g.get w.c49 (by omega),
  g.get w.c50 (by omega),
  g.get w.c51 (by omega),
  g.get w.c52 (by omega),
  g.get w.c53 (by omega),
  g.get w.c54 (by omega),
  g.get w.c55 (by omega),
  g.get w.c56 (by omega),
  ⟨l, q, ql⟩,
  g.get w.c58 (by omega),
  Exists.elim w.s59 (fun l q => ⟨l, g.get q.1 (by omega), q.2⟩),
  g.get w.c60 (by omega),
  Exists.elim w.s61 (fun l q => ⟨l, g.get q.1 (by omega), q.2⟩),
  Exists.elim w.s62 (fun l q => ⟨l, g.get q.1 (by omega), q.2⟩),
  Exists.elim w.s63 (fun l q => ⟨l, g.get q.1 (by omega), q.2⟩),
  g.get w.c64 (by omega),
  Exists.elim w.s65 (fun l q => ⟨l, g.get q.1 (by omega), q.2⟩),
  Exists.elim w.s66 (fun l q => ⟨l, g.get q.1 (by omega), q.2⟩),
  Exists.elim w.s67 (fun l q => ⟨l, g.get q.1 (by omega), q.2⟩),
  Exists.elim w.s68 (fun l q => ⟨l, g.get q.1 (by omega), q.2⟩),
  Exists.elim w.s69 (fun l q => ⟨l, g.get q.1 (by omega), q.2⟩)⟩
set_option maxRecDepth 20000 in
theorem CW.t59 {σ : St} {h h2 : xH} {l : List Int} (w : CW σ h) (g : Ag 59 59 h h2) (q : h2[59]? = some (cA 0 l)) (ql : l.length = 16) : CW σ h2 := ⟨
  g.get w.c3 (by omega),
  w.gw.ag g (by omega),
  g.get w.c9 (by omega),
  fun j hj => g.get (w.rows j hj) (by omega),
  g.get w.c18 (by omega),
  Exists.elim w.s19 (fun l q => ⟨l, g.get q.1 (by omega), q.2⟩),
  Exists.elim w.s20 (fun l q => ⟨l, g.get q.1 (by omega), q.2⟩),
  g.get w.c21 (by omega),
  fun i hi => (w.runs i hi).ag g (by omega),
  g.get w.c38 (by omega),
  fun j hj => (w.pairs j hj).ag g (by omega),
  g.get w.c47 (by omega),
  g.get w.c48 (by omega),
  g.get w.c49 (by omega),
  g.get w.c50 (by omega),
  g.get w.c51 (by omega),
  g.get w.c52 (by omega),
  g.get w.c53 (by omega),
  g.get w.c54 (by omega),
  g.get w.c55 (by omega),
  g.get w.c56 (by omega),
  Exists.elim w.s57 (fun l q => ⟨l, g.get q.1 (by omega), q.2⟩),
  g.get w.c58 (by omega),
  ⟨l, q, ql⟩,
  g.get w.c60 (by omega),
  Exists.elim w.s61 (fun l q => ⟨l, g.get q.1 (by omega), q.2⟩),
  Exists.elim w.s62 (fun l q => ⟨l, g.get q.1 (by omega), q.2⟩),
  Exists.elim w.s63 (fun l q => ⟨l, g.get q.1 (by omega), q.2⟩),
  g.get w.c64 (by omega),
  Exists.elim w.s65 (fun l q => ⟨l, g.get q.1 (by omega), q.2⟩),
  Exists.elim w.s66 (fun l q => ⟨l, g.get q.1 (by omega), q.2⟩),
  Exists.elim w.s67 (fun l q => ⟨l, g.get q.1 (by omega), q.2⟩),
  Exists.elim w.s68 (fun l q => ⟨l, g.get q.1 (by omega), q.2⟩),
  Exists.elim w.s69 (fun l q => ⟨l, g.get q.1 (by omega), q.2⟩)⟩
set_option maxRecDepth 20000 in
theorem CW.t61 {σ : St} {h h2 : xH} {l : List Int} (w : CW σ h) (g : Ag 61 61 h h2) (q : h2[61]? = some (cA 0 l)) (ql : l.length = 4) : CW σ h2 := ⟨
  g.get w.c3 (by omega),
  w.gw.ag g (by omega),
  g.get w.c9 (by omega),
  fun j hj => g.get (w.rows j hj) (by omega),
  g.get w.c18 (by omega),
  Exists.elim w.s19 (fun l q => ⟨l, g.get q.1 (by omega), q.2⟩),
  Exists.elim w.s20 (fun l q => ⟨l, g.get q.1 (by omega), q.2⟩),
  g.get w.c21 (by omega),
  fun i hi => (w.runs i hi).ag g (by omega),
  g.get w.c38 (by omega),
  fun j hj => (w.pairs j hj).ag g (by omega),
  g.get w.c47 (by omega),
  g.get w.c48 (by omega),
  g.get w.c49 (by omega),
  g.get w.c50 (by omega),
  g.get w.c51 (by omega),
  g.get w.c52 (by omega),
  g.get w.c53 (by omega),
  g.get w.c54 (by omega),
  g.get w.c55 (by omega),
  g.get w.c56 (by omega),
  Exists.elim w.s57 (fun l q => ⟨l, g.get q.1 (by omega), q.2⟩),
  g.get w.c58 (by omega),
  Exists.elim w.s59 (fun l q => ⟨l, g.get q.1 (by omega), q.2⟩),
  g.get w.c60 (by omega),
  ⟨l, q, ql⟩,
  Exists.elim w.s62 (fun l q => ⟨l, g.get q.1 (by omega), q.2⟩),
  Exists.elim w.s63 (fun l q => ⟨l, g.get q.1 (by omega), q.2⟩),
  g.get w.c64 (by omega),
  Exists.elim w.s65 (fun l q => ⟨l, g.get q.1 (by omega), q.2⟩),
  Exists.elim w.s66 (fun l q => ⟨l, g.get q.1 (by omega), q.2⟩),
  Exists.elim w.s67 (fun l q => ⟨l, g.get q.1 (by omega), q.2⟩),
  Exists.elim w.s68 (fun l q => ⟨l, g.get q.1 (by omega), q.2⟩),
  Exists.elim w.s69 (fun l q => ⟨l, g.get q.1 (by omega), q.2⟩)⟩
set_option maxRecDepth 20000 in
theorem CW.t62 {σ : St} {h h2 : xH} {l : List Int} (w : CW σ h) (g : Ag 62 62 h h2) (q : h2[62]? = some (cA 0 l)) (ql : l.length = 4) : CW σ h2 := ⟨
  g.get w.c3 (by omega),
  w.gw.ag g (by omega),
  g.get w.c9 (by omega),
  fun j hj => g.get (w.rows j hj) (by omega),
  g.get w.c18 (by omega),
  Exists.elim w.s19 (fun l q => ⟨l, g.get q.1 (by omega), q.2⟩),
  Exists.elim w.s20 (fun l q => ⟨l, g.get q.1 (by omega), q.2⟩),
  g.get w.c21 (by omega),
  fun i hi => (w.runs i hi).ag g (by omega),
  g.get w.c38 (by omega),
  fun j hj => (w.pairs j hj).ag g (by omega),
  g.get w.c47 (by omega),
  g.get w.c48 (by omega),
  g.get w.c49 (by omega),
  g.get w.c50 (by omega),
  g.get w.c51 (by omega),
  g.get w.c52 (by omega),
  g.get w.c53 (by omega),
  g.get w.c54 (by omega),
  g.get w.c55 (by omega),
  g.get w.c56 (by omega),
  Exists.elim w.s57 (fun l q => ⟨l, g.get q.1 (by omega), q.2⟩),
  g.get w.c58 (by omega),
  Exists.elim w.s59 (fun l q => ⟨l, g.get q.1 (by omega), q.2⟩),
  g.get w.c60 (by omega),
  Exists.elim w.s61 (fun l q => ⟨l, g.get q.1 (by omega), q.2⟩),
  ⟨l, q, ql⟩,
  Exists.elim w.s63 (fun l q => ⟨l, g.get q.1 (by omega), q.2⟩),
  g.get w.c64 (by omega),
  Exists.elim w.s65 (fun l q => ⟨l, g.get q.1 (by omega), q.2⟩),
  Exists.elim w.s66 (fun l q => ⟨l, g.get q.1 (by omega), q.2⟩),
  Exists.elim w.s67 (fun l q => ⟨l, g.get q.1 (by omega), q.2⟩),
  Exists.elim w.s68 (fun l q => ⟨l, g.get q.1 (by omega), q.2⟩),
  Exists.elim w.s69 (fun l q => ⟨l, g.get q.1 (by omega), q.2⟩)⟩
set_option maxRecDepth 20000 in
theorem CW.t63 {σ : St} {h h2 : xH} {l : List Int} (w : CW σ h) (g : Ag 63 63 h h2) (q : h2[63]? = some (cA 0 l)) (ql : l.length = 4) : CW σ h2 := ⟨
  g.get w.c3 (by omega),
  w.gw.ag g (by omega),
  g.get w.c9 (by omega),
  fun j hj => g.get (w.rows j hj) (by omega),
  g.get w.c18 (by omega),
  Exists.elim w.s19 (fun l q => ⟨l, g.get q.1 (by omega), q.2⟩),
  Exists.elim w.s20 (fun l q => ⟨l, g.get q.1 (by omega), q.2⟩),
  g.get w.c21 (by omega),
  fun i hi => (w.runs i hi).ag g (by omega),
  g.get w.c38 (by omega),
  fun j hj => (w.pairs j hj).ag g (by omega),
  g.get w.c47 (by omega),
  g.get w.c48 (by omega),
  g.get w.c49 (by omega),
  g.get w.c50 (by omega),
  g.get w.c51 (by omega),
  g.get w.c52 (by omega),
  g.get w.c53 (by omega),
  g.get w.c54 (by omega),
  g.get w.c55 (by omega),
  g.get w.c56 (by omega),
  Exists.elim w.s57 (fun l q => ⟨l, g.get q.1 (by omega), q.2⟩),
  g.get w.c58 (by omega),
  Exists.elim w.s59 (fun l q => ⟨l, g.get q.1 (by omega), q.2⟩),
  g.get w.c60 (by omega),
  Exists.elim w.s61 (fun l q => ⟨l, g.get q.1 (by omega), q.2⟩),
  Exists.elim w.s62 (fun l q => ⟨l, g.get q.1 (by omega), q.2⟩),
  ⟨l, q, ql⟩,
  g.get w.c64 (by omega),
  Exists.elim w.s65 (fun l q => ⟨l, g.get q.1 (by omega), q.2⟩),
  Exists.elim w.s66 (fun l q => ⟨l, g.get q.1 (by omega), q.2⟩),
  Exists.elim w.s67 (fun l q => ⟨l, g.get q.1 (by omega), q.2⟩),
  Exists.elim w.s68 (fun l q => ⟨l, g.get q.1 (by omega), q.2⟩),
  Exists.elim w.s69 (fun l q => ⟨l, g.get q.1 (by omega), q.2⟩)⟩
set_option maxRecDepth 20000 in
theorem CW.t65 {σ : St} {h h2 : xH} {l : List Int} (w : CW σ h) (g : Ag 65 65 h h2) (q : h2[65]? = some (cA 0 l)) (ql : l.length = 4) : CW σ h2 := ⟨
  g.get w.c3 (by omega),
  w.gw.ag g (by omega),
  g.get w.c9 (by omega),
  fun j hj => g.get (w.rows j hj) (by omega),
  g.get w.c18 (by omega),
  Exists.elim w.s19 (fun l q => ⟨l, g.get q.1 (by omega), q.2⟩),
  Exists.elim w.s20 (fun l q => ⟨l, g.get q.1 (by omega), q.2⟩),
  g.get w.c21 (by omega),
  fun i hi => (w.runs i hi).ag g (by omega),
  g.get w.c38 (by omega),
  fun j hj => (w.pairs j hj).ag g (by omega),
  g.get w.c47 (by omega),
  g.get w.c48 (by omega),
  g.get w.c49 (by omega),
  g.get w.c50 (by omega),
  g.get w.c51 (by omega),
  g.get w.c52 (by omega),
  g.get w.c53 (by omega),
  g.get w.c54 (by omega),
  g.get w.c55 (by omega),
  g.get w.c56 (by omega),
  Exists.elim w.s57 (fun l q => ⟨l, g.get q.1 (by omega), q.2⟩),
  g.get w.c58 (by omega),
  Exists.elim w.s59 (fun l q => ⟨l, g.get q.1 (by omega), q.2⟩),
  g.get w.c60 (by omega),
  Exists.elim w.s61 (fun l q => ⟨l, g.get q.1 (by omega), q.2⟩),
  Exists.elim w.s62 (fun l q => ⟨l, g.get q.1 (by omega), q.2⟩),
  Exists.elim w.s63 (fun l q => ⟨l, g.get q.1 (by omega), q.2⟩),
  g.get w.c64 (by omega),
  ⟨l, q, ql⟩,
  Exists.elim w.s66 (fun l q => ⟨l, g.get q.1 (by omega), q.2⟩),
  Exists.elim w.s67 (fun l q => ⟨l, g.get q.1 (by omega), q.2⟩),
  Exists.elim w.s68 (fun l q => ⟨l, g.get q.1 (by omega), q.2⟩),
  Exists.elim w.s69 (fun l q => ⟨l, g.get q.1 (by omega), q.2⟩)⟩
set_option maxRecDepth 20000 in
theorem CW.t66 {σ : St} {h h2 : xH} {l : List Int} (w : CW σ h) (g : Ag 66 66 h h2) (q : h2[66]? = some (cA 0 l)) (ql : l.length = 4) : CW σ h2 := ⟨
  g.get w.c3 (by omega),
  w.gw.ag g (by omega),
  g.get w.c9 (by omega),
  fun j hj => g.get (w.rows j hj) (by omega),
  g.get w.c18 (by omega),
  Exists.elim w.s19 (fun l q => ⟨l, g.get q.1 (by omega), q.2⟩),
  Exists.elim w.s20 (fun l q => ⟨l, g.get q.1 (by omega), q.2⟩),
  g.get w.c21 (by omega),
  fun i hi => (w.runs i hi).ag g (by omega),
  g.get w.c38 (by omega),
  fun j hj => (w.pairs j hj).ag g (by omega),
  g.get w.c47 (by omega),
  g.get w.c48 (by omega),
  g.get w.c49 (by omega),
  g.get w.c50 (by omega),
  g.get w.c51 (by omega),
  g.get w.c52 (by omega),
  g.get w.c53 (by omega),
  g.get w.c54 (by omega),
  g.get w.c55 (by omega),
  g.get w.c56 (by omega),
  Exists.elim w.s57 (fun l q => ⟨l, g.get q.1 (by omega), q.2⟩),
  g.get w.c58 (by omega),
  Exists.elim w.s59 (fun l q => ⟨l, g.get q.1 (by omega), q.2⟩),
  g.get w.c60 (by omega),
  Exists.elim w.s61 (fun l q => ⟨l, g.get q.1 (by omega), q.2⟩),
  Exists.elim w.s62 (fun l q => ⟨l, g.get q.1 (by omega), q.2⟩),
  Exists.elim w.s63 (fun l q => ⟨l, g.get q.1 (by omega), q.2⟩),
  g.get w.c64 (by omega),
  Exists.elim w.s65 (fun l q => ⟨l, g.get q.1 (by omega), q.2⟩),
  ⟨l, q, ql⟩,
  Exists.elim w.s67 (fun l q => ⟨l, g.get q.1 (by omega), q.2⟩),
  Exists.elim w.s68 (fun l q => ⟨l, g.get q.1 (by omega), q.2⟩),
  Exists.elim w.s69 (fun l q => ⟨l, g.get q.1 (by omega), q.2⟩)⟩
set_option maxRecDepth 20000 in
theorem CW.t67 {σ : St} {h h2 : xH} {l : List Int} (w : CW σ h) (g : Ag 67 67 h h2) (q : h2[67]? = some (cA 0 l)) (ql : l.length = 4) : CW σ h2 := ⟨
  g.get w.c3 (by omega),
  w.gw.ag g (by omega),
  g.get w.c9 (by omega),
  fun j hj => g.get (w.rows j hj) (by omega),
  g.get w.c18 (by omega),
  Exists.elim w.s19 (fun l q => ⟨l, g.get q.1 (by omega), q.2⟩),
  Exists.elim w.s20 (fun l q => ⟨l, g.get q.1 (by omega), q.2⟩),
  g.get w.c21 (by omega),
  fun i hi => (w.runs i hi).ag g (by omega),
  g.get w.c38 (by omega),
  fun j hj => (w.pairs j hj).ag g (by omega),
  g.get w.c47 (by omega),
  g.get w.c48 (by omega),
  g.get w.c49 (by omega),
  g.get w.c50 (by omega),
  g.get w.c51 (by omega),
  g.get w.c52 (by omega),
  g.get w.c53 (by omega),
  g.get w.c54 (by omega),
  g.get w.c55 (by omega),
  g.get w.c56 (by omega),
  Exists.elim w.s57 (fun l q => ⟨l, g.get q.1 (by omega), q.2⟩),
  g.get w.c58 (by omega),
  Exists.elim w.s59 (fun l q => ⟨l, g.get q.1 (by omega), q.2⟩),
  g.get w.c60 (by omega),
  Exists.elim w.s61 (fun l q => ⟨l, g.get q.1 (by omega), q.2⟩),
  Exists.elim w.s62 (fun l q => ⟨l, g.get q.1 (by omega), q.2⟩),
  Exists.elim w.s63 (fun l q => ⟨l, g.get q.1 (by omega), q.2⟩),
  g.get w.c64 (by omega),
  Exists.elim w.s65 (fun l q => ⟨l, g.get q.1 (by omega), q.2⟩),
  Exists.elim w.s66 (fun l q => ⟨l, g.get q.1 (by omega), q.2⟩),
  ⟨l, q, ql⟩,
  Exists.elim w.s68 (fun l q => ⟨l, g.get q.1 (by omega), q.2⟩),
  Exists.elim w.s69 (fun l q => ⟨l, g.get q.1 (by omega), q.2⟩)⟩
set_option maxRecDepth 20000 in
theorem CW.t68 {σ : St} {h h2 : xH} {l : List Int} (w : CW σ h) (g : Ag 68 68 h h2) (q : h2[68]? = some (cA 0 l)) (ql : l.length = 8) : CW σ h2 := ⟨
  g.get w.c3 (by omega),
  w.gw.ag g (by omega),
  g.get w.c9 (by omega),
  fun j hj => g.get (w.rows j hj) (by omega),
  g.get w.c18 (by omega),
  Exists.elim w.s19 (fun l q => ⟨l, g.get q.1 (by omega), q.2⟩),
  Exists.elim w.s20 (fun l q => ⟨l, g.get q.1 (by omega), q.2⟩),
  g.get w.c21 (by omega),
  fun i hi => (w.runs i hi).ag g (by omega),
  g.get w.c38 (by omega),
  fun j hj => (w.pairs j hj).ag g (by omega),
  g.get w.c47 (by omega),
  g.get w.c48 (by omega),
  g.get w.c49 (by omega),
  g.get w.c50 (by omega),
  g.get w.c51 (by omega),
  g.get w.c52 (by omega),
  g.get w.c53 (by omega),
  g.get w.c54 (by omega),
  g.get w.c55 (by omega),
  g.get w.c56 (by omega),
  Exists.elim w.s57 (fun l q => ⟨l, g.get q.1 (by omega), q.2⟩),
  g.get w.c58 (by omega),
  Exists.elim w.s59 (fun l q => ⟨l, g.get q.1 (by omega), q.2⟩),
  g.get w.c60 (by omega),
  Exists.elim w.s61 (fun l q => ⟨l, g.get q.1 (by omega), q.2⟩),
  Exists.elim w.s62 (fun l q => ⟨l, g.get q.1 (by omega), q.2⟩),
  Exists.elim w.s63 (fun l q => ⟨l, g.get q.1 (by omega), q.2⟩),
  g.get w.c64 (by omega),
  Exists.elim w.s65 (fun l q => ⟨l, g.get q.1 (by omega), q.2⟩),
  Exists.elim w.s66 (fun l q => ⟨l, g.get q.1 (by omega), q.2⟩),
  Exists.elim w.s67 (fun l q => ⟨l, g.get q.1 (by omega), q.2⟩),
  ⟨l, q, ql⟩,
  Exists.elim w.s69 (fun l q => ⟨l, g.get q.1 (by omega), q.2⟩)⟩
set_option maxRecDepth 20000 in
theorem CW.t69 {σ : St} {h h2 : xH} {l : List Int} (w : CW σ h) (g : Ag 69 69 h h2) (q : h2[69]? = some (cA 0 l)) (ql : l.length = 8) : CW σ h2 := ⟨
  g.get w.c3 (by omega),
  w.gw.ag g (by omega),
  g.get w.c9 (by omega),
  fun j hj => g.get (w.rows j hj) (by omega),
  g.get w.c18 (by omega),
  Exists.elim w.s19 (fun l q => ⟨l, g.get q.1 (by omega), q.2⟩),
  Exists.elim w.s20 (fun l q => ⟨l, g.get q.1 (by omega), q.2⟩),
  g.get w.c21 (by omega),
  fun i hi => (w.runs i hi).ag g (by omega),
  g.get w.c38 (by omega),
  fun j hj => (w.pairs j hj).ag g (by omega),
  g.get w.c47 (by omega),
  g.get w.c48 (by omega),
  g.get w.c49 (by omega),
  g.get w.c50 (by omega),
  g.get w.c51 (by omega),
  g.get w.c52 (by omega),
  g.get w.c53 (by omega),
  g.get w.c54 (by omega),
  g.get w.c55 (by omega),
  g.get w.c56 (by omega),
  Exists.elim w.s57 (fun l q => ⟨l, g.get q.1 (by omega), q.2⟩),
  g.get w.c58 (by omega),
  Exists.elim w.s59 (fun l q => ⟨l, g.get q.1 (by omega), q.2⟩),
  g.get w.c60 (by omega),
  Exists.elim w.s61 (fun l q => ⟨l, g.get q.1 (by omega), q.2⟩),
  Exists.elim w.s62 (fun l q => ⟨l, g.get q.1 (by omega), q.2⟩),
  Exists.elim w.s63 (fun l q => ⟨l, g.get q.1 (by omega), q.2⟩),
  g.get w.c64 (by omega),
  Exists.elim w.s65 (fun l q => ⟨l, g.get q.1 (by omega), q.2⟩),
  Exists.elim w.s66 (fun l q => ⟨l, g.get q.1 (by omega), q.2⟩),
  Exists.elim w.s67 (fun l q => ⟨l, g.get q.1 (by omega), q.2⟩),
  Exists.elim w.s68 (fun l q => ⟨l, g.get q.1 (by omega), q.2⟩),
  ⟨l, q, ql⟩⟩
set_option maxRecDepth 20000 in
theorem CW.way60 {σ : St} {h h2 : xH} {l1 l2 l3 : List Int} (w : CW σ h) (g : Ag 61 63 h h2) (q1 : h2[61]? = some (cA 0 l1)) (ql1 : l1.length = 4) (q2 : h2[62]? = some (cA 0 l2)) (ql2 : l2.length = 4) (q3 : h2[63]? = some (cA 0 l3)) (ql3 : l3.length = 4) : CW σ h2 := ⟨
  g.get w.c3 (by omega),
  w.gw.ag g (by omega),
  g.get w.c9 (by omega),
  fun j hj => g.get (w.rows j hj) (by omega),
  g.get w.c18 (by omega),
  Exists.elim w.s19 (fun l q => ⟨l, g.get q.1 (by omega), q.2⟩),
  Exists.elim w.s20 (fun l q => ⟨l, g.get q.1 (by omega), q.2⟩),
  g.get w.c21 (by omega),
  fun i hi => (w.runs i hi).ag g (by omega),
  g.get w.c38 (by omega),
  fun j hj => (w.pairs j hj).ag g (by omega),
  g.get w.c47 (by omega),
  g.get w.c48 (by omega),
  g.get w.c49 (by omega),
  g.get w.c50 (by omega),
  g.get w.c51 (by omega),
  g.get w.c52 (by omega),
  g.get w.c53 (by omega),
  g.get w.c54 (by omega),
  g.get w.c55 (by omega),
  g.get w.c56 (by omega),
  Exists.elim w.s57 (fun l q => ⟨l, g.get q.1 (by omega), q.2⟩),
  g.get w.c58 (by omega),
  Exists.elim w.s59 (fun l q => ⟨l, g.get q.1 (by omega), q.2⟩),
  g.get w.c60 (by omega),
  ⟨l1, q1, ql1⟩,
  ⟨l2, q2, ql2⟩,
  ⟨l3, q3, ql3⟩,
  g.get w.c64 (by omega),
  Exists.elim w.s65 (fun l q => ⟨l, g.get q.1 (by omega), q.2⟩),
  Exists.elim w.s66 (fun l q => ⟨l, g.get q.1 (by omega), q.2⟩),
  Exists.elim w.s67 (fun l q => ⟨l, g.get q.1 (by omega), q.2⟩),
  Exists.elim w.s68 (fun l q => ⟨l, g.get q.1 (by omega), q.2⟩),
  Exists.elim w.s69 (fun l q => ⟨l, g.get q.1 (by omega), q.2⟩)⟩
set_option maxRecDepth 20000 in
theorem CW.way64 {σ : St} {h h2 : xH} {l1 l2 l3 : List Int} (w : CW σ h) (g : Ag 65 67 h h2) (q1 : h2[65]? = some (cA 0 l1)) (ql1 : l1.length = 4) (q2 : h2[66]? = some (cA 0 l2)) (ql2 : l2.length = 4) (q3 : h2[67]? = some (cA 0 l3)) (ql3 : l3.length = 4) : CW σ h2 := ⟨
  g.get w.c3 (by omega),
  w.gw.ag g (by omega),
  g.get w.c9 (by omega),
  fun j hj => g.get (w.rows j hj) (by omega),
  g.get w.c18 (by omega),
  Exists.elim w.s19 (fun l q => ⟨l, g.get q.1 (by omega), q.2⟩),
  Exists.elim w.s20 (fun l q => ⟨l, g.get q.1 (by omega), q.2⟩),
  g.get w.c21 (by omega),
  fun i hi => (w.runs i hi).ag g (by omega),
  g.get w.c38 (by omega),
  fun j hj => (w.pairs j hj).ag g (by omega),
  g.get w.c47 (by omega),
  g.get w.c48 (by omega),
  g.get w.c49 (by omega),
  g.get w.c50 (by omega),
  g.get w.c51 (by omega),
  g.get w.c52 (by omega),
  g.get w.c53 (by omega),
  g.get w.c54 (by omega),
  g.get w.c55 (by omega),
  g.get w.c56 (by omega),
  Exists.elim w.s57 (fun l q => ⟨l, g.get q.1 (by omega), q.2⟩),
  g.get w.c58 (by omega),
  Exists.elim w.s59 (fun l q => ⟨l, g.get q.1 (by omega), q.2⟩),
  g.get w.c60 (by omega),
  Exists.elim w.s61 (fun l q => ⟨l, g.get q.1 (by omega), q.2⟩),
  Exists.elim w.s62 (fun l q => ⟨l, g.get q.1 (by omega), q.2⟩),
  Exists.elim w.s63 (fun l q => ⟨l, g.get q.1 (by omega), q.2⟩),
  g.get w.c64 (by omega),
  ⟨l1, q1, ql1⟩,
  ⟨l2, q2, ql2⟩,
  ⟨l3, q3, ql3⟩,
  Exists.elim w.s68 (fun l q => ⟨l, g.get q.1 (by omega), q.2⟩),
  Exists.elim w.s69 (fun l q => ⟨l, g.get q.1 (by omega), q.2⟩)⟩
set_option maxRecDepth 20000 in
theorem CW.row {σ : St} {h h2 : xH} {i : Nat} {l : List Int} (w : CW σ h) (g : Ag (10 + i) (10 + i) h h2) (hi : i < 8) (q : h2[10 + i]? = some (cA 0 l)) : CW (σ.sRow i l) h2 := ⟨
  g.get w.c3 (by omega),
  w.gw.ag g (by omega),
  g.get w.c9 (by omega),
  fun j hj => if e : j = i then (by rw [e]; show h2[10 + i]? = some (cA 0 (fup σ.rw i l i)); rw [fup_eq]; exact q) else (by show h2[10 + j]? = some (cA 0 (fup σ.rw i l j)); rw [fup_ne e]; exact g.get (w.rows j hj) (by omega)),
  g.get w.c18 (by omega),
  Exists.elim w.s19 (fun l q => ⟨l, g.get q.1 (by omega), q.2⟩),
  Exists.elim w.s20 (fun l q => ⟨l, g.get q.1 (by omega), q.2⟩),
  g.get w.c21 (by omega),
  fun i hi => (w.runs i hi).ag g (by omega),
  g.get w.c38 (by omega),
  fun j hj => (w.pairs j hj).ag g (by omega),
  g.get w.c47 (by omega),
  g.get w.c48 (by omega),
  g.get w.c49 (by omega),
  g.get w.c50 (by omega),
  g.get w.c51 (by omega),
  g.get w.c52 (by omega),
  g.get w.c53 (by omega),
  g.get w.c54 (by omega),
  g.get w.c55 (by omega),
  g.get w.c56 (by omega),
  Exists.elim w.s57 (fun l q => ⟨l, g.get q.1 (by omega), q.2⟩),
  g.get w.c58 (by omega),
  Exists.elim w.s59 (fun l q => ⟨l, g.get q.1 (by omega), q.2⟩),
  g.get w.c60 (by omega),
  Exists.elim w.s61 (fun l q => ⟨l, g.get q.1 (by omega), q.2⟩),
  Exists.elim w.s62 (fun l q => ⟨l, g.get q.1 (by omega), q.2⟩),
  Exists.elim w.s63 (fun l q => ⟨l, g.get q.1 (by omega), q.2⟩),
  g.get w.c64 (by omega),
  Exists.elim w.s65 (fun l q => ⟨l, g.get q.1 (by omega), q.2⟩),
  Exists.elim w.s66 (fun l q => ⟨l, g.get q.1 (by omega), q.2⟩),
  Exists.elim w.s67 (fun l q => ⟨l, g.get q.1 (by omega), q.2⟩),
  Exists.elim w.s68 (fun l q => ⟨l, g.get q.1 (by omega), q.2⟩),
  Exists.elim w.s69 (fun l q => ⟨l, g.get q.1 (by omega), q.2⟩)⟩
set_option maxRecDepth 20000 in
theorem CW.run {σ : St} {h h2 : xH} {i : Nat} {R : RS} (w : CW σ h) (g : Ag (22 + 4 * i) (25 + 4 * i) h h2) (hi : i < 4) (q : RA σ.p (22 + 4 * i) R h2) : CW (σ.sRun i R) h2 := ⟨
  g.get w.c3 (by omega),
  w.gw.ag g (by omega),
  g.get w.c9 (by omega),
  fun j hj => g.get (w.rows j hj) (by omega),
  g.get w.c18 (by omega),
  Exists.elim w.s19 (fun l q => ⟨l, g.get q.1 (by omega), q.2⟩),
  Exists.elim w.s20 (fun l q => ⟨l, g.get q.1 (by omega), q.2⟩),
  g.get w.c21 (by omega),
  fun j hj => if e : j = i then (by rw [e]; show RA σ.p _ (fup σ.R i R i) h2; rw [fup_eq]; exact q) else (by show RA σ.p _ (fup σ.R i R j) h2; rw [fup_ne e]; exact (w.runs j hj).ag g (by omega)),
  g.get w.c38 (by omega),
  fun j hj => (w.pairs j hj).ag g (by omega),
  g.get w.c47 (by omega),
  g.get w.c48 (by omega),
  g.get w.c49 (by omega),
  g.get w.c50 (by omega),
  g.get w.c51 (by omega),
  g.get w.c52 (by omega),
  g.get w.c53 (by omega),
  g.get w.c54 (by omega),
  g.get w.c55 (by omega),
  g.get w.c56 (by omega),
  Exists.elim w.s57 (fun l q => ⟨l, g.get q.1 (by omega), q.2⟩),
  g.get w.c58 (by omega),
  Exists.elim w.s59 (fun l q => ⟨l, g.get q.1 (by omega), q.2⟩),
  g.get w.c60 (by omega),
  Exists.elim w.s61 (fun l q => ⟨l, g.get q.1 (by omega), q.2⟩),
  Exists.elim w.s62 (fun l q => ⟨l, g.get q.1 (by omega), q.2⟩),
  Exists.elim w.s63 (fun l q => ⟨l, g.get q.1 (by omega), q.2⟩),
  g.get w.c64 (by omega),
  Exists.elim w.s65 (fun l q => ⟨l, g.get q.1 (by omega), q.2⟩),
  Exists.elim w.s66 (fun l q => ⟨l, g.get q.1 (by omega), q.2⟩),
  Exists.elim w.s67 (fun l q => ⟨l, g.get q.1 (by omega), q.2⟩),
  Exists.elim w.s68 (fun l q => ⟨l, g.get q.1 (by omega), q.2⟩),
  Exists.elim w.s69 (fun l q => ⟨l, g.get q.1 (by omega), q.2⟩)⟩
set_option maxRecDepth 20000 in
theorem CW.pair {σ : St} {h h2 : xH} {i : Nat} {P : PS} (w : CW σ h) (g : Ag (39 + 4 * i) (42 + 4 * i) h h2) (hi : i < 2) (q : PAt σ.p (39 + 4 * i) P h2) : CW (σ.sPair i P) h2 := ⟨
  g.get w.c3 (by omega),
  w.gw.ag g (by omega),
  g.get w.c9 (by omega),
  fun j hj => g.get (w.rows j hj) (by omega),
  g.get w.c18 (by omega),
  Exists.elim w.s19 (fun l q => ⟨l, g.get q.1 (by omega), q.2⟩),
  Exists.elim w.s20 (fun l q => ⟨l, g.get q.1 (by omega), q.2⟩),
  g.get w.c21 (by omega),
  fun i hi => (w.runs i hi).ag g (by omega),
  g.get w.c38 (by omega),
  fun j hj => if e : j = i then (by rw [e]; show PAt σ.p _ (fup σ.P i P i) h2; rw [fup_eq]; exact q) else (by show PAt σ.p _ (fup σ.P i P j) h2; rw [fup_ne e]; exact (w.pairs j hj).ag g (by omega)),
  g.get w.c47 (by omega),
  g.get w.c48 (by omega),
  g.get w.c49 (by omega),
  g.get w.c50 (by omega),
  g.get w.c51 (by omega),
  g.get w.c52 (by omega),
  g.get w.c53 (by omega),
  g.get w.c54 (by omega),
  g.get w.c55 (by omega),
  g.get w.c56 (by omega),
  Exists.elim w.s57 (fun l q => ⟨l, g.get q.1 (by omega), q.2⟩),
  g.get w.c58 (by omega),
  Exists.elim w.s59 (fun l q => ⟨l, g.get q.1 (by omega), q.2⟩),
  g.get w.c60 (by omega),
  Exists.elim w.s61 (fun l q => ⟨l, g.get q.1 (by omega), q.2⟩),
  Exists.elim w.s62 (fun l q => ⟨l, g.get q.1 (by omega), q.2⟩),
  Exists.elim w.s63 (fun l q => ⟨l, g.get q.1 (by omega), q.2⟩),
  g.get w.c64 (by omega),
  Exists.elim w.s65 (fun l q => ⟨l, g.get q.1 (by omega), q.2⟩),
  Exists.elim w.s66 (fun l q => ⟨l, g.get q.1 (by omega), q.2⟩),
  Exists.elim w.s67 (fun l q => ⟨l, g.get q.1 (by omega), q.2⟩),
  Exists.elim w.s68 (fun l q => ⟨l, g.get q.1 (by omega), q.2⟩),
  Exists.elim w.s69 (fun l q => ⟨l, g.get q.1 (by omega), q.2⟩)⟩
set_option maxRecDepth 20000 in
theorem CW.gate {σ : St} {h h2 : xH} {G : GA} (w : CW σ h) (g : Ag 47 51 h h2) (q47 : h2[47]? = some (cC G.n)) (q48 : h2[48]? = some (cA 0 G.k)) (q49 : h2[49]? = some (cA 0 G.a)) (q50 : h2[50]? = some (cA 0 G.b)) (q51 : h2[51]? = some (cA 0 G.c)) : CW (σ.sG G) h2 := ⟨
  g.get w.c3 (by omega),
  w.gw.ag g (by omega),
  g.get w.c9 (by omega),
  fun j hj => g.get (w.rows j hj) (by omega),
  g.get w.c18 (by omega),
  Exists.elim w.s19 (fun l q => ⟨l, g.get q.1 (by omega), q.2⟩),
  Exists.elim w.s20 (fun l q => ⟨l, g.get q.1 (by omega), q.2⟩),
  g.get w.c21 (by omega),
  fun i hi => (w.runs i hi).ag g (by omega),
  g.get w.c38 (by omega),
  fun j hj => (w.pairs j hj).ag g (by omega),
  q47,
  q48,
  q49,
  q50,
  q51,
  g.get w.c52 (by omega),
  g.get w.c53 (by omega),
  g.get w.c54 (by omega),
  g.get w.c55 (by omega),
  g.get w.c56 (by omega),
  Exists.elim w.s57 (fun l q => ⟨l, g.get q.1 (by omega), q.2⟩),
  g.get w.c58 (by omega),
  Exists.elim w.s59 (fun l q => ⟨l, g.get q.1 (by omega), q.2⟩),
  g.get w.c60 (by omega),
  Exists.elim w.s61 (fun l q => ⟨l, g.get q.1 (by omega), q.2⟩),
  Exists.elim w.s62 (fun l q => ⟨l, g.get q.1 (by omega), q.2⟩),
  Exists.elim w.s63 (fun l q => ⟨l, g.get q.1 (by omega), q.2⟩),
  g.get w.c64 (by omega),
  Exists.elim w.s65 (fun l q => ⟨l, g.get q.1 (by omega), q.2⟩),
  Exists.elim w.s66 (fun l q => ⟨l, g.get q.1 (by omega), q.2⟩),
  Exists.elim w.s67 (fun l q => ⟨l, g.get q.1 (by omega), q.2⟩),
  Exists.elim w.s68 (fun l q => ⟨l, g.get q.1 (by omega), q.2⟩),
  Exists.elim w.s69 (fun l q => ⟨l, g.get q.1 (by omega), q.2⟩)⟩
set_option maxRecDepth 20000 in
theorem CW.game {σ : St} {h h2 : xH} {G : GS} (w : CW σ h) (g : Ag 52 53 h h2) (q52 : h2[52]? = some (cG G.b G.s G.i G.c G.r G.z G.o)) (q53 : h2[53]? = some (cA 0 G.l)) : CW (σ.sg G) h2 := ⟨
  g.get w.c3 (by omega),
  w.gw.ag g (by omega),
  g.get w.c9 (by omega),
  fun j hj => g.get (w.rows j hj) (by omega),
  g.get w.c18 (by omega),
  Exists.elim w.s19 (fun l q => ⟨l, g.get q.1 (by omega), q.2⟩),
  Exists.elim w.s20 (fun l q => ⟨l, g.get q.1 (by omega), q.2⟩),
  g.get w.c21 (by omega),
  fun i hi => (w.runs i hi).ag g (by omega),
  g.get w.c38 (by omega),
  fun j hj => (w.pairs j hj).ag g (by omega),
  g.get w.c47 (by omega),
  g.get w.c48 (by omega),
  g.get w.c49 (by omega),
  g.get w.c50 (by omega),
  g.get w.c51 (by omega),
  q52,
  q53,
  g.get w.c54 (by omega),
  g.get w.c55 (by omega),
  g.get w.c56 (by omega),
  Exists.elim w.s57 (fun l q => ⟨l, g.get q.1 (by omega), q.2⟩),
  g.get w.c58 (by omega),
  Exists.elim w.s59 (fun l q => ⟨l, g.get q.1 (by omega), q.2⟩),
  g.get w.c60 (by omega),
  Exists.elim w.s61 (fun l q => ⟨l, g.get q.1 (by omega), q.2⟩),
  Exists.elim w.s62 (fun l q => ⟨l, g.get q.1 (by omega), q.2⟩),
  Exists.elim w.s63 (fun l q => ⟨l, g.get q.1 (by omega), q.2⟩),
  g.get w.c64 (by omega),
  Exists.elim w.s65 (fun l q => ⟨l, g.get q.1 (by omega), q.2⟩),
  Exists.elim w.s66 (fun l q => ⟨l, g.get q.1 (by omega), q.2⟩),
  Exists.elim w.s67 (fun l q => ⟨l, g.get q.1 (by omega), q.2⟩),
  Exists.elim w.s68 (fun l q => ⟨l, g.get q.1 (by omega), q.2⟩),
  Exists.elim w.s69 (fun l q => ⟨l, g.get q.1 (by omega), q.2⟩)⟩
set_option maxRecDepth 20000 in
theorem CW.ledg {σ : St} {h h2 : xH} {G : LD} (w : CW σ h) (g : Ag 54 55 h h2) (q54 : h2[54]? = some (cL G.n (MM σ.p G.mi) (MM σ.p G.pa))) (q55 : h2[55]? = some (cA 0 G.gl)) : CW (σ.sL G) h2 := ⟨
  g.get w.c3 (by omega),
  w.gw.ag g (by omega),
  g.get w.c9 (by omega),
  fun j hj => g.get (w.rows j hj) (by omega),
  g.get w.c18 (by omega),
  Exists.elim w.s19 (fun l q => ⟨l, g.get q.1 (by omega), q.2⟩),
  Exists.elim w.s20 (fun l q => ⟨l, g.get q.1 (by omega), q.2⟩),
  g.get w.c21 (by omega),
  fun i hi => (w.runs i hi).ag g (by omega),
  g.get w.c38 (by omega),
  fun j hj => (w.pairs j hj).ag g (by omega),
  g.get w.c47 (by omega),
  g.get w.c48 (by omega),
  g.get w.c49 (by omega),
  g.get w.c50 (by omega),
  g.get w.c51 (by omega),
  g.get w.c52 (by omega),
  g.get w.c53 (by omega),
  q54,
  q55,
  g.get w.c56 (by omega),
  Exists.elim w.s57 (fun l q => ⟨l, g.get q.1 (by omega), q.2⟩),
  g.get w.c58 (by omega),
  Exists.elim w.s59 (fun l q => ⟨l, g.get q.1 (by omega), q.2⟩),
  g.get w.c60 (by omega),
  Exists.elim w.s61 (fun l q => ⟨l, g.get q.1 (by omega), q.2⟩),
  Exists.elim w.s62 (fun l q => ⟨l, g.get q.1 (by omega), q.2⟩),
  Exists.elim w.s63 (fun l q => ⟨l, g.get q.1 (by omega), q.2⟩),
  g.get w.c64 (by omega),
  Exists.elim w.s65 (fun l q => ⟨l, g.get q.1 (by omega), q.2⟩),
  Exists.elim w.s66 (fun l q => ⟨l, g.get q.1 (by omega), q.2⟩),
  Exists.elim w.s67 (fun l q => ⟨l, g.get q.1 (by omega), q.2⟩),
  Exists.elim w.s68 (fun l q => ⟨l, g.get q.1 (by omega), q.2⟩),
  Exists.elim w.s69 (fun l q => ⟨l, g.get q.1 (by omega), q.2⟩)⟩
theorem CW.ca {σ : St} {h : xH} (w : CW σ h) (l : σ.G.k.length = 8 ∧ σ.G.a.length = 8 ∧ σ.G.b.length = 8 ∧ σ.G.c.length = 8) : CA σ.p σ.G.n σ.rw σ.G.k σ.G.a σ.G.b σ.G.c h := ⟨w.gw.1, w.c9, w.rows, w.c47, ⟨w.c48, l.1⟩, ⟨w.c49, l.2.1⟩, ⟨w.c50, l.2.2.1⟩, ⟨w.c51, l.2.2.2⟩⟩
/-- the table bound by what was drawn -/
def bnds (p : Int) (t : List Int) (dr : List Int) : Nat → List Int
  | 0 => t
  | n + 1 => bnd p (bnds p t dr n) n (dr.getD n 0)
def okRun (p : Nat) (R : RS) : Prop := R.ok p ∧ (R.rt = true → acc p R) ∧ (R.mk = true → R.fa = cm p R.mask R.mb ∧ R.w = inn R.form R.mask % (p : Int))
def okGate (p : Nat) (G : GA) : Prop := G.n ≤ 8 ∧ (G.k.length = 8 ∧ G.a.length = 8 ∧ G.b.length = 8 ∧ G.c.length = 8) ∧ (∀ i, i < G.n → gok (p : Int) (G.k.getD i 0) (G.a.getD i 0) (G.b.getD i 0) (G.c.getD i 0))
def okGame (p : Nat) (g : GS) : Prop := (g.b = 0 ∨ g.b = 1) ∧ (g.s = 0 ∨ g.s = 1) ∧ (g.i = 0 ∨ g.i = 1) ∧ g.r ≤ 3 ∧ (g.s = 1 → g.r ≤ 2) ∧ (0 ≤ g.c ∧ g.c < 24) ∧ (0 ≤ g.z ∧ g.z < 24) ∧ (0 ≤ g.o ∧ g.o < 24) ∧ g.l.length = 8 ∧ g.tbl.length = 8 ∧ g.dr.length = 3 ∧
  (g.b = 1 → (0 ≤ g.c ∧ g.c < p) ∧ Fl p g.l ∧ Fl p g.tbl ∧ (∀ j, j < g.r → 0 ≤ g.dr.getD j 0 ∧ g.dr.getD j 0 < p) ∧ g.l = bnds p g.tbl g.dr g.r ∧ (g.s = 1 → (0 ≤ g.z ∧ g.z < p) ∧ (0 ≤ g.o ∧ g.o < p)) ∧ (g.i = 1 → g.s = 0 → g.c = cr p g.l g.r) ∧ (g.i = 1 → g.s = 1 → g.z = rz p g.l g.r ∧ g.o = ro p g.l g.r))
def okLed (p : Nat) (L : LD) : Prop := L.n ≤ 16 ∧ L.nn.length = 16 ∧ L.gl.length = 16 ∧ (∀ i, i < L.n → L.nn.getD i 0 = -1 ∨ (0 ≤ L.nn.getD i 0 ∧ L.nn.getD i 0 < p)) ∧ (∀ i, i < L.n → L.gl.getD i 0 = nv p (L.nn.getD i 0)) ∧ (0 ≤ L.pa ∧ L.pa < p) ∧ L.mi = (stnd p (gf L.nn) L.n + L.pa) % (p : Int)
def INV (σ : St) : Prop := σ.p ∈ PR ∧ (∀ j, j < 8 → Fl (σ.p : Int) (σ.rw j)) ∧ (∀ i, i < 4 → okRun σ.p (σ.R i)) ∧ (∀ i, i < 2 → (σ.P i).ok σ.p) ∧ okGate σ.p σ.G ∧ okGame σ.p σ.g ∧ okLed σ.p σ.L
theorem INV.p {σ : St} (v : INV σ) : σ.p ∈ PR := v.1
theorem INV.rw {σ : St} (v : INV σ) : ∀ j, j < 8 → Fl (σ.p : Int) (σ.rw j) := v.2.1
theorem INV.R {σ : St} (v : INV σ) : ∀ i, i < 4 → okRun σ.p (σ.R i) := v.2.2.1
theorem INV.P {σ : St} (v : INV σ) : ∀ i, i < 2 → (σ.P i).ok σ.p := v.2.2.2.1
theorem INV.G {σ : St} (v : INV σ) : okGate σ.p σ.G := v.2.2.2.2.1
theorem INV.g {σ : St} (v : INV σ) : okGame σ.p σ.g := v.2.2.2.2.2.1
theorem INV.L {σ : St} (v : INV σ) : okLed σ.p σ.L := v.2.2.2.2.2.2
theorem INV.sRow {σ : St} {i : Nat} {l : List Int} (v : INV σ) (q : Fl (σ.p : Int) l) : INV (σ.sRow i l) := ⟨v.p, fun j hj => if e : j = i then (by rw [e]; show Fl (σ.p : Int) (fup σ.rw i l i); rw [fup_eq]; exact q) else (by show Fl (σ.p : Int) (fup σ.rw i l j); rw [fup_ne e]; exact v.rw j hj), v.R, v.P, v.G, v.g, v.L⟩
theorem INV.sRun {σ : St} {i : Nat} {R : RS} (v : INV σ) (q : okRun σ.p R) : INV (σ.sRun i R) := ⟨v.p, v.rw, fun j hj => if e : j = i then (by rw [e]; show okRun σ.p (fup σ.R i R i); rw [fup_eq]; exact q) else (by show okRun σ.p (fup σ.R i R j); rw [fup_ne e]; exact v.R j hj), v.P, v.G, v.g, v.L⟩
theorem INV.sPair {σ : St} {i : Nat} {P : PS} (v : INV σ) (q : P.ok σ.p) : INV (σ.sPair i P) := ⟨v.p, v.rw, v.R, fun j hj => if e : j = i then (by rw [e]; show (fup σ.P i P i).ok σ.p; rw [fup_eq]; exact q) else (by show (fup σ.P i P j).ok σ.p; rw [fup_ne e]; exact v.P j hj), v.G, v.g, v.L⟩
theorem INV.sG {σ : St} {G : GA} (v : INV σ) (q : okGate σ.p G) : INV (σ.sG G) := ⟨v.p, v.rw, v.R, v.P, q, v.g, v.L⟩
theorem INV.sg {σ : St} {G : GS} (v : INV σ) (q : okGame σ.p G) : INV (σ.sg G) := ⟨v.p, v.rw, v.R, v.P, v.G, q, v.L⟩
theorem INV.sL {σ : St} {G : LD} (v : INV σ) (q : okLed σ.p G) : INV (σ.sL G) := ⟨v.p, v.rw, v.R, v.P, v.G, v.g, q⟩
def IOE : String := "java/lang/IndexOutOfBoundsException"
def IAE : String := "java/lang/IllegalArgumentException"
def ISE : String := "java/lang/IllegalStateException"
def ARE : String := "java/lang/ArithmeticException"
abbrev inb (z n : Int) : Prop := 0 ≤ z ∧ z < n
