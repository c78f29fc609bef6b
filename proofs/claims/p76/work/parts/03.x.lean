/-! THE WORLD IN ABSTRACT: cells by their numbers, whole numbers for ints; one judgement X over the kit's W; contracts by continuation -/
abbrev xC : Type := (Nat × List Int) ⊕ (List Int) ⊕ (List UInt64) ⊕ (Nat × List (Option Nat)) ⊕ (Nat × List Value)
abbrev xH : Type := List xC
abbrev xG : Type := Launch × va_G × (Nat → ClassId) × Nat × (Nat → Nat) × Nat × (Nat → Int32)
abbrev xQ : Type := (Option Value ⊕ String) → Bool → xH → Prop
def xI (z : Int) : Int32 := Int32.ofInt z
def xJ (z : Int) : Int64 := Int64.ofInt z
abbrev vi (z : Int) : Value := .int (xI z)
abbrev vl (z : Int) : Value := .long (xJ z)
def cA (k : Nat) (l : List Int) : xC := .inl (k, l)
def cJ (l : List Int) : xC := .inr (.inl l)
def cD (l : List UInt64) : xC := .inr (.inr (.inl l))
def cQ (k : Nat) (l : List (Option Nat)) : xC := .inr (.inr (.inr (.inl (k, l))))
def cO (k : Nat) (fs : List Value) : xC := .inr (.inr (.inr (.inr (k, fs))))
def xρ (G : xG) (i : Nat) : Nat := if i < 3 then G.2.2.2.2.1 i else G.2.2.2.1 + (i - 3)
def xv (G : xG) : Value → Value
  | .ref i => .ref (xρ G i)
  | v => v
def xE (G : xG) : xC → va_E
  | .inl (k, l) => .inl (G.2.2.1 k, l.length, .inl (fun i => xI (l.getD i 0)))
  | .inr (.inl l) => .inl (G.2.2.1 2, l.length, .inr (.inl (fun i => xJ (l.getD i 0))))
  | .inr (.inr (.inl l)) => .inl (G.2.2.1 3, l.length, .inr (.inr (.inr (.inl (fun i => l.getD i 0)))))
  | .inr (.inr (.inr (.inl (k, l)))) => .inl (G.2.2.1 k, l.length, .inr (.inr (.inr (.inr (fun i => (l.getD i none).map (xρ G))))))
  | .inr (.inr (.inr (.inr (k, fs)))) => .inr (k, fs.map (xv G))
def xT : Nat → FieldType
  | 0 => .int
  | 1 => .int
  | 2 => .int
  | 3 => .int
  | 4 => .array .int
  | 5 => .object "Veilbourse$Run"
  | _ => .object "Veilbourse$Pair"
def xTy (G : xG) : List (ClassId × FieldType) := (List.range 7).map (fun k => (G.2.2.1 k, xT k))
def xA (G : xG) : Nat → Prop := fun q => G.2.2.2.1 ≤ q
/-- a cell of which nothing is known but that it is there: what a throw has left -/
def cZ : xC := cA 99 []
def xAt (G : xG) (i : Nat) (c : xC) (H : Heap) : Prop := (c ≠ cZ → va_at G.2.1 xCl (xρ G i, xE G c) H) ∧ xρ G i < H.size
def xP (G : xG) (h : xH) (H : Heap) : Prop := ∀ (i : Nat) (c : xC), h[i]? = some c → 3 ≤ i → xAt G i c H
def xZ (G : xG) (ex : Bool) (h : xH) (H : Heap) : Prop := ex = true → H.size + 3 = G.2.2.2.1 + h.length ∧ 3 ≤ h.length
def xPr : Nat → Int
  | 0 => 3
  | 1 => 5
  | 2 => 7
  | 3 => 11
  | 4 => 13
  | 5 => 17
  | 6 => 19
  | _ => 23
def xAO (ty : FieldType) (U : State) : Prop := (Cond.arrayOver ty).before #[] U = true
theorem xAO.moved {t : FieldType} {u U : State} (hvm : u.vm.Alike U.vm) (h : xAO (.array t) u) : xAO (.array t) U := by
  have h0 := h
  simp only [xAO, Cond.before, Cond.holds, Cond.value, beq_iff_eq] at h0
  cases hc : u.vm.findClass (FieldType.array t).toString with
  | none => simp [hc] at h0
  | some comp =>
    simp only [hc, Option.bind_some, Option.bind_eq_some_iff, Option.map_eq_some_iff] at h0
    obtain ⟨c, hi0, k, hk, hb⟩ := h0
    obtain ⟨k', hk', he⟩ := hvm.2.2 _ _ hk
    have e1 := va_idx_bare U.vm comp
    have e2 := va_idx_bare u.vm comp
    rw [← hvm.bare_eq] at e2
    have hi := e1.symm.trans (e2.trans hi0)
    cases hkind : k.kind with
    | array component ty =>
      rw [hkind] at hb
      simp at hb
      have hkind' : k'.kind = .array component (.array t) := by rw [he]; rw [← hb.1]; exact hkind
      have f1 : U.vm.findClass (FieldType.array t).toString = some comp := by rw [hvm.findClass]; exact hc
      have f2 : U.vm.findClass ("[" ++ (FieldType.array t).toString) = some c := by rw [hvm.findClass]; exact hb.2
      unfold xAO Cond.before Cond.holds
      simp only [Cond.value]
      rw [f1, Option.bind_some]
      refine (congrArg (fun o : Option Nat => (o.bind (fun c => (U.vm.classes[c]?).map fun (k : Class) => match k.kind with | .array _ ty => decide (ty = FieldType.array t) && decide (U.vm.findClass ("[" ++ (FieldType.array t).toString) = some c) | _ => false)) == some true) hi).trans ?_
      simp [hk', hkind', f2]
    | _ => rw [hkind] at hb; simp at hb
def xStr : List (Nat × String) := [(108, "there is no such field"), (598, "there is no such row"), (604, "there is no such place"), (609, "it is no number of the field"), (176, "the degree would be above 7"), (183, "quotient and rest are the same row"), (187, "the row by which it is divided is 0"), (215, "there is no such base"), (611, "it is no member of the group"), (613, "it is no seal"), (257, "there is no such step"), (600, "there is no such run"), (622, "the run has no statement, or has a first message"), (625, "the run has no first message, or has a challenge"), (311, "the run has no mask"), (627, "the run has no challenge, or has an answer"), (335, "they are not two such runs"), (344, "the run is not accepted, or the secret does not fit"), (620, "the run has no statement"), (356, "the run has no first message"), (361, "what is out of range"), (369, "the run has no answer"), (629, "the two statements can not be joined so"), (602, "there is no such pair"), (615, "it is neither 0 nor 1"), (409, "the pair has no y, or has first messages"), (421, "the pair has no first messages, or has a challenge"), (631, "the pair has no challenge"), (635, "there is nothing to send now"), (469, "both together are not the claim"), (477, "there is no function sent"), (633, "there is no game"), (641, "there would be more than sixteen notes"), (637, "there is no such note"), (639, "the note is spent"), (515, "they are the same note"), (527, "the run does not show an opening of the note")]
def xEx : List String := ["java/lang/IllegalArgumentException", "java/lang/IllegalStateException", "java/lang/IndexOutOfBoundsException", "java/lang/ArithmeticException"]
def xDc : List MethodName := [⟨"java/lang/RuntimeException", "<init>", "(Ljava/lang/String;)V"⟩, ⟨"java/lang/Exception", "<init>", "(Ljava/lang/String;)V"⟩, ⟨"java/lang/Throwable", "<init>", "(Ljava/lang/String;)V"⟩]
def xBw : List Cond := xEx.map (fun a => .castable a a) ++ xDc.map (fun x => .declares x)
theorem xBw_warm {w : Cond} (hw : w ∈ xBw) {s U : State} (hW : s.WarmedH U.vm) (h : va_Nw w s) : va_Nw w U := by
  rcases List.mem_append.mp hw with hw | hw
  · obtain ⟨a, -, rfl⟩ := List.mem_map.mp hw
    exact h.warmC hW
  · obtain ⟨a, -, rfl⟩ := List.mem_map.mp hw
    exact h.warmD hW
theorem xBw_same {w : Cond} (hw : w ∈ xBw) {s U : State} (hv : s.vm = U.vm) (h : va_Nw w s) : va_Nw w U := by
  rcases List.mem_append.mp hw with hw | hw
  · obtain ⟨a, -, rfl⟩ := List.mem_map.mp hw
    exact h.same rfl hv
  · obtain ⟨a, -, rfl⟩ := List.mem_map.mp hw
    exact h.same rfl hv
theorem xBw_use {w : Cond} (hw : w ∈ xBw) {s : State} {A : Array Value} (h : va_Nw w s) : w.before A s = true := by
  rcases List.mem_append.mp hw with hw | hw
  · obtain ⟨a, -, rfl⟩ := List.mem_map.mp hw
    exact h.use rfl
  · obtain ⟨a, -, rfl⟩ := List.mem_map.mp hw
    exact h.use rfl
theorem xBw_c {E : String} (h : E ∈ xEx) : Cond.castable E E ∈ xBw := List.mem_append_left _ (List.mem_map.mpr ⟨E, h, rfl⟩)
/-- what the statics, the script, the texts are, and what of the tables' words isn't kept by the kit's own list -/
def xSt (G : xG) (s : State) (H : Heap) : Prop :=
  va_K G.2.1 xCl (xTy G) s ∧ G.2.2.2.1 ≤ H.size ∧ G.2.2.2.2.1 0 < G.2.2.2.1 ∧ va_X (G.2.2.2.2.1 0) G.2.2.2.2.2.1 G.2.2.2.2.2.2 s H ∧
  (va_Z RX10 "PRIMES" "[I" (.ref (G.2.2.2.2.1 1)) (xA G) s H ∧ va_T .int (G.2.2.2.2.1 1) 8 (fun j => vi (xPr j)) (xA G) s H) ∧
  (True ∧ True) ∧
  vx_Zq Bundle.tN "UNASSIGNED_STACK" Bundle.steD (xA G) s H ∧ vx_Zq Bundle.tN "SUPPRESSED_SENTINEL" Bundle.listD (xA G) s H ∧
  (∀ q ∈ xStr, ∃ sa, vk_R RX10 q.1 q.2 sa s) ∧ (∀ a ∈ xEx, ∀ b ∈ xEx, a ≠ b → va_Nc a b s) ∧ (∀ w ∈ xBw, va_Nw w s) ∧ (xAO (.array .int) s ∧ va_AO "Veilbourse$Run" s ∧ va_AO "Veilbourse$Pair" s)
def xW (G : xG) (ex : Bool) (h : xH) (U : State) : Prop := xP G h U.heap ∧ xZ G ex h U.heap ∧ xSt G U U.heap
def xRM (d k n : Nat) : Room := { frames := d, cells := k, slots := n, locals := 500 * d + 876 }
def xK (G : xG) (mt : xM) (p : Program) (s : State) (m : MethodId) (args : Array Value) (meth : Method) (c : Code) : Prop :=
  p.tables.exec = Jvm.exec ∧ c.code = mt.2.1 ∧ meth.sig.returnType = mt.2.2.2.1 ∧ c.maxLocals = mt.2.2.1 ∧ s.vm.findClass mt.1.cls = some m.cls ∧ (∀ w ∈ lw_big, w.before args s = true) ∧
  meth.locks = false ∧ c.exceptionTable.toList = tableOf mt.2.2.2.2 ∧ meth.name = mt.1.name ∧ xSt G s s.heap ∧ G.1.stackTraces = false
def xLo (G : xG) (n : Nat) (lsA : Array Slot) (ls : List (Option Value)) : Prop := lsA.size = n ∧ lv_wf lsA ∧ ∀ (i : Nat) (v : Value), ls[i]? = some (some v) → lsA[i]? = some (.val (xv G v))
def xQc (G : xG) (Q : xQ) : Array Value → State → Outcome → State → Prop := fun _ st o t => ∃ (v : Option Value) (ex : Bool) (h : xH), o = .returned (v.map (xv G)) ∧ Q (.inl v) ex h ∧ xP G h t.heap ∧ xZ G ex h t.heap ∧ va_F (xA G) st t
def xXC (G : xG) (Q : xQ) : String → State → State → Prop := fun E st t => ∃ h : xH, Q (.inr E) false h ∧ E ∈ xEx ∧ xP G h t.heap ∧ va_F (xA G) st t
def xPost (G : xG) (Q : xQ) (below : List Frame) (args : Array Value) (s : State) (mc ms : Nat) : State → Prop := vx_MQ below (xQc G Q) (xXC G Q) args s mc ms (xA G)
def X (G : xG) (mt : xM) (d rc rs : Nat) (ex : Bool) (pc : Nat) (ls : List (Option Value)) (st : List Value) (h : xH) (Q : xQ) : Prop :=
  ∀ (p : Program) (e : Env) (s : State) (m : MethodId) (args : Array Value) (below : List Frame) (meth : Method) (c : Code), xK G mt p s m args meth c →
  ∀ (H : Heap) (locs : List Loc) (cells slots mc ms : Nat) (lsA : Array Slot), xP G h H → va_S (xA G) s.heap H locs → xZ G ex h H → cells + rc ≤ mc → slots + rs ≤ ms → xLo G mt.2.2.1 lsA ls →
  W p G.1 e (xRM d mc ms) s m args below meth c H locs cells slots (xPost G Q below args s mc ms) (F0 m pc lsA (st.map (xv G)))
/-! decode rows by a table -/
def okT (b : ByteArray) (l : List (Nat × Instr × Nat)) : Bool := l.all (fun q => decide (decode b q.1 = .ok (q.2.1, q.2.2)))
theorem dT {b : ByteArray} {l : List (Nat × Instr × Nat)} (h : okT b l = true) (k : Nat) {pc n : Nat} {i : Instr} (hk : l[k]? = some (pc, i, n)) : decode b pc = .ok (i, n) := by
  have h1 := List.all_eq_true.mp h (pc, i, n) (List.mem_of_getElem? hk)
  exact of_decide_eq_true h1
/-! whole numbers and ints -/
theorem xI_add (a b : Int) : xI a + xI b = xI (a + b) := (Int32.ofInt_add a b).symm
theorem xI_sub (a b : Int) : xI a - xI b = xI (a - b) := (Int32.ofInt_sub a b).symm
theorem xI_mul (a b : Int) : xI a * xI b = xI (a * b) := (Int32.ofInt_mul a b).symm
theorem xI_neg (a : Int) : - xI a = xI (-a) := (Int32.ofInt_neg a).symm
theorem xJ_add (a b : Int) : xJ a + xJ b = xJ (a + b) := (Int64.ofInt_add a b).symm
theorem xJ_sub (a b : Int) : xJ a - xJ b = xJ (a - b) := (Int64.ofInt_sub a b).symm
theorem xJ_mul (a b : Int) : xJ a * xJ b = xJ (a * b) := (Int64.ofInt_mul a b).symm
def xr (z : Int) : Prop := -2147483648 ≤ z ∧ z < 2147483648
def xrl (z : Int) : Prop := -9223372036854775808 ≤ z ∧ z < 9223372036854775808
theorem xI_toInt {z : Int} (h : xr z) : (xI z).toInt = z := by
  unfold xI
  rw [Int32.toInt_ofInt]
  unfold xr at h
  rw [Int.bmod_def, show ((Int32.size : Nat) : Int) = 4294967296 from rfl]
  split <;> omega
theorem xJ_toInt {z : Int} (h : xrl z) : (xJ z).toInt = z := by
  unfold xJ
  rw [Int64.toInt_ofInt]
  unfold xrl at h
  rw [Int.bmod_def, show ((Int64.size : Nat) : Int) = 18446744073709551616 from rfl]
  split <;> omega
theorem xI_of (x : Int32) : xI x.toInt = x := Int32.ofInt_toInt x
theorem xr_toInt (x : Int32) : xr x.toInt := ⟨by have := Int32.le_toInt x; simpa using this, by have := Int32.toInt_lt x; simpa using this⟩
theorem xI_lt {a b : Int} (ha : xr a) (hb : xr b) : xI a < xI b ↔ a < b := by rw [Int32.lt_iff_toInt_lt, xI_toInt ha, xI_toInt hb]
theorem xI_le {a b : Int} (ha : xr a) (hb : xr b) : xI a ≤ xI b ↔ a ≤ b := by rw [Int32.le_iff_toInt_le, xI_toInt ha, xI_toInt hb]
theorem xI_eq {a b : Int} (ha : xr a) (hb : xr b) : xI a = xI b ↔ a = b := by rw [← Int32.toInt_inj, xI_toInt ha, xI_toInt hb]
theorem xJ_lt {a b : Int} (ha : xrl a) (hb : xrl b) : xJ a < xJ b ↔ a < b := by rw [Int64.lt_iff_toInt_lt, xJ_toInt ha, xJ_toInt hb]
theorem xJ_eq {a b : Int} (ha : xrl a) (hb : xrl b) : xJ a = xJ b ↔ a = b := by rw [← Int64.toInt_inj, xJ_toInt ha, xJ_toInt hb]
theorem xI_0 : (0 : Int32) = xI 0 := rfl
theorem xr_0 : xr 0 := by unfold xr; omega
theorem xI_long {z : Int} (h : xr z) : (xI z).toInt64 = xJ z := by
  rw [← Int64.toInt_inj, Int32.toInt_toInt64, xI_toInt h, xJ_toInt (by unfold xr at h; unfold xrl; omega)]
theorem xJ_int (z : Int) : (xJ z).toInt32 = xI z := by
  unfold xJ xI
  exact Int64.toInt32_ofInt
theorem xI_clamp (n : Nat) (h : n < 2147483648) : (xI (n : Int)).toNatClampNeg = n := by
  show (xI (n : Int)).toInt.toNat = n
  rw [xI_toInt (by unfold xr; omega)]
  omega
theorem xI_nneg (n : Nat) (h : n < 2147483648) : ¬ xI (n : Int) < 0 := by
  rw [xI_0, xI_lt (by unfold xr; omega) xr_0]
  omega
theorem xI_in {n N : Nat} (h : n < N) (hN : N < 2147483648) : vp_in (xI (n : Int)) N := by
  intro q
  rcases q with q | q
  · exact xI_nneg n (by omega) q
  · rw [xI_clamp n (by omega)] at q
    omega
theorem xI_tmod {a b : Int} (ha : xr a) (hb : xr b) : (xI a - xI a / xI b * xI b) = xI (a.tmod b) := by
  rw [irem_eq_mod, ← Int32.toInt_inj, Int32.toInt_mod, xI_toInt ha, xI_toInt hb, xI_toInt]
  unfold xr at *
  have h1 : (a.tmod b).natAbs ≤ a.natAbs := by rw [Int.natAbs_tmod]; exact Nat.mod_le _ _
  have h2 : 0 ≤ a → 0 ≤ a.tmod b := fun h => Int.tmod_nonneg b h
  have h3 : a ≤ 0 → 0 ≤ -(a.tmod b) := fun h => by rw [← Int.neg_tmod]; exact Int.tmod_nonneg b (by omega)
  omega
