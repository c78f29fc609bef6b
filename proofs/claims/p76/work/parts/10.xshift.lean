/-! what a reader reads of a piece it reads of the whole -/
section
variable {α β : Type} {A B : ByteArray} {s : Nat}
def Sh (A B : ByteArray) (s : Nat) (r : Jvm.ClassFile.Decoder α) : Prop := ∀ j a j', r B j = .ok (a, j') → r A (s + j) = .ok (a, s + j')
def sameFrom (A B : ByteArray) (s : Nat) : Prop := ∀ (j : Nat) (h : j < B.size), ∃ h2 : s + j < A.size, A[s + j] = B[j]
theorem Sh.pure (a : α) : Sh A B s (Pure.pure a : Jvm.ClassFile.Decoder α) := fun j x j' h => by cases h; rfl
theorem Sh.throw (e : Jvm.ClassFile.DecodeError) : Sh A B s (MonadExcept.throw e : Jvm.ClassFile.Decoder α) := fun j x j' h => by cases h
theorem Sh.bind {r : Jvm.ClassFile.Decoder α} {f : α → Jvm.ClassFile.Decoder β} (hr : Sh A B s r) (hf : ∀ a, Sh A B s (f a)) : Sh A B s (r >>= f) := fun j b j' h => by
  have e1 : (r >>= f) B j = (match r B j with | .ok (a, k) => f a B k | .error e => .error e) := by
    show Except.bind (r B j) _ = _
    cases r B j with
    | error e => rfl
    | ok q => rfl
  have e2 : (r >>= f) A (s + j) = (match r A (s + j) with | .ok (a, k) => f a A k | .error e => .error e) := by
    show Except.bind (r A (s + j)) _ = _
    cases r A (s + j) with
    | error e => rfl
    | ok q => rfl
  rw [e1] at h
  rw [e2]
  cases q : r B j with
  | error e => rw [q] at h; cases h
  | ok x =>
    obtain ⟨a, k⟩ := x
    rw [q] at h
    rw [hr j a k q]
    exact hf a k b j' h
theorem Sh.map {r : Jvm.ClassFile.Decoder α} {f : α → β} (hr : Sh A B s r) : Sh A B s (f <$> r) := by
  have e : (f <$> r) = (r >>= fun a => Pure.pure (f a)) := by
    funext C k
    show Except.bind (r C k) _ = Except.bind (r C k) _
    cases r C k <;> rfl
  rw [e]
  exact hr.bind (fun a => Sh.pure _)
theorem Sh.u1 (hs : sameFrom A B s) : Sh A B s (Jvm.ClassFile.Reader.u1 : Jvm.ClassFile.Decoder Nat) := fun j x j' h => by
  have e (C : ByteArray) (k : Nat) : (Jvm.ClassFile.Reader.u1 : Jvm.ClassFile.Decoder Nat) C k = if h : k < C.size then .ok (C[k].toNat, k + 1) else .error (Jvm.ClassFile.HasTruncated.truncated k) := by
    by_cases hk : k < C.size
    · rw [dif_pos hk]
      show (dite (k < C.size) _ _ : Jvm.ClassFile.Decoder Nat) C k = _
      rw [dif_pos hk]
      rfl
    · rw [dif_neg hk]
      show (dite (k < C.size) _ _ : Jvm.ClassFile.Decoder Nat) C k = _
      rw [dif_neg hk]
      rfl
  rw [e] at h
  rw [e]
  by_cases hj : j < B.size
  · rw [dif_pos hj] at h
    obtain ⟨h2, h3⟩ := hs j hj
    rw [dif_pos h2, h3]
    cases h
    rfl
  · rw [dif_neg hj] at h; cases h
theorem Sh.u2 (hs : sameFrom A B s) : Sh A B s (Jvm.ClassFile.Reader.u2 : Jvm.ClassFile.Decoder Nat) := (Sh.u1 hs).bind (fun _ => (Sh.u1 hs).bind (fun _ => Sh.pure _))
theorem Sh.u4 (hs : sameFrom A B s) : Sh A B s (Jvm.ClassFile.Reader.u4 : Jvm.ClassFile.Decoder Nat) := (Sh.u2 hs).bind (fun _ => (Sh.u2 hs).bind (fun _ => Sh.pure _))
theorem Sh.s1 (hs : sameFrom A B s) : Sh A B s (Jvm.ClassFile.Reader.s1 : Jvm.ClassFile.Decoder Int) := (Sh.u1 hs).map
theorem Sh.s2 (hs : sameFrom A B s) : Sh A B s (Jvm.ClassFile.Reader.s2 : Jvm.ClassFile.Decoder Int) := (Sh.u2 hs).map
theorem Sh.s4 (hs : sameFrom A B s) : Sh A B s (Jvm.ClassFile.Reader.s4 : Jvm.ClassFile.Decoder Int) := (Sh.u4 hs).map
theorem Sh.ite {c : Prop} [Decidable c] {r q : Jvm.ClassFile.Decoder α} (hr : Sh A B s r) (hq : Sh A B s q) : Sh A B s (if c then r else q) := by split <;> assumption
def isSw : Instr → Bool
  | .tableswitch _ _ _ _ => true
  | .lookupswitch _ _ => true
  | _ => false
def ShI (A B : ByteArray) (s : Nat) (r : Jvm.ClassFile.Decoder Instr) : Prop := ∀ j a j', r B j = .ok (a, j') → isSw a = false → r A (s + j) = .ok (a, s + j')
theorem Sh.i {r : Jvm.ClassFile.Decoder Instr} (h : Sh A B s r) : ShI A B s r := fun j a j' q _ => h j a j' q
theorem ShI.bind {r : Jvm.ClassFile.Decoder α} {f : α → Jvm.ClassFile.Decoder Instr} (hr : Sh A B s r) (hf : ∀ a, ShI A B s (f a)) : ShI A B s (r >>= f) := fun j b j' h hb => by
  have e (C : ByteArray) (k : Nat) : (r >>= f) C k = (match r C k with | .ok (a, k) => f a C k | .error e => .error e) := by
    show Except.bind (r C k) _ = _
    cases r C k with
    | error e => rfl
    | ok q => rfl
  rw [e] at h
  rw [e]
  cases q : r B j with
  | error e => rw [q] at h; cases h
  | ok x =>
    obtain ⟨a, k⟩ := x
    rw [q] at h
    rw [hr j a k q]
    exact hf a k b j' h hb
def Rs (r : Jvm.ClassFile.Decoder Instr) : Prop := ∀ B j a j', r B j = .ok (a, j') → isSw a = true
theorem Rs.bind {r : Jvm.ClassFile.Decoder α} {f : α → Jvm.ClassFile.Decoder Instr} (hf : ∀ a, Rs (f a)) : Rs (r >>= f) := fun C j b j' h => by
  have e : (r >>= f) C j = (match r C j with | .ok (a, k) => f a C k | .error e => .error e) := by
    show Except.bind (r C j) _ = _
    cases r C j with
    | error e => rfl
    | ok q => rfl
  rw [e] at h
  cases q : r C j with
  | error e => rw [q] at h; cases h
  | ok x =>
    obtain ⟨a, k⟩ := x
    rw [q] at h
    exact hf a C k b j' h
theorem Rs.i {r : Jvm.ClassFile.Decoder Instr} (h : Rs r) : ShI A B s r := fun j a j' q hb => by rw [h B j a j' q] at hb; cases hb
theorem Rs.tableswitch (pc : Nat) : Rs (Jvm.ClassFile.Decoder.tableswitch pc) := by
  unfold Jvm.ClassFile.Decoder.tableswitch
  repeat (first
    | exact fun C j a j' h => by cases h; rfl
    | exact fun C j a j' h => by cases h
    | refine Rs.bind (fun _ => ?_)
    | split)
theorem Rs.lookupswitch (pc : Nat) : Rs (Jvm.ClassFile.Decoder.lookupswitch pc) := by
  unfold Jvm.ClassFile.Decoder.lookupswitch
  repeat (first
    | exact fun C j a j' h => by cases h; rfl
    | exact fun C j a j' h => by cases h
    | refine Rs.bind (fun _ => ?_)
    | split)
theorem Sh.invokeinterface (hs : sameFrom A B s) (pc : Nat) : Sh A B s (Jvm.ClassFile.Decoder.invokeinterface pc) := by
  unfold Jvm.ClassFile.Decoder.invokeinterface
  repeat (first
    | exact Sh.pure _
    | exact Sh.throw _
    | refine Sh.bind (Sh.u1 hs) (fun _ => ?_)
    | refine Sh.bind (Sh.u2 hs) (fun _ => ?_)
    | refine Sh.bind (Sh.s2 hs) (fun _ => ?_)
    | refine Sh.bind ?_ (fun _ => ?_)
    | split)
theorem Sh.invokedynamic (hs : sameFrom A B s) (pc : Nat) : Sh A B s (Jvm.ClassFile.Decoder.invokedynamic pc) := by
  unfold Jvm.ClassFile.Decoder.invokedynamic
  repeat (first
    | exact Sh.pure _
    | exact Sh.throw _
    | refine Sh.bind (Sh.u1 hs) (fun _ => ?_)
    | refine Sh.bind (Sh.u2 hs) (fun _ => ?_)
    | refine Sh.bind (Sh.s2 hs) (fun _ => ?_)
    | refine Sh.bind ?_ (fun _ => ?_)
    | split)
theorem Sh.newarray (hs : sameFrom A B s) (pc : Nat) : Sh A B s (Jvm.ClassFile.Decoder.newarray pc) := by
  unfold Jvm.ClassFile.Decoder.newarray
  repeat (first
    | exact Sh.pure _
    | exact Sh.throw _
    | refine Sh.bind (Sh.u1 hs) (fun _ => ?_)
    | refine Sh.bind (Sh.u2 hs) (fun _ => ?_)
    | refine Sh.bind (Sh.s2 hs) (fun _ => ?_)
    | refine Sh.bind ?_ (fun _ => ?_)
    | split)
theorem Sh.multianewarray (hs : sameFrom A B s) (pc : Nat) : Sh A B s (Jvm.ClassFile.Decoder.multianewarray pc) := by
  unfold Jvm.ClassFile.Decoder.multianewarray
  repeat (first
    | exact Sh.pure _
    | exact Sh.throw _
    | refine Sh.bind (Sh.u1 hs) (fun _ => ?_)
    | refine Sh.bind (Sh.u2 hs) (fun _ => ?_)
    | refine Sh.bind (Sh.s2 hs) (fun _ => ?_)
    | refine Sh.bind ?_ (fun _ => ?_)
    | split)
theorem Sh.wide (hs : sameFrom A B s) (pc : Nat) : Sh A B s (Jvm.ClassFile.Decoder.wide pc) := by
  unfold Jvm.ClassFile.Decoder.wide
  repeat (first
    | exact Sh.pure _
    | exact Sh.throw _
    | refine Sh.bind (Sh.u1 hs) (fun _ => ?_)
    | refine Sh.bind (Sh.u2 hs) (fun _ => ?_)
    | refine Sh.bind (Sh.s2 hs) (fun _ => ?_)
    | refine Sh.bind ?_ (fun _ => ?_)
    | split)
end
set_option maxRecDepth 20000 in
set_option maxHeartbeats 4000000 in
theorem ShI_instr {A B : ByteArray} {s : Nat} (hs : sameFrom A B s) (pc : Nat) : ShI A B s (Jvm.ClassFile.Decoder.instr pc) := by
  unfold Jvm.ClassFile.Decoder.instr
  refine ShI.bind (Sh.u1 hs) (fun b => ?_)
  split
  all_goals first
    | exact (Sh.pure _).i
    | exact ((Sh.s1 hs).bind (fun _ => Sh.pure _)).i
    | exact ((Sh.s2 hs).bind (fun _ => Sh.pure _)).i
    | exact ((Sh.u1 hs).bind (fun _ => Sh.pure _)).i
    | exact ((Sh.u2 hs).bind (fun _ => Sh.pure _)).i
    | exact ((Sh.s4 hs).bind (fun _ => Sh.pure _)).i
    | exact ((Sh.u1 hs).bind (fun _ => (Sh.s1 hs).bind (fun _ => Sh.pure _))).i
    | exact (Rs.tableswitch pc).i
    | exact (Rs.lookupswitch pc).i
    | exact (Sh.invokeinterface hs pc).i
    | exact (Sh.invokedynamic hs pc).i
    | exact (Sh.newarray hs pc).i
    | exact (Sh.multianewarray hs pc).i
    | exact (Sh.wide hs pc).i
    | exact (Sh.throw _).i
    | skip
