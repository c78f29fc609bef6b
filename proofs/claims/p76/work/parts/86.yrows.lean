/-! rows of constructors, their heaps said by what they hold -/
def Kp (a : Nat) (h h2 : xH) : Prop := ∀ (b : Nat) (x : xC), b ≠ a → h[b]? = some x → h2[b]? = some x
theorem ap_lt {h l : xH} {b : Nat} {x : xC} (hx : h[b]? = some x) : (h ++ l)[b]? = some x := by
  rw [List.getElem?_append_left (List.getElem?_eq_some_iff.mp hx).1]; exact hx
theorem ap_at {h l : xH} {c : xC} {N : Nat} (hN : h.length = N) : (h ++ c :: l)[N]? = some c := by
  rw [List.getElem?_append_right (by omega), hN, Nat.sub_self]; rfl
theorem Kp.st {h : xH} {a : Nat} {x : xC} : Kp a h (h.set a x) := fun _ _ ne hx => hset_ne (fun z => ne z.symm) hx
section
variable {G : xG} {mt : xM} {d rc rs rc' rs' : Nat} {pc : Nat} {ls : List (Option Value)} {st : List Value} {h : xH} {Q : xQ} {N : Nat}
theorem y_newI {k : Nat} {atype : ArrayType} {z : Int} (n : Nat) (hN : h.length = N) (hk : k = 0 ∧ atype = .int ∨ k = 0 ∧ atype = .int) (hw : Cond.arrayClass (newarray.typeOf atype) ∈ lw_big) (hd : decode mt.2.1 pc = .ok (.newarray atype, 2)) (hz : z = (n : Int)) (hn : n < 100000) (hrc : rc = rc' + 1) (hrs : rs = rs' + n)
    (kk : ∀ h2 : xH, h2.length = N + 1 → (∀ (b : Nat) (x : xC), h[b]? = some x → h2[b]? = some x) → h2[N]? = some (cA k (List.replicate n 0)) → X G mt d rc' rs' true (pc + 2) ls (.ref N :: st) h2 Q) : X G mt d rc rs true pc ls (vi z :: st) h Q :=
  x_newarrayI n hk hw hd hz hn hrc hrs (by rw [hN]; exact kk _ (by rw [List.length_append, hN]; rfl) (fun _ _ hx => ap_lt hx) (ap_at hN))
theorem y_new {idx ci : Nat} {fs : List Value} (hN : h.length = N) (hci : ci < 11) (hw : Cond.classLink mt.1.cls idx (xCt ci).1 ∈ lw_big) (hi : Cond.instantiable (xCt ci).1 (xCt ci).2.2 ∈ lw_big) (hz : Cond.initialized (xCt ci).1 ∈ lw_big) (hd : decode mt.2.1 pc = .ok (.new idx, 3)) (hdef : xDef ci fs) (hrc : rc = rc' + 1) (hrs : rs = rs' + (xCt ci).2.2)
    (kk : ∀ h2 : xH, h2.length = N + 1 → (∀ (b : Nat) (x : xC), h[b]? = some x → h2[b]? = some x) → h2[N]? = some (cO ci fs) → X G mt d rc' rs' true (pc + 3) ls (.ref N :: st) h2 Q) : X G mt d rc rs true pc ls st h Q :=
  x_new hci hw hi hz hd hdef hrc hrs (by rw [hN]; exact kk _ (by rw [List.length_append, hN]; rfl) (fun _ _ hx => ap_lt hx) (ap_at hN))
theorem y_anew {k idx : Nat} {C : String} {z : Int} (n : Nat) (hN : h.length = N) (hk : k = 5 ∧ C = "Veilbourse$Run" ∨ k = 6 ∧ C = "Veilbourse$Pair") (hw : Cond.classLink mt.1.cls idx C ∈ lw_big) (hd : decode mt.2.1 pc = .ok (.anewarray idx, 3)) (hz : z = (n : Int)) (hn : n < 100000) (hrc : rc = rc' + 1) (hrs : rs = rs' + n)
    (kk : ∀ h2 : xH, h2.length = N + 1 → (∀ (b : Nat) (x : xC), h[b]? = some x → h2[b]? = some x) → h2[N]? = some (cQ k (List.replicate n none)) → X G mt d rc' rs' true (pc + 3) ls (.ref N :: st) h2 Q) : X G mt d rc rs true pc ls (vi z :: st) h Q :=
  x_anewarray n hk hw hd hz hn hrc hrs (by rw [hN]; exact kk _ (by rw [List.length_append, hN]; rfl) (fun _ _ hx => ap_lt hx) (ap_at hN))
theorem y_multi {idx : Nat} {z w : Int} (n k : Nat) (hN : h.length = N) (hw : Cond.classLink mt.1.cls idx "[[I" ∈ lw_big) (hi : Cond.arrayClass .int ∈ lw_big) (hd : decode mt.2.1 pc = .ok (.multianewarray idx 2, 4)) (hz : z = (n : Int)) (hkz : w = (k : Int)) (hn : n < 100) (hk : k < 100) (hrc : rc = rc' + (1 + n)) (hrs : rs = rs' + (n + n * k))
    (kk : ∀ h2 : xH, h2.length = N + (n + 1) → (∀ (b : Nat) (x : xC), h[b]? = some x → h2[b]? = some x) → h2[N]? = some (cQ 4 ((List.range n).map (fun i => some (N + 1 + i)))) → (∀ j, j < n → h2[N + 1 + j]? = some (cA 0 (List.replicate k 0))) → X G mt d rc' rs' true (pc + 4) ls (.ref N :: st) h2 Q) : X G mt d rc rs true pc ls (vi w :: vi z :: st) h Q :=
  x_multi n k hw hi hd hz hkz hn hk hrc hrs (by
    rw [hN]
    refine kk _ (by rw [List.length_append, hN, List.length_cons, List.length_replicate]) (fun _ _ hx => ap_lt hx) (ap_at hN) (fun j hj => ?_)
    rw [List.getElem?_append_right (by omega), hN, show N + 1 + j - N = j + 1 by omega, List.getElem?_cons_succ, List.getElem?_replicate, if_pos hj])
theorem y_put {idx ci k a : Nat} {ty : FieldType} {fs : List Value} {v : Value} {ex : Bool} (hN : h.length = N) (hF : xFok mt.1.cls idx ci k false ty) (hd : decode mt.2.1 pc = .ok (.putfield idx, 3)) (hh : h[a]? = some (cO ci fs)) (h3 : 3 ≤ a) (hk : k < fs.length) (hn : narrow ty (xv G v) = xv G v) (hf : fits ty (xv G v) = true)
    (kk : ∀ h2 : xH, h2.length = N → Kp a h h2 → h2[a]? = some (cO ci (fs.set k v)) → X G mt d rc rs ex (pc + 3) ls st h2 Q) : X G mt d rc rs ex pc ls (v :: .ref a :: st) h Q :=
  x_putfield hF hd hh h3 hk hn hf (kk _ (by rw [List.length_set]; exact hN) Kp.st (hset_eq hh))
theorem y_fin {idx ci k a : Nat} {ty : FieldType} {fs : List Value} {v : Value} {ex : Bool} (hN : h.length = N) (hF : xFok mt.1.cls idx ci k true ty) (hin : mt.1.name = "<init>") (hdecl : ((xCt ci).2.1 k).1 = mt.1.cls) (hd : decode mt.2.1 pc = .ok (.putfield idx, 3)) (hh : h[a]? = some (cO ci fs)) (h3 : 3 ≤ a) (hk : k < fs.length) (hn : narrow ty (xv G v) = xv G v) (hf : fits ty (xv G v) = true)
    (kk : ∀ h2 : xH, h2.length = N → Kp a h h2 → h2[a]? = some (cO ci (fs.set k v)) → X G mt d rc rs ex (pc + 3) ls st h2 Q) : X G mt d rc rs ex pc ls (v :: .ref a :: st) h Q :=
  x_putfinal hF hin hdecl hd hh h3 hk hn hf (kk _ (by rw [List.length_set]; exact hN) Kp.st (hset_eq hh))
theorem y_aast {a b k ci : Nat} {l : List (Option Nat)} {fs : List Value} {z : Int} {ex : Bool} (n : Nat) (hN : h.length = N) (hd : decode mt.2.1 pc = .ok (.aastore, 1)) (hk : k = 5 ∧ ci = 7 ∨ k = 6 ∧ ci = 5) (hh : h[a]? = some (cQ k l)) (h3 : 3 ≤ a) (hh2 : h[b]? = some (cO ci fs)) (h32 : 3 ≤ b) (hz : z = (n : Int)) (hn : n < l.length) (hb : l.length < 2147483648)
    (kk : ∀ h2 : xH, h2.length = N → Kp a h h2 → h2[a]? = some (cQ k (l.set n (some b))) → X G mt d rc rs ex (pc + 1) ls st h2 Q) : X G mt d rc rs ex pc ls (.ref b :: vi z :: .ref a :: st) h Q :=
  x_aastore n hd hk hh h3 hh2 h32 hz hn hb (kk _ (by rw [List.length_set]; exact hN) Kp.st (hset_eq hh))
end
theorem xDef_of {ci : Nat} {fs : List Value} (h1 : fs.length = (xCt ci).2.2) (h2 : ((List.range (xCt ci).2.2).all fun j => match parseFieldDescriptor ((xCt ci).2.1 j).2.2.1 with | some t => decide (fs[j]? = some (defaultValue t)) && (defaultValue t).isDefault | none => false) = true) : xDef ci fs := by
  refine ⟨h1, fun j hj => ?_⟩
  have q := List.all_eq_true.mp h2 j (List.mem_range.mpr hj)
  split at q
  · rename_i t ht
    rw [Bool.and_eq_true] at q
    exact ⟨t, ht, of_decide_eq_true q.1, q.2⟩
  · exact absurd q (by decide)

theorem xd_0 : xDef 0 [.null, .null, .null, .null, .null, .null, vi 0] := xDef_of rfl (by decide +kernel)
theorem xd_1 : xDef 1 [vi 0] := xDef_of rfl (by decide +kernel)
theorem xd_2 : xDef 2 [.null, .null, vi 0, vi 0, vi 0, vi 0, vi 0, vi 0, vi 0] := xDef_of rfl (by decide +kernel)
theorem xd_3 : xDef 3 [.null, vi 0, .null, .null, .null] := xDef_of rfl (by decide +kernel)
theorem xd_4 : xDef 4 [.null, .null, vi 0, vi 0, vi 0] := xDef_of rfl (by decide +kernel)
theorem xd_5 : xDef 5 [.null, .null, .null, .null, .null, vi 0, vi 0, vi 0, vi 0, vi 0] := xDef_of rfl (by decide +kernel)
theorem xd_6 : xDef 6 [.null, .null, .null] := xDef_of rfl (by decide +kernel)
theorem xd_7 : xDef 7 [.null, .null, .null, .null, .null, vi 0, vi 0, vi 0, vi 0, vi 0, vi 0, vi 0, vi 0] := xDef_of rfl (by decide +kernel)
theorem xd_8 : xDef 8 [.null] := xDef_of rfl (by decide +kernel)
theorem xd_9 : xDef 9 [.null, .null, .null] := xDef_of rfl (by decide +kernel)
theorem xd_10 : xDef 10 [.null, .null, .null, .null, .null, .null, .null, .null, .null, .null, .null, .null, .null, .null, .null] := xDef_of rfl (by decide +kernel)