/-! loops: by a measure that falls -/
section ZLoops
variable {p : Program} {l : Launch} {e : Env} {R : Room} {s : State} {m : MethodId} {args : Array Value} {below : List Frame} {meth : Method} {c : Code} {H : Heap} {locs : List Loc} {cells slots : Nat} {Q : State → Prop} {pc : Nat} {st : List Value}
theorem zloop0 {σ : Type} (I : Nat → σ → Array Slot → Prop) (body : ∀ (j : Nat) (x : σ) (ls : Array Slot), I j x ls → (∀ (j' : Nat) (x' : σ) (ls' : Array Slot), j' < j → I j' x' ls' → W p l e R s m args below meth c H locs cells slots Q (F0 m pc ls' st)) → W p l e R s m args below meth c H locs cells slots Q (F0 m pc ls st))
    (j : Nat) (x : σ) (ls : Array Slot) (h : I j x ls) : W p l e R s m args below meth c H locs cells slots Q (F0 m pc ls st) := by
  induction j using Nat.strongRecOn generalizing x ls with
  | ind j ih => exact body j x ls h (fun j' x' ls' hj hI => ih j' hj x' ls' hI)
theorem zloopH {σ : Type} (I : Nat → σ → Array Slot → Heap → List Loc → Nat → Nat → Prop) (body : ∀ (j : Nat) (x : σ) (ls : Array Slot) (H : Heap) (locs : List Loc) (cells slots : Nat), I j x ls H locs cells slots → (∀ (j' : Nat) (x' : σ) (ls' : Array Slot) (H' : Heap) (locs' : List Loc) (cells' slots' : Nat), j' < j → I j' x' ls' H' locs' cells' slots' → W p l e R s m args below meth c H' locs' cells' slots' Q (F0 m pc ls' st)) → W p l e R s m args below meth c H locs cells slots Q (F0 m pc ls st))
    (j : Nat) (x : σ) (ls : Array Slot) (h : I j x ls H locs cells slots) : W p l e R s m args below meth c H locs cells slots Q (F0 m pc ls st) := by
  induction j using Nat.strongRecOn generalizing x ls H locs cells slots with
  | ind j ih => exact body j x ls H locs cells slots h (fun j' x' ls' H' locs' c' s' hj hI => ih j' hj x' ls' hI)
end ZLoops
theorem z_m1 (x : Int32) : x - 1 = x + (-1) := Int32.sub_eq_add_neg x 1
theorem z_pm {j : Nat} (h : ¬ nI j + (-1) < 0) : 0 < j := by
  rcases Nat.eq_zero_or_pos j with q | q
  · subst q
    exact absurd (by decide) h
  · exact q
theorem z_pm0 {j : Nat} (hj : j < 2 ^ 31) (h : nI j + (-1) < 0) : j = 0 := by
  rcases Nat.eq_zero_or_pos j with q | q
  · exact q
  · obtain ⟨k, rfl⟩ : ∃ k, j = k + 1 := ⟨j - 1, by omega⟩
    rw [pk_m1] at h
    exact absurd h (nI_pos (by omega))
/-- bytes read as one number, the last first -/
def zrd (f : Nat → Int32) : Nat → Int32 → Int32
  | 0, v => v
  | j + 1, v => zrd f j ((v <<< ((8 : Int32) &&& 31)) ||| (f j &&& 255))
/-- the low bytes of a number laid from a place on -/
def zwt (f : Nat → Int32) (a k : Nat) (v : Int32) : Nat → Int32 := fun q => if a ≤ q ∧ q < a + k then ((v >>> ((8 * nI (q - a)) &&& 31)).toInt8.toInt32) else f q
theorem zwt_0 (f : Nat → Int32) (a : Nat) (v : Int32) : zwt f a 0 v = f := by
  funext q
  unfold zwt
  rw [if_neg (by omega)]
theorem zwt_s (f : Nat → Int32) (a k : Nat) (v : Int32) : upd (zwt f a k v) (a + k) ((v >>> ((8 * nI k) &&& 31)).toInt8.toInt32) = zwt f a (k + 1) v := by
  funext q
  unfold upd zwt
  by_cases h : q = a + k
  · subst h
    rw [if_pos rfl, if_pos (by omega), show a + k - a = k by omega]
  · rw [if_neg h]
    by_cases h2 : a ≤ q ∧ q < a + k
    · rw [if_pos h2, if_pos (by omega)]
    · rw [if_neg h2, if_neg (by omega)]
