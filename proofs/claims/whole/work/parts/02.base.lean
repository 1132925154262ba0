/-- what a row of fields holds at some places; the rest is not told -/
def hasF (fs : List Value) (n : Nat) (l : List (Nat × Value)) : Prop := fs.length = n ∧ ∀ q ∈ l, fs[q.1]? = some q.2
theorem hasF.at {fs : List Value} {n : Nat} {l : List (Nat × Value)} (h : hasF fs n l) (k : Nat) {i : Nat} {v : Value} (hk : l[k]? = some (i, v)) : fs[i]? = some v := h.2 _ (List.mem_of_getElem? hk)
theorem hasF.sub {fs : List Value} {n : Nat} {l l' : List (Nat × Value)} (h : hasF fs n l) (ks : List Nat) (hl : lv_pick l ks = l') : hasF fs n l' := by
  refine ⟨h.1, fun q hq => ?_⟩
  subst hl
  obtain ⟨i, -, hi⟩ := List.mem_filterMap.mp hq
  exact h.2 q (List.mem_of_getElem? hi)
theorem hasF.app {fs : List Value} {n : Nat} {l l' : List (Nat × Value)} (h : hasF fs n l) (h' : hasF fs n l') : hasF fs n (l ++ l') := ⟨h.1, fun q hq => (List.mem_append.mp hq).elim (h.2 q) (h'.2 q)⟩
theorem hasF.set {fs : List Value} {n : Nat} {l l' : List (Nat × Value)} (h : hasF fs n l) (i : Nat) (v : Value) (hi : i < n) (hl : (i, v) :: l.filter (fun q => !(q.1 == i)) = l') : hasF (fs.set i v) n l' := by
  refine ⟨by rw [List.length_set]; exact h.1, fun q hq => ?_⟩
  subst hl
  rcases List.mem_cons.mp hq with rfl | hq
  · exact List.getElem?_set_self (by rw [h.1]; exact hi)
  · obtain ⟨h1, h2⟩ := List.mem_filter.mp hq
    have hne : ¬ q.1 = i := by simpa using h2
    rw [List.getElem?_set_ne (fun z => hne z.symm)]
    exact h.2 q h1
/-- two rows of fields that are the same but at some places -/
def sameF (f g : List Value) (ks : List Nat) : Prop := g.length = f.length ∧ ∀ j : Nat, j ∉ ks → g[j]? = f[j]?
theorem sameF.rf {f : List Value} : sameF f f [] := ⟨rfl, fun _ _ => rfl⟩
theorem sameF.set {f g : List Value} {ks : List Nat} (h : sameF f g ks) (i : Nat) (v : Value) : sameF f (g.set i v) (i :: ks) := by
  refine ⟨by rw [List.length_set]; exact h.1, fun j hj => ?_⟩
  rw [List.getElem?_set_ne (fun z => hj (by rw [z]; exact List.mem_cons_self))]
  exact h.2 j (fun z => hj (List.mem_cons_of_mem _ z))
theorem sameF.mono {f g : List Value} {ks ks' : List Nat} (h : sameF f g ks) (hk : ∀ x ∈ ks, x ∈ ks') : sameF f g ks' := ⟨h.1, fun j hj => h.2 j (fun z => hj (hk j z))⟩
theorem sameF.trans {f g k : List Value} {a b : List Nat} (h : sameF f g a) (h' : sameF g k b) : sameF f k (b ++ a) :=
  ⟨h'.1.trans h.1, fun j hj => (h'.2 j (fun z => hj (List.mem_append_left _ z))).trans (h.2 j (fun z => hj (List.mem_append_right _ z)))⟩
theorem hasF.same {f g : List Value} {n : Nat} {l l' : List (Nat × Value)} {ks : List Nat} (h : hasF f n l) (hs : sameF f g ks) (hl : l.filter (fun q => !(ks.contains q.1)) = l') : hasF g n l' := by
  refine ⟨hs.1.trans h.1, fun q hq => ?_⟩
  subst hl
  obtain ⟨h1, h2⟩ := List.mem_filter.mp hq
  rw [hs.2 q.1 (by simpa using h2)]
  exact h.2 q h1
