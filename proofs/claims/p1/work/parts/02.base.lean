/-- what a row of fields holds at some places; the rest is not told -/
def hasF (fs : List Value) (n : Nat) (l : List (Nat × Value)) : Prop := fs.length = n ∧ ∀ q ∈ l, fs[q.1]? = some q.2
theorem hasF.at {fs : List Value} {n : Nat} {l : List (Nat × Value)} (h : hasF fs n l) (k : Nat) {i : Nat} {v : Value} (hk : l[k]? = some (i, v)) : fs[i]? = some v := h.2 _ (List.mem_of_getElem? hk)
theorem hasF.sub {fs : List Value} {n : Nat} {l l' : List (Nat × Value)} (h : hasF fs n l) (ks : List Nat) (hl : lv_pick l ks = l') : hasF fs n l' := by
  refine ⟨h.1, fun q hq => ?_⟩
  subst hl
  obtain ⟨i, -, hi⟩ := List.mem_filterMap.mp hq
  exact h.2 q (List.mem_of_getElem? hi)
theorem hasF.app {fs : List Value} {n : Nat} {l l' : List (Nat × Value)} (h : hasF fs n l) (h' : hasF fs n l') : hasF fs n (l ++ l') := ⟨h.1, fun q hq => (List.mem_append.mp hq).elim (h.2 q) (h'.2 q)⟩
theorem hasF.set {fs : List Value} {n : Nat} {l l' : List (Nat × Value)} (h : hasF fs n l) (i : Nat) (v : Value) (hi : i < n) (hl : (i, v) :: l.filter (fun q => !(q.1 == i)) = l') : hasF (fs.set i v) n l' := by
  refine ⟨by rw [List.length_set]; exact h.1, fun q hq => ?_⟩
  subst hl
  rcases List.mem_cons.mp hq with rfl | hq
  · exact List.getElem?_set_self (by rw [h.1]; exact hi)
  · obtain ⟨h1, h2⟩ := List.mem_filter.mp hq
    have hne : ¬ q.1 = i := by simpa using h2
    rw [List.getElem?_set_ne (fun z => hne z.symm)]
    exact h.2 q h1
/-- two rows of fields that are the same but at some places -/
def sameF (f g : List Value) (ks : List Nat) : Prop := g.length = f.length ∧ ∀ j : Nat, j ∉ ks → g[j]? = f[j]?
theorem sameF.rf {f : List Value} : sameF f f [] := ⟨rfl, fun _ _ => rfl⟩
theorem sameF.set {f g : List Value} {ks : List Nat} (h : sameF f g ks) (i : Nat) (v : Value) : sameF f (g.set i v) (i :: ks) := by
  refine ⟨by rw [List.length_set]; exact h.1, fun j hj => ?_⟩
  rw [List.getElem?_set_ne (fun z => hj (by rw [z]; exact List.mem_cons_self))]
  exact h.2 j (fun z => hj (List.mem_cons_of_mem _ z))
theorem sameF.mono {f g : List Value} {ks ks' : List Nat} (h : sameF f g ks) (hk : ∀ x ∈ ks, x ∈ ks') : sameF f g ks' := ⟨h.1, fun j hj => h.2 j (fun z => hj (hk j z))⟩
theorem sameF.trans {f g k : List Value} {a b : List Nat} (h : sameF f g a) (h' : sameF g k b) : sameF f k (b ++ a) :=
  ⟨h'.1.trans h.1, fun j hj => (h'.2 j (fun z => hj (List.mem_append_left _ z))).trans (h.2 j (fun z => hj (List.mem_append_right _ z)))⟩
theorem hasF.same {f g : List Value} {n : Nat} {l l' : List (Nat × Value)} {ks : List Nat} (h : hasF f n l) (hs : sameF f g ks) (hl : l.filter (fun q => !(ks.contains q.1)) = l') : hasF g n l' := by
  refine ⟨hs.1.trans h.1, fun q hq => ?_⟩
  subst hl
  obtain ⟨h1, h2⟩ := List.mem_filter.mp hq
  rw [hs.2 q.1 (by simpa using h2)]
  exact h.2 q h1
section AX
variable {p : Program} {l : Launch} {e : Env} {R : Room} {s : State} {m : MethodId} {args : Array Value} {below : List Frame} {meth : Method} {c : Code} {H : Heap} {locs : List Loc} {cells slots : Nat} {Q : State → Prop}
/-- athrow of a thing that is there -/
theorem ax_athrow {cc : ByteArray} {pc : Nat} {ls : Array Slot} {rest : List Value} {q : Nat} (hexec : p.tables.exec = Jvm.exec) (hb : c.code = cc) (hdg : decode cc pc = .ok (.athrow, 1))
    (kk : vx_W p l e R s m args below meth c H locs cells slots Q (F0 m pc ls rest) q) : W p l e R s m args below meth c H locs cells slots Q (F0 m pc ls (.ref q :: rest)) := by
  intro T hT X
  obtain ⟨t, a, b⟩ := kk T hT X
  refine ⟨t, ?_, b⟩
  have hdg' : decode c.code pc = .ok (.athrow, 1) := by rw [hb]; exact hdg
  jvm_step X.here [X.here.top, hexec, hdg', athrow.wp_sem]
  exact a
end AX
/-! a throw that is caught here: the search through the rows of the method's own table -/
section CX
/-- from the rows on, in the state S, the search comes to the handler h and leaves the tables v -/
def cx_F (e : Env) (S : State) (f : JFrame) (a : Addr) (rows : List ExceptionTableEntry) (h : Nat) (v : Vm) : Prop :=
  ∀ (Q : Handler → Pre) (E : CtlPost) (d : Bool) (acts : List Action), wp (findHandler.go f a rows) Q E e d acts S ↔ Q (.found h) d acts (S.setVm v)
/-- the first row takes it -/
theorem cx_hit {e : Env} {s0 S : State} {f : JFrame} {a : Addr} {x : ExceptionTableEntry} {t : List ExceptionTableEntry} {k : ClassId} {cell : Cell} (hx : covers x f.pc = true) (h0 : x.catchType ≠ 0)
    (hW : s0.WarmedH S.vm) (hl : s0.vm.ClassLinks e.platform f.method.cls x.catchType k) (hcell : S.heap[a]? = some cell) (hobj : ∀ z, cell.vm ≠ .statics z)
    (hk : ∃ z, s0.vm.classes[cell.cls]? = some z) (hfit : s0.vm.assignable cell.cls k = true) :
    ∃ v, s0.WarmedH v ∧ cx_F e S f a (x :: t) x.handlerPc v := by
  obtain ⟨d1, _, _, kt, hd, _, _, _, _, hkt, _, hopen⟩ := hl.here
  have hS := hW.classLinks hl
  refine ⟨_, hW.noted hd hopen (State.rightAt_cls hl), fun Q E d acts => ?_⟩
  have hal : S.vm.Alike (S.vm.noted f.method.cls x.catchType (.cls k)) := (Vm.Alike.refl S.vm).noted _ _ _
  obtain ⟨ha, ht⟩ := (resolveClass_links e.toSetting hS).op (op := VmOp.resolveClass f.method.cls x.catchType) rfl
  obtain ⟨z1, hz1⟩ := hk
  obtain ⟨y1, hy1, -⟩ := hW.alike.2.2 _ _ hz1
  obtain ⟨y2, hy2, -⟩ := hW.alike.2.2 _ _ hkt
  obtain ⟨u1, hu1, -⟩ := hal.2.2 _ _ hy1
  obtain ⟨u2, hu2, -⟩ := hal.2.2 _ _ hy2
  have hf : (S.vm.noted f.method.cls x.catchType (.cls k)).assignable cell.cls k = true := by rw [hal.assignable, hW.alike.assignable]; exact hfit
  simp only [covers] at hx
  simp [findHandler.go, hx, h0, ha, ht, hcell, hobj, hu1, hu2, hf, VmOp.dirties, VmOp.acts]
/-- the first row covers the place, and names a class that it isn't -/
theorem cx_miss {e : Env} {s0 S : State} {f : JFrame} {a : Addr} {x : ExceptionTableEntry} {t : List ExceptionTableEntry} {k : ClassId} {cell : Cell} {h : Nat} (hx : covers x f.pc = true) (h0 : x.catchType ≠ 0)
    (hW : s0.WarmedH S.vm) (hl : s0.vm.ClassLinks e.platform f.method.cls x.catchType k) (hcell : S.heap[a]? = some cell) (hobj : ∀ z, cell.vm ≠ .statics z)
    (hk : ∃ z, s0.vm.classes[cell.cls]? = some z) (hno : s0.vm.assignable cell.cls k = false)
    (rest : ∀ S1 : State, S1.heap = S.heap → s0.WarmedH S1.vm → ∃ v, s0.WarmedH v ∧ cx_F e S1 f a t h v) :
    ∃ v, s0.WarmedH v ∧ cx_F e S f a (x :: t) h v := by
  obtain ⟨d1, _, _, kt, hd, _, _, _, _, hkt, _, hopen⟩ := hl.here
  have hS := hW.classLinks hl
  obtain ⟨v, hv, hF⟩ := rest (S.setVm (S.vm.noted f.method.cls x.catchType (.cls k))) rfl (hW.noted hd hopen (State.rightAt_cls hl))
  refine ⟨v, hv, fun Q E d acts => ?_⟩
  have hal : S.vm.Alike (S.vm.noted f.method.cls x.catchType (.cls k)) := (Vm.Alike.refl S.vm).noted _ _ _
  obtain ⟨ha, ht⟩ := (resolveClass_links e.toSetting hS).op (op := VmOp.resolveClass f.method.cls x.catchType) rfl
  obtain ⟨z1, hz1⟩ := hk
  obtain ⟨y1, hy1, -⟩ := hW.alike.2.2 _ _ hz1
  obtain ⟨y2, hy2, -⟩ := hW.alike.2.2 _ _ hkt
  obtain ⟨u1, hu1, -⟩ := hal.2.2 _ _ hy1
  obtain ⟨u2, hu2, -⟩ := hal.2.2 _ _ hy2
  have hf : (S.vm.noted f.method.cls x.catchType (.cls k)).assignable cell.cls k = false := by rw [hal.assignable, hW.alike.assignable]; exact hno
  have h2 := hF Q E d acts
  simp only [covers] at hx
  simp [findHandler.go, hx, h0, ha, ht, hcell, hobj, hu1, hu2, hf, VmOp.dirties, VmOp.acts]
  exact h2
variable {p : Program} {l : Launch} {e : Env} {R : Room} {s : State} {m : MethodId} {args : Array Value} {below : List Frame} {meth : Method} {c : Code} {H : Heap} {locs : List Loc} {cells slots : Nat} {Q : State → Prop}
/-- what was thrown over the frame is caught where the search comes to -/
theorem cx_go {pc h : Nat} {ls : Array Slot} {rest : List Value} {q : Addr}
    (hF : ∀ S : State, S.heap = H → s.WarmedH S.vm → ∃ v, s.WarmedH v ∧ cx_F e S (F0 m pc ls rest) q c.exceptionTable.toList h v)
    (kk : W p l e R s m args below meth c H locs cells slots Q (F0 m h ls [.ref q])) : vx_W p l e R s m args below meth c H locs cells slots Q (F0 m pc ls rest) q := by
  intro T hT X
  obtain ⟨v, hv, hf⟩ := hF ((T.setTop (F0 m pc ls rest)).pushFrame (.throwing q)) hT X.warmed
  obtain ⟨t, a1, b1⟩ := kk (T.setVm v) hT (X.noted hv)
  refine ⟨t, ?_, b1⟩
  have hall : ∀ (Q : Handler → Pre) (E : CtlPost) (d : Bool) (acts : List Action), wp (findHandler (F0 m pc ls rest) q) Q E e d acts ((T.setTop (F0 m pc ls rest)).pushFrame (.throwing q)) ↔ Q (.found h) d acts (((T.setTop (F0 m pc ls rest)).pushFrame (.throwing q)).setVm v) := fun Q E d acts => by
    rw [W.findHandler_eq (f := F0 m pc ls rest) (s := ((T.setTop (F0 m pc ls rest)).pushFrame (.throwing q))) (meth := meth) (code := c) X.method' X.code]
    exact hf Q E d acts
  obtain ⟨g1, g2⟩ := X.here.throwing q (g := F0 m pc ls rest)
  refine Steps.head g1 g2 ?_
  obtain ⟨j0, hj⟩ := Option.isSome_iff_exists.mp X.here.top
  obtain ⟨r, hr⟩ := State.topJava?_eq_some.mp hj
  have hr2 : (T.setVm v).frames = .java j0 :: r := hr
  have st : (stepThrowing e ((T.setTop (F0 m pc ls rest)).pushFrame (.throwing q)) q (.java (F0 m pc ls rest) :: r)).Is ((((T.setTop (F0 m pc ls rest)).pushFrame (.throwing q)).setVm v).setFrames (.java { F0 m pc ls rest with pc := h, stack := [.ref q] } :: r)) [] := by
    simp only [stepThrowing, searchFrame, vmDo]
    generalize hgo : Sem.go _ e false [] ((T.setTop (F0 m pc ls rest)).pushFrame (.throwing q)) = res
    obtain ⟨as, rfl, h3⟩ := Sem.eq_ok_of hgo (a := Handler.found h) (s' := ((T.setTop (F0 m pc ls rest)).pushFrame (.throwing q)).setVm v) (acts' := []) (by simp [hall])
    exact ⟨rfl, h3⟩
  rw [stepThread_throwing (frames_entered X.here.top _), hr, List.tail_cons, st.1]
  have e1 : (((T.setTop (F0 m pc ls rest)).pushFrame (.throwing q)).setVm v).setFrames (.java { F0 m pc ls rest with pc := h, stack := [.ref q] } :: r) = (T.setVm v).setTop (F0 m h ls [.ref q]) := by
    have swap : ∀ (u : State) (F : List Frame), (u.setFrames F).setVm v = (u.setVm v).setFrames F := fun _ _ => rfl
    rw [State.setTop_of_frames _ hr2, State.pushFrame, State.setTop_of_frames _ hr, State.setFrames_setFrames, swap, State.setFrames_setFrames]
  rw [e1]
  exact a1
end CX
/-! a new thing's fields, and the classes of arrays -/
def dfs (n : Nat) (ty : Nat → FieldType) : List Value := (List.range n).map (fun j => defaultValue (ty j))
theorem dfs_ok {n : Nat} {ty : Nat → FieldType} : ∀ j, j < n → defaultValue (ty j) = vp_V (dfs n ty) j := by
  intro j hj
  simp [vp_V, dfs, List.getD, hj]
theorem dfs_has {n : Nat} {ty : Nat → FieldType} {l : List (Nat × Value)} (h : ∀ q ∈ l, q.1 < n ∧ defaultValue (ty q.1) = q.2) : hasF (dfs n ty) n l := by
  refine ⟨by simp [dfs], fun q hq => ?_⟩
  obtain ⟨h1, h2⟩ := h q hq
  simp [dfs, h1, h2]
theorem kU_int {D : va_G} {cl : List vw_C} {tys : List (ClassId × FieldType)} {U : State} (h : va_K D cl tys U) {a b : ClassId} (i j : Nat) (hi : tys[i]? = some (a, .int)) (hj : tys[j]? = some (b, .int)) : a = b := Option.some.inj ((show U.vm.findClass _ = some a from (h.2 i _ hi).2).symm.trans (show U.vm.findClass _ = some b from (h.2 j _ hj).2))
theorem kU_long {D : va_G} {cl : List vw_C} {tys : List (ClassId × FieldType)} {U : State} (h : va_K D cl tys U) {a b : ClassId} (i j : Nat) (hi : tys[i]? = some (a, .long)) (hj : tys[j]? = some (b, .long)) : a = b := Option.some.inj ((show U.vm.findClass _ = some a from (h.2 i _ hi).2).symm.trans (show U.vm.findClass _ = some b from (h.2 j _ hj).2))
theorem kU_byte {D : va_G} {cl : List vw_C} {tys : List (ClassId × FieldType)} {U : State} (h : va_K D cl tys U) {a b : ClassId} (i j : Nat) (hi : tys[i]? = some (a, .byte)) (hj : tys[j]? = some (b, .byte)) : a = b := Option.some.inj ((show U.vm.findClass _ = some a from (h.2 i _ hi).2).symm.trans (show U.vm.findClass _ = some b from (h.2 j _ hj).2))
theorem kU_boolean {D : va_G} {cl : List vw_C} {tys : List (ClassId × FieldType)} {U : State} (h : va_K D cl tys U) {a b : ClassId} (i j : Nat) (hi : tys[i]? = some (a, .boolean)) (hj : tys[j]? = some (b, .boolean)) : a = b := Option.some.inj ((show U.vm.findClass _ = some a from (h.2 i _ hi).2).symm.trans (show U.vm.findClass _ = some b from (h.2 j _ hj).2))
theorem na_int (n : Nat) : ∀ cA : ClassId, vp_cell cA (n, .inl (fun _ => 0)) = arrV cA n (fun _ => defaultValue .int) := fun _ => rfl
theorem na_byte (n : Nat) : ∀ cA : ClassId, vp_cell cA (n, .inl (fun _ => 0)) = arrV cA n (fun _ => defaultValue .byte) := fun _ => rfl
theorem na_boolean (n : Nat) : ∀ cA : ClassId, vp_cell cA (n, .inl (fun _ => 0)) = arrV cA n (fun _ => defaultValue .boolean) := fun _ => rfl
theorem na_long (n : Nat) : ∀ cA : ClassId, vp_cell cA (n, .inr (.inl (fun _ => 0))) = arrV cA n (fun _ => defaultValue .long) := fun _ => rfl
/-- a switch: none of its numbers -/
theorem sw_out {x : Int32} {lo hi : Int} (h : ∀ k : Int, lo ≤ k → k ≤ hi → x ≠ Int32.ofInt k) : x.toInt < lo ∨ hi < x.toInt := by
  rcases Int.lt_or_le x.toInt lo with a | a
  · exact Or.inl a
  · rcases Int.lt_or_le hi x.toInt with b | b
    · exact Or.inr b
    · exact absurd (Int32.ofInt_toInt x).symm (h x.toInt a b)
/-! what lies outside the worlds: a constant text, the JDK's own statics -/
def strO (qs qv n : Nat) (g : Nat → Int32) (A : Nat → Prop) (U : State) (H : Heap) : Prop :=
  va_O "java/lang/String" qs A U H ∧ va_OF "java/lang/String" "coder" "B" (.int 0) qs A U H ∧ va_OF "java/lang/String" "value" "[B" (.ref qv) qs A U H ∧ va_T .byte qv n (fun j => .int (g j)) A U H ∧ n < 2 ^ 31
theorem strO.moved {qs qv n : Nat} {g : Nat → Int32} {A : Nat → Prop} {u U : State} {H : Heap} (h : strO qs qv n g A u H) (hvm : u.vm.Alike U.vm) : strO qs qv n g A U H := ⟨h.1.moved hvm, h.2.1.moved hvm, h.2.2.1.moved hvm, h.2.2.2.1.moved hvm, h.2.2.2.2⟩
theorem strO.kept {qs qv n : Nat} {g : Nat → Int32} {A : Nat → Prop} {U : State} {H H1 : Heap} (h : strO qs qv n g A U H) (hq : ∀ a : Nat, a < H.size → ¬ A a → H1[a]? = H[a]?) : strO qs qv n g A U H1 := ⟨h.1.kept hq, h.2.1.kept hq, h.2.2.1.kept hq, h.2.2.2.1.kept hq, h.2.2.2.2⟩
theorem strO.narrow {qs qv n : Nat} {g : Nat → Int32} {A B : Nat → Prop} {U : State} {H : Heap} (h : strO qs qv n g A U H) (hAB : ∀ q, B q → A q) : strO qs qv n g B U H := ⟨h.1.narrow hAB, h.2.1.narrow hAB, h.2.2.1.narrow hAB, h.2.2.2.1.narrow hAB, h.2.2.2.2⟩
def bytO (qv n : Nat) (g : Nat → Int32) (A : Nat → Prop) (U : State) (H : Heap) : Prop := va_T .byte qv n (fun j => .int (g j)) A U H ∧ n < 2 ^ 31
theorem bytO.moved {qv n : Nat} {g : Nat → Int32} {A : Nat → Prop} {u U : State} {H : Heap} (h : bytO qv n g A u H) (hvm : u.vm.Alike U.vm) : bytO qv n g A U H := ⟨h.1.moved hvm, h.2⟩
theorem bytO.kept {qv n : Nat} {g : Nat → Int32} {A : Nat → Prop} {U : State} {H H1 : Heap} (h : bytO qv n g A U H) (hq : ∀ a : Nat, a < H.size → ¬ A a → H1[a]? = H[a]?) : bytO qv n g A U H1 := ⟨h.1.kept hq, h.2⟩
theorem bytO.narrow {qv n : Nat} {g : Nat → Int32} {A B : Nat → Prop} {U : State} {H : Heap} (h : bytO qv n g A U H) (hAB : ∀ q, B q → A q) : bytO qv n g B U H := ⟨h.1.narrow hAB, h.2⟩
theorem strO.byt {qs qv n : Nat} {g : Nat → Int32} {A : Nat → Prop} {U : State} {H : Heap} (h : strO qs qv n g A U H) : bytO qv n g A U H := ⟨h.2.2.2.1, h.2.2.2.2⟩
def jdkO (A : Nat → Prop) (U : State) (H : Heap) : Prop := va_Z "java/lang/String" "COMPACT_STRINGS" "Z" (.int 1) A U H ∧ va_Zq "jdk/internal/util/Preconditions" "SIOOBE_FORMATTER" "Ljava/util/function/BiFunction;" A U H
theorem jdkO.moved {A : Nat → Prop} {u U : State} {H : Heap} (h : jdkO A u H) (hvm : u.vm.Alike U.vm) : jdkO A U H := ⟨h.1.moved hvm, h.2.moved hvm⟩
theorem jdkO.kept {A : Nat → Prop} {U : State} {H H1 : Heap} (h : jdkO A U H) (hq : ∀ a : Nat, a < H.size → ¬ A a → H1[a]? = H[a]?) : jdkO A U H1 := ⟨h.1.kept hq, h.2.kept hq⟩
theorem jdkO.narrow {A B : Nat → Prop} {U : State} {H : Heap} (h : jdkO A U H) (hAB : ∀ q, B q → A q) : jdkO B U H := ⟨h.1.narrow hAB, h.2.narrow hAB⟩
theorem bytO.moved' {qv n : Nat} {g : Nat → Int32} {A : Nat → Prop} {u U : State} {H : Heap} (hvm : u.vm.Alike U.vm) (h : bytO qv n g A u H) : bytO qv n g A U H := h.moved hvm
/-- the places at which names begin: each name has twelve letters at most -/
def nmI (N : Nat) (f : Nat → Int32) : Prop := ∀ j, j ≤ N → ∃ a, a ≤ 12 * j ∧ f j = nI a
theorem nmI_add {N L a : Nat} {f : Nat → Int32} (h : nmI N f) (ha : a ≤ 12 * N) (hL : L ≤ 12) : nmI (N + 1) (upd f (N + 1) (nI (a + L))) := by
  intro j hj
  rcases (show j = N + 1 ∨ j ≤ N by omega) with rfl | q
  · exact ⟨a + L, by omega, pk_us⟩
  · obtain ⟨b, hb, e⟩ := h j q
    exact ⟨b, hb, by rw [pk_un (by omega)]; exact e⟩
theorem nI_z (k : Nat) : (0 : Int32) + nI k = nI k := by rw [show (0 : Int32) = nI 0 from rfl, nI_add, Nat.zero_add]
