section CX2
variable {p : Program} {l : Launch} {e : Env} {R : Room} {s : State} {m : MethodId} {args : Array Value} {below : List Frame} {meth : Method} {c : Code} {H : Heap} {locs : List Loc} {cells slots : Nat} {Q : State → Prop}
/-- an object of a world: its cell -/
theorem ob_cell {D : va_G} {cl : List vw_C} {a q0 ci : Nat} {q : vw_C} {fs : List Value} {ws : va_W} {tys : List (ClassId × FieldType)} (hK : va_K D cl tys s) (hP : va_P D cl ws H) (hc : cl[ci]? = some q) (he : ws[q0]? = some (a, .inr (ci, fs))) : ∃ ce : Cell, H[a]? = some ce ∧ ce.vm = .none ∧ s.vm.findClass q.1 = some ce.cls := by
  obtain ⟨r, h1, cell, q1, q2, q3, q4⟩ := hP q0 _ he
  have hr : r = q := Option.some.inj (h1.symm.trans hc)
  subst hr
  exact ⟨cell, q1, q3, by rw [q2]; exact (hK.1 ci _ hc).2.1⟩
/-- thrown: one of the very class that the first row of the table names -/
theorem cx_catch1 {own E : String} {pc : Nat} {ls : Array Slot} {rest : List Value} {q : Addr} {ce : Cell} (hown : s.vm.findClass own = some m.cls) (x : ExceptionTableEntry) (suf : List ExceptionTableEntry) (htab : c.exceptionTable.toList = x :: suf)
    (hx : covers x pc = true) (h0 : x.catchType ≠ 0) (hlink : (Cond.classLink own x.catchType E).before args s = true) (hcell : H[q]? = some ce) (hv : ce.vm = .none) (hcl : s.vm.findClass E = some ce.cls)
    (kk : W p l e R s m args below meth c H locs cells slots Q (F0 m x.handlerPc ls [.ref q])) : vx_W p l e R s m args below meth c H locs cells slots Q (F0 m pc ls rest) q := by
  intro T hT X
  have hpl : e.platform.magicAccessors = ({} : Platform).magicAccessors := by rw [X.admits.platform]
  obtain ⟨k, hk, hL⟩ := Cond.classLink_spec hown hlink e.platform hpl
  cases Option.some.inj (hk.symm.trans hcl)
  obtain ⟨z9, hz9, -⟩ := Vm.findClass_spec hcl
  refine cx_go (h := x.handlerPc) (fun S h1 h2 => ?_) kk T hT X
  rw [htab]
  exact cx_hit (f := F0 m pc ls rest) hx h0 h2 hL (by rw [h1]; exact hcell) (fun z => by rw [hv]; exact fun h => by cases h) ⟨z9, hz9⟩ (by first | exact Vm.assignable_self _ _ | simp [Vm.assignable])
/-- thrown: one of another class than the first row names, of that of the second -/
theorem cx_catch2 {own E N1 : String} {pc : Nat} {ls : Array Slot} {rest : List Value} {q : Addr} {ce : Cell} (hown : s.vm.findClass own = some m.cls) (x0 x : ExceptionTableEntry) (suf : List ExceptionTableEntry) (htab : c.exceptionTable.toList = x0 :: x :: suf)
    (hx0 : covers x0 pc = true) (h00 : x0.catchType ≠ 0) (hlink0 : (Cond.classLink own x0.catchType N1).before args s = true) (hno : va_Nc E N1 s)
    (hx : covers x pc = true) (h0 : x.catchType ≠ 0) (hlink : (Cond.classLink own x.catchType E).before args s = true) (hcell : H[q]? = some ce) (hv : ce.vm = .none) (hcl : s.vm.findClass E = some ce.cls)
    (kk : W p l e R s m args below meth c H locs cells slots Q (F0 m x.handlerPc ls [.ref q])) : vx_W p l e R s m args below meth c H locs cells slots Q (F0 m pc ls rest) q := by
  intro T hT X
  have hpl : e.platform.magicAccessors = ({} : Platform).magicAccessors := by rw [X.admits.platform]
  obtain ⟨k0, hk0, hL0⟩ := Cond.classLink_spec hown hlink0 e.platform hpl
  obtain ⟨k, hk, hL⟩ := Cond.classLink_spec hown hlink e.platform hpl
  cases Option.some.inj (hk.symm.trans hcl)
  obtain ⟨z9, hz9, -⟩ := Vm.findClass_spec hcl
  obtain ⟨a8, b8, n1, n2, n3⟩ := hno
  cases Option.some.inj (n1.symm.trans hcl)
  cases Option.some.inj (n2.symm.trans hk0)
  refine cx_go (h := x.handlerPc) (fun S h1 h2 => ?_) kk T hT X
  rw [htab]
  refine cx_miss (f := F0 m pc ls rest) hx0 h00 h2 hL0 (by rw [h1]; exact hcell) (fun z => by rw [hv]; exact fun h => by cases h) ⟨z9, hz9⟩ n3 (fun S1 e1 w1 => ?_)
  exact cx_hit (f := F0 m pc ls rest) hx h0 w1 hL (by rw [e1, h1]; exact hcell) (fun z => by rw [hv]; exact fun h => by cases h) ⟨z9, hz9⟩ (by first | exact Vm.assignable_self _ _ | simp [Vm.assignable])
end CX2
