theorem dJ7_fill_53178_0 : decode cJ7_fill_53178 0 = .ok (.iconst 0, 1) := by decide +kernel
theorem dJ7_fill_53178_1 : decode cJ7_fill_53178 1 = .ok (.istore_n 2, 1) := by decide +kernel
theorem dJ7_fill_53178_2 : decode cJ7_fill_53178 2 = .ok (.aload_n 0, 1) := by decide +kernel
theorem dJ7_fill_53178_3 : decode cJ7_fill_53178 3 = .ok (.arraylength, 1) := by decide +kernel
theorem dJ7_fill_53178_4 : decode cJ7_fill_53178 4 = .ok (.istore_n 3, 1) := by decide +kernel
theorem dJ7_fill_53178_5 : decode cJ7_fill_53178 5 = .ok (.iload_n 2, 1) := by decide +kernel
theorem dJ7_fill_53178_6 : decode cJ7_fill_53178 6 = .ok (.iload_n 3, 1) := by decide +kernel
theorem dJ7_fill_53178_7 : decode cJ7_fill_53178 7 = .ok (.if_icmp .ge 13, 3) := by decide +kernel
theorem dJ7_fill_53178_10 : decode cJ7_fill_53178 10 = .ok (.aload_n 0, 1) := by decide +kernel
theorem dJ7_fill_53178_11 : decode cJ7_fill_53178 11 = .ok (.iload_n 2, 1) := by decide +kernel
theorem dJ7_fill_53178_12 : decode cJ7_fill_53178 12 = .ok (.iload_n 1, 1) := by decide +kernel
theorem dJ7_fill_53178_13 : decode cJ7_fill_53178 13 = .ok (.iastore, 1) := by decide +kernel
theorem dJ7_fill_53178_14 : decode cJ7_fill_53178 14 = .ok (.iinc 2 1, 3) := by decide +kernel
theorem dJ7_fill_53178_17 : decode cJ7_fill_53178 17 = .ok (.goto (-12), 3) := by decide +kernel
theorem dJ7_fill_53178_20 : decode cJ7_fill_53178 20 = .ok (.return_, 1) := by decide +kernel
def pw_c_J7_fill_53178 : List Cond := .code yJ7_fill_53178 cJ7_fill_53178 4 none :: ([] ++ [])
set_option maxHeartbeats 4000000 in
set_option maxRecDepth 100000 in
theorem c_J7_fill_53178 (l : Launch) (dC : Nat → ClassId) (dI : Nat → Nat → Nat) (sz : Nat) (q0 : Nat) (cI : ClassId) (n : Nat) (f : Nat → Int32) (p0 : Int32) (hn : n < 2 ^ 31) : Met l yJ7_fill_53178 pw_c_J7_fill_53178 ({ frames := 0, cells := 0, slots := 0, locals := 0 }) (va_Pc [.ref q0, .int p0] (fun U => U.heap.size = sz ∧ va_P (dC, dI) vwCl [(q0, .inl (cI, n, .inl f))] U.heap ∧ va_K (dC, dI) vwCl [(cI, .int)] U ∧ va_D (fun _ => True) [(q0, .inl (cI, n, .inl f))])) (va_Qv (fun (u : (Nat → Int32)) => ∀ j, j < n → u j = p0) (fun (u : (Nat → Int32)) (t : State) => va_P (dC, dI) vwCl [(q0, .inl (cI, n, .inl u))] t.heap ∧ va_K (dC, dI) vwCl [(cI, .int)] t ∧ va_D (va_A [(q0, .inl (cI, n, .inl f))] sz) [(q0, .inl (cI, n, .inl u))]) (va_A [(q0, .inl (cI, n, .inl f))] sz)) 0 0 (va_A [(q0, .inl (cI, n, .inl f))] sz) := by
  refine Met.ofW (cc := cJ7_fill_53178) (maxL := 4) (ret := none) (by decide) rfl ?_
  intro p e s m args below meth c s₁ B hml hv
  obtain ⟨rfl, hsz, hP, hK, hD0⟩ := hv
  have hx := B.exec
  have hb := B.bytes
  have hr := B.returns
  have hts := atoms_spec (ws := pw_c_J7_fill_53178) B.pre
  have hown : s.vm.findClass RJ7 = some m.cls := findClass_of_methodNamed B.named
  have hlocks := B.notSynchronized
  subst hsz
  have hD := hD0.self (sz := s.heap.size)
  generalize hAe : va_A [(q0, .inl (cI, n, .inl f))] s.heap.size = A at hD ⊢
  have hA : ∀ q : Nat, s.heap.size ≤ q → A q := fun q h => by rw [← hAe]; exact Or.inr h
  have hS : va_S A s.heap s.heap [] := va_S.rf
  have hP : va_P (dC, dI) vwCl [(q0, .inl (cI, n, .inl f))] s.heap := hP
  have hl := lv_entry ([.ref q0, .int p0]) (n := 4) (Nat.le_of_ble_eq_true rfl)
  rw [lg_entry_eq]
  generalize (lg_sl ([.ref q0, .int p0]) ++ List.replicate (4 - (lg_sl ([.ref q0, .int p0])).length) Slot.unset).toArray = ls at hl ⊢
  have hl : lv_has ls 4 [(0, .ref q0), (1, .int p0)] := hl
  refine lv_iconst (v := 0) hx hb dJ7_fill_53178_0 (by decide) ?_
  refine lv_istore_n (lv' := [(2, .int 0), (0, .ref q0), (1, .int p0)]) hx hb dJ7_fill_53178_1 rfl hl (by decide) rfl (fun ls hl => ?_)
  refine lv_aload_n hx hb dJ7_fill_53178_2 rfl (lv_at hl 1 rfl) ?_
  refine va_alen (v := nI n) hx hb hK hP 0 0 rfl rfl rfl dJ7_fill_53178_3 ?_
  refine lv_istore_n (lv' := [(3, .int (nI n)), (2, .int 0), (0, .ref q0), (1, .int p0)]) hx hb dJ7_fill_53178_4 rfl hl (by decide) rfl (fun ls hl => ?_)
  obtain ⟨H, hHe⟩ : ∃ z : Heap, z = s.heap := ⟨_, rfl⟩
  have hS : va_S A s.heap H [] := by rw [hHe]; exact hS
  have hP : va_P (dC, dI) vwCl [(q0, .inl (cI, n, .inl f))] H := by rw [hHe]; exact hP
  rw [← hHe]
  clear hHe
  generalize ([] : List Loc) = locs at hS ⊢
  obtain ⟨f_1, hq_f_1⟩ : ∃ z, z = f := ⟨_, rfl⟩
  obtain ⟨i, hq_i⟩ : ∃ z : Nat, z = 0 := ⟨_, rfl⟩
  have hP : va_P (dC, dI) vwCl [(q0, .inl (cI, n, .inl f_1))] H := by (try rw [hq_f_1]); (try rw [hq_i]); exact hP
  have hD : va_D A [(q0, .inl (cI, n, .inl f_1))] := by (try rw [hq_f_1]); (try rw [hq_i]); exact hD
  have hl : lv_has ls 4 [(3, .int (nI n)), (2, .int (nI i)), (0, .ref q0), (1, .int p0)] := by (try rw [hq_f_1]); (try rw [hq_i]); exact hl
  have hi : i ≤ n := by (try rw [hq_f_1]); omega
  have hd : ∀ j, j < i → f_1 j = p0 := by (try rw [hq_f_1]); exact fun j hj => absurd hj (by omega)
  obtain ⟨fu_2, hfu_2⟩ : ∃ z : Nat, n - i < z := ⟨_, Nat.lt_succ_self _⟩
  clear hq_i
  clear hq_f_1
  revert hl
  revert hS
  revert hD
  revert hP
  revert hd
  revert hi
  revert hfu_2
  generalize ls = ls_, locs = locs_, H = H_
  revert ls_
  revert locs_
  revert H_
  revert f_1
  revert i
  induction fu_2 with
  | zero => intros; exact absurd (by assumption) (Nat.not_lt_zero _)
  | succ fu_2 ih_3 =>
    intro i f_1 H locs ls hfu_2 hi hd hP hD hS hl
    refine lv_iload_n hx hb dJ7_fill_53178_5 rfl (lv_at hl 1 rfl) ?_
    refine lv_iload_n hx hb dJ7_fill_53178_6 rfl (lv_at hl 0 rfl) ?_
    refine lv_icmp_ge (tgt := 20) hx hb dJ7_fill_53178_7 (by decide) (fun c_4 => ?_) (fun c_4 => ?_)
    ·
      have hin9 : n ≤ i := by rcases Nat.lt_or_ge i n with q | q; exact absurd c_4 (nI_ge q (by omega)); exact q
      have hP9 := hP.sub (ws' := [(q0, .inl (cI, n, .inl f_1))]) [0] rfl
      have hD9 := hD.sub (ws' := [(q0, .inl (cI, n, .inl f_1))]) [0] (by decide) rfl
      have hK9 := hK.sub (tys' := [(cI, .int)]) [0] rfl
      exact W.vret hx hb hr (fun t ht hW => ⟨⟨(f_1), rfl, fun j hj => hd j (by omega), by rw [ht]; exact hP9, va_K.moved hW.alike hK9, hD9⟩, hS.F ht⟩) hS.2.2 dJ7_fill_53178_20
    ·
      have hlt : i < n := by rcases Nat.lt_or_ge i n with q | q; exact q; exact absurd (nI_le q (by omega)) c_4
      refine lv_aload_n hx hb dJ7_fill_53178_10 rfl (lv_at hl 2 rfl) ?_
      refine lv_iload_n hx hb dJ7_fill_53178_11 rfl (lv_at hl 1 rfl) ?_
      refine lv_iload_n hx hb dJ7_fill_53178_12 rfl (lv_at hl 3 rfl) ?_
      refine va_iast hx hb hK hP hD hS 0 0 rfl rfl (vp_in_nI hlt hn) dJ7_fill_53178_13 (fun H locs hP hD hS => ?_)
      have hP : va_P (dC, dI) vwCl [(q0, .inl (cI, n, .inl (upd f_1 (nI i : Int32).toNatClampNeg p0)))] H := hP
      have hD : va_D A [(q0, .inl (cI, n, .inl (upd f_1 (nI i : Int32).toNatClampNeg p0)))] := hD
      refine lv_iinc (v := (nI (i + 1))) (lv' := [(2, .int (nI (i + 1))), (3, .int (nI n)), (0, .ref q0), (1, .int p0)]) hx hb dJ7_fill_53178_14 hl (k := 1) rfl (by first | exact nI_1 _ | exact nI_add _ _) (by decide) rfl (fun ls hl => ?_)
      refine lv_goto (tgt := 5) hx hb dJ7_fill_53178_17 (by decide) ?_
      refine ih_3 (i + 1) (upd f_1 (nI i : Int32).toNatClampNeg p0) _ _ ls ?_ (by omega) (fun j hj => by rw [nI_clamp (by omega)]; rcases (show j = i ∨ j < i by omega) with rfl | q; exact pk_us; rw [pk_un (by omega)]; exact hd j q) (hP.sub (ws' := [(q0, .inl (cI, n, .inl (upd f_1 (nI i : Int32).toNatClampNeg p0)))]) [0] rfl) (hD.sub (ws' := [(q0, .inl (cI, n, .inl (upd f_1 (nI i : Int32).toNatClampNeg p0)))]) [0] (by decide) rfl) hS (lv_sub hl [1, 0, 2, 3] rfl)
      omega
