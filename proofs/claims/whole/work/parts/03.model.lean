theorem dX14_put_0 : decode cX14_put 0 = .ok (.bipush 24, 2) := by decide +kernel
theorem dX14_put_2 : decode cX14_put 2 = .ok (.istore_n 2, 1) := by decide +kernel
theorem dX14_put_3 : decode cX14_put 3 = .ok (.iload_n 2, 1) := by decide +kernel
theorem dX14_put_4 : decode cX14_put 4 = .ok (.ifCond .lt 35, 3) := by decide +kernel
theorem dX14_put_7 : decode cX14_put 7 = .ok (.aload_n 0, 1) := by decide +kernel
theorem dX14_put_8 : decode cX14_put 8 = .ok (.getfield 16, 3) := by decide +kernel
theorem dX14_put_11 : decode cX14_put 11 = .ok (.aload_n 0, 1) := by decide +kernel
theorem dX14_put_12 : decode cX14_put 12 = .ok (.getfield 333, 3) := by decide +kernel
theorem dX14_put_15 : decode cX14_put 15 = .ok (.iload_n 1, 1) := by decide +kernel
theorem dX14_put_16 : decode cX14_put 16 = .ok (.iload_n 2, 1) := by decide +kernel
theorem dX14_put_17 : decode cX14_put 17 = .ok (.ishr, 1) := by decide +kernel
theorem dX14_put_18 : decode cX14_put 18 = .ok (.sipush 255, 3) := by decide +kernel
theorem dX14_put_21 : decode cX14_put 21 = .ok (.iand, 1) := by decide +kernel
theorem dX14_put_22 : decode cX14_put 22 = .ok (.iastore, 1) := by decide +kernel
theorem dX14_put_23 : decode cX14_put 23 = .ok (.aload_n 0, 1) := by decide +kernel
theorem dX14_put_24 : decode cX14_put 24 = .ok (.dup, 1) := by decide +kernel
theorem dX14_put_25 : decode cX14_put 25 = .ok (.getfield 333, 3) := by decide +kernel
theorem dX14_put_28 : decode cX14_put 28 = .ok (.iconst 1, 1) := by decide +kernel
theorem dX14_put_29 : decode cX14_put 29 = .ok (.iadd, 1) := by decide +kernel
theorem dX14_put_30 : decode cX14_put 30 = .ok (.putfield 333, 3) := by decide +kernel
theorem dX14_put_33 : decode cX14_put 33 = .ok (.iinc 2 (-8), 3) := by decide +kernel
theorem dX14_put_36 : decode cX14_put 36 = .ok (.goto (-33), 3) := by decide +kernel
theorem dX14_put_39 : decode cX14_put 39 = .ok (.return_, 1) := by decide +kernel
def pw_c_X14_put : List Cond := .code yX14_put cX14_put 3 none :: ([.fieldLink RX14 16 "NeedHouseModel" "tape" "[I", .fieldLink RX14 333 "NeedHouseModel" "taped" "I"] ++ (wsX140 ++ []))
set_option maxHeartbeats 4000000 in
set_option maxRecDepth 100000 in
theorem c_X14_put (l : Launch) (dC : Nat → ClassId) (dI : Nat → Nat → Nat) (sz : Nat) (h0 : Nat) (qt : Nat) (cI : ClassId) (fs : List Value) (f : Nat → Int32) (n : Nat) (p0 : Int32) (hF : hasF fs 136 [(2, .ref qt), (3, .int (nI n))]) (hn : n + 4 ≤ 4000) : Met l yX14_put pw_c_X14_put ({ frames := 0, cells := 0, slots := 0, locals := 0 }) (va_Pc [.ref h0, .int p0] (fun U => U.heap.size = sz ∧ va_P (dC, dI) vwCl [(h0, .inr (14, fs)), (qt, .inl (cI, 4000, .inl f))] U.heap ∧ va_K (dC, dI) vwCl [(cI, .int)] U ∧ va_D (fun _ => True) [(h0, .inr (14, fs)), (qt, .inl (cI, 4000, .inl f))])) (va_Qv (fun (u : (List Value) × (Nat → Int32)) => hasF u.1 136 [(3, .int (nI (n + 4)))] ∧ sameF fs u.1 [3]) (fun (u : (List Value) × (Nat → Int32)) (t : State) => va_P (dC, dI) vwCl [(h0, .inr (14, u.1)), (qt, .inl (cI, 4000, .inl u.2))] t.heap ∧ va_K (dC, dI) vwCl [(cI, .int)] t ∧ va_D (va_A [(h0, .inr (14, fs)), (qt, .inl (cI, 4000, .inl f))] sz) [(h0, .inr (14, u.1)), (qt, .inl (cI, 4000, .inl u.2))]) (va_A [(h0, .inr (14, fs)), (qt, .inl (cI, 4000, .inl f))] sz)) 0 0 (va_A [(h0, .inr (14, fs)), (qt, .inl (cI, 4000, .inl f))] sz) := by
  refine Met.ofW (cc := cX14_put) (maxL := 3) (ret := none) (by decide) rfl ?_
  intro p e s m args below meth c s₁ B hml hv
  obtain ⟨rfl, hsz, hP, hK, hD0⟩ := hv
  have hx := B.exec
  have hb := B.bytes
  have hr := B.returns
  have hts := atoms_spec (ws := pw_c_X14_put) B.pre
  have hown : s.vm.findClass RX14 = some m.cls := findClass_of_methodNamed B.named
  have hlocks := B.notSynchronized
  have hin_X14 : ∀ w ∈ u_ws RX14 TX14 136, w ∈ pw_c_X14_put := fun w h => List.mem_cons_of_mem _ (List.mem_append_right _ (List.mem_append_left _ h))
  subst hsz
  have hD := hD0.self (sz := s.heap.size)
  generalize hAe : va_A [(h0, .inr (14, fs)), (qt, .inl (cI, 4000, .inl f))] s.heap.size = A at hD ⊢
  have hA : ∀ q : Nat, s.heap.size ≤ q → A q := fun q h => by rw [← hAe]; exact Or.inr h
  have hS : va_S A s.heap s.heap [] := va_S.rf
  have hP : va_P (dC, dI) vwCl [(h0, .inr (14, fs)), (qt, .inl (cI, 4000, .inl f))] s.heap := hP
  have hl := lv_entry ([.ref h0, .int p0]) (n := 3) (Nat.le_of_ble_eq_true rfl)
  rw [lg_entry_eq]
  generalize (lg_sl ([.ref h0, .int p0]) ++ List.replicate (3 - (lg_sl ([.ref h0, .int p0])).length) Slot.unset).toArray = ls at hl ⊢
  have hl : lv_has ls 3 [(0, .ref h0), (1, .int p0)] := hl
  refine lv_bipush (v := 24) hx hb dX14_put_0 (by decide) ?_
  refine lv_istore_n (lv' := [(2, .int 24), (0, .ref h0), (1, .int p0)]) hx hb dX14_put_2 rfl hl (by decide) rfl (fun ls hl => ?_)
  refine lv_iload_n hx hb dX14_put_3 rfl (lv_at hl 0 rfl) ?_
  refine lv_if_lt (tgt := 39) hx hb dX14_put_4 (by decide) (fun c_1 => absurd c_1 (by decide)) (fun _ => ?_)
  refine lv_aload_n hx hb dX14_put_7 rfl (lv_at hl 1 rfl) ?_
  refine va_get (D := (dC, dI)) (ci := 14) (v := .ref qt) (C := RX14) (T := TX14) (N := 136) hx hb hts hin_X14 hown hK hP 0 rfl rfl 2 (by decide) (hts (.fieldLink RX14 16 "NeedHouseModel" "tape" "[I") (List.mem_of_getElem? (i := 1) rfl)) (fun _ h9 => h9) (hF.at 0 rfl) dX14_put_8 ?_
  refine lv_aload_n hx hb dX14_put_11 rfl (lv_at hl 1 rfl) ?_
  refine va_get (D := (dC, dI)) (ci := 14) (v := .int (nI n)) (C := RX14) (T := TX14) (N := 136) hx hb hts hin_X14 hown hK hP 0 rfl rfl 3 (by decide) (hts (.fieldLink RX14 333 "NeedHouseModel" "taped" "I") (List.mem_of_getElem? (i := 2) rfl)) (fun _ h9 => h9) (hF.at 1 rfl) dX14_put_12 ?_
  refine lv_iload_n hx hb dX14_put_15 rfl (lv_at hl 2 rfl) ?_
  refine lv_iload_n hx hb dX14_put_16 rfl (lv_at hl 0 rfl) ?_
  refine lv_ishr hx hb dX14_put_17 ?_
  refine lv_topi (fun x_2 ex_2 => ?_)
  refine lv_sipush (v := 255) hx hb dX14_put_18 (by decide) ?_
  refine lv_iand hx hb dX14_put_21 ?_
  refine lv_topi (fun x_3 ex_3 => ?_)
  refine va_iast hx hb hK hP hD hS 1 0 rfl rfl (vp_in_nI (by omega) (by decide)) dX14_put_22 (fun H locs hP hD hS => ?_)
  have hP : va_P (dC, dI) vwCl [(h0, .inr (14, fs)), (qt, .inl (cI, 4000, .inl (upd f (nI n).toNatClampNeg x_3)))] H := hP
  have hD : va_D A [(h0, .inr (14, fs)), (qt, .inl (cI, 4000, .inl (upd f (nI n).toNatClampNeg x_3)))] := hD
  generalize upd f (nI n).toNatClampNeg x_3 = f_4 at hP hD
  have hP : va_P (dC, dI) vwCl [(h0, .inr (14, fs)), (qt, .inl (cI, 4000, .inl f_4))] H := hP
  have hD : va_D A [(h0, .inr (14, fs)), (qt, .inl (cI, 4000, .inl f_4))] := hD
  refine lv_aload_n hx hb dX14_put_23 rfl (lv_at hl 1 rfl) ?_
  refine lv_dup hx hb dX14_put_24 rfl ?_
  refine va_get (D := (dC, dI)) (ci := 14) (v := .int (nI n)) (C := RX14) (T := TX14) (N := 136) hx hb hts hin_X14 hown hK hP 0 rfl rfl 3 (by decide) (hts (.fieldLink RX14 333 "NeedHouseModel" "taped" "I") (List.mem_of_getElem? (i := 2) rfl)) (fun _ h9 => h9) (hF.at 1 rfl) dX14_put_25 ?_
  refine lv_iconst (v := 1) hx hb dX14_put_28 (by decide) ?_
  refine lv_iadd hx hb dX14_put_29 ?_
  refine lv_topi (fun x_5 ex_5 => ?_)
  obtain rfl : x_5 = (nI (n + 1)) := ex_5.trans (by first | exact nI_1 _ | exact nI_add _ _)
  refine va_put (D := (dC, dI)) (ci := 14) (v := .int (nI (n + 1))) (ty := .int) (C := RX14) (T := TX14) (N := 136) hx hb hts hin_X14 tyX14 tyX14_ok nmX14 hown hK hP hD hS 0 rfl rfl 3 (by decide) (hts (.fieldLink RX14 333 "NeedHouseModel" "taped" "I") (List.mem_of_getElem? (i := 2) rfl)) (fun _ h9 => h9) rfl (by decide +kernel) rfl rfl (by rw [hF.1]; decide) dX14_put_30 (fun H locs hP hD hS => ?_)
  have hP : va_P (dC, dI) vwCl [(h0, .inr (14, (fs.set 3 (.int (nI (n + 1)))))), (qt, .inl (cI, 4000, .inl f_4))] H := hP
  have hD : va_D A [(h0, .inr (14, (fs.set 3 (.int (nI (n + 1)))))), (qt, .inl (cI, 4000, .inl f_4))] := hD
  have hF_6 := hF.set 3 (.int (nI (n + 1))) (l' := [(3, .int (nI (n + 1))), (2, .ref qt)]) (by decide) rfl
  have hE_7 := (sameF.rf (f := fs)).set 3 (.int (nI (n + 1)))
  generalize fs.set 3 (.int (nI (n + 1))) = fs_8 at hP hD hF_6 hE_7
  have hP : va_P (dC, dI) vwCl [(h0, .inr (14, fs_8)), (qt, .inl (cI, 4000, .inl f_4))] H := hP
  have hD : va_D A [(h0, .inr (14, fs_8)), (qt, .inl (cI, 4000, .inl f_4))] := hD
  refine lv_iinc (v := 16) (lv' := [(2, .int 16), (0, .ref h0), (1, .int p0)]) hx hb dX14_put_33 hl (k := 0) rfl (by decide +kernel) (by decide) rfl (fun ls hl => ?_)
  refine lv_goto (tgt := 3) hx hb dX14_put_36 (by decide) ?_
  refine lv_iload_n hx hb dX14_put_3 rfl (lv_at hl 0 rfl) ?_
  refine lv_if_lt (tgt := 39) hx hb dX14_put_4 (by decide) (fun c_9 => absurd c_9 (by decide)) (fun _ => ?_)
  refine lv_aload_n hx hb dX14_put_7 rfl (lv_at hl 1 rfl) ?_
  refine va_get (D := (dC, dI)) (ci := 14) (v := .ref qt) (C := RX14) (T := TX14) (N := 136) hx hb hts hin_X14 hown hK hP 0 rfl rfl 2 (by decide) (hts (.fieldLink RX14 16 "NeedHouseModel" "tape" "[I") (List.mem_of_getElem? (i := 1) rfl)) (fun _ h9 => h9) (hF_6.at 1 rfl) dX14_put_8 ?_
  refine lv_aload_n hx hb dX14_put_11 rfl (lv_at hl 1 rfl) ?_
  refine va_get (D := (dC, dI)) (ci := 14) (v := .int (nI (n + 1))) (C := RX14) (T := TX14) (N := 136) hx hb hts hin_X14 hown hK hP 0 rfl rfl 3 (by decide) (hts (.fieldLink RX14 333 "NeedHouseModel" "taped" "I") (List.mem_of_getElem? (i := 2) rfl)) (fun _ h9 => h9) (hF_6.at 0 rfl) dX14_put_12 ?_
  refine lv_iload_n hx hb dX14_put_15 rfl (lv_at hl 2 rfl) ?_
  refine lv_iload_n hx hb dX14_put_16 rfl (lv_at hl 0 rfl) ?_
  refine lv_ishr hx hb dX14_put_17 ?_
  refine lv_topi (fun x_10 ex_10 => ?_)
  refine lv_sipush (v := 255) hx hb dX14_put_18 (by decide) ?_
  refine lv_iand hx hb dX14_put_21 ?_
  refine lv_topi (fun x_11 ex_11 => ?_)
  refine va_iast hx hb hK hP hD hS 1 0 rfl rfl (vp_in_nI (by omega) (by decide)) dX14_put_22 (fun H locs hP hD hS => ?_)
  have hP : va_P (dC, dI) vwCl [(h0, .inr (14, fs_8)), (qt, .inl (cI, 4000, .inl (upd f_4 ((nI (n + 1))).toNatClampNeg x_11)))] H := hP
  have hD : va_D A [(h0, .inr (14, fs_8)), (qt, .inl (cI, 4000, .inl (upd f_4 ((nI (n + 1))).toNatClampNeg x_11)))] := hD
  generalize upd f_4 ((nI (n + 1))).toNatClampNeg x_11 = f_12 at hP hD
  have hP : va_P (dC, dI) vwCl [(h0, .inr (14, fs_8)), (qt, .inl (cI, 4000, .inl f_12))] H := hP
  have hD : va_D A [(h0, .inr (14, fs_8)), (qt, .inl (cI, 4000, .inl f_12))] := hD
  refine lv_aload_n hx hb dX14_put_23 rfl (lv_at hl 1 rfl) ?_
  refine lv_dup hx hb dX14_put_24 rfl ?_
  refine va_get (D := (dC, dI)) (ci := 14) (v := .int (nI (n + 1))) (C := RX14) (T := TX14) (N := 136) hx hb hts hin_X14 hown hK hP 0 rfl rfl 3 (by decide) (hts (.fieldLink RX14 333 "NeedHouseModel" "taped" "I") (List.mem_of_getElem? (i := 2) rfl)) (fun _ h9 => h9) (hF_6.at 0 rfl) dX14_put_25 ?_
  refine lv_iconst (v := 1) hx hb dX14_put_28 (by decide) ?_
  refine lv_iadd hx hb dX14_put_29 ?_
  refine lv_topi (fun x_13 ex_13 => ?_)
  obtain rfl : x_13 = (nI (n + 2)) := ex_13.trans (by first | exact nI_1 _ | exact nI_add _ _)
  refine va_put (D := (dC, dI)) (ci := 14) (v := .int (nI (n + 2))) (ty := .int) (C := RX14) (T := TX14) (N := 136) hx hb hts hin_X14 tyX14 tyX14_ok nmX14 hown hK hP hD hS 0 rfl rfl 3 (by decide) (hts (.fieldLink RX14 333 "NeedHouseModel" "taped" "I") (List.mem_of_getElem? (i := 2) rfl)) (fun _ h9 => h9) rfl (by decide +kernel) rfl rfl (by rw [hF_6.1]; decide) dX14_put_30 (fun H locs hP hD hS => ?_)
  have hP : va_P (dC, dI) vwCl [(h0, .inr (14, (fs_8.set 3 (.int (nI (n + 2)))))), (qt, .inl (cI, 4000, .inl f_12))] H := hP
  have hD : va_D A [(h0, .inr (14, (fs_8.set 3 (.int (nI (n + 2)))))), (qt, .inl (cI, 4000, .inl f_12))] := hD
  have hF_14 := hF_6.set 3 (.int (nI (n + 2))) (l' := [(3, .int (nI (n + 2))), (2, .ref qt)]) (by decide) rfl
  have hE_15 := hE_7.set 3 (.int (nI (n + 2)))
  generalize fs_8.set 3 (.int (nI (n + 2))) = fs_16 at hP hD hF_14 hE_15
  have hP : va_P (dC, dI) vwCl [(h0, .inr (14, fs_16)), (qt, .inl (cI, 4000, .inl f_12))] H := hP
  have hD : va_D A [(h0, .inr (14, fs_16)), (qt, .inl (cI, 4000, .inl f_12))] := hD
  refine lv_iinc (v := 8) (lv' := [(2, .int 8), (0, .ref h0), (1, .int p0)]) hx hb dX14_put_33 hl (k := 0) rfl (by decide +kernel) (by decide) rfl (fun ls hl => ?_)
  refine lv_goto (tgt := 3) hx hb dX14_put_36 (by decide) ?_
  refine lv_iload_n hx hb dX14_put_3 rfl (lv_at hl 0 rfl) ?_
  refine lv_if_lt (tgt := 39) hx hb dX14_put_4 (by decide) (fun c_17 => absurd c_17 (by decide)) (fun _ => ?_)
  refine lv_aload_n hx hb dX14_put_7 rfl (lv_at hl 1 rfl) ?_
  refine va_get (D := (dC, dI)) (ci := 14) (v := .ref qt) (C := RX14) (T := TX14) (N := 136) hx hb hts hin_X14 hown hK hP 0 rfl rfl 2 (by decide) (hts (.fieldLink RX14 16 "NeedHouseModel" "tape" "[I") (List.mem_of_getElem? (i := 1) rfl)) (fun _ h9 => h9) (hF_14.at 1 rfl) dX14_put_8 ?_
  refine lv_aload_n hx hb dX14_put_11 rfl (lv_at hl 1 rfl) ?_
  refine va_get (D := (dC, dI)) (ci := 14) (v := .int (nI (n + 2))) (C := RX14) (T := TX14) (N := 136) hx hb hts hin_X14 hown hK hP 0 rfl rfl 3 (by decide) (hts (.fieldLink RX14 333 "NeedHouseModel" "taped" "I") (List.mem_of_getElem? (i := 2) rfl)) (fun _ h9 => h9) (hF_14.at 0 rfl) dX14_put_12 ?_
  refine lv_iload_n hx hb dX14_put_15 rfl (lv_at hl 2 rfl) ?_
  refine lv_iload_n hx hb dX14_put_16 rfl (lv_at hl 0 rfl) ?_
  refine lv_ishr hx hb dX14_put_17 ?_
  refine lv_topi (fun x_18 ex_18 => ?_)
  refine lv_sipush (v := 255) hx hb dX14_put_18 (by decide) ?_
  refine lv_iand hx hb dX14_put_21 ?_
  refine lv_topi (fun x_19 ex_19 => ?_)
  refine va_iast hx hb hK hP hD hS 1 0 rfl rfl (vp_in_nI (by omega) (by decide)) dX14_put_22 (fun H locs hP hD hS => ?_)
  have hP : va_P (dC, dI) vwCl [(h0, .inr (14, fs_16)), (qt, .inl (cI, 4000, .inl (upd f_12 ((nI (n + 2))).toNatClampNeg x_19)))] H := hP
  have hD : va_D A [(h0, .inr (14, fs_16)), (qt, .inl (cI, 4000, .inl (upd f_12 ((nI (n + 2))).toNatClampNeg x_19)))] := hD
  generalize upd f_12 ((nI (n + 2))).toNatClampNeg x_19 = f_20 at hP hD
  have hP : va_P (dC, dI) vwCl [(h0, .inr (14, fs_16)), (qt, .inl (cI, 4000, .inl f_20))] H := hP
  have hD : va_D A [(h0, .inr (14, fs_16)), (qt, .inl (cI, 4000, .inl f_20))] := hD
  refine lv_aload_n hx hb dX14_put_23 rfl (lv_at hl 1 rfl) ?_
  refine lv_dup hx hb dX14_put_24 rfl ?_
  refine va_get (D := (dC, dI)) (ci := 14) (v := .int (nI (n + 2))) (C := RX14) (T := TX14) (N := 136) hx hb hts hin_X14 hown hK hP 0 rfl rfl 3 (by decide) (hts (.fieldLink RX14 333 "NeedHouseModel" "taped" "I") (List.mem_of_getElem? (i := 2) rfl)) (fun _ h9 => h9) (hF_14.at 0 rfl) dX14_put_25 ?_
  refine lv_iconst (v := 1) hx hb dX14_put_28 (by decide) ?_
  refine lv_iadd hx hb dX14_put_29 ?_
  refine lv_topi (fun x_21 ex_21 => ?_)
  obtain rfl : x_21 = (nI (n + 3)) := ex_21.trans (by first | exact nI_1 _ | exact nI_add _ _)
  refine va_put (D := (dC, dI)) (ci := 14) (v := .int (nI (n + 3))) (ty := .int) (C := RX14) (T := TX14) (N := 136) hx hb hts hin_X14 tyX14 tyX14_ok nmX14 hown hK hP hD hS 0 rfl rfl 3 (by decide) (hts (.fieldLink RX14 333 "NeedHouseModel" "taped" "I") (List.mem_of_getElem? (i := 2) rfl)) (fun _ h9 => h9) rfl (by decide +kernel) rfl rfl (by rw [hF_14.1]; decide) dX14_put_30 (fun H locs hP hD hS => ?_)
  have hP : va_P (dC, dI) vwCl [(h0, .inr (14, (fs_16.set 3 (.int (nI (n + 3)))))), (qt, .inl (cI, 4000, .inl f_20))] H := hP
  have hD : va_D A [(h0, .inr (14, (fs_16.set 3 (.int (nI (n + 3)))))), (qt, .inl (cI, 4000, .inl f_20))] := hD
  have hF_22 := hF_14.set 3 (.int (nI (n + 3))) (l' := [(3, .int (nI (n + 3))), (2, .ref qt)]) (by decide) rfl
  have hE_23 := hE_15.set 3 (.int (nI (n + 3)))
  generalize fs_16.set 3 (.int (nI (n + 3))) = fs_24 at hP hD hF_22 hE_23
  have hP : va_P (dC, dI) vwCl [(h0, .inr (14, fs_24)), (qt, .inl (cI, 4000, .inl f_20))] H := hP
  have hD : va_D A [(h0, .inr (14, fs_24)), (qt, .inl (cI, 4000, .inl f_20))] := hD
  refine lv_iinc (v := 0) (lv' := [(2, .int 0), (0, .ref h0), (1, .int p0)]) hx hb dX14_put_33 hl (k := 0) rfl (by decide +kernel) (by decide) rfl (fun ls hl => ?_)
  refine lv_goto (tgt := 3) hx hb dX14_put_36 (by decide) ?_
  refine lv_iload_n hx hb dX14_put_3 rfl (lv_at hl 0 rfl) ?_
  refine lv_if_lt (tgt := 39) hx hb dX14_put_4 (by decide) (fun c_25 => absurd c_25 (by decide)) (fun _ => ?_)
  refine lv_aload_n hx hb dX14_put_7 rfl (lv_at hl 1 rfl) ?_
  refine va_get (D := (dC, dI)) (ci := 14) (v := .ref qt) (C := RX14) (T := TX14) (N := 136) hx hb hts hin_X14 hown hK hP 0 rfl rfl 2 (by decide) (hts (.fieldLink RX14 16 "NeedHouseModel" "tape" "[I") (List.mem_of_getElem? (i := 1) rfl)) (fun _ h9 => h9) (hF_22.at 1 rfl) dX14_put_8 ?_
  refine lv_aload_n hx hb dX14_put_11 rfl (lv_at hl 1 rfl) ?_
  refine va_get (D := (dC, dI)) (ci := 14) (v := .int (nI (n + 3))) (C := RX14) (T := TX14) (N := 136) hx hb hts hin_X14 hown hK hP 0 rfl rfl 3 (by decide) (hts (.fieldLink RX14 333 "NeedHouseModel" "taped" "I") (List.mem_of_getElem? (i := 2) rfl)) (fun _ h9 => h9) (hF_22.at 0 rfl) dX14_put_12 ?_
  refine lv_iload_n hx hb dX14_put_15 rfl (lv_at hl 2 rfl) ?_
  refine lv_iload_n hx hb dX14_put_16 rfl (lv_at hl 0 rfl) ?_
  refine lv_ishr hx hb dX14_put_17 ?_
  refine lv_topi (fun x_26 ex_26 => ?_)
  refine lv_sipush (v := 255) hx hb dX14_put_18 (by decide) ?_
  refine lv_iand hx hb dX14_put_21 ?_
  refine lv_topi (fun x_27 ex_27 => ?_)
  refine va_iast hx hb hK hP hD hS 1 0 rfl rfl (vp_in_nI (by omega) (by decide)) dX14_put_22 (fun H locs hP hD hS => ?_)
  have hP : va_P (dC, dI) vwCl [(h0, .inr (14, fs_24)), (qt, .inl (cI, 4000, .inl (upd f_20 ((nI (n + 3))).toNatClampNeg x_27)))] H := hP
  have hD : va_D A [(h0, .inr (14, fs_24)), (qt, .inl (cI, 4000, .inl (upd f_20 ((nI (n + 3))).toNatClampNeg x_27)))] := hD
  generalize upd f_20 ((nI (n + 3))).toNatClampNeg x_27 = f_28 at hP hD
  have hP : va_P (dC, dI) vwCl [(h0, .inr (14, fs_24)), (qt, .inl (cI, 4000, .inl f_28))] H := hP
  have hD : va_D A [(h0, .inr (14, fs_24)), (qt, .inl (cI, 4000, .inl f_28))] := hD
  refine lv_aload_n hx hb dX14_put_23 rfl (lv_at hl 1 rfl) ?_
  refine lv_dup hx hb dX14_put_24 rfl ?_
  refine va_get (D := (dC, dI)) (ci := 14) (v := .int (nI (n + 3))) (C := RX14) (T := TX14) (N := 136) hx hb hts hin_X14 hown hK hP 0 rfl rfl 3 (by decide) (hts (.fieldLink RX14 333 "NeedHouseModel" "taped" "I") (List.mem_of_getElem? (i := 2) rfl)) (fun _ h9 => h9) (hF_22.at 0 rfl) dX14_put_25 ?_
  refine lv_iconst (v := 1) hx hb dX14_put_28 (by decide) ?_
  refine lv_iadd hx hb dX14_put_29 ?_
  refine lv_topi (fun x_29 ex_29 => ?_)
  obtain rfl : x_29 = (nI (n + 4)) := ex_29.trans (by first | exact nI_1 _ | exact nI_add _ _)
  refine va_put (D := (dC, dI)) (ci := 14) (v := .int (nI (n + 4))) (ty := .int) (C := RX14) (T := TX14) (N := 136) hx hb hts hin_X14 tyX14 tyX14_ok nmX14 hown hK hP hD hS 0 rfl rfl 3 (by decide) (hts (.fieldLink RX14 333 "NeedHouseModel" "taped" "I") (List.mem_of_getElem? (i := 2) rfl)) (fun _ h9 => h9) rfl (by decide +kernel) rfl rfl (by rw [hF_22.1]; decide) dX14_put_30 (fun H locs hP hD hS => ?_)
  have hP : va_P (dC, dI) vwCl [(h0, .inr (14, (fs_24.set 3 (.int (nI (n + 4)))))), (qt, .inl (cI, 4000, .inl f_28))] H := hP
  have hD : va_D A [(h0, .inr (14, (fs_24.set 3 (.int (nI (n + 4)))))), (qt, .inl (cI, 4000, .inl f_28))] := hD
  have hF_30 := hF_22.set 3 (.int (nI (n + 4))) (l' := [(3, .int (nI (n + 4))), (2, .ref qt)]) (by decide) rfl
  have hE_31 := hE_23.set 3 (.int (nI (n + 4)))
  generalize fs_24.set 3 (.int (nI (n + 4))) = fs_32 at hP hD hF_30 hE_31
  have hP : va_P (dC, dI) vwCl [(h0, .inr (14, fs_32)), (qt, .inl (cI, 4000, .inl f_28))] H := hP
  have hD : va_D A [(h0, .inr (14, fs_32)), (qt, .inl (cI, 4000, .inl f_28))] := hD
  refine lv_iinc (v := (-8)) (lv' := [(2, .int (-8)), (0, .ref h0), (1, .int p0)]) hx hb dX14_put_33 hl (k := 0) rfl (by decide +kernel) (by decide) rfl (fun ls hl => ?_)
  refine lv_goto (tgt := 3) hx hb dX14_put_36 (by decide) ?_
  refine lv_iload_n hx hb dX14_put_3 rfl (lv_at hl 0 rfl) ?_
  refine lv_if_lt (tgt := 39) hx hb dX14_put_4 (by decide) (fun _ => ?_) (fun c_33 => absurd (by decide) c_33)
  have hP9 := hP.sub (ws' := [(h0, .inr (14, fs_32)), (qt, .inl (cI, 4000, .inl f_28))]) [0, 1] rfl
  have hD9 := hD.sub (ws' := [(h0, .inr (14, fs_32)), (qt, .inl (cI, 4000, .inl f_28))]) [0, 1] (by decide) rfl
  have hK9 := hK.sub (tys' := [(cI, .int)]) [0] rfl
  exact W.vret hx hb hr (fun t ht hW => ⟨⟨((fs_32, f_28)), rfl, ⟨hF_30.sub [0] rfl, hE_31.mono (by decide)⟩, by rw [ht]; exact hP9, va_K.moved hW.alike hK9, hD9⟩, hS.F ht⟩) hS.2.2 dX14_put_39
