theorem dT0_init4_0 : decode cT0_init4 0 = .ok (.aload_n 0, 1) := by decide +kernel
theorem dT0_init4_1 : decode cT0_init4 1 = .ok (.invokespecial 1, 3) := by decide +kernel
theorem dT0_init4_4 : decode cT0_init4 4 = .ok (.aload_n 0, 1) := by decide +kernel
theorem dT0_init4_5 : decode cT0_init4 5 = .ok (.aload_n 0, 1) := by decide +kernel
theorem dT0_init4_6 : decode cT0_init4 6 = .ok (.putfield 7, 3) := by decide +kernel
theorem dT0_init4_9 : decode cT0_init4 9 = .ok (.aload_n 0, 1) := by decide +kernel
theorem dT0_init4_10 : decode cT0_init4 10 = .ok (.getstatic 13, 3) := by decide +kernel
theorem dT0_init4_13 : decode cT0_init4 13 = .ok (.putfield 17, 3) := by decide +kernel
theorem dT0_init4_16 : decode cT0_init4 16 = .ok (.aload_n 0, 1) := by decide +kernel
theorem dT0_init4_17 : decode cT0_init4 17 = .ok (.getstatic 20, 3) := by decide +kernel
theorem dT0_init4_20 : decode cT0_init4 20 = .ok (.putfield 24, 3) := by decide +kernel
theorem dT0_init4_23 : decode cT0_init4 23 = .ok (.iload 4, 2) := by decide +kernel
theorem dT0_init4_25 : decode cT0_init4 25 = .ok (.ifCond .eq 11, 3) := by decide +kernel
theorem dT0_init4_28 : decode cT0_init4 28 = .ok (.aload_n 0, 1) := by decide +kernel
theorem dT0_init4_29 : decode cT0_init4 29 = .ok (.invokevirtual 27, 3) := by decide +kernel
theorem dT0_init4_32 : decode cT0_init4 32 = .ok (.pop, 1) := by decide +kernel
theorem dT0_init4_33 : decode cT0_init4 33 = .ok (.goto 8, 3) := by decide +kernel
theorem dT0_init4_36 : decode cT0_init4 36 = .ok (.aload_n 0, 1) := by decide +kernel
theorem dT0_init4_37 : decode cT0_init4 37 = .ok (.aconst_null, 1) := by decide +kernel
theorem dT0_init4_38 : decode cT0_init4 38 = .ok (.putfield 17, 3) := by decide +kernel
theorem dT0_init4_41 : decode cT0_init4 41 = .ok (.aload_n 0, 1) := by decide +kernel
theorem dT0_init4_42 : decode cT0_init4 42 = .ok (.aload_n 1, 1) := by decide +kernel
theorem dT0_init4_43 : decode cT0_init4 43 = .ok (.putfield 31, 3) := by decide +kernel
theorem dT0_init4_46 : decode cT0_init4 46 = .ok (.aload_n 0, 1) := by decide +kernel
theorem dT0_init4_47 : decode cT0_init4 47 = .ok (.aload_n 2, 1) := by decide +kernel
theorem dT0_init4_48 : decode cT0_init4 48 = .ok (.putfield 7, 3) := by decide +kernel
theorem dT0_init4_51 : decode cT0_init4 51 = .ok (.iload_n 3, 1) := by decide +kernel
theorem dT0_init4_52 : decode cT0_init4 52 = .ok (.ifCond .ne 8, 3) := by decide +kernel
theorem dT0_init4_55 : decode cT0_init4 55 = .ok (.aload_n 0, 1) := by decide +kernel
theorem dT0_init4_56 : decode cT0_init4 56 = .ok (.aconst_null, 1) := by decide +kernel
theorem dT0_init4_57 : decode cT0_init4 57 = .ok (.putfield 24, 3) := by decide +kernel
theorem dT0_init4_60 : decode cT0_init4 60 = .ok (.return_, 1) := by decide +kernel
theorem dT1_init4_0 : decode cT1_init4 0 = .ok (.aload_n 0, 1) := by decide +kernel
theorem dT1_init4_1 : decode cT1_init4 1 = .ok (.aload_n 1, 1) := by decide +kernel
theorem dT1_init4_2 : decode cT1_init4 2 = .ok (.aload_n 2, 1) := by decide +kernel
theorem dT1_init4_3 : decode cT1_init4 3 = .ok (.iload_n 3, 1) := by decide +kernel
theorem dT1_init4_4 : decode cT1_init4 4 = .ok (.iload 4, 2) := by decide +kernel
theorem dT1_init4_6 : decode cT1_init4 6 = .ok (.invokespecial 16, 3) := by decide +kernel
theorem dT1_init4_9 : decode cT1_init4 9 = .ok (.return_, 1) := by decide +kernel
theorem dT2_init4_0 : decode cT2_init4 0 = .ok (.aload_n 0, 1) := by decide +kernel
theorem dT2_init4_1 : decode cT2_init4 1 = .ok (.aload_n 1, 1) := by decide +kernel
theorem dT2_init4_2 : decode cT2_init4 2 = .ok (.aload_n 2, 1) := by decide +kernel
theorem dT2_init4_3 : decode cT2_init4 3 = .ok (.iload_n 3, 1) := by decide +kernel
theorem dT2_init4_4 : decode cT2_init4 4 = .ok (.iload 4, 2) := by decide +kernel
theorem dT2_init4_6 : decode cT2_init4 6 = .ok (.invokespecial 16, 3) := by decide +kernel
theorem dT2_init4_9 : decode cT2_init4 9 = .ok (.return_, 1) := by decide +kernel
theorem dX13_init_0 : decode cX13_init 0 = .ok (.aload_n 0, 1) := by decide +kernel
theorem dX13_init_1 : decode cX13_init 1 = .ok (.ldc 1, 2) := by decide +kernel
theorem dX13_init_3 : decode cX13_init 3 = .ok (.aconst_null, 1) := by decide +kernel
theorem dX13_init_4 : decode cX13_init 4 = .ok (.iconst 0, 1) := by decide +kernel
theorem dX13_init_5 : decode cX13_init 5 = .ok (.iconst 0, 1) := by decide +kernel
theorem dX13_init_6 : decode cX13_init 6 = .ok (.invokespecial 3, 3) := by decide +kernel
theorem dX13_init_9 : decode cX13_init 9 = .ok (.return_, 1) := by decide +kernel
def pw_c_T0_init4 : List Cond := .code yT0_init4 cT0_init4 5 none :: ([.code objectInit ⟨#[0xb1]⟩ 1 none, .methodLink RT0 1 objectInit, .instanceMethod objectInit, .fieldLink RT0 7 "java/lang/Throwable" "cause" "Ljava/lang/Throwable;", .fieldLink RT0 13 "java/lang/Throwable" "UNASSIGNED_STACK" "[Ljava/lang/StackTraceElement;", .fieldLink RT0 17 "java/lang/Throwable" "stackTrace" "[Ljava/lang/StackTraceElement;", .fieldLink RT0 20 "java/lang/Throwable" "SUPPRESSED_SENTINEL" "Ljava/util/List;", .fieldLink RT0 24 "java/lang/Throwable" "suppressedExceptions" "Ljava/util/List;", .fieldLink RT0 31 "java/lang/Throwable" "detailMessage" "Ljava/lang/String;"] ++ (wsX130 ++ []))
set_option maxHeartbeats 4000000 in
set_option maxRecDepth 100000 in
theorem c_T0_init4 (l : Launch) (dC : Nat → ClassId) (dI : Nat → Nat → Nat) (sz : Nat) (h0 : Nat) (fs : List Value) (ps : Nat) (hF : hasF fs 6 []) : Met l yT0_init4 pw_c_T0_init4 ({ frames := 1, cells := 0, slots := 0, locals := 12 }) (va_Pc [.ref h0, .ref ps, .null, .int 0, .int 0] (fun U => U.heap.size = sz ∧ va_P (dC, dI) vwCl [(h0, .inr (13, fs))] U.heap ∧ va_K (dC, dI) vwCl [] U ∧ va_D (fun _ => True) [(h0, .inr (13, fs))] ∧ va_Zq "java/lang/Throwable" "UNASSIGNED_STACK" "[Ljava/lang/StackTraceElement;" (va_A [(h0, .inr (13, fs))] sz) U U.heap ∧ va_Zq "java/lang/Throwable" "SUPPRESSED_SENTINEL" "Ljava/util/List;" (va_A [(h0, .inr (13, fs))] sz) U U.heap)) (va_Qv (fun (u : (List Value)) => hasF u 6 []) (fun (u : (List Value)) (t : State) => va_P (dC, dI) vwCl [(h0, .inr (13, u))] t.heap ∧ va_K (dC, dI) vwCl [] t ∧ va_D (va_A [(h0, .inr (13, fs))] sz) [(h0, .inr (13, u))]) (va_A [(h0, .inr (13, fs))] sz)) 0 0 (va_A [(h0, .inr (13, fs))] sz) := by
  refine Met.ofW (cc := cT0_init4) (maxL := 5) (ret := none) (by decide) rfl ?_
  intro p e s m args below meth c s₁ B hml hv
  obtain ⟨rfl, hsz, hP, hK, hD0, hZU, hZN⟩ := hv
  have hx := B.exec
  have hb := B.bytes
  have hr := B.returns
  have hts := atoms_spec (ws := pw_c_T0_init4) B.pre
  have hown : s.vm.findClass RT0 = some m.cls := findClass_of_methodNamed B.named
  have hlocks := B.notSynchronized
  have hin : meth.name = "<init>" := (name_of_methodNamed B.named B.method).1
  have hin_X13 : ∀ w ∈ u_ws RX13 TX13 6, w ∈ pw_c_T0_init4 := fun w h => List.mem_cons_of_mem _ (List.mem_append_right _ (List.mem_append_left _ h))
  subst hsz
  have hD := hD0.self (sz := s.heap.size)
  generalize hAe : va_A [(h0, .inr (13, fs))] s.heap.size = A at hD hZU hZN ⊢
  have hA : ∀ q : Nat, s.heap.size ≤ q → A q := fun q h => by rw [← hAe]; exact Or.inr h
  have hS : va_S A s.heap s.heap [] := va_S.rf
  have hP : va_P (dC, dI) vwCl [(h0, .inr (13, fs))] s.heap := hP
  have hl := lv_entry ([.ref h0, .ref ps, .null, .int 0, .int 0]) (n := 5) (Nat.le_of_ble_eq_true rfl)
  rw [lg_entry_eq]
  generalize (lg_sl ([.ref h0, .ref ps, .null, .int 0, .int 0]) ++ List.replicate (5 - (lg_sl ([.ref h0, .ref ps, .null, .int 0, .int 0])).length) Slot.unset).toArray = ls at hl ⊢
  have hl : lv_has ls 5 [(0, .ref h0), (1, .ref ps), (2, .null), (3, .int 0), (4, .int 0)] := hl
  refine lv_aload_n hx hb dT0_init4_0 rfl (lv_at hl 0 rfl) ?_
  refine W.objInit hx hb hown (hts (.methodLink RT0 1 objectInit) (List.mem_of_getElem? (i := 2) rfl)) (hts (.instanceMethod objectInit) (List.mem_of_getElem? (i := 3) rfl)) (hts _ (List.mem_of_getElem? (i := 1) rfl)) rfl (by rw [hml]; exact hl.1) rfl dT0_init4_1 (Nat.le_of_ble_eq_true rfl) (Nat.le_of_ble_eq_true rfl) ?_
  refine W.eq (g2 := F0 m 4 ls []) rfl ?_
  refine lv_aload_n hx hb dT0_init4_4 rfl (lv_at hl 0 rfl) ?_
  refine lv_aload_n hx hb dT0_init4_5 rfl (lv_at hl 0 rfl) ?_
  refine va_put (D := (dC, dI)) (ci := 13) (v := .ref h0) (ty := (.object "java/lang/Throwable")) (C := RX13) (T := TX13) (N := 6) hx hb hts hin_X13 tyX13 tyX13_ok nmX13 hown hK hP hD hS 0 rfl rfl 0 (by decide) (hts (.fieldLink RT0 7 "java/lang/Throwable" "cause" "Ljava/lang/Throwable;") (List.mem_of_getElem? (i := 4) rfl)) (fun _ h9 => h9) rfl (by decide +kernel) rfl rfl (by rw [hF.1]; decide) dT0_init4_6 (fun H locs hP hD hS => ?_)
  have hP : va_P (dC, dI) vwCl [(h0, .inr (13, (fs.set 0 (.ref h0))))] H := hP
  have hD : va_D A [(h0, .inr (13, (fs.set 0 (.ref h0))))] := hD
  have hF_1 := hF.set 0 (.ref h0) (l' := [(0, .ref h0)]) (by decide) rfl
  generalize fs.set 0 (.ref h0) = fs_2 at hP hD hF_1
  have hP : va_P (dC, dI) vwCl [(h0, .inr (13, fs_2))] H := hP
  have hD : va_D A [(h0, .inr (13, fs_2))] := hD
  refine lv_aload_n hx hb dT0_init4_9 rfl (lv_at hl 0 rfl) ?_
  rcases hZU with hz_4 | ⟨t_3, hz_4⟩
  ·
    refine va_gets (v := .null) hx hb hz_4 hS hown (hts (.fieldLink RT0 13 "java/lang/Throwable" "UNASSIGNED_STACK" "[Ljava/lang/StackTraceElement;") (List.mem_of_getElem? (i := 5) rfl)) (fun _ h9 => h9) dT0_init4_10 ?_
    refine va_put (D := (dC, dI)) (ci := 13) (v := .null) (ty := (.array (.object "java/lang/StackTraceElement"))) (C := RX13) (T := TX13) (N := 6) hx hb hts hin_X13 tyX13 tyX13_ok nmX13 hown hK hP hD hS 0 rfl rfl 1 (by decide) (hts (.fieldLink RT0 17 "java/lang/Throwable" "stackTrace" "[Ljava/lang/StackTraceElement;") (List.mem_of_getElem? (i := 6) rfl)) (fun _ h9 => h9) rfl (by decide +kernel) rfl rfl (by rw [hF_1.1]; decide) dT0_init4_13 (fun H locs hP hD hS => ?_)
    have hP : va_P (dC, dI) vwCl [(h0, .inr (13, (fs_2.set 1 (.null))))] H := hP
    have hD : va_D A [(h0, .inr (13, (fs_2.set 1 (.null))))] := hD
    have hF_5 := hF_1.set 1 (.null) (l' := [(1, .null), (0, .ref h0)]) (by decide) rfl
    generalize fs_2.set 1 (.null) = fs_6 at hP hD hF_5
    have hP : va_P (dC, dI) vwCl [(h0, .inr (13, fs_6))] H := hP
    have hD : va_D A [(h0, .inr (13, fs_6))] := hD
    refine lv_aload_n hx hb dT0_init4_16 rfl (lv_at hl 0 rfl) ?_
    rcases hZN with hz_8 | ⟨t_7, hz_8⟩
    ·
      refine va_gets (v := .null) hx hb hz_8 hS hown (hts (.fieldLink RT0 20 "java/lang/Throwable" "SUPPRESSED_SENTINEL" "Ljava/util/List;") (List.mem_of_getElem? (i := 7) rfl)) (fun _ h9 => h9) dT0_init4_17 ?_
      refine va_put (D := (dC, dI)) (ci := 13) (v := .null) (ty := (.object "java/util/List")) (C := RX13) (T := TX13) (N := 6) hx hb hts hin_X13 tyX13 tyX13_ok nmX13 hown hK hP hD hS 0 rfl rfl 2 (by decide) (hts (.fieldLink RT0 24 "java/lang/Throwable" "suppressedExceptions" "Ljava/util/List;") (List.mem_of_getElem? (i := 8) rfl)) (fun _ h9 => h9) rfl (by decide +kernel) rfl rfl (by rw [hF_5.1]; decide) dT0_init4_20 (fun H locs hP hD hS => ?_)
      have hP : va_P (dC, dI) vwCl [(h0, .inr (13, (fs_6.set 2 (.null))))] H := hP
      have hD : va_D A [(h0, .inr (13, (fs_6.set 2 (.null))))] := hD
      have hF_9 := hF_5.set 2 (.null) (l' := [(2, .null), (1, .null), (0, .ref h0)]) (by decide) rfl
      generalize fs_6.set 2 (.null) = fs_10 at hP hD hF_9
      have hP : va_P (dC, dI) vwCl [(h0, .inr (13, fs_10))] H := hP
      have hD : va_D A [(h0, .inr (13, fs_10))] := hD
      refine lv_iload hx hb dT0_init4_23 (lv_at hl 4 rfl) ?_
      refine lv_if_eq (tgt := 36) hx hb dT0_init4_25 (by decide) (fun _ => ?_) (fun c_11 => absurd (by decide) c_11)
      refine lv_aload_n hx hb dT0_init4_36 rfl (lv_at hl 0 rfl) ?_
      refine lv_null hx hb dT0_init4_37 ?_
      refine va_put (D := (dC, dI)) (ci := 13) (v := .null) (ty := (.array (.object "java/lang/StackTraceElement"))) (C := RX13) (T := TX13) (N := 6) hx hb hts hin_X13 tyX13 tyX13_ok nmX13 hown hK hP hD hS 0 rfl rfl 1 (by decide) (hts (.fieldLink RT0 17 "java/lang/Throwable" "stackTrace" "[Ljava/lang/StackTraceElement;") (List.mem_of_getElem? (i := 6) rfl)) (fun _ h9 => h9) rfl (by decide +kernel) rfl rfl (by rw [hF_9.1]; decide) dT0_init4_38 (fun H locs hP hD hS => ?_)
      have hP : va_P (dC, dI) vwCl [(h0, .inr (13, (fs_10.set 1 (.null))))] H := hP
      have hD : va_D A [(h0, .inr (13, (fs_10.set 1 (.null))))] := hD
      have hF_12 := hF_9.set 1 (.null) (l' := [(1, .null), (2, .null), (0, .ref h0)]) (by decide) rfl
      generalize fs_10.set 1 (.null) = fs_13 at hP hD hF_12
      have hP : va_P (dC, dI) vwCl [(h0, .inr (13, fs_13))] H := hP
      have hD : va_D A [(h0, .inr (13, fs_13))] := hD
      refine lv_aload_n hx hb dT0_init4_41 rfl (lv_at hl 0 rfl) ?_
      refine lv_aload_n hx hb dT0_init4_42 rfl (lv_at hl 1 rfl) ?_
      refine va_put (D := (dC, dI)) (ci := 13) (v := .ref ps) (ty := (.object "java/lang/String")) (C := RX13) (T := TX13) (N := 6) hx hb hts hin_X13 tyX13 tyX13_ok nmX13 hown hK hP hD hS 0 rfl rfl 3 (by decide) (hts (.fieldLink RT0 31 "java/lang/Throwable" "detailMessage" "Ljava/lang/String;") (List.mem_of_getElem? (i := 9) rfl)) (fun _ h9 => h9) rfl (by decide +kernel) rfl rfl (by rw [hF_12.1]; decide) dT0_init4_43 (fun H locs hP hD hS => ?_)
      have hP : va_P (dC, dI) vwCl [(h0, .inr (13, (fs_13.set 3 (.ref ps))))] H := hP
      have hD : va_D A [(h0, .inr (13, (fs_13.set 3 (.ref ps))))] := hD
      have hF_14 := hF_12.set 3 (.ref ps) (l' := [(3, .ref ps), (1, .null), (2, .null), (0, .ref h0)]) (by decide) rfl
      generalize fs_13.set 3 (.ref ps) = fs_15 at hP hD hF_14
      have hP : va_P (dC, dI) vwCl [(h0, .inr (13, fs_15))] H := hP
      have hD : va_D A [(h0, .inr (13, fs_15))] := hD
      refine lv_aload_n hx hb dT0_init4_46 rfl (lv_at hl 0 rfl) ?_
      refine lv_aload_nN hx hb dT0_init4_47 rfl (lv_at hl 2 rfl) ?_
      refine va_put (D := (dC, dI)) (ci := 13) (v := .null) (ty := (.object "java/lang/Throwable")) (C := RX13) (T := TX13) (N := 6) hx hb hts hin_X13 tyX13 tyX13_ok nmX13 hown hK hP hD hS 0 rfl rfl 0 (by decide) (hts (.fieldLink RT0 7 "java/lang/Throwable" "cause" "Ljava/lang/Throwable;") (List.mem_of_getElem? (i := 4) rfl)) (fun _ h9 => h9) rfl (by decide +kernel) rfl rfl (by rw [hF_14.1]; decide) dT0_init4_48 (fun H locs hP hD hS => ?_)
      have hP : va_P (dC, dI) vwCl [(h0, .inr (13, (fs_15.set 0 (.null))))] H := hP
      have hD : va_D A [(h0, .inr (13, (fs_15.set 0 (.null))))] := hD
      have hF_16 := hF_14.set 0 (.null) (l' := [(0, .null), (3, .ref ps), (1, .null), (2, .null)]) (by decide) rfl
      generalize fs_15.set 0 (.null) = fs_17 at hP hD hF_16
      have hP : va_P (dC, dI) vwCl [(h0, .inr (13, fs_17))] H := hP
      have hD : va_D A [(h0, .inr (13, fs_17))] := hD
      refine lv_iload_n hx hb dT0_init4_51 rfl (lv_at hl 3 rfl) ?_
      refine lv_if_ne (tgt := 60) hx hb dT0_init4_52 (by decide) (fun c_18 => absurd c_18 (by decide)) (fun _ => ?_)
      refine lv_aload_n hx hb dT0_init4_55 rfl (lv_at hl 0 rfl) ?_
      refine lv_null hx hb dT0_init4_56 ?_
      refine va_put (D := (dC, dI)) (ci := 13) (v := .null) (ty := (.object "java/util/List")) (C := RX13) (T := TX13) (N := 6) hx hb hts hin_X13 tyX13 tyX13_ok nmX13 hown hK hP hD hS 0 rfl rfl 2 (by decide) (hts (.fieldLink RT0 24 "java/lang/Throwable" "suppressedExceptions" "Ljava/util/List;") (List.mem_of_getElem? (i := 8) rfl)) (fun _ h9 => h9) rfl (by decide +kernel) rfl rfl (by rw [hF_16.1]; decide) dT0_init4_57 (fun H locs hP hD hS => ?_)
      have hP : va_P (dC, dI) vwCl [(h0, .inr (13, (fs_17.set 2 (.null))))] H := hP
      have hD : va_D A [(h0, .inr (13, (fs_17.set 2 (.null))))] := hD
      have hF_19 := hF_16.set 2 (.null) (l' := [(2, .null), (0, .null), (3, .ref ps), (1, .null)]) (by decide) rfl
      generalize fs_17.set 2 (.null) = fs_20 at hP hD hF_19
      have hP : va_P (dC, dI) vwCl [(h0, .inr (13, fs_20))] H := hP
      have hD : va_D A [(h0, .inr (13, fs_20))] := hD
      have hP9 := hP.sub (ws' := [(h0, .inr (13, fs_20))]) [0] rfl
      have hD9 := hD.sub (ws' := [(h0, .inr (13, fs_20))]) [0] (by decide) rfl
      have hK9 := hK.sub (tys' := []) [] rfl
      exact W.vret hx hb hr (fun t ht hW => ⟨⟨(fs_20), rfl, hF_19.sub [] rfl, by rw [ht]; exact hP9, va_K.moved hW.alike hK9, hD9⟩, hS.F ht⟩) hS.2.2 dT0_init4_60
    ·
      refine va_gets (v := .ref t_7) hx hb hz_8 hS hown (hts (.fieldLink RT0 20 "java/lang/Throwable" "SUPPRESSED_SENTINEL" "Ljava/util/List;") (List.mem_of_getElem? (i := 7) rfl)) (fun _ h9 => h9) dT0_init4_17 ?_
      refine va_put (D := (dC, dI)) (ci := 13) (v := .ref t_7) (ty := (.object "java/util/List")) (C := RX13) (T := TX13) (N := 6) hx hb hts hin_X13 tyX13 tyX13_ok nmX13 hown hK hP hD hS 0 rfl rfl 2 (by decide) (hts (.fieldLink RT0 24 "java/lang/Throwable" "suppressedExceptions" "Ljava/util/List;") (List.mem_of_getElem? (i := 8) rfl)) (fun _ h9 => h9) rfl (by decide +kernel) rfl rfl (by rw [hF_5.1]; decide) dT0_init4_20 (fun H locs hP hD hS => ?_)
      have hP : va_P (dC, dI) vwCl [(h0, .inr (13, (fs_6.set 2 (.ref t_7))))] H := hP
      have hD : va_D A [(h0, .inr (13, (fs_6.set 2 (.ref t_7))))] := hD
      have hF_21 := hF_5.set 2 (.ref t_7) (l' := [(2, .ref t_7), (1, .null), (0, .ref h0)]) (by decide) rfl
      generalize fs_6.set 2 (.ref t_7) = fs_22 at hP hD hF_21
      have hP : va_P (dC, dI) vwCl [(h0, .inr (13, fs_22))] H := hP
      have hD : va_D A [(h0, .inr (13, fs_22))] := hD
      refine lv_iload hx hb dT0_init4_23 (lv_at hl 4 rfl) ?_
      refine lv_if_eq (tgt := 36) hx hb dT0_init4_25 (by decide) (fun _ => ?_) (fun c_23 => absurd (by decide) c_23)
      refine lv_aload_n hx hb dT0_init4_36 rfl (lv_at hl 0 rfl) ?_
      refine lv_null hx hb dT0_init4_37 ?_
      refine va_put (D := (dC, dI)) (ci := 13) (v := .null) (ty := (.array (.object "java/lang/StackTraceElement"))) (C := RX13) (T := TX13) (N := 6) hx hb hts hin_X13 tyX13 tyX13_ok nmX13 hown hK hP hD hS 0 rfl rfl 1 (by decide) (hts (.fieldLink RT0 17 "java/lang/Throwable" "stackTrace" "[Ljava/lang/StackTraceElement;") (List.mem_of_getElem? (i := 6) rfl)) (fun _ h9 => h9) rfl (by decide +kernel) rfl rfl (by rw [hF_21.1]; decide) dT0_init4_38 (fun H locs hP hD hS => ?_)
      have hP : va_P (dC, dI) vwCl [(h0, .inr (13, (fs_22.set 1 (.null))))] H := hP
      have hD : va_D A [(h0, .inr (13, (fs_22.set 1 (.null))))] := hD
      have hF_24 := hF_21.set 1 (.null) (l' := [(1, .null), (2, .ref t_7), (0, .ref h0)]) (by decide) rfl
      generalize fs_22.set 1 (.null) = fs_25 at hP hD hF_24
      have hP : va_P (dC, dI) vwCl [(h0, .inr (13, fs_25))] H := hP
      have hD : va_D A [(h0, .inr (13, fs_25))] := hD
      refine lv_aload_n hx hb dT0_init4_41 rfl (lv_at hl 0 rfl) ?_
      refine lv_aload_n hx hb dT0_init4_42 rfl (lv_at hl 1 rfl) ?_
      refine va_put (D := (dC, dI)) (ci := 13) (v := .ref ps) (ty := (.object "java/lang/String")) (C := RX13) (T := TX13) (N := 6) hx hb hts hin_X13 tyX13 tyX13_ok nmX13 hown hK hP hD hS 0 rfl rfl 3 (by decide) (hts (.fieldLink RT0 31 "java/lang/Throwable" "detailMessage" "Ljava/lang/String;") (List.mem_of_getElem? (i := 9) rfl)) (fun _ h9 => h9) rfl (by decide +kernel) rfl rfl (by rw [hF_24.1]; decide) dT0_init4_43 (fun H locs hP hD hS => ?_)
      have hP : va_P (dC, dI) vwCl [(h0, .inr (13, (fs_25.set 3 (.ref ps))))] H := hP
      have hD : va_D A [(h0, .inr (13, (fs_25.set 3 (.ref ps))))] := hD
      have hF_26 := hF_24.set 3 (.ref ps) (l' := [(3, .ref ps), (1, .null), (2, .ref t_7), (0, .ref h0)]) (by decide) rfl
      generalize fs_25.set 3 (.ref ps) = fs_27 at hP hD hF_26
      have hP : va_P (dC, dI) vwCl [(h0, .inr (13, fs_27))] H := hP
      have hD : va_D A [(h0, .inr (13, fs_27))] := hD
      refine lv_aload_n hx hb dT0_init4_46 rfl (lv_at hl 0 rfl) ?_
      refine lv_aload_nN hx hb dT0_init4_47 rfl (lv_at hl 2 rfl) ?_
      refine va_put (D := (dC, dI)) (ci := 13) (v := .null) (ty := (.object "java/lang/Throwable")) (C := RX13) (T := TX13) (N := 6) hx hb hts hin_X13 tyX13 tyX13_ok nmX13 hown hK hP hD hS 0 rfl rfl 0 (by decide) (hts (.fieldLink RT0 7 "java/lang/Throwable" "cause" "Ljava/lang/Throwable;") (List.mem_of_getElem? (i := 4) rfl)) (fun _ h9 => h9) rfl (by decide +kernel) rfl rfl (by rw [hF_26.1]; decide) dT0_init4_48 (fun H locs hP hD hS => ?_)
      have hP : va_P (dC, dI) vwCl [(h0, .inr (13, (fs_27.set 0 (.null))))] H := hP
      have hD : va_D A [(h0, .inr (13, (fs_27.set 0 (.null))))] := hD
      have hF_28 := hF_26.set 0 (.null) (l' := [(0, .null), (3, .ref ps), (1, .null), (2, .ref t_7)]) (by decide) rfl
      generalize fs_27.set 0 (.null) = fs_29 at hP hD hF_28
      have hP : va_P (dC, dI) vwCl [(h0, .inr (13, fs_29))] H := hP
      have hD : va_D A [(h0, .inr (13, fs_29))] := hD
      refine lv_iload_n hx hb dT0_init4_51 rfl (lv_at hl 3 rfl) ?_
      refine lv_if_ne (tgt := 60) hx hb dT0_init4_52 (by decide) (fun c_30 => absurd c_30 (by decide)) (fun _ => ?_)
      refine lv_aload_n hx hb dT0_init4_55 rfl (lv_at hl 0 rfl) ?_
      refine lv_null hx hb dT0_init4_56 ?_
      refine va_put (D := (dC, dI)) (ci := 13) (v := .null) (ty := (.object "java/util/List")) (C := RX13) (T := TX13) (N := 6) hx hb hts hin_X13 tyX13 tyX13_ok nmX13 hown hK hP hD hS 0 rfl rfl 2 (by decide) (hts (.fieldLink RT0 24 "java/lang/Throwable" "suppressedExceptions" "Ljava/util/List;") (List.mem_of_getElem? (i := 8) rfl)) (fun _ h9 => h9) rfl (by decide +kernel) rfl rfl (by rw [hF_28.1]; decide) dT0_init4_57 (fun H locs hP hD hS => ?_)
      have hP : va_P (dC, dI) vwCl [(h0, .inr (13, (fs_29.set 2 (.null))))] H := hP
      have hD : va_D A [(h0, .inr (13, (fs_29.set 2 (.null))))] := hD
      have hF_31 := hF_28.set 2 (.null) (l' := [(2, .null), (0, .null), (3, .ref ps), (1, .null)]) (by decide) rfl
      generalize fs_29.set 2 (.null) = fs_32 at hP hD hF_31
      have hP : va_P (dC, dI) vwCl [(h0, .inr (13, fs_32))] H := hP
      have hD : va_D A [(h0, .inr (13, fs_32))] := hD
      have hP9 := hP.sub (ws' := [(h0, .inr (13, fs_32))]) [0] rfl
      have hD9 := hD.sub (ws' := [(h0, .inr (13, fs_32))]) [0] (by decide) rfl
      have hK9 := hK.sub (tys' := []) [] rfl
      exact W.vret hx hb hr (fun t ht hW => ⟨⟨(fs_32), rfl, hF_31.sub [] rfl, by rw [ht]; exact hP9, va_K.moved hW.alike hK9, hD9⟩, hS.F ht⟩) hS.2.2 dT0_init4_60
  ·
    refine va_gets (v := .ref t_3) hx hb hz_4 hS hown (hts (.fieldLink RT0 13 "java/lang/Throwable" "UNASSIGNED_STACK" "[Ljava/lang/StackTraceElement;") (List.mem_of_getElem? (i := 5) rfl)) (fun _ h9 => h9) dT0_init4_10 ?_
    refine va_put (D := (dC, dI)) (ci := 13) (v := .ref t_3) (ty := (.array (.object "java/lang/StackTraceElement"))) (C := RX13) (T := TX13) (N := 6) hx hb hts hin_X13 tyX13 tyX13_ok nmX13 hown hK hP hD hS 0 rfl rfl 1 (by decide) (hts (.fieldLink RT0 17 "java/lang/Throwable" "stackTrace" "[Ljava/lang/StackTraceElement;") (List.mem_of_getElem? (i := 6) rfl)) (fun _ h9 => h9) rfl (by decide +kernel) rfl rfl (by rw [hF_1.1]; decide) dT0_init4_13 (fun H locs hP hD hS => ?_)
    have hP : va_P (dC, dI) vwCl [(h0, .inr (13, (fs_2.set 1 (.ref t_3))))] H := hP
    have hD : va_D A [(h0, .inr (13, (fs_2.set 1 (.ref t_3))))] := hD
    have hF_33 := hF_1.set 1 (.ref t_3) (l' := [(1, .ref t_3), (0, .ref h0)]) (by decide) rfl
    generalize fs_2.set 1 (.ref t_3) = fs_34 at hP hD hF_33
    have hP : va_P (dC, dI) vwCl [(h0, .inr (13, fs_34))] H := hP
    have hD : va_D A [(h0, .inr (13, fs_34))] := hD
    refine lv_aload_n hx hb dT0_init4_16 rfl (lv_at hl 0 rfl) ?_
    rcases hZN with hz_36 | ⟨t_35, hz_36⟩
    ·
      refine va_gets (v := .null) hx hb hz_36 hS hown (hts (.fieldLink RT0 20 "java/lang/Throwable" "SUPPRESSED_SENTINEL" "Ljava/util/List;") (List.mem_of_getElem? (i := 7) rfl)) (fun _ h9 => h9) dT0_init4_17 ?_
      refine va_put (D := (dC, dI)) (ci := 13) (v := .null) (ty := (.object "java/util/List")) (C := RX13) (T := TX13) (N := 6) hx hb hts hin_X13 tyX13 tyX13_ok nmX13 hown hK hP hD hS 0 rfl rfl 2 (by decide) (hts (.fieldLink RT0 24 "java/lang/Throwable" "suppressedExceptions" "Ljava/util/List;") (List.mem_of_getElem? (i := 8) rfl)) (fun _ h9 => h9) rfl (by decide +kernel) rfl rfl (by rw [hF_33.1]; decide) dT0_init4_20 (fun H locs hP hD hS => ?_)
      have hP : va_P (dC, dI) vwCl [(h0, .inr (13, (fs_34.set 2 (.null))))] H := hP
      have hD : va_D A [(h0, .inr (13, (fs_34.set 2 (.null))))] := hD
      have hF_37 := hF_33.set 2 (.null) (l' := [(2, .null), (1, .ref t_3), (0, .ref h0)]) (by decide) rfl
      generalize fs_34.set 2 (.null) = fs_38 at hP hD hF_37
      have hP : va_P (dC, dI) vwCl [(h0, .inr (13, fs_38))] H := hP
      have hD : va_D A [(h0, .inr (13, fs_38))] := hD
      refine lv_iload hx hb dT0_init4_23 (lv_at hl 4 rfl) ?_
      refine lv_if_eq (tgt := 36) hx hb dT0_init4_25 (by decide) (fun _ => ?_) (fun c_39 => absurd (by decide) c_39)
      refine lv_aload_n hx hb dT0_init4_36 rfl (lv_at hl 0 rfl) ?_
      refine lv_null hx hb dT0_init4_37 ?_
      refine va_put (D := (dC, dI)) (ci := 13) (v := .null) (ty := (.array (.object "java/lang/StackTraceElement"))) (C := RX13) (T := TX13) (N := 6) hx hb hts hin_X13 tyX13 tyX13_ok nmX13 hown hK hP hD hS 0 rfl rfl 1 (by decide) (hts (.fieldLink RT0 17 "java/lang/Throwable" "stackTrace" "[Ljava/lang/StackTraceElement;") (List.mem_of_getElem? (i := 6) rfl)) (fun _ h9 => h9) rfl (by decide +kernel) rfl rfl (by rw [hF_37.1]; decide) dT0_init4_38 (fun H locs hP hD hS => ?_)
      have hP : va_P (dC, dI) vwCl [(h0, .inr (13, (fs_38.set 1 (.null))))] H := hP
      have hD : va_D A [(h0, .inr (13, (fs_38.set 1 (.null))))] := hD
      have hF_40 := hF_37.set 1 (.null) (l' := [(1, .null), (2, .null), (0, .ref h0)]) (by decide) rfl
      generalize fs_38.set 1 (.null) = fs_41 at hP hD hF_40
      have hP : va_P (dC, dI) vwCl [(h0, .inr (13, fs_41))] H := hP
      have hD : va_D A [(h0, .inr (13, fs_41))] := hD
      refine lv_aload_n hx hb dT0_init4_41 rfl (lv_at hl 0 rfl) ?_
      refine lv_aload_n hx hb dT0_init4_42 rfl (lv_at hl 1 rfl) ?_
      refine va_put (D := (dC, dI)) (ci := 13) (v := .ref ps) (ty := (.object "java/lang/String")) (C := RX13) (T := TX13) (N := 6) hx hb hts hin_X13 tyX13 tyX13_ok nmX13 hown hK hP hD hS 0 rfl rfl 3 (by decide) (hts (.fieldLink RT0 31 "java/lang/Throwable" "detailMessage" "Ljava/lang/String;") (List.mem_of_getElem? (i := 9) rfl)) (fun _ h9 => h9) rfl (by decide +kernel) rfl rfl (by rw [hF_40.1]; decide) dT0_init4_43 (fun H locs hP hD hS => ?_)
      have hP : va_P (dC, dI) vwCl [(h0, .inr (13, (fs_41.set 3 (.ref ps))))] H := hP
      have hD : va_D A [(h0, .inr (13, (fs_41.set 3 (.ref ps))))] := hD
      have hF_42 := hF_40.set 3 (.ref ps) (l' := [(3, .ref ps), (1, .null), (2, .null), (0, .ref h0)]) (by decide) rfl
      generalize fs_41.set 3 (.ref ps) = fs_43 at hP hD hF_42
      have hP : va_P (dC, dI) vwCl [(h0, .inr (13, fs_43))] H := hP
      have hD : va_D A [(h0, .inr (13, fs_43))] := hD
      refine lv_aload_n hx hb dT0_init4_46 rfl (lv_at hl 0 rfl) ?_
      refine lv_aload_nN hx hb dT0_init4_47 rfl (lv_at hl 2 rfl) ?_
      refine va_put (D := (dC, dI)) (ci := 13) (v := .null) (ty := (.object "java/lang/Throwable")) (C := RX13) (T := TX13) (N := 6) hx hb hts hin_X13 tyX13 tyX13_ok nmX13 hown hK hP hD hS 0 rfl rfl 0 (by decide) (hts (.fieldLink RT0 7 "java/lang/Throwable" "cause" "Ljava/lang/Throwable;") (List.mem_of_getElem? (i := 4) rfl)) (fun _ h9 => h9) rfl (by decide +kernel) rfl rfl (by rw [hF_42.1]; decide) dT0_init4_48 (fun H locs hP hD hS => ?_)
      have hP : va_P (dC, dI) vwCl [(h0, .inr (13, (fs_43.set 0 (.null))))] H := hP
      have hD : va_D A [(h0, .inr (13, (fs_43.set 0 (.null))))] := hD
      have hF_44 := hF_42.set 0 (.null) (l' := [(0, .null), (3, .ref ps), (1, .null), (2, .null)]) (by decide) rfl
      generalize fs_43.set 0 (.null) = fs_45 at hP hD hF_44
      have hP : va_P (dC, dI) vwCl [(h0, .inr (13, fs_45))] H := hP
      have hD : va_D A [(h0, .inr (13, fs_45))] := hD
      refine lv_iload_n hx hb dT0_init4_51 rfl (lv_at hl 3 rfl) ?_
      refine lv_if_ne (tgt := 60) hx hb dT0_init4_52 (by decide) (fun c_46 => absurd c_46 (by decide)) (fun _ => ?_)
      refine lv_aload_n hx hb dT0_init4_55 rfl (lv_at hl 0 rfl) ?_
      refine lv_null hx hb dT0_init4_56 ?_
      refine va_put (D := (dC, dI)) (ci := 13) (v := .null) (ty := (.object "java/util/List")) (C := RX13) (T := TX13) (N := 6) hx hb hts hin_X13 tyX13 tyX13_ok nmX13 hown hK hP hD hS 0 rfl rfl 2 (by decide) (hts (.fieldLink RT0 24 "java/lang/Throwable" "suppressedExceptions" "Ljava/util/List;") (List.mem_of_getElem? (i := 8) rfl)) (fun _ h9 => h9) rfl (by decide +kernel) rfl rfl (by rw [hF_44.1]; decide) dT0_init4_57 (fun H locs hP hD hS => ?_)
      have hP : va_P (dC, dI) vwCl [(h0, .inr (13, (fs_45.set 2 (.null))))] H := hP
      have hD : va_D A [(h0, .inr (13, (fs_45.set 2 (.null))))] := hD
      have hF_47 := hF_44.set 2 (.null) (l' := [(2, .null), (0, .null), (3, .ref ps), (1, .null)]) (by decide) rfl
      generalize fs_45.set 2 (.null) = fs_48 at hP hD hF_47
      have hP : va_P (dC, dI) vwCl [(h0, .inr (13, fs_48))] H := hP
      have hD : va_D A [(h0, .inr (13, fs_48))] := hD
      have hP9 := hP.sub (ws' := [(h0, .inr (13, fs_48))]) [0] rfl
      have hD9 := hD.sub (ws' := [(h0, .inr (13, fs_48))]) [0] (by decide) rfl
      have hK9 := hK.sub (tys' := []) [] rfl
      exact W.vret hx hb hr (fun t ht hW => ⟨⟨(fs_48), rfl, hF_47.sub [] rfl, by rw [ht]; exact hP9, va_K.moved hW.alike hK9, hD9⟩, hS.F ht⟩) hS.2.2 dT0_init4_60
    ·
      refine va_gets (v := .ref t_35) hx hb hz_36 hS hown (hts (.fieldLink RT0 20 "java/lang/Throwable" "SUPPRESSED_SENTINEL" "Ljava/util/List;") (List.mem_of_getElem? (i := 7) rfl)) (fun _ h9 => h9) dT0_init4_17 ?_
      refine va_put (D := (dC, dI)) (ci := 13) (v := .ref t_35) (ty := (.object "java/util/List")) (C := RX13) (T := TX13) (N := 6) hx hb hts hin_X13 tyX13 tyX13_ok nmX13 hown hK hP hD hS 0 rfl rfl 2 (by decide) (hts (.fieldLink RT0 24 "java/lang/Throwable" "suppressedExceptions" "Ljava/util/List;") (List.mem_of_getElem? (i := 8) rfl)) (fun _ h9 => h9) rfl (by decide +kernel) rfl rfl (by rw [hF_33.1]; decide) dT0_init4_20 (fun H locs hP hD hS => ?_)
      have hP : va_P (dC, dI) vwCl [(h0, .inr (13, (fs_34.set 2 (.ref t_35))))] H := hP
      have hD : va_D A [(h0, .inr (13, (fs_34.set 2 (.ref t_35))))] := hD
      have hF_49 := hF_33.set 2 (.ref t_35) (l' := [(2, .ref t_35), (1, .ref t_3), (0, .ref h0)]) (by decide) rfl
      generalize fs_34.set 2 (.ref t_35) = fs_50 at hP hD hF_49
      have hP : va_P (dC, dI) vwCl [(h0, .inr (13, fs_50))] H := hP
      have hD : va_D A [(h0, .inr (13, fs_50))] := hD
      refine lv_iload hx hb dT0_init4_23 (lv_at hl 4 rfl) ?_
      refine lv_if_eq (tgt := 36) hx hb dT0_init4_25 (by decide) (fun _ => ?_) (fun c_51 => absurd (by decide) c_51)
      refine lv_aload_n hx hb dT0_init4_36 rfl (lv_at hl 0 rfl) ?_
      refine lv_null hx hb dT0_init4_37 ?_
      refine va_put (D := (dC, dI)) (ci := 13) (v := .null) (ty := (.array (.object "java/lang/StackTraceElement"))) (C := RX13) (T := TX13) (N := 6) hx hb hts hin_X13 tyX13 tyX13_ok nmX13 hown hK hP hD hS 0 rfl rfl 1 (by decide) (hts (.fieldLink RT0 17 "java/lang/Throwable" "stackTrace" "[Ljava/lang/StackTraceElement;") (List.mem_of_getElem? (i := 6) rfl)) (fun _ h9 => h9) rfl (by decide +kernel) rfl rfl (by rw [hF_49.1]; decide) dT0_init4_38 (fun H locs hP hD hS => ?_)
      have hP : va_P (dC, dI) vwCl [(h0, .inr (13, (fs_50.set 1 (.null))))] H := hP
      have hD : va_D A [(h0, .inr (13, (fs_50.set 1 (.null))))] := hD
      have hF_52 := hF_49.set 1 (.null) (l' := [(1, .null), (2, .ref t_35), (0, .ref h0)]) (by decide) rfl
      generalize fs_50.set 1 (.null) = fs_53 at hP hD hF_52
      have hP : va_P (dC, dI) vwCl [(h0, .inr (13, fs_53))] H := hP
      have hD : va_D A [(h0, .inr (13, fs_53))] := hD
      refine lv_aload_n hx hb dT0_init4_41 rfl (lv_at hl 0 rfl) ?_
      refine lv_aload_n hx hb dT0_init4_42 rfl (lv_at hl 1 rfl) ?_
      refine va_put (D := (dC, dI)) (ci := 13) (v := .ref ps) (ty := (.object "java/lang/String")) (C := RX13) (T := TX13) (N := 6) hx hb hts hin_X13 tyX13 tyX13_ok nmX13 hown hK hP hD hS 0 rfl rfl 3 (by decide) (hts (.fieldLink RT0 31 "java/lang/Throwable" "detailMessage" "Ljava/lang/String;") (List.mem_of_getElem? (i := 9) rfl)) (fun _ h9 => h9) rfl (by decide +kernel) rfl rfl (by rw [hF_52.1]; decide) dT0_init4_43 (fun H locs hP hD hS => ?_)
      have hP : va_P (dC, dI) vwCl [(h0, .inr (13, (fs_53.set 3 (.ref ps))))] H := hP
      have hD : va_D A [(h0, .inr (13, (fs_53.set 3 (.ref ps))))] := hD
      have hF_54 := hF_52.set 3 (.ref ps) (l' := [(3, .ref ps), (1, .null), (2, .ref t_35), (0, .ref h0)]) (by decide) rfl
      generalize fs_53.set 3 (.ref ps) = fs_55 at hP hD hF_54
      have hP : va_P (dC, dI) vwCl [(h0, .inr (13, fs_55))] H := hP
      have hD : va_D A [(h0, .inr (13, fs_55))] := hD
      refine lv_aload_n hx hb dT0_init4_46 rfl (lv_at hl 0 rfl) ?_
      refine lv_aload_nN hx hb dT0_init4_47 rfl (lv_at hl 2 rfl) ?_
      refine va_put (D := (dC, dI)) (ci := 13) (v := .null) (ty := (.object "java/lang/Throwable")) (C := RX13) (T := TX13) (N := 6) hx hb hts hin_X13 tyX13 tyX13_ok nmX13 hown hK hP hD hS 0 rfl rfl 0 (by decide) (hts (.fieldLink RT0 7 "java/lang/Throwable" "cause" "Ljava/lang/Throwable;") (List.mem_of_getElem? (i := 4) rfl)) (fun _ h9 => h9) rfl (by decide +kernel) rfl rfl (by rw [hF_54.1]; decide) dT0_init4_48 (fun H locs hP hD hS => ?_)
      have hP : va_P (dC, dI) vwCl [(h0, .inr (13, (fs_55.set 0 (.null))))] H := hP
      have hD : va_D A [(h0, .inr (13, (fs_55.set 0 (.null))))] := hD
      have hF_56 := hF_54.set 0 (.null) (l' := [(0, .null), (3, .ref ps), (1, .null), (2, .ref t_35)]) (by decide) rfl
      generalize fs_55.set 0 (.null) = fs_57 at hP hD hF_56
      have hP : va_P (dC, dI) vwCl [(h0, .inr (13, fs_57))] H := hP
      have hD : va_D A [(h0, .inr (13, fs_57))] := hD
      refine lv_iload_n hx hb dT0_init4_51 rfl (lv_at hl 3 rfl) ?_
      refine lv_if_ne (tgt := 60) hx hb dT0_init4_52 (by decide) (fun c_58 => absurd c_58 (by decide)) (fun _ => ?_)
      refine lv_aload_n hx hb dT0_init4_55 rfl (lv_at hl 0 rfl) ?_
      refine lv_null hx hb dT0_init4_56 ?_
      refine va_put (D := (dC, dI)) (ci := 13) (v := .null) (ty := (.object "java/util/List")) (C := RX13) (T := TX13) (N := 6) hx hb hts hin_X13 tyX13 tyX13_ok nmX13 hown hK hP hD hS 0 rfl rfl 2 (by decide) (hts (.fieldLink RT0 24 "java/lang/Throwable" "suppressedExceptions" "Ljava/util/List;") (List.mem_of_getElem? (i := 8) rfl)) (fun _ h9 => h9) rfl (by decide +kernel) rfl rfl (by rw [hF_56.1]; decide) dT0_init4_57 (fun H locs hP hD hS => ?_)
      have hP : va_P (dC, dI) vwCl [(h0, .inr (13, (fs_57.set 2 (.null))))] H := hP
      have hD : va_D A [(h0, .inr (13, (fs_57.set 2 (.null))))] := hD
      have hF_59 := hF_56.set 2 (.null) (l' := [(2, .null), (0, .null), (3, .ref ps), (1, .null)]) (by decide) rfl
      generalize fs_57.set 2 (.null) = fs_60 at hP hD hF_59
      have hP : va_P (dC, dI) vwCl [(h0, .inr (13, fs_60))] H := hP
      have hD : va_D A [(h0, .inr (13, fs_60))] := hD
      have hP9 := hP.sub (ws' := [(h0, .inr (13, fs_60))]) [0] rfl
      have hD9 := hD.sub (ws' := [(h0, .inr (13, fs_60))]) [0] (by decide) rfl
      have hK9 := hK.sub (tys' := []) [] rfl
      exact W.vret hx hb hr (fun t ht hW => ⟨⟨(fs_60), rfl, hF_59.sub [] rfl, by rw [ht]; exact hP9, va_K.moved hW.alike hK9, hD9⟩, hS.F ht⟩) hS.2.2 dT0_init4_60
def pw_c_T1_init4 : List Cond := .code yT1_init4 cT1_init4 5 none :: ([.code yT0_init4 cT0_init4 5 none, .code objectInit ⟨#[0xb1]⟩ 1 none, .methodLink RT0 1 objectInit, .instanceMethod objectInit, .fieldLink RT0 7 "java/lang/Throwable" "cause" "Ljava/lang/Throwable;", .fieldLink RT0 13 "java/lang/Throwable" "UNASSIGNED_STACK" "[Ljava/lang/StackTraceElement;", .fieldLink RT0 17 "java/lang/Throwable" "stackTrace" "[Ljava/lang/StackTraceElement;", .fieldLink RT0 20 "java/lang/Throwable" "SUPPRESSED_SENTINEL" "Ljava/util/List;", .fieldLink RT0 24 "java/lang/Throwable" "suppressedExceptions" "Ljava/util/List;", .fieldLink RT0 31 "java/lang/Throwable" "detailMessage" "Ljava/lang/String;", .initialized RT0, .methodLink RT1 16 yT0_init4, .instanceMethod yT0_init4] ++ (wsX130 ++ []))
set_option maxRecDepth 20000 in
theorem g_c_T1_init4_c_T0_init4_6 : GoodIn pw_c_T1_init4 (pw_c_T0_init4) := goodIn_r _ [1, 2, 3, 4, 5, 6, 7, 8, 9, 10, 14, 15, 16, 17, 18, 19] rfl (by decide +kernel)
set_option maxHeartbeats 4000000 in
set_option maxRecDepth 100000 in
theorem c_T1_init4 (l : Launch) (dC : Nat → ClassId) (dI : Nat → Nat → Nat) (sz : Nat) (h0 : Nat) (fs : List Value) (ps : Nat) (hF : hasF fs 6 []) : Met l yT1_init4 pw_c_T1_init4 ({ frames := 2, cells := 0, slots := 0, locals := 36 }) (va_Pc [.ref h0, .ref ps, .null, .int 0, .int 0] (fun U => U.heap.size = sz ∧ va_P (dC, dI) vwCl [(h0, .inr (13, fs))] U.heap ∧ va_K (dC, dI) vwCl [] U ∧ va_D (fun _ => True) [(h0, .inr (13, fs))] ∧ va_Zq "java/lang/Throwable" "UNASSIGNED_STACK" "[Ljava/lang/StackTraceElement;" (va_A [(h0, .inr (13, fs))] sz) U U.heap ∧ va_Zq "java/lang/Throwable" "SUPPRESSED_SENTINEL" "Ljava/util/List;" (va_A [(h0, .inr (13, fs))] sz) U U.heap)) (va_Qv (fun (u : (List Value)) => hasF u 6 []) (fun (u : (List Value)) (t : State) => va_P (dC, dI) vwCl [(h0, .inr (13, u))] t.heap ∧ va_K (dC, dI) vwCl [] t ∧ va_D (va_A [(h0, .inr (13, fs))] sz) [(h0, .inr (13, u))]) (va_A [(h0, .inr (13, fs))] sz)) 0 0 (va_A [(h0, .inr (13, fs))] sz) := by
  refine Met.ofW (cc := cT1_init4) (maxL := 5) (ret := none) (by decide) rfl ?_
  intro p e s m args below meth c s₁ B hml hv
  obtain ⟨rfl, hsz, hP, hK, hD0, hZU, hZN⟩ := hv
  have hx := B.exec
  have hb := B.bytes
  have hr := B.returns
  have hts := atoms_spec (ws := pw_c_T1_init4) B.pre
  have hown : s.vm.findClass RT1 = some m.cls := findClass_of_methodNamed B.named
  have hlocks := B.notSynchronized
  have hin : meth.name = "<init>" := (name_of_methodNamed B.named B.method).1
  have hin_X13 : ∀ w ∈ u_ws RX13 TX13 6, w ∈ pw_c_T1_init4 := fun w h => List.mem_cons_of_mem _ (List.mem_append_right _ (List.mem_append_left _ h))
  subst hsz
  have hD := hD0.self (sz := s.heap.size)
  generalize hAe : va_A [(h0, .inr (13, fs))] s.heap.size = A at hD hZU hZN ⊢
  have hA : ∀ q : Nat, s.heap.size ≤ q → A q := fun q h => by rw [← hAe]; exact Or.inr h
  have hS : va_S A s.heap s.heap [] := va_S.rf
  have hP : va_P (dC, dI) vwCl [(h0, .inr (13, fs))] s.heap := hP
  have hl := lv_entry ([.ref h0, .ref ps, .null, .int 0, .int 0]) (n := 5) (Nat.le_of_ble_eq_true rfl)
  rw [lg_entry_eq]
  generalize (lg_sl ([.ref h0, .ref ps, .null, .int 0, .int 0]) ++ List.replicate (5 - (lg_sl ([.ref h0, .ref ps, .null, .int 0, .int 0])).length) Slot.unset).toArray = ls at hl ⊢
  have hl : lv_has ls 5 [(0, .ref h0), (1, .ref ps), (2, .null), (3, .int 0), (4, .int 0)] := hl
  refine lv_aload_n hx hb dT1_init4_0 rfl (lv_at hl 0 rfl) ?_
  refine lv_aload_n hx hb dT1_init4_1 rfl (lv_at hl 1 rfl) ?_
  refine lv_aload_nN hx hb dT1_init4_2 rfl (lv_at hl 2 rfl) ?_
  refine lv_iload_n hx hb dT1_init4_3 rfl (lv_at hl 3 rfl) ?_
  refine lv_iload hx hb dT1_init4_4 (lv_at hl 4 rfl) ?_
  have hPc := hP.sub (ws' := [(h0, .inr (13, fs))]) [0] rfl
  have hDc := hD.sub (ws' := [(h0, .inr (13, fs))]) [0] (by decide) rfl
  have hKc := hK.sub (tys' := []) [] rfl
  have hFc := va_free (wc := [(h0, .inr (13, fs))]) hD hS hA [0] rfl
  refine va_callv (va_runI (As := [.ref ps, .null, .int 0, .int 0]) (rest := []) ⟨hx, hb, hml, hown, hts⟩ (c_T0_init4 l dC dI s.heap.size h0 fs ps (hF.sub [] rfl)) (cwI 4 hts g_c_T1_init4_c_T0_init4_6 rfl rfl rfl (hts (.initialized RT0) (List.mem_of_getElem? (i := 11) rfl)) (hts (.methodLink RT1 16 yT0_init4) (List.mem_of_getElem? (i := 12) rfl)) (hts (.instanceMethod yT0_init4) (List.mem_of_getElem? (i := 13) rfl)) rfl (by decide +kernel) ⟨Nat.le_of_ble_eq_true rfl, Nat.le_of_ble_eq_true rfl⟩) ⟨fun a U g mk q => by obtain ⟨q0, q1, qP, qK, qD, hZU, hZN⟩ := q; exact ⟨q0, q1, qP, va_K.moved (u := U) (U := U.calling g mk a) (Vm.Alike.refl U.vm) qK, qD, va_Zq.moved (u := U) (Vm.Alike.refl U.vm) hZU, va_Zq.moved (u := U) (Vm.Alike.refl U.vm) hZN⟩, fun U hU hW => ⟨rfl, by rw [hU], by rw [hU]; exact hPc, va_K.moved hW.alike hKc, hDc.weaken (fun _ _ _ _ => trivial), by rw [hU]; exact va_Zq.moved hW.alike ((hZU.kept hS.2.1).narrow hFc), by rw [hU]; exact va_Zq.moved hW.alike ((hZN.kept hS.2.1).narrow hFc)⟩⟩ rfl rfl hl.1 rfl (lv_room (Nat.le_of_ble_eq_true rfl)) dT1_init4_6 ⟨show 0 + 0 ≤ 0 by decide, show 0 + 0 ≤ 0 by decide⟩) hS (fun q _ h => hFc q h) hFc (fun u t H1 locs ht hvm hw hB hz1 hk1 hS => ?_)
  obtain ⟨fs1_3, rfl⟩ : ∃ z, z = u := ⟨_, rfl⟩
  obtain ⟨hP1, hK1, hD1⟩ := hB
  rw [ht] at hP1
  have hK1 := va_K.moved hvm.symm hK1
  try dsimp only at hw hP1 hK1 hD1
  have hF_4 := hw
  obtain ⟨hP, hD⟩ := va_join (wr := []) (w1 := [(h0, .inr (13, fs1_3))]) hP hD [0] [] rfl rfl (by decide) (by decide) hk1 hFc hP1 hD1
  generalize H1 = H at hP hS ⊢
  have hK := (hK.sub (tys' := []) [] rfl).app hK1
  have hK : va_K (dC, dI) vwCl [] s := hK
  have hP : va_P (dC, dI) vwCl [(h0, .inr (13, fs1_3))] H := hP
  have hD : va_D A [(h0, .inr (13, fs1_3))] := hD
  have hP9 := hP.sub (ws' := [(h0, .inr (13, fs1_3))]) [0] rfl
  have hD9 := hD.sub (ws' := [(h0, .inr (13, fs1_3))]) [0] (by decide) rfl
  have hK9 := hK.sub (tys' := []) [] rfl
  exact W.vret hx hb hr (fun t ht hW => ⟨⟨(fs1_3), rfl, hF_4.sub [] rfl, by rw [ht]; exact hP9, va_K.moved hW.alike hK9, hD9⟩, hS.F ht⟩) hS.2.2 dT1_init4_9
def pw_c_T2_init4 : List Cond := .code yT2_init4 cT2_init4 5 none :: ([.code yT1_init4 cT1_init4 5 none, .code yT0_init4 cT0_init4 5 none, .code objectInit ⟨#[0xb1]⟩ 1 none, .methodLink RT0 1 objectInit, .instanceMethod objectInit, .fieldLink RT0 7 "java/lang/Throwable" "cause" "Ljava/lang/Throwable;", .fieldLink RT0 13 "java/lang/Throwable" "UNASSIGNED_STACK" "[Ljava/lang/StackTraceElement;", .fieldLink RT0 17 "java/lang/Throwable" "stackTrace" "[Ljava/lang/StackTraceElement;", .fieldLink RT0 20 "java/lang/Throwable" "SUPPRESSED_SENTINEL" "Ljava/util/List;", .fieldLink RT0 24 "java/lang/Throwable" "suppressedExceptions" "Ljava/util/List;", .fieldLink RT0 31 "java/lang/Throwable" "detailMessage" "Ljava/lang/String;", .initialized RT0, .methodLink RT1 16 yT0_init4, .instanceMethod yT0_init4, .initialized RT1, .methodLink RT2 16 yT1_init4, .instanceMethod yT1_init4] ++ (wsX130 ++ []))
set_option maxRecDepth 20000 in
theorem g_c_T2_init4_c_T1_init4_6 : GoodIn pw_c_T2_init4 (pw_c_T1_init4) := goodIn_r _ [1, 2, 3, 4, 5, 6, 7, 8, 9, 10, 11, 12, 13, 14, 18, 19, 20, 21, 22, 23] rfl (by decide +kernel)
set_option maxHeartbeats 4000000 in
set_option maxRecDepth 100000 in
theorem c_T2_init4 (l : Launch) (dC : Nat → ClassId) (dI : Nat → Nat → Nat) (sz : Nat) (h0 : Nat) (fs : List Value) (ps : Nat) (hF : hasF fs 6 []) : Met l yT2_init4 pw_c_T2_init4 ({ frames := 3, cells := 0, slots := 0, locals := 60 }) (va_Pc [.ref h0, .ref ps, .null, .int 0, .int 0] (fun U => U.heap.size = sz ∧ va_P (dC, dI) vwCl [(h0, .inr (13, fs))] U.heap ∧ va_K (dC, dI) vwCl [] U ∧ va_D (fun _ => True) [(h0, .inr (13, fs))] ∧ va_Zq "java/lang/Throwable" "UNASSIGNED_STACK" "[Ljava/lang/StackTraceElement;" (va_A [(h0, .inr (13, fs))] sz) U U.heap ∧ va_Zq "java/lang/Throwable" "SUPPRESSED_SENTINEL" "Ljava/util/List;" (va_A [(h0, .inr (13, fs))] sz) U U.heap)) (va_Qv (fun (u : (List Value)) => hasF u 6 []) (fun (u : (List Value)) (t : State) => va_P (dC, dI) vwCl [(h0, .inr (13, u))] t.heap ∧ va_K (dC, dI) vwCl [] t ∧ va_D (va_A [(h0, .inr (13, fs))] sz) [(h0, .inr (13, u))]) (va_A [(h0, .inr (13, fs))] sz)) 0 0 (va_A [(h0, .inr (13, fs))] sz) := by
  refine Met.ofW (cc := cT2_init4) (maxL := 5) (ret := none) (by decide) rfl ?_
  intro p e s m args below meth c s₁ B hml hv
  obtain ⟨rfl, hsz, hP, hK, hD0, hZU, hZN⟩ := hv
  have hx := B.exec
  have hb := B.bytes
  have hr := B.returns
  have hts := atoms_spec (ws := pw_c_T2_init4) B.pre
  have hown : s.vm.findClass RT2 = some m.cls := findClass_of_methodNamed B.named
  have hlocks := B.notSynchronized
  have hin : meth.name = "<init>" := (name_of_methodNamed B.named B.method).1
  have hin_X13 : ∀ w ∈ u_ws RX13 TX13 6, w ∈ pw_c_T2_init4 := fun w h => List.mem_cons_of_mem _ (List.mem_append_right _ (List.mem_append_left _ h))
  subst hsz
  have hD := hD0.self (sz := s.heap.size)
  generalize hAe : va_A [(h0, .inr (13, fs))] s.heap.size = A at hD hZU hZN ⊢
  have hA : ∀ q : Nat, s.heap.size ≤ q → A q := fun q h => by rw [← hAe]; exact Or.inr h
  have hS : va_S A s.heap s.heap [] := va_S.rf
  have hP : va_P (dC, dI) vwCl [(h0, .inr (13, fs))] s.heap := hP
  have hl := lv_entry ([.ref h0, .ref ps, .null, .int 0, .int 0]) (n := 5) (Nat.le_of_ble_eq_true rfl)
  rw [lg_entry_eq]
  generalize (lg_sl ([.ref h0, .ref ps, .null, .int 0, .int 0]) ++ List.replicate (5 - (lg_sl ([.ref h0, .ref ps, .null, .int 0, .int 0])).length) Slot.unset).toArray = ls at hl ⊢
  have hl : lv_has ls 5 [(0, .ref h0), (1, .ref ps), (2, .null), (3, .int 0), (4, .int 0)] := hl
  refine lv_aload_n hx hb dT2_init4_0 rfl (lv_at hl 0 rfl) ?_
  refine lv_aload_n hx hb dT2_init4_1 rfl (lv_at hl 1 rfl) ?_
  refine lv_aload_nN hx hb dT2_init4_2 rfl (lv_at hl 2 rfl) ?_
  refine lv_iload_n hx hb dT2_init4_3 rfl (lv_at hl 3 rfl) ?_
  refine lv_iload hx hb dT2_init4_4 (lv_at hl 4 rfl) ?_
  have hPc := hP.sub (ws' := [(h0, .inr (13, fs))]) [0] rfl
  have hDc := hD.sub (ws' := [(h0, .inr (13, fs))]) [0] (by decide) rfl
  have hKc := hK.sub (tys' := []) [] rfl
  have hFc := va_free (wc := [(h0, .inr (13, fs))]) hD hS hA [0] rfl
  refine va_callv (va_runI (As := [.ref ps, .null, .int 0, .int 0]) (rest := []) ⟨hx, hb, hml, hown, hts⟩ (c_T1_init4 l dC dI s.heap.size h0 fs ps (hF.sub [] rfl)) (cwI 4 hts g_c_T2_init4_c_T1_init4_6 rfl rfl rfl (hts (.initialized RT1) (List.mem_of_getElem? (i := 15) rfl)) (hts (.methodLink RT2 16 yT1_init4) (List.mem_of_getElem? (i := 16) rfl)) (hts (.instanceMethod yT1_init4) (List.mem_of_getElem? (i := 17) rfl)) rfl (by decide +kernel) ⟨Nat.le_of_ble_eq_true rfl, Nat.le_of_ble_eq_true rfl⟩) ⟨fun a U g mk q => by obtain ⟨q0, q1, qP, qK, qD, hZU, hZN⟩ := q; exact ⟨q0, q1, qP, va_K.moved (u := U) (U := U.calling g mk a) (Vm.Alike.refl U.vm) qK, qD, va_Zq.moved (u := U) (Vm.Alike.refl U.vm) hZU, va_Zq.moved (u := U) (Vm.Alike.refl U.vm) hZN⟩, fun U hU hW => ⟨rfl, by rw [hU], by rw [hU]; exact hPc, va_K.moved hW.alike hKc, hDc.weaken (fun _ _ _ _ => trivial), by rw [hU]; exact va_Zq.moved hW.alike ((hZU.kept hS.2.1).narrow hFc), by rw [hU]; exact va_Zq.moved hW.alike ((hZN.kept hS.2.1).narrow hFc)⟩⟩ rfl rfl hl.1 rfl (lv_room (Nat.le_of_ble_eq_true rfl)) dT2_init4_6 ⟨show 0 + 0 ≤ 0 by decide, show 0 + 0 ≤ 0 by decide⟩) hS (fun q _ h => hFc q h) hFc (fun u t H1 locs ht hvm hw hB hz1 hk1 hS => ?_)
  obtain ⟨fs1_3, rfl⟩ : ∃ z, z = u := ⟨_, rfl⟩
  obtain ⟨hP1, hK1, hD1⟩ := hB
  rw [ht] at hP1
  have hK1 := va_K.moved hvm.symm hK1
  try dsimp only at hw hP1 hK1 hD1
  have hF_4 := hw
  obtain ⟨hP, hD⟩ := va_join (wr := []) (w1 := [(h0, .inr (13, fs1_3))]) hP hD [0] [] rfl rfl (by decide) (by decide) hk1 hFc hP1 hD1
  generalize H1 = H at hP hS ⊢
  have hK := (hK.sub (tys' := []) [] rfl).app hK1
  have hK : va_K (dC, dI) vwCl [] s := hK
  have hP : va_P (dC, dI) vwCl [(h0, .inr (13, fs1_3))] H := hP
  have hD : va_D A [(h0, .inr (13, fs1_3))] := hD
  have hP9 := hP.sub (ws' := [(h0, .inr (13, fs1_3))]) [0] rfl
  have hD9 := hD.sub (ws' := [(h0, .inr (13, fs1_3))]) [0] (by decide) rfl
  have hK9 := hK.sub (tys' := []) [] rfl
  exact W.vret hx hb hr (fun t ht hW => ⟨⟨(fs1_3), rfl, hF_4.sub [] rfl, by rw [ht]; exact hP9, va_K.moved hW.alike hK9, hD9⟩, hS.F ht⟩) hS.2.2 dT2_init4_9
def pw_c_X13_init : List Cond := .code yX13_init cX13_init 1 none :: ([.code yT2_init4 cT2_init4 5 none, .code yT1_init4 cT1_init4 5 none, .code yT0_init4 cT0_init4 5 none, .code objectInit ⟨#[0xb1]⟩ 1 none, .methodLink RT0 1 objectInit, .instanceMethod objectInit, .fieldLink RT0 7 "java/lang/Throwable" "cause" "Ljava/lang/Throwable;", .fieldLink RT0 13 "java/lang/Throwable" "UNASSIGNED_STACK" "[Ljava/lang/StackTraceElement;", .fieldLink RT0 17 "java/lang/Throwable" "stackTrace" "[Ljava/lang/StackTraceElement;", .fieldLink RT0 20 "java/lang/Throwable" "SUPPRESSED_SENTINEL" "Ljava/util/List;", .fieldLink RT0 24 "java/lang/Throwable" "suppressedExceptions" "Ljava/util/List;", .fieldLink RT0 31 "java/lang/Throwable" "detailMessage" "Ljava/lang/String;", .initialized RT0, .methodLink RT1 16 yT0_init4, .instanceMethod yT0_init4, .initialized RT1, .methodLink RT2 16 yT1_init4, .instanceMethod yT1_init4, .initialized RT2, .methodLink RX13 3 yT2_init4, .instanceMethod yT2_init4] ++ (wsX130 ++ []))
set_option maxRecDepth 20000 in
theorem g_c_X13_init_c_T2_init4_6 : GoodIn pw_c_X13_init (pw_c_T2_init4) := goodIn_r _ [1, 2, 3, 4, 5, 6, 7, 8, 9, 10, 11, 12, 13, 14, 15, 16, 17, 18, 22, 23, 24, 25, 26, 27] rfl (by decide +kernel)
set_option maxHeartbeats 4000000 in
set_option maxRecDepth 100000 in
theorem c_X13_init (l : Launch) (dC : Nat → ClassId) (dI : Nat → Nat → Nat) (sz : Nat) (h0 : Nat) (fs : List Value) (ps : Nat) (hF : hasF fs 6 []) : Met l yX13_init pw_c_X13_init ({ frames := 4, cells := 0, slots := 0, locals := 84 }) (va_Pc [.ref h0] (fun U => U.heap.size = sz ∧ va_P (dC, dI) vwCl [(h0, .inr (13, fs))] U.heap ∧ va_K (dC, dI) vwCl [] U ∧ va_D (fun _ => True) [(h0, .inr (13, fs))] ∧ va_Zq "java/lang/Throwable" "UNASSIGNED_STACK" "[Ljava/lang/StackTraceElement;" (va_A [(h0, .inr (13, fs))] sz) U U.heap ∧ va_Zq "java/lang/Throwable" "SUPPRESSED_SENTINEL" "Ljava/util/List;" (va_A [(h0, .inr (13, fs))] sz) U U.heap ∧ vk_R RX13 1 "" ps U)) (va_Qv (fun (u : (List Value)) => hasF u 6 []) (fun (u : (List Value)) (t : State) => va_P (dC, dI) vwCl [(h0, .inr (13, u))] t.heap ∧ va_K (dC, dI) vwCl [] t ∧ va_D (va_A [(h0, .inr (13, fs))] sz) [(h0, .inr (13, u))]) (va_A [(h0, .inr (13, fs))] sz)) 0 0 (va_A [(h0, .inr (13, fs))] sz) := by
  refine Met.ofW (cc := cX13_init) (maxL := 1) (ret := none) (by decide) rfl ?_
  intro p e s m args below meth c s₁ B hml hv
  obtain ⟨rfl, hsz, hP, hK, hD0, hZU, hZN, hR⟩ := hv
  have hx := B.exec
  have hb := B.bytes
  have hr := B.returns
  have hts := atoms_spec (ws := pw_c_X13_init) B.pre
  have hown : s.vm.findClass RX13 = some m.cls := findClass_of_methodNamed B.named
  have hlocks := B.notSynchronized
  have hin : meth.name = "<init>" := (name_of_methodNamed B.named B.method).1
  have hin_X13 : ∀ w ∈ u_ws RX13 TX13 6, w ∈ pw_c_X13_init := fun w h => List.mem_cons_of_mem _ (List.mem_append_right _ (List.mem_append_left _ h))
  subst hsz
  have hD := hD0.self (sz := s.heap.size)
  generalize hAe : va_A [(h0, .inr (13, fs))] s.heap.size = A at hD hZU hZN ⊢
  have hA : ∀ q : Nat, s.heap.size ≤ q → A q := fun q h => by rw [← hAe]; exact Or.inr h
  have hS : va_S A s.heap s.heap [] := va_S.rf
  have hP : va_P (dC, dI) vwCl [(h0, .inr (13, fs))] s.heap := hP
  have hl := lv_entry ([.ref h0]) (n := 1) (Nat.le_of_ble_eq_true rfl)
  rw [lg_entry_eq]
  generalize (lg_sl ([.ref h0]) ++ List.replicate (1 - (lg_sl ([.ref h0])).length) Slot.unset).toArray = ls at hl ⊢
  have hl : lv_has ls 1 [(0, .ref h0)] := hl
  refine lv_aload_n hx hb dX13_init_0 rfl (lv_at hl 0 rfl) ?_
  refine va_ldcS hx hb hown hR dX13_init_1 ?_
  refine lv_null hx hb dX13_init_3 ?_
  refine lv_iconst (v := 0) hx hb dX13_init_4 (by decide) ?_
  refine lv_iconst (v := 0) hx hb dX13_init_5 (by decide) ?_
  have hPc := hP.sub (ws' := [(h0, .inr (13, fs))]) [0] rfl
  have hDc := hD.sub (ws' := [(h0, .inr (13, fs))]) [0] (by decide) rfl
  have hKc := hK.sub (tys' := []) [] rfl
  have hFc := va_free (wc := [(h0, .inr (13, fs))]) hD hS hA [0] rfl
  refine va_callv (va_runI (As := [.ref ps, .null, .int 0, .int 0]) (rest := []) ⟨hx, hb, hml, hown, hts⟩ (c_T2_init4 l dC dI s.heap.size h0 fs ps (hF.sub [] rfl)) (cwI 4 hts g_c_X13_init_c_T2_init4_6 rfl rfl rfl (hts (.initialized RT2) (List.mem_of_getElem? (i := 19) rfl)) (hts (.methodLink RX13 3 yT2_init4) (List.mem_of_getElem? (i := 20) rfl)) (hts (.instanceMethod yT2_init4) (List.mem_of_getElem? (i := 21) rfl)) rfl (by decide +kernel) ⟨Nat.le_of_ble_eq_true rfl, Nat.le_of_ble_eq_true rfl⟩) ⟨fun a U g mk q => by obtain ⟨q0, q1, qP, qK, qD, hZU, hZN⟩ := q; exact ⟨q0, q1, qP, va_K.moved (u := U) (U := U.calling g mk a) (Vm.Alike.refl U.vm) qK, qD, va_Zq.moved (u := U) (Vm.Alike.refl U.vm) hZU, va_Zq.moved (u := U) (Vm.Alike.refl U.vm) hZN⟩, fun U hU hW => ⟨rfl, by rw [hU], by rw [hU]; exact hPc, va_K.moved hW.alike hKc, hDc.weaken (fun _ _ _ _ => trivial), by rw [hU]; exact va_Zq.moved hW.alike ((hZU.kept hS.2.1).narrow hFc), by rw [hU]; exact va_Zq.moved hW.alike ((hZN.kept hS.2.1).narrow hFc)⟩⟩ rfl rfl hl.1 rfl (lv_room (Nat.le_of_ble_eq_true rfl)) dX13_init_6 ⟨show 0 + 0 ≤ 0 by decide, show 0 + 0 ≤ 0 by decide⟩) hS (fun q _ h => hFc q h) hFc (fun u t H1 locs ht hvm hw hB hz1 hk1 hS => ?_)
  obtain ⟨fs1_3, rfl⟩ : ∃ z, z = u := ⟨_, rfl⟩
  obtain ⟨hP1, hK1, hD1⟩ := hB
  rw [ht] at hP1
  have hK1 := va_K.moved hvm.symm hK1
  try dsimp only at hw hP1 hK1 hD1
  have hF_4 := hw
  obtain ⟨hP, hD⟩ := va_join (wr := []) (w1 := [(h0, .inr (13, fs1_3))]) hP hD [0] [] rfl rfl (by decide) (by decide) hk1 hFc hP1 hD1
  generalize H1 = H at hP hS ⊢
  have hK := (hK.sub (tys' := []) [] rfl).app hK1
  have hK : va_K (dC, dI) vwCl [] s := hK
  have hP : va_P (dC, dI) vwCl [(h0, .inr (13, fs1_3))] H := hP
  have hD : va_D A [(h0, .inr (13, fs1_3))] := hD
  have hP9 := hP.sub (ws' := [(h0, .inr (13, fs1_3))]) [0] rfl
  have hD9 := hD.sub (ws' := [(h0, .inr (13, fs1_3))]) [0] (by decide) rfl
  have hK9 := hK.sub (tys' := []) [] rfl
  exact W.vret hx hb hr (fun t ht hW => ⟨⟨(fs1_3), rfl, hF_4.sub [] rfl, by rw [ht]; exact hP9, va_K.moved hW.alike hK9, hD9⟩, hS.F ht⟩) hS.2.2 dX13_init_9
