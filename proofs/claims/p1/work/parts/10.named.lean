theorem dX14_nameOf_0 : decode cX14_nameOf 0 = .ok (.iconst 0, 1) := by decide +kernel
theorem dX14_nameOf_1 : decode cX14_nameOf 1 = .ok (.istore 4, 2) := by decide +kernel
theorem dX14_nameOf_3 : decode cX14_nameOf 3 = .ok (.iload 4, 2) := by decide +kernel
theorem dX14_nameOf_5 : decode cX14_nameOf 5 = .ok (.aload_n 0, 1) := by decide +kernel
theorem dX14_nameOf_6 : decode cX14_nameOf 6 = .ok (.getfield 350, 3) := by decide +kernel
theorem dX14_nameOf_9 : decode cX14_nameOf 9 = .ok (.if_icmp .ge 96, 3) := by decide +kernel
theorem dX14_nameOf_12 : decode cX14_nameOf 12 = .ok (.aload_n 0, 1) := by decide +kernel
theorem dX14_nameOf_13 : decode cX14_nameOf 13 = .ok (.getfield 110, 3) := by decide +kernel
theorem dX14_nameOf_16 : decode cX14_nameOf 16 = .ok (.iload 4, 2) := by decide +kernel
theorem dX14_nameOf_18 : decode cX14_nameOf 18 = .ok (.iconst 1, 1) := by decide +kernel
theorem dX14_nameOf_19 : decode cX14_nameOf 19 = .ok (.iadd, 1) := by decide +kernel
theorem dX14_nameOf_20 : decode cX14_nameOf 20 = .ok (.iaload, 1) := by decide +kernel
theorem dX14_nameOf_21 : decode cX14_nameOf 21 = .ok (.aload_n 0, 1) := by decide +kernel
theorem dX14_nameOf_22 : decode cX14_nameOf 22 = .ok (.getfield 110, 3) := by decide +kernel
theorem dX14_nameOf_25 : decode cX14_nameOf 25 = .ok (.iload 4, 2) := by decide +kernel
theorem dX14_nameOf_27 : decode cX14_nameOf 27 = .ok (.iaload, 1) := by decide +kernel
theorem dX14_nameOf_28 : decode cX14_nameOf 28 = .ok (.isub, 1) := by decide +kernel
theorem dX14_nameOf_29 : decode cX14_nameOf 29 = .ok (.iload_n 3, 1) := by decide +kernel
theorem dX14_nameOf_30 : decode cX14_nameOf 30 = .ok (.if_icmp .ne 7, 3) := by decide +kernel
theorem dX14_nameOf_33 : decode cX14_nameOf 33 = .ok (.iconst 1, 1) := by decide +kernel
theorem dX14_nameOf_34 : decode cX14_nameOf 34 = .ok (.goto 4, 3) := by decide +kernel
theorem dX14_nameOf_37 : decode cX14_nameOf 37 = .ok (.iconst 0, 1) := by decide +kernel
theorem dX14_nameOf_38 : decode cX14_nameOf 38 = .ok (.istore 5, 2) := by decide +kernel
theorem dX14_nameOf_40 : decode cX14_nameOf 40 = .ok (.iconst 0, 1) := by decide +kernel
theorem dX14_nameOf_41 : decode cX14_nameOf 41 = .ok (.istore 6, 2) := by decide +kernel
theorem dX14_nameOf_43 : decode cX14_nameOf 43 = .ok (.iload 6, 2) := by decide +kernel
theorem dX14_nameOf_45 : decode cX14_nameOf 45 = .ok (.iload_n 3, 1) := by decide +kernel
theorem dX14_nameOf_46 : decode cX14_nameOf 46 = .ok (.if_icmp .ge 45, 3) := by decide +kernel
theorem dX14_nameOf_49 : decode cX14_nameOf 49 = .ok (.iload 5, 2) := by decide +kernel
theorem dX14_nameOf_51 : decode cX14_nameOf 51 = .ok (.ifCond .eq 40, 3) := by decide +kernel
theorem dX14_nameOf_54 : decode cX14_nameOf 54 = .ok (.aload_n 0, 1) := by decide +kernel
theorem dX14_nameOf_55 : decode cX14_nameOf 55 = .ok (.getfield 107, 3) := by decide +kernel
theorem dX14_nameOf_58 : decode cX14_nameOf 58 = .ok (.aload_n 0, 1) := by decide +kernel
theorem dX14_nameOf_59 : decode cX14_nameOf 59 = .ok (.getfield 110, 3) := by decide +kernel
theorem dX14_nameOf_62 : decode cX14_nameOf 62 = .ok (.iload 4, 2) := by decide +kernel
theorem dX14_nameOf_64 : decode cX14_nameOf 64 = .ok (.iaload, 1) := by decide +kernel
theorem dX14_nameOf_65 : decode cX14_nameOf 65 = .ok (.iload 6, 2) := by decide +kernel
theorem dX14_nameOf_67 : decode cX14_nameOf 67 = .ok (.iadd, 1) := by decide +kernel
theorem dX14_nameOf_68 : decode cX14_nameOf 68 = .ok (.iaload, 1) := by decide +kernel
theorem dX14_nameOf_69 : decode cX14_nameOf 69 = .ok (.aload_n 1, 1) := by decide +kernel
theorem dX14_nameOf_70 : decode cX14_nameOf 70 = .ok (.iload_n 2, 1) := by decide +kernel
theorem dX14_nameOf_71 : decode cX14_nameOf 71 = .ok (.iload 6, 2) := by decide +kernel
theorem dX14_nameOf_73 : decode cX14_nameOf 73 = .ok (.iadd, 1) := by decide +kernel
theorem dX14_nameOf_74 : decode cX14_nameOf 74 = .ok (.iaload, 1) := by decide +kernel
theorem dX14_nameOf_75 : decode cX14_nameOf 75 = .ok (.if_icmp .ne 7, 3) := by decide +kernel
theorem dX14_nameOf_78 : decode cX14_nameOf 78 = .ok (.iconst 1, 1) := by decide +kernel
theorem dX14_nameOf_79 : decode cX14_nameOf 79 = .ok (.goto 4, 3) := by decide +kernel
theorem dX14_nameOf_82 : decode cX14_nameOf 82 = .ok (.iconst 0, 1) := by decide +kernel
theorem dX14_nameOf_83 : decode cX14_nameOf 83 = .ok (.istore 5, 2) := by decide +kernel
theorem dX14_nameOf_85 : decode cX14_nameOf 85 = .ok (.iinc 6 1, 3) := by decide +kernel
theorem dX14_nameOf_88 : decode cX14_nameOf 88 = .ok (.goto (-45), 3) := by decide +kernel
theorem dX14_nameOf_91 : decode cX14_nameOf 91 = .ok (.iload 5, 2) := by decide +kernel
theorem dX14_nameOf_93 : decode cX14_nameOf 93 = .ok (.ifCond .eq 6, 3) := by decide +kernel
theorem dX14_nameOf_96 : decode cX14_nameOf 96 = .ok (.iload 4, 2) := by decide +kernel
theorem dX14_nameOf_98 : decode cX14_nameOf 98 = .ok (.ireturn, 1) := by decide +kernel
theorem dX14_nameOf_99 : decode cX14_nameOf 99 = .ok (.iinc 4 1, 3) := by decide +kernel
theorem dX14_nameOf_102 : decode cX14_nameOf 102 = .ok (.goto (-99), 3) := by decide +kernel
theorem dX14_nameOf_105 : decode cX14_nameOf 105 = .ok (.iconst 0, 1) := by decide +kernel
theorem dX14_nameOf_106 : decode cX14_nameOf 106 = .ok (.istore 4, 2) := by decide +kernel
theorem dX14_nameOf_108 : decode cX14_nameOf 108 = .ok (.iload 4, 2) := by decide +kernel
theorem dX14_nameOf_110 : decode cX14_nameOf 110 = .ok (.iload_n 3, 1) := by decide +kernel
theorem dX14_nameOf_111 : decode cX14_nameOf 111 = .ok (.if_icmp .ge 32, 3) := by decide +kernel
theorem dX14_nameOf_114 : decode cX14_nameOf 114 = .ok (.aload_n 0, 1) := by decide +kernel
theorem dX14_nameOf_115 : decode cX14_nameOf 115 = .ok (.getfield 107, 3) := by decide +kernel
theorem dX14_nameOf_118 : decode cX14_nameOf 118 = .ok (.aload_n 0, 1) := by decide +kernel
theorem dX14_nameOf_119 : decode cX14_nameOf 119 = .ok (.getfield 110, 3) := by decide +kernel
theorem dX14_nameOf_122 : decode cX14_nameOf 122 = .ok (.aload_n 0, 1) := by decide +kernel
theorem dX14_nameOf_123 : decode cX14_nameOf 123 = .ok (.getfield 350, 3) := by decide +kernel
theorem dX14_nameOf_126 : decode cX14_nameOf 126 = .ok (.iaload, 1) := by decide +kernel
theorem dX14_nameOf_127 : decode cX14_nameOf 127 = .ok (.iload 4, 2) := by decide +kernel
theorem dX14_nameOf_129 : decode cX14_nameOf 129 = .ok (.iadd, 1) := by decide +kernel
theorem dX14_nameOf_130 : decode cX14_nameOf 130 = .ok (.aload_n 1, 1) := by decide +kernel
theorem dX14_nameOf_131 : decode cX14_nameOf 131 = .ok (.iload_n 2, 1) := by decide +kernel
theorem dX14_nameOf_132 : decode cX14_nameOf 132 = .ok (.iload 4, 2) := by decide +kernel
theorem dX14_nameOf_134 : decode cX14_nameOf 134 = .ok (.iadd, 1) := by decide +kernel
theorem dX14_nameOf_135 : decode cX14_nameOf 135 = .ok (.iaload, 1) := by decide +kernel
theorem dX14_nameOf_136 : decode cX14_nameOf 136 = .ok (.iastore, 1) := by decide +kernel
theorem dX14_nameOf_137 : decode cX14_nameOf 137 = .ok (.iinc 4 1, 3) := by decide +kernel
theorem dX14_nameOf_140 : decode cX14_nameOf 140 = .ok (.goto (-32), 3) := by decide +kernel
theorem dX14_nameOf_143 : decode cX14_nameOf 143 = .ok (.aload_n 0, 1) := by decide +kernel
theorem dX14_nameOf_144 : decode cX14_nameOf 144 = .ok (.getfield 110, 3) := by decide +kernel
theorem dX14_nameOf_147 : decode cX14_nameOf 147 = .ok (.aload_n 0, 1) := by decide +kernel
theorem dX14_nameOf_148 : decode cX14_nameOf 148 = .ok (.getfield 350, 3) := by decide +kernel
theorem dX14_nameOf_151 : decode cX14_nameOf 151 = .ok (.iconst 1, 1) := by decide +kernel
theorem dX14_nameOf_152 : decode cX14_nameOf 152 = .ok (.iadd, 1) := by decide +kernel
theorem dX14_nameOf_153 : decode cX14_nameOf 153 = .ok (.aload_n 0, 1) := by decide +kernel
theorem dX14_nameOf_154 : decode cX14_nameOf 154 = .ok (.getfield 110, 3) := by decide +kernel
theorem dX14_nameOf_157 : decode cX14_nameOf 157 = .ok (.aload_n 0, 1) := by decide +kernel
theorem dX14_nameOf_158 : decode cX14_nameOf 158 = .ok (.getfield 350, 3) := by decide +kernel
theorem dX14_nameOf_161 : decode cX14_nameOf 161 = .ok (.iaload, 1) := by decide +kernel
theorem dX14_nameOf_162 : decode cX14_nameOf 162 = .ok (.iload_n 3, 1) := by decide +kernel
theorem dX14_nameOf_163 : decode cX14_nameOf 163 = .ok (.iadd, 1) := by decide +kernel
theorem dX14_nameOf_164 : decode cX14_nameOf 164 = .ok (.iastore, 1) := by decide +kernel
theorem dX14_nameOf_165 : decode cX14_nameOf 165 = .ok (.aload_n 0, 1) := by decide +kernel
theorem dX14_nameOf_166 : decode cX14_nameOf 166 = .ok (.dup, 1) := by decide +kernel
theorem dX14_nameOf_167 : decode cX14_nameOf 167 = .ok (.getfield 350, 3) := by decide +kernel
theorem dX14_nameOf_170 : decode cX14_nameOf 170 = .ok (.iconst 1, 1) := by decide +kernel
theorem dX14_nameOf_171 : decode cX14_nameOf 171 = .ok (.iadd, 1) := by decide +kernel
theorem dX14_nameOf_172 : decode cX14_nameOf 172 = .ok (.putfield 350, 3) := by decide +kernel
theorem dX14_nameOf_175 : decode cX14_nameOf 175 = .ok (.aload_n 0, 1) := by decide +kernel
theorem dX14_nameOf_176 : decode cX14_nameOf 176 = .ok (.getfield 350, 3) := by decide +kernel
theorem dX14_nameOf_179 : decode cX14_nameOf 179 = .ok (.iconst 1, 1) := by decide +kernel
theorem dX14_nameOf_180 : decode cX14_nameOf 180 = .ok (.isub, 1) := by decide +kernel
theorem dX14_nameOf_181 : decode cX14_nameOf 181 = .ok (.ireturn, 1) := by decide +kernel
def pw_c_X14_nameOf : List Cond := .code yX14_nameOf cX14_nameOf 7 (some .int) :: ([.fieldLink RX14 350 "NeedHouseModel" "names" "I", .fieldLink RX14 110 "NeedHouseModel" "nameFrom" "[I", .fieldLink RX14 107 "NeedHouseModel" "letters" "[I"] ++ (wsX140 ++ []))
set_option maxHeartbeats 4000000 in
set_option maxRecDepth 100000 in
theorem c_X14_nameOf (l : Launch) (dC : Nat → ClassId) (dI : Nat → Nat → Nat) (sz : Nat) (h0 : Nat) (qr : Nat) (qf : Nat) (ql : Nat) (cI : ClassId) (fs : List Value) (g : Nat → Int32) (nf : Nat → Int32) (lt : Nat → Int32) (N : Nat) (L : Nat) (hF : hasF fs 136 [(13, .int (nI N)), (12, .ref qf), (11, .ref ql)]) (hN : N ≤ 100) (hL : L ≤ 12) (hnm : nmI N nf) : Met l yX14_nameOf pw_c_X14_nameOf ({ frames := 0, cells := 0, slots := 0, locals := 0 }) (va_Pc [.ref h0, .ref qr, .int 0, .int (nI L)] (fun U => U.heap.size = sz ∧ va_P (dC, dI) vwCl [(h0, .inr (14, fs)), (qr, .inl (cI, 12, .inl g)), (qf, .inl (cI, 4040, .inl nf)), (ql, .inl (cI, 4100, .inl lt))] U.heap ∧ va_K (dC, dI) vwCl [(cI, .int)] U ∧ va_D (fun _ => True) [(h0, .inr (14, fs)), (qr, .inl (cI, 12, .inl g)), (qf, .inl (cI, 4040, .inl nf)), (ql, .inl (cI, 4100, .inl lt))])) (va_Qi (fun (r : Int32) (u : (List Value) × (Nat → Int32) × (Nat → Int32) × (Nat)) => hasF u.1 136 [(13, .int (nI u.2.2.2))] ∧ sameF fs u.1 [13] ∧ u.2.2.2 ≤ N + 1 ∧ nmI u.2.2.2 u.2.1) (fun (u : (List Value) × (Nat → Int32) × (Nat → Int32) × (Nat)) (t : State) => va_P (dC, dI) vwCl [(h0, .inr (14, u.1)), (qr, .inl (cI, 12, .inl g)), (qf, .inl (cI, 4040, .inl u.2.1)), (ql, .inl (cI, 4100, .inl u.2.2.1))] t.heap ∧ va_K (dC, dI) vwCl [(cI, .int)] t ∧ va_D (va_A [(h0, .inr (14, fs)), (qr, .inl (cI, 12, .inl g)), (qf, .inl (cI, 4040, .inl nf)), (ql, .inl (cI, 4100, .inl lt))] sz) [(h0, .inr (14, u.1)), (qr, .inl (cI, 12, .inl g)), (qf, .inl (cI, 4040, .inl u.2.1)), (ql, .inl (cI, 4100, .inl u.2.2.1))]) (va_A [(h0, .inr (14, fs)), (qr, .inl (cI, 12, .inl g)), (qf, .inl (cI, 4040, .inl nf)), (ql, .inl (cI, 4100, .inl lt))] sz)) 0 0 (va_A [(h0, .inr (14, fs)), (qr, .inl (cI, 12, .inl g)), (qf, .inl (cI, 4040, .inl nf)), (ql, .inl (cI, 4100, .inl lt))] sz) := by
  refine Met.ofW (cc := cX14_nameOf) (maxL := 7) (ret := (some .int)) (by decide) rfl ?_
  intro p e s m args below meth c s₁ B hml hv
  obtain ⟨rfl, hsz, hP, hK, hD0⟩ := hv
  have hx := B.exec
  have hb := B.bytes
  have hr := B.returns
  have hts := atoms_spec (ws := pw_c_X14_nameOf) B.pre
  have hown : s.vm.findClass RX14 = some m.cls := findClass_of_methodNamed B.named
  have hlocks := B.notSynchronized
  have hin_X14 : ∀ w ∈ u_ws RX14 TX14 136, w ∈ pw_c_X14_nameOf := fun w h => List.mem_cons_of_mem _ (List.mem_append_right _ (List.mem_append_left _ h))
  subst hsz
  have hD := hD0.self (sz := s.heap.size)
  generalize hAe : va_A [(h0, .inr (14, fs)), (qr, .inl (cI, 12, .inl g)), (qf, .inl (cI, 4040, .inl nf)), (ql, .inl (cI, 4100, .inl lt))] s.heap.size = A at hD ⊢
  have hA : ∀ q : Nat, s.heap.size ≤ q → A q := fun q h => by rw [← hAe]; exact Or.inr h
  have hS : va_S A s.heap s.heap [] := va_S.rf
  have hP : va_P (dC, dI) vwCl [(h0, .inr (14, fs)), (qr, .inl (cI, 12, .inl g)), (qf, .inl (cI, 4040, .inl nf)), (ql, .inl (cI, 4100, .inl lt))] s.heap := hP
  have hl := lv_entry ([.ref h0, .ref qr, .int 0, .int (nI L)]) (n := 7) (Nat.le_of_ble_eq_true rfl)
  rw [lg_entry_eq]
  generalize (lg_sl ([.ref h0, .ref qr, .int 0, .int (nI L)]) ++ List.replicate (7 - (lg_sl ([.ref h0, .ref qr, .int 0, .int (nI L)])).length) Slot.unset).toArray = ls at hl ⊢
  have hl : lv_has ls 7 [(0, .ref h0), (1, .ref qr), (2, .int 0), (3, .int (nI L))] := hl
  refine lv_iconst (v := 0) hx hb dX14_nameOf_0 (by decide) ?_
  refine lv_istore (lv' := [(4, .int 0), (0, .ref h0), (1, .ref qr), (2, .int 0), (3, .int (nI L))]) hx hb dX14_nameOf_1 hl (by decide) rfl (fun ls hl => ?_)
  obtain ⟨H, hHe⟩ : ∃ z : Heap, z = s.heap := ⟨_, rfl⟩
  have hS : va_S A s.heap H [] := by rw [hHe]; exact hS
  have hP : va_P (dC, dI) vwCl [(h0, .inr (14, fs)), (qr, .inl (cI, 12, .inl g)), (qf, .inl (cI, 4040, .inl nf)), (ql, .inl (cI, 4100, .inl lt))] H := by rw [hHe]; exact hP
  rw [← hHe]
  clear hHe
  generalize ([] : List Loc) = locs at hS ⊢
  obtain ⟨i, hq_i⟩ : ∃ z : Nat, z = 0 := ⟨_, rfl⟩
  have hP : va_P (dC, dI) vwCl [(h0, .inr (14, fs)), (qr, .inl (cI, 12, .inl g)), (qf, .inl (cI, 4040, .inl nf)), (ql, .inl (cI, 4100, .inl lt))] H := by (try rw [hq_i]); exact hP
  have hD : va_D A [(h0, .inr (14, fs)), (qr, .inl (cI, 12, .inl g)), (qf, .inl (cI, 4040, .inl nf)), (ql, .inl (cI, 4100, .inl lt))] := by (try rw [hq_i]); exact hD
  have hl : lv_has ls 7 [(4, .int (nI i)), (0, .ref h0), (1, .ref qr), (2, .int 0), (3, .int (nI L))] := by (try rw [hq_i]); exact hl
  have hi : i ≤ N := by omega
  obtain ⟨fu_1, hfu_1⟩ : ∃ z : Nat, N - i < z := ⟨_, Nat.lt_succ_self _⟩
  clear hq_i
  revert hl
  revert hS
  revert hD
  revert hP
  revert hi
  revert hfu_1
  generalize ls = ls_, locs = locs_, H = H_
  revert ls_
  revert locs_
  revert H_
  revert i
  induction fu_1 with
  | zero => intros; exact absurd (by assumption) (Nat.not_lt_zero _)
  | succ fu_1 ih_2 =>
    intro i H locs ls hfu_1 hi hP hD hS hl
    refine lv_iload hx hb dX14_nameOf_3 (lv_at hl 0 rfl) ?_
    refine lv_aload_n hx hb dX14_nameOf_5 rfl (lv_at hl 1 rfl) ?_
    refine va_get (D := (dC, dI)) (ci := 14) (v := .int (nI N)) (C := RX14) (T := TX14) (N := 136) hx hb hts hin_X14 hown hK hP 0 rfl rfl 13 (by decide) (hts (.fieldLink RX14 350 "NeedHouseModel" "names" "I") (List.mem_of_getElem? (i := 1) rfl)) (fun _ h9 => h9) (hF.at 0 rfl) dX14_nameOf_6 ?_
    refine lv_icmp_ge (tgt := 105) hx hb dX14_nameOf_9 (by decide) (fun c_3 => ?_) (fun c_3 => ?_)
    ·
      refine lv_iconst (v := 0) hx hb dX14_nameOf_105 (by decide) ?_
      refine lv_istore (lv' := [(4, .int 0), (0, .ref h0), (1, .ref qr), (2, .int 0), (3, .int (nI L))]) hx hb dX14_nameOf_106 hl (by decide) rfl (fun ls hl => ?_)
      have hl := lv_sub hl (l' := [(4, .int 0), (0, .ref h0), (1, .ref qr), (2, .int 0), (3, .int (nI L))]) [0, 1, 2, 3, 4] rfl
      obtain ⟨f_4, hq_f_4⟩ : ∃ z, z = lt := ⟨_, rfl⟩
      obtain ⟨k2, hq_k2⟩ : ∃ z : Nat, z = 0 := ⟨_, rfl⟩
      have hP : va_P (dC, dI) vwCl [(h0, .inr (14, fs)), (qr, .inl (cI, 12, .inl g)), (qf, .inl (cI, 4040, .inl nf)), (ql, .inl (cI, 4100, .inl f_4))] H := by (try rw [hq_f_4]); (try rw [hq_k2]); exact hP
      have hD : va_D A [(h0, .inr (14, fs)), (qr, .inl (cI, 12, .inl g)), (qf, .inl (cI, 4040, .inl nf)), (ql, .inl (cI, 4100, .inl f_4))] := by (try rw [hq_f_4]); (try rw [hq_k2]); exact hD
      have hl : lv_has ls 7 [(4, .int (nI k2)), (0, .ref h0), (1, .ref qr), (2, .int 0), (3, .int (nI L))] := by (try rw [hq_f_4]); (try rw [hq_k2]); exact hl
      have hk2 : k2 ≤ L := by (try rw [hq_f_4]); omega
      obtain ⟨fu_5, hfu_5⟩ : ∃ z : Nat, L - k2 < z := ⟨_, Nat.lt_succ_self _⟩
      clear hq_k2
      clear hq_f_4
      revert hl
      revert hS
      revert hD
      revert hP
      revert hk2
      revert hfu_5
      generalize ls = ls_, locs = locs_, H = H_
      revert ls_
      revert locs_
      revert H_
      revert f_4
      revert k2
      induction fu_5 with
      | zero => intros; exact absurd (by assumption) (Nat.not_lt_zero _)
      | succ fu_5 ih_6 =>
        intro k2 f_4 H locs ls hfu_5 hk2 hP hD hS hl
        refine lv_iload hx hb dX14_nameOf_108 (lv_at hl 0 rfl) ?_
        refine lv_iload_n hx hb dX14_nameOf_110 rfl (lv_at hl 4 rfl) ?_
        refine lv_icmp_ge (tgt := 143) hx hb dX14_nameOf_111 (by decide) (fun c_7 => ?_) (fun c_7 => ?_)
        ·
          refine lv_aload_n hx hb dX14_nameOf_143 rfl (lv_at hl 1 rfl) ?_
          refine va_get (D := (dC, dI)) (ci := 14) (v := .ref qf) (C := RX14) (T := TX14) (N := 136) hx hb hts hin_X14 hown hK hP 0 rfl rfl 12 (by decide) (hts (.fieldLink RX14 110 "NeedHouseModel" "nameFrom" "[I") (List.mem_of_getElem? (i := 2) rfl)) (fun _ h9 => h9) (hF.at 1 rfl) dX14_nameOf_144 ?_
          refine lv_aload_n hx hb dX14_nameOf_147 rfl (lv_at hl 1 rfl) ?_
          refine va_get (D := (dC, dI)) (ci := 14) (v := .int (nI N)) (C := RX14) (T := TX14) (N := 136) hx hb hts hin_X14 hown hK hP 0 rfl rfl 13 (by decide) (hts (.fieldLink RX14 350 "NeedHouseModel" "names" "I") (List.mem_of_getElem? (i := 1) rfl)) (fun _ h9 => h9) (hF.at 0 rfl) dX14_nameOf_148 ?_
          refine lv_iconst (v := 1) hx hb dX14_nameOf_151 (by decide) ?_
          refine lv_iadd hx hb dX14_nameOf_152 ?_
          refine lv_topi (fun x_8 ex_8 => ?_)
          obtain rfl : x_8 = (nI (N + 1)) := ex_8.trans (by first | exact nI_1 _ | exact nI_add _ _)
          refine lv_aload_n hx hb dX14_nameOf_153 rfl (lv_at hl 1 rfl) ?_
          refine va_get (D := (dC, dI)) (ci := 14) (v := .ref qf) (C := RX14) (T := TX14) (N := 136) hx hb hts hin_X14 hown hK hP 0 rfl rfl 12 (by decide) (hts (.fieldLink RX14 110 "NeedHouseModel" "nameFrom" "[I") (List.mem_of_getElem? (i := 2) rfl)) (fun _ h9 => h9) (hF.at 1 rfl) dX14_nameOf_154 ?_
          refine lv_aload_n hx hb dX14_nameOf_157 rfl (lv_at hl 1 rfl) ?_
          refine va_get (D := (dC, dI)) (ci := 14) (v := .int (nI N)) (C := RX14) (T := TX14) (N := 136) hx hb hts hin_X14 hown hK hP 0 rfl rfl 13 (by decide) (hts (.fieldLink RX14 350 "NeedHouseModel" "names" "I") (List.mem_of_getElem? (i := 1) rfl)) (fun _ h9 => h9) (hF.at 0 rfl) dX14_nameOf_158 ?_
          refine va_iald hx hb hK hP 2 0 rfl rfl (vp_in_nI (by omega) (by decide)) dX14_nameOf_161 ?_
          refine lv_topi (fun x_9 ex_9 => ?_)
          obtain ⟨a_10, ha_10, ga_10⟩ := hnm N (by omega)
          obtain rfl : x_9 = nI a_10 := ex_9.trans (by rw [nI_clamp (by omega)]; exact ga_10)
          refine lv_iload_n hx hb dX14_nameOf_162 rfl (lv_at hl 4 rfl) ?_
          refine lv_iadd hx hb dX14_nameOf_163 ?_
          refine lv_topi (fun x_11 ex_11 => ?_)
          obtain rfl : x_11 = (nI (a_10 + L)) := ex_11.trans (nI_add _ _)
          refine va_iast hx hb hK hP hD hS 2 0 rfl rfl (vp_in_nI (by omega) (by decide)) dX14_nameOf_164 (fun H locs hP hD hS => ?_)
          have hP : va_P (dC, dI) vwCl [(h0, .inr (14, fs)), (qr, .inl (cI, 12, .inl g)), (qf, .inl (cI, 4040, .inl (upd nf ((nI (N + 1)) : Int32).toNatClampNeg (nI (a_10 + L))))), (ql, .inl (cI, 4100, .inl f_4))] H := hP
          have hD : va_D A [(h0, .inr (14, fs)), (qr, .inl (cI, 12, .inl g)), (qf, .inl (cI, 4040, .inl (upd nf ((nI (N + 1)) : Int32).toNatClampNeg (nI (a_10 + L))))), (ql, .inl (cI, 4100, .inl f_4))] := hD
          refine lv_aload_n hx hb dX14_nameOf_165 rfl (lv_at hl 1 rfl) ?_
          refine lv_dup hx hb dX14_nameOf_166 rfl ?_
          refine va_get (D := (dC, dI)) (ci := 14) (v := .int (nI N)) (C := RX14) (T := TX14) (N := 136) hx hb hts hin_X14 hown hK hP 0 rfl rfl 13 (by decide) (hts (.fieldLink RX14 350 "NeedHouseModel" "names" "I") (List.mem_of_getElem? (i := 1) rfl)) (fun _ h9 => h9) (hF.at 0 rfl) dX14_nameOf_167 ?_
          refine lv_iconst (v := 1) hx hb dX14_nameOf_170 (by decide) ?_
          refine lv_iadd hx hb dX14_nameOf_171 ?_
          refine lv_topi (fun x_12 ex_12 => ?_)
          obtain rfl : x_12 = (nI (N + 1)) := ex_12.trans (by first | exact nI_1 _ | exact nI_add _ _)
          refine va_put (D := (dC, dI)) (ci := 14) (v := .int (nI (N + 1))) (ty := .int) (C := RX14) (T := TX14) (N := 136) hx hb hts hin_X14 tyX14 tyX14_ok nmX14 hown hK hP hD hS 0 rfl rfl 13 (by decide) (hts (.fieldLink RX14 350 "NeedHouseModel" "names" "I") (List.mem_of_getElem? (i := 1) rfl)) (fun _ h9 => h9) rfl (by decide +kernel) rfl rfl (by rw [hF.1]; decide) dX14_nameOf_172 (fun H locs hP hD hS => ?_)
          have hP : va_P (dC, dI) vwCl [(h0, .inr (14, (fs.set 13 (.int (nI (N + 1)))))), (qr, .inl (cI, 12, .inl g)), (qf, .inl (cI, 4040, .inl (upd nf ((nI (N + 1)) : Int32).toNatClampNeg (nI (a_10 + L))))), (ql, .inl (cI, 4100, .inl f_4))] H := hP
          have hD : va_D A [(h0, .inr (14, (fs.set 13 (.int (nI (N + 1)))))), (qr, .inl (cI, 12, .inl g)), (qf, .inl (cI, 4040, .inl (upd nf ((nI (N + 1)) : Int32).toNatClampNeg (nI (a_10 + L))))), (ql, .inl (cI, 4100, .inl f_4))] := hD
          have hF_13 := hF.set 13 (.int (nI (N + 1))) (l' := [(13, .int (nI (N + 1))), (12, .ref qf), (11, .ref ql)]) (by decide) rfl
          have hE_14 := (sameF.rf (f := fs)).set 13 (.int (nI (N + 1)))
          generalize fs.set 13 (.int (nI (N + 1))) = fs_15 at hP hD hF_13 hE_14
          have hP : va_P (dC, dI) vwCl [(h0, .inr (14, fs_15)), (qr, .inl (cI, 12, .inl g)), (qf, .inl (cI, 4040, .inl (upd nf ((nI (N + 1)) : Int32).toNatClampNeg (nI (a_10 + L))))), (ql, .inl (cI, 4100, .inl f_4))] H := hP
          have hD : va_D A [(h0, .inr (14, fs_15)), (qr, .inl (cI, 12, .inl g)), (qf, .inl (cI, 4040, .inl (upd nf ((nI (N + 1)) : Int32).toNatClampNeg (nI (a_10 + L))))), (ql, .inl (cI, 4100, .inl f_4))] := hD
          refine lv_aload_n hx hb dX14_nameOf_175 rfl (lv_at hl 1 rfl) ?_
          refine va_get (D := (dC, dI)) (ci := 14) (v := .int (nI (N + 1))) (C := RX14) (T := TX14) (N := 136) hx hb hts hin_X14 hown hK hP 0 rfl rfl 13 (by decide) (hts (.fieldLink RX14 350 "NeedHouseModel" "names" "I") (List.mem_of_getElem? (i := 1) rfl)) (fun _ h9 => h9) (hF_13.at 0 rfl) dX14_nameOf_176 ?_
          refine lv_iconst (v := 1) hx hb dX14_nameOf_179 (by decide) ?_
          refine lv_isub hx hb dX14_nameOf_180 ?_
          refine lv_topi (fun x_16 ex_16 => ?_)
          have hP9 := hP.sub (ws' := [(h0, .inr (14, fs_15)), (qr, .inl (cI, 12, .inl g)), (qf, .inl (cI, 4040, .inl (upd nf ((nI (N + 1)) : Int32).toNatClampNeg (nI (a_10 + L))))), (ql, .inl (cI, 4100, .inl f_4))]) [0, 1, 2, 3] rfl
          have hD9 := hD.sub (ws' := [(h0, .inr (14, fs_15)), (qr, .inl (cI, 12, .inl g)), (qf, .inl (cI, 4040, .inl (upd nf ((nI (N + 1)) : Int32).toNatClampNeg (nI (a_10 + L))))), (ql, .inl (cI, 4100, .inl f_4))]) [0, 1, 2, 3] (by decide) rfl
          have hK9 := hK.sub (tys' := [(cI, .int)]) [0] rfl
          exact W.iret (v := x_16) hx hb hr (fun t ht hW => ⟨⟨x_16, ((fs_15, (upd nf ((nI (N + 1)) : Int32).toNatClampNeg (nI (a_10 + L))), f_4, N + 1)), rfl, ⟨hF_13.sub [0] rfl, hE_14.mono (by decide), Nat.le_refl _, by rw [nI_clamp (by omega)]; exact nmI_add hnm ha_10 hL⟩, by rw [ht]; exact hP9, va_K.moved hW.alike hK9, hD9⟩, hS.F ht⟩) hS.2.2 dX14_nameOf_181
        ·
          have hkl : k2 < L := by rcases Nat.lt_or_ge k2 L with q | q; exact q; exact absurd (nI_le q (by omega)) c_7
          refine lv_aload_n hx hb dX14_nameOf_114 rfl (lv_at hl 1 rfl) ?_
          refine va_get (D := (dC, dI)) (ci := 14) (v := .ref ql) (C := RX14) (T := TX14) (N := 136) hx hb hts hin_X14 hown hK hP 0 rfl rfl 11 (by decide) (hts (.fieldLink RX14 107 "NeedHouseModel" "letters" "[I") (List.mem_of_getElem? (i := 3) rfl)) (fun _ h9 => h9) (hF.at 2 rfl) dX14_nameOf_115 ?_
          refine lv_aload_n hx hb dX14_nameOf_118 rfl (lv_at hl 1 rfl) ?_
          refine va_get (D := (dC, dI)) (ci := 14) (v := .ref qf) (C := RX14) (T := TX14) (N := 136) hx hb hts hin_X14 hown hK hP 0 rfl rfl 12 (by decide) (hts (.fieldLink RX14 110 "NeedHouseModel" "nameFrom" "[I") (List.mem_of_getElem? (i := 2) rfl)) (fun _ h9 => h9) (hF.at 1 rfl) dX14_nameOf_119 ?_
          refine lv_aload_n hx hb dX14_nameOf_122 rfl (lv_at hl 1 rfl) ?_
          refine va_get (D := (dC, dI)) (ci := 14) (v := .int (nI N)) (C := RX14) (T := TX14) (N := 136) hx hb hts hin_X14 hown hK hP 0 rfl rfl 13 (by decide) (hts (.fieldLink RX14 350 "NeedHouseModel" "names" "I") (List.mem_of_getElem? (i := 1) rfl)) (fun _ h9 => h9) (hF.at 0 rfl) dX14_nameOf_123 ?_
          refine va_iald hx hb hK hP 2 0 rfl rfl (vp_in_nI (by omega) (by decide)) dX14_nameOf_126 ?_
          refine lv_topi (fun x_17 ex_17 => ?_)
          obtain ⟨a_18, ha_18, ga_18⟩ := hnm N (by omega)
          obtain rfl : x_17 = nI a_18 := ex_17.trans (by rw [nI_clamp (by omega)]; exact ga_18)
          refine lv_iload hx hb dX14_nameOf_127 (lv_at hl 0 rfl) ?_
          refine lv_iadd hx hb dX14_nameOf_129 ?_
          refine lv_topi (fun x_19 ex_19 => ?_)
          obtain rfl : x_19 = (nI (a_18 + k2)) := ex_19.trans (nI_add _ _)
          refine lv_aload_n hx hb dX14_nameOf_130 rfl (lv_at hl 2 rfl) ?_
          refine lv_iload_n hx hb dX14_nameOf_131 rfl (lv_at hl 3 rfl) ?_
          refine lv_iload hx hb dX14_nameOf_132 (lv_at hl 0 rfl) ?_
          refine lv_iadd hx hb dX14_nameOf_134 ?_
          refine lv_topi (fun x_20 ex_20 => ?_)
          obtain rfl : x_20 = nI k2 := ex_20.trans (nI_z _)
          refine va_iald hx hb hK hP 1 0 rfl rfl (vp_in_nI (by omega) (by decide)) dX14_nameOf_135 ?_
          refine lv_topi (fun x_21 ex_21 => ?_)
          refine va_iast hx hb hK hP hD hS 3 0 rfl rfl (vp_in_nI (by omega) (by decide)) dX14_nameOf_136 (fun H locs hP hD hS => ?_)
          have hP : va_P (dC, dI) vwCl [(h0, .inr (14, fs)), (qr, .inl (cI, 12, .inl g)), (qf, .inl (cI, 4040, .inl nf)), (ql, .inl (cI, 4100, .inl (upd f_4 ((nI (a_18 + k2)) : Int32).toNatClampNeg x_21)))] H := hP
          have hD : va_D A [(h0, .inr (14, fs)), (qr, .inl (cI, 12, .inl g)), (qf, .inl (cI, 4040, .inl nf)), (ql, .inl (cI, 4100, .inl (upd f_4 ((nI (a_18 + k2)) : Int32).toNatClampNeg x_21)))] := hD
          generalize upd f_4 ((nI (a_18 + k2)) : Int32).toNatClampNeg x_21 = f_22 at hP hD
          have hP : va_P (dC, dI) vwCl [(h0, .inr (14, fs)), (qr, .inl (cI, 12, .inl g)), (qf, .inl (cI, 4040, .inl nf)), (ql, .inl (cI, 4100, .inl f_22))] H := hP
          have hD : va_D A [(h0, .inr (14, fs)), (qr, .inl (cI, 12, .inl g)), (qf, .inl (cI, 4040, .inl nf)), (ql, .inl (cI, 4100, .inl f_22))] := hD
          refine lv_iinc (v := (nI (k2 + 1))) (lv' := [(4, .int (nI (k2 + 1))), (0, .ref h0), (1, .ref qr), (2, .int 0), (3, .int (nI L))]) hx hb dX14_nameOf_137 hl (k := 0) rfl (by first | exact nI_1 _ | exact nI_add _ _) (by decide) rfl (fun ls hl => ?_)
          refine lv_goto (tgt := 108) hx hb dX14_nameOf_140 (by decide) ?_
          refine ih_6 (k2 + 1) (f_22) _ _ ls ?_ (by omega) (hP.sub (ws' := [(h0, .inr (14, fs)), (qr, .inl (cI, 12, .inl g)), (qf, .inl (cI, 4040, .inl nf)), (ql, .inl (cI, 4100, .inl (f_22)))]) [0, 1, 2, 3] rfl) (hD.sub (ws' := [(h0, .inr (14, fs)), (qr, .inl (cI, 12, .inl g)), (qf, .inl (cI, 4040, .inl nf)), (ql, .inl (cI, 4100, .inl (f_22)))]) [0, 1, 2, 3] (by decide) rfl) hS (lv_sub hl [0, 1, 2, 3, 4] rfl)
          omega
    ·
      have hlt : i < N := by rcases Nat.lt_or_ge i N with q | q; exact q; exact absurd (nI_le q (by omega)) c_3
      refine lv_aload_n hx hb dX14_nameOf_12 rfl (lv_at hl 1 rfl) ?_
      refine va_get (D := (dC, dI)) (ci := 14) (v := .ref qf) (C := RX14) (T := TX14) (N := 136) hx hb hts hin_X14 hown hK hP 0 rfl rfl 12 (by decide) (hts (.fieldLink RX14 110 "NeedHouseModel" "nameFrom" "[I") (List.mem_of_getElem? (i := 2) rfl)) (fun _ h9 => h9) (hF.at 1 rfl) dX14_nameOf_13 ?_
      refine lv_iload hx hb dX14_nameOf_16 (lv_at hl 0 rfl) ?_
      refine lv_iconst (v := 1) hx hb dX14_nameOf_18 (by decide) ?_
      refine lv_iadd hx hb dX14_nameOf_19 ?_
      refine lv_topi (fun x_23 ex_23 => ?_)
      obtain rfl : x_23 = (nI (i + 1)) := ex_23.trans (by first | exact nI_1 _ | exact nI_add _ _)
      refine va_iald hx hb hK hP 2 0 rfl rfl (vp_in_nI (by omega) (by decide)) dX14_nameOf_20 ?_
      refine lv_topi (fun x_24 ex_24 => ?_)
      obtain ⟨a_25, ha_25, ga_25⟩ := hnm (i + 1) (by omega)
      obtain rfl : x_24 = nI a_25 := ex_24.trans (by rw [nI_clamp (by omega)]; exact ga_25)
      refine lv_aload_n hx hb dX14_nameOf_21 rfl (lv_at hl 1 rfl) ?_
      refine va_get (D := (dC, dI)) (ci := 14) (v := .ref qf) (C := RX14) (T := TX14) (N := 136) hx hb hts hin_X14 hown hK hP 0 rfl rfl 12 (by decide) (hts (.fieldLink RX14 110 "NeedHouseModel" "nameFrom" "[I") (List.mem_of_getElem? (i := 2) rfl)) (fun _ h9 => h9) (hF.at 1 rfl) dX14_nameOf_22 ?_
      refine lv_iload hx hb dX14_nameOf_25 (lv_at hl 0 rfl) ?_
      refine va_iald hx hb hK hP 2 0 rfl rfl (vp_in_nI (by omega) (by decide)) dX14_nameOf_27 ?_
      refine lv_topi (fun x_26 ex_26 => ?_)
      obtain ⟨a_27, ha_27, ga_27⟩ := hnm i (by omega)
      obtain rfl : x_26 = nI a_27 := ex_26.trans (by rw [nI_clamp (by omega)]; exact ga_27)
      refine lv_isub hx hb dX14_nameOf_28 ?_
      refine lv_topi (fun x_28 ex_28 => ?_)
      refine lv_iload_n hx hb dX14_nameOf_29 rfl (lv_at hl 4 rfl) ?_
      refine lv_icmp_ne (tgt := 37) hx hb dX14_nameOf_30 (by decide) (fun c_29 => ?_) (fun c_29 => ?_)
      ·
        refine lv_iconst (v := 0) hx hb dX14_nameOf_37 (by decide) ?_
        refine lv_istore (lv' := [(5, .int 0), (4, .int (nI i)), (0, .ref h0), (1, .ref qr), (2, .int 0), (3, .int (nI L))]) hx hb dX14_nameOf_38 hl (by decide) rfl (fun ls hl => ?_)
        refine lv_iconst (v := 0) hx hb dX14_nameOf_40 (by decide) ?_
        refine lv_istore (lv' := [(6, .int 0), (5, .int 0), (4, .int (nI i)), (0, .ref h0), (1, .ref qr), (2, .int 0), (3, .int (nI L))]) hx hb dX14_nameOf_41 hl (by decide) rfl (fun ls hl => ?_)
        refine lv_iload hx hb dX14_nameOf_43 (lv_at hl 0 rfl) ?_
        refine lv_iload_n hx hb dX14_nameOf_45 rfl (lv_at hl 6 rfl) ?_
        refine lv_icmp_ge (tgt := 91) hx hb dX14_nameOf_46 (by decide) (fun c_30 => ?_) (fun c_30 => ?_)
        ·
          refine lv_iload hx hb dX14_nameOf_91 (lv_at hl 1 rfl) ?_
          refine lv_if_eq (tgt := 99) hx hb dX14_nameOf_93 (by decide) (fun _ => ?_) (fun c_31 => absurd (by decide) c_31)
          refine lv_iinc (v := (nI (i + 1))) (lv' := [(4, .int (nI (i + 1))), (6, .int 0), (5, .int 0), (0, .ref h0), (1, .ref qr), (2, .int 0), (3, .int (nI L))]) hx hb dX14_nameOf_99 hl (k := 2) rfl (by first | exact nI_1 _ | exact nI_add _ _) (by decide) rfl (fun ls hl => ?_)
          refine lv_goto (tgt := 3) hx hb dX14_nameOf_102 (by decide) ?_
          refine ih_2 (i + 1)  _ _ ls ?_ (by omega) (hP.sub (ws' := [(h0, .inr (14, fs)), (qr, .inl (cI, 12, .inl g)), (qf, .inl (cI, 4040, .inl nf)), (ql, .inl (cI, 4100, .inl lt))]) [0, 1, 2, 3] rfl) (hD.sub (ws' := [(h0, .inr (14, fs)), (qr, .inl (cI, 12, .inl g)), (qf, .inl (cI, 4040, .inl nf)), (ql, .inl (cI, 4100, .inl lt))]) [0, 1, 2, 3] (by decide) rfl) hS (lv_sub hl [0, 3, 4, 5, 6] rfl)
          omega
        ·
          refine lv_iload hx hb dX14_nameOf_49 (lv_at hl 1 rfl) ?_
          refine lv_if_eq (tgt := 91) hx hb dX14_nameOf_51 (by decide) (fun _ => ?_) (fun c_32 => absurd (by decide) c_32)
          refine lv_iload hx hb dX14_nameOf_91 (lv_at hl 1 rfl) ?_
          refine lv_if_eq (tgt := 99) hx hb dX14_nameOf_93 (by decide) (fun _ => ?_) (fun c_33 => absurd (by decide) c_33)
          refine lv_iinc (v := (nI (i + 1))) (lv' := [(4, .int (nI (i + 1))), (6, .int 0), (5, .int 0), (0, .ref h0), (1, .ref qr), (2, .int 0), (3, .int (nI L))]) hx hb dX14_nameOf_99 hl (k := 2) rfl (by first | exact nI_1 _ | exact nI_add _ _) (by decide) rfl (fun ls hl => ?_)
          refine lv_goto (tgt := 3) hx hb dX14_nameOf_102 (by decide) ?_
          refine ih_2 (i + 1)  _ _ ls ?_ (by omega) (hP.sub (ws' := [(h0, .inr (14, fs)), (qr, .inl (cI, 12, .inl g)), (qf, .inl (cI, 4040, .inl nf)), (ql, .inl (cI, 4100, .inl lt))]) [0, 1, 2, 3] rfl) (hD.sub (ws' := [(h0, .inr (14, fs)), (qr, .inl (cI, 12, .inl g)), (qf, .inl (cI, 4040, .inl nf)), (ql, .inl (cI, 4100, .inl lt))]) [0, 1, 2, 3] (by decide) rfl) hS (lv_sub hl [0, 3, 4, 5, 6] rfl)
          omega
      ·
        refine lv_iconst (v := 1) hx hb dX14_nameOf_33 (by decide) ?_
        refine lv_goto (tgt := 38) hx hb dX14_nameOf_34 (by decide) ?_
        refine lv_istore (lv' := [(5, .int 1), (4, .int (nI i)), (0, .ref h0), (1, .ref qr), (2, .int 0), (3, .int (nI L))]) hx hb dX14_nameOf_38 hl (by decide) rfl (fun ls hl => ?_)
        refine lv_iconst (v := 0) hx hb dX14_nameOf_40 (by decide) ?_
        refine lv_istore (lv' := [(6, .int 0), (5, .int 1), (4, .int (nI i)), (0, .ref h0), (1, .ref qr), (2, .int 0), (3, .int (nI L))]) hx hb dX14_nameOf_41 hl (by decide) rfl (fun ls hl => ?_)
        obtain ⟨k, hq_k⟩ : ∃ z : Nat, z = 0 := ⟨_, rfl⟩
        obtain ⟨bv, hq_bv⟩ : ∃ z : Int32, z = 1 := ⟨_, rfl⟩
        have hP : va_P (dC, dI) vwCl [(h0, .inr (14, fs)), (qr, .inl (cI, 12, .inl g)), (qf, .inl (cI, 4040, .inl nf)), (ql, .inl (cI, 4100, .inl lt))] H := by (try rw [hq_k]); (try rw [hq_bv]); exact hP
        have hD : va_D A [(h0, .inr (14, fs)), (qr, .inl (cI, 12, .inl g)), (qf, .inl (cI, 4040, .inl nf)), (ql, .inl (cI, 4100, .inl lt))] := by (try rw [hq_k]); (try rw [hq_bv]); exact hD
        have hl : lv_has ls 7 [(6, .int (nI k)), (5, .int bv), (4, .int (nI i)), (0, .ref h0), (1, .ref qr), (2, .int 0), (3, .int (nI L))] := by (try rw [hq_k]); (try rw [hq_bv]); exact hl
        have hk : k ≤ L := by omega
        obtain ⟨fu_34, hfu_34⟩ : ∃ z : Nat, L - k < z := ⟨_, Nat.lt_succ_self _⟩
        clear hq_bv
        clear hq_k
        revert hl
        revert hS
        revert hD
        revert hP
        revert hk
        revert hfu_34
        generalize ls = ls_, locs = locs_, H = H_
        revert ls_
        revert locs_
        revert H_
        revert bv
        revert k
        induction fu_34 with
        | zero => intros; exact absurd (by assumption) (Nat.not_lt_zero _)
        | succ fu_34 ih_35 =>
          intro k bv H locs ls hfu_34 hk hP hD hS hl
          refine lv_iload hx hb dX14_nameOf_43 (lv_at hl 0 rfl) ?_
          refine lv_iload_n hx hb dX14_nameOf_45 rfl (lv_at hl 6 rfl) ?_
          refine lv_icmp_ge (tgt := 91) hx hb dX14_nameOf_46 (by decide) (fun c_36 => ?_) (fun c_36 => ?_)
          ·
            refine lv_iload hx hb dX14_nameOf_91 (lv_at hl 1 rfl) ?_
            refine lv_if_eq (tgt := 99) hx hb dX14_nameOf_93 (by decide) (fun c_37 => ?_) (fun c_37 => ?_)
            ·
              refine lv_iinc (v := (nI (i + 1))) (lv' := [(4, .int (nI (i + 1))), (6, .int (nI k)), (5, .int bv), (0, .ref h0), (1, .ref qr), (2, .int 0), (3, .int (nI L))]) hx hb dX14_nameOf_99 hl (k := 2) rfl (by first | exact nI_1 _ | exact nI_add _ _) (by decide) rfl (fun ls hl => ?_)
              refine lv_goto (tgt := 3) hx hb dX14_nameOf_102 (by decide) ?_
              refine ih_2 (i + 1)  _ _ ls ?_ (by omega) (hP.sub (ws' := [(h0, .inr (14, fs)), (qr, .inl (cI, 12, .inl g)), (qf, .inl (cI, 4040, .inl nf)), (ql, .inl (cI, 4100, .inl lt))]) [0, 1, 2, 3] rfl) (hD.sub (ws' := [(h0, .inr (14, fs)), (qr, .inl (cI, 12, .inl g)), (qf, .inl (cI, 4040, .inl nf)), (ql, .inl (cI, 4100, .inl lt))]) [0, 1, 2, 3] (by decide) rfl) hS (lv_sub hl [0, 3, 4, 5, 6] rfl)
              omega
            ·
              refine lv_iload hx hb dX14_nameOf_96 (lv_at hl 2 rfl) ?_
              have hP9 := hP.sub (ws' := [(h0, .inr (14, fs)), (qr, .inl (cI, 12, .inl g)), (qf, .inl (cI, 4040, .inl nf)), (ql, .inl (cI, 4100, .inl lt))]) [0, 1, 2, 3] rfl
              have hD9 := hD.sub (ws' := [(h0, .inr (14, fs)), (qr, .inl (cI, 12, .inl g)), (qf, .inl (cI, 4040, .inl nf)), (ql, .inl (cI, 4100, .inl lt))]) [0, 1, 2, 3] (by decide) rfl
              have hK9 := hK.sub (tys' := [(cI, .int)]) [0] rfl
              exact W.iret (v := nI i) hx hb hr (fun t ht hW => ⟨⟨nI i, ((fs, nf, lt, N)), rfl, ⟨hF.sub [0] rfl, (sameF.rf (f := fs)).mono (by decide), Nat.le_succ _, hnm⟩, by rw [ht]; exact hP9, va_K.moved hW.alike hK9, hD9⟩, hS.F ht⟩) hS.2.2 dX14_nameOf_98
          ·
            have hkl : k < L := by rcases Nat.lt_or_ge k L with q | q; exact q; exact absurd (nI_le q (by omega)) c_36
            refine lv_iload hx hb dX14_nameOf_49 (lv_at hl 1 rfl) ?_
            refine lv_if_eq (tgt := 91) hx hb dX14_nameOf_51 (by decide) (fun c_38 => ?_) (fun c_38 => ?_)
            ·
              refine lv_iload hx hb dX14_nameOf_91 (lv_at hl 1 rfl) ?_
              refine lv_if_eq (tgt := 99) hx hb dX14_nameOf_93 (by decide) (fun c_39 => ?_) (fun c_39 => ?_)
              ·
                refine lv_iinc (v := (nI (i + 1))) (lv' := [(4, .int (nI (i + 1))), (6, .int (nI k)), (5, .int bv), (0, .ref h0), (1, .ref qr), (2, .int 0), (3, .int (nI L))]) hx hb dX14_nameOf_99 hl (k := 2) rfl (by first | exact nI_1 _ | exact nI_add _ _) (by decide) rfl (fun ls hl => ?_)
                refine lv_goto (tgt := 3) hx hb dX14_nameOf_102 (by decide) ?_
                refine ih_2 (i + 1)  _ _ ls ?_ (by omega) (hP.sub (ws' := [(h0, .inr (14, fs)), (qr, .inl (cI, 12, .inl g)), (qf, .inl (cI, 4040, .inl nf)), (ql, .inl (cI, 4100, .inl lt))]) [0, 1, 2, 3] rfl) (hD.sub (ws' := [(h0, .inr (14, fs)), (qr, .inl (cI, 12, .inl g)), (qf, .inl (cI, 4040, .inl nf)), (ql, .inl (cI, 4100, .inl lt))]) [0, 1, 2, 3] (by decide) rfl) hS (lv_sub hl [0, 3, 4, 5, 6] rfl)
                omega
              ·
                refine lv_iload hx hb dX14_nameOf_96 (lv_at hl 2 rfl) ?_
                have hP9 := hP.sub (ws' := [(h0, .inr (14, fs)), (qr, .inl (cI, 12, .inl g)), (qf, .inl (cI, 4040, .inl nf)), (ql, .inl (cI, 4100, .inl lt))]) [0, 1, 2, 3] rfl
                have hD9 := hD.sub (ws' := [(h0, .inr (14, fs)), (qr, .inl (cI, 12, .inl g)), (qf, .inl (cI, 4040, .inl nf)), (ql, .inl (cI, 4100, .inl lt))]) [0, 1, 2, 3] (by decide) rfl
                have hK9 := hK.sub (tys' := [(cI, .int)]) [0] rfl
                exact W.iret (v := nI i) hx hb hr (fun t ht hW => ⟨⟨nI i, ((fs, nf, lt, N)), rfl, ⟨hF.sub [0] rfl, (sameF.rf (f := fs)).mono (by decide), Nat.le_succ _, hnm⟩, by rw [ht]; exact hP9, va_K.moved hW.alike hK9, hD9⟩, hS.F ht⟩) hS.2.2 dX14_nameOf_98
            ·
              refine lv_aload_n hx hb dX14_nameOf_54 rfl (lv_at hl 3 rfl) ?_
              refine va_get (D := (dC, dI)) (ci := 14) (v := .ref ql) (C := RX14) (T := TX14) (N := 136) hx hb hts hin_X14 hown hK hP 0 rfl rfl 11 (by decide) (hts (.fieldLink RX14 107 "NeedHouseModel" "letters" "[I") (List.mem_of_getElem? (i := 3) rfl)) (fun _ h9 => h9) (hF.at 2 rfl) dX14_nameOf_55 ?_
              refine lv_aload_n hx hb dX14_nameOf_58 rfl (lv_at hl 3 rfl) ?_
              refine va_get (D := (dC, dI)) (ci := 14) (v := .ref qf) (C := RX14) (T := TX14) (N := 136) hx hb hts hin_X14 hown hK hP 0 rfl rfl 12 (by decide) (hts (.fieldLink RX14 110 "NeedHouseModel" "nameFrom" "[I") (List.mem_of_getElem? (i := 2) rfl)) (fun _ h9 => h9) (hF.at 1 rfl) dX14_nameOf_59 ?_
              refine lv_iload hx hb dX14_nameOf_62 (lv_at hl 2 rfl) ?_
              refine va_iald hx hb hK hP 2 0 rfl rfl (vp_in_nI (by omega) (by decide)) dX14_nameOf_64 ?_
              refine lv_topi (fun x_40 ex_40 => ?_)
              obtain ⟨a_41, ha_41, ga_41⟩ := hnm i (by omega)
              obtain rfl : x_40 = nI a_41 := ex_40.trans (by rw [nI_clamp (by omega)]; exact ga_41)
              refine lv_iload hx hb dX14_nameOf_65 (lv_at hl 0 rfl) ?_
              refine lv_iadd hx hb dX14_nameOf_67 ?_
              refine lv_topi (fun x_42 ex_42 => ?_)
              obtain rfl : x_42 = (nI (a_41 + k)) := ex_42.trans (nI_add _ _)
              refine va_iald hx hb hK hP 3 0 rfl rfl (vp_in_nI (by omega) (by decide)) dX14_nameOf_68 ?_
              refine lv_topi (fun x_43 ex_43 => ?_)
              refine lv_aload_n hx hb dX14_nameOf_69 rfl (lv_at hl 4 rfl) ?_
              refine lv_iload_n hx hb dX14_nameOf_70 rfl (lv_at hl 5 rfl) ?_
              refine lv_iload hx hb dX14_nameOf_71 (lv_at hl 0 rfl) ?_
              refine lv_iadd hx hb dX14_nameOf_73 ?_
              refine lv_topi (fun x_44 ex_44 => ?_)
              obtain rfl : x_44 = nI k := ex_44.trans (nI_z _)
              refine va_iald hx hb hK hP 1 0 rfl rfl (vp_in_nI (by omega) (by decide)) dX14_nameOf_74 ?_
              refine lv_topi (fun x_45 ex_45 => ?_)
              refine lv_icmp_ne (tgt := 82) hx hb dX14_nameOf_75 (by decide) (fun c_46 => ?_) (fun c_46 => ?_)
              ·
                refine lv_iconst (v := 0) hx hb dX14_nameOf_82 (by decide) ?_
                refine lv_istore (lv' := [(5, .int 0), (6, .int (nI k)), (4, .int (nI i)), (0, .ref h0), (1, .ref qr), (2, .int 0), (3, .int (nI L))]) hx hb dX14_nameOf_83 hl (by decide) rfl (fun ls hl => ?_)
                refine lv_iinc (v := (nI (k + 1))) (lv' := [(6, .int (nI (k + 1))), (5, .int 0), (4, .int (nI i)), (0, .ref h0), (1, .ref qr), (2, .int 0), (3, .int (nI L))]) hx hb dX14_nameOf_85 hl (k := 1) rfl (by first | exact nI_1 _ | exact nI_add _ _) (by decide) rfl (fun ls hl => ?_)
                refine lv_goto (tgt := 43) hx hb dX14_nameOf_88 (by decide) ?_
                refine ih_35 (k + 1) (0)  _ _ ls ?_ (by omega) (hP.sub (ws' := [(h0, .inr (14, fs)), (qr, .inl (cI, 12, .inl g)), (qf, .inl (cI, 4040, .inl nf)), (ql, .inl (cI, 4100, .inl lt))]) [0, 1, 2, 3] rfl) (hD.sub (ws' := [(h0, .inr (14, fs)), (qr, .inl (cI, 12, .inl g)), (qf, .inl (cI, 4040, .inl nf)), (ql, .inl (cI, 4100, .inl lt))]) [0, 1, 2, 3] (by decide) rfl) hS (lv_sub hl [0, 1, 2, 3, 4, 5, 6] rfl)
                omega
              ·
                refine lv_iconst (v := 1) hx hb dX14_nameOf_78 (by decide) ?_
                refine lv_goto (tgt := 83) hx hb dX14_nameOf_79 (by decide) ?_
                refine lv_istore (lv' := [(5, .int 1), (6, .int (nI k)), (4, .int (nI i)), (0, .ref h0), (1, .ref qr), (2, .int 0), (3, .int (nI L))]) hx hb dX14_nameOf_83 hl (by decide) rfl (fun ls hl => ?_)
                refine lv_iinc (v := (nI (k + 1))) (lv' := [(6, .int (nI (k + 1))), (5, .int 1), (4, .int (nI i)), (0, .ref h0), (1, .ref qr), (2, .int 0), (3, .int (nI L))]) hx hb dX14_nameOf_85 hl (k := 1) rfl (by first | exact nI_1 _ | exact nI_add _ _) (by decide) rfl (fun ls hl => ?_)
                refine lv_goto (tgt := 43) hx hb dX14_nameOf_88 (by decide) ?_
                refine ih_35 (k + 1) (1)  _ _ ls ?_ (by omega) (hP.sub (ws' := [(h0, .inr (14, fs)), (qr, .inl (cI, 12, .inl g)), (qf, .inl (cI, 4040, .inl nf)), (ql, .inl (cI, 4100, .inl lt))]) [0, 1, 2, 3] rfl) (hD.sub (ws' := [(h0, .inr (14, fs)), (qr, .inl (cI, 12, .inl g)), (qf, .inl (cI, 4040, .inl nf)), (ql, .inl (cI, 4100, .inl lt))]) [0, 1, 2, 3] (by decide) rfl) hS (lv_sub hl [0, 1, 2, 3, 4, 5, 6] rfl)
                omega
