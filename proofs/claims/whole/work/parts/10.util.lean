def f_J13_compare (p0 : Int64) (p1 : Int64) : Int32 :=
  if 0 ≤ (lg_cmp p0 p1) then if (lg_cmp p0 p1) = 0 then 0
    else 1
  else (-1)
set_option maxHeartbeats 4000000 in
set_option maxRecDepth 100000 in
theorem k_J13_compare (l : Launch) (dC : Nat → ClassId) (dI : Nat → Nat → Nat) (cI cJ cB cZ : ClassId) (sz : Nat) (p0 : Int64) (p1 : Int64)  : Met l yJ13_compare wsJ13_compare ({ frames := 0, cells := 0, slots := 0, locals := 0 }) (va_Pc [.long p0, .long p1] (fun U => U.heap.size = sz ∧ va_P (dC, dI) vwCl [] U.heap ∧ va_K (dC, dI) vwCl [(cI, .int), (cJ, .long), (cB, .byte), (cZ, .boolean)] U ∧ va_D (fun _ => True) [] ∧ nw_ U)) (va_Qi (fun (r : Int32) (_ : Unit) => r = (f_J13_compare p0 p1)) (fun (_ : Unit) (w : State) => va_P (dC, dI) vwCl [] w.heap ∧ va_D (va_A [] sz) []) (va_A [] sz)) 0 0 (va_A [] sz) := by
  refine Met.ofW (cc := prog_11_method_42_code) (maxL := 4) (ret := (some .int)) (by decide) rfl ?_
  intro p e s m args below meth c s₁ B hml hv
  obtain ⟨rfl, hsz, hP, hK, hD0, hN⟩ := hv
  have hx := B.exec
  have hb := B.bytes
  have hr := B.returns
  have hw := hw_of (atoms_spec (ws := wsJ13_compare) B.pre)
  have hown : s.vm.findClass RJ13 = some m.cls := findClass_of_methodNamed B.named
  have hlocks := B.notSynchronized
  subst hsz
  have hD := hD0.self (sz := s.heap.size)
  generalize hAe : va_A [] s.heap.size = A at hD ⊢
  have hA : ∀ q : Nat, s.heap.size ≤ q → A q := fun q h => by rw [← hAe]; exact Or.inr h
  have hS : va_S A s.heap s.heap [] := va_S.rf
  have hP : va_P (dC, dI) vwCl [] s.heap := hP
  have hl := lv_entry ([.long p0, .long p1]) (n := 4) (Nat.le_of_ble_eq_true rfl)
  rw [lg_entry_eq]
  generalize (lg_sl ([.long p0, .long p1]) ++ List.replicate (4 - (lg_sl ([.long p0, .long p1])).length) Slot.unset).toArray = ls at hl ⊢
  have hl : lv_has ls 4 [(0, .long p0), (2, .long p1)] := hl
  refine lv_lload_n hx hb dJ13_compare_0 rfl (lv_at hl 0 rfl) ?_
  refine lv_lload_n hx hb dJ13_compare_1 rfl (lv_at hl 1 rfl) ?_
  refine W.lcmp hx hb dJ13_compare_2 ?_
  refine lv_if_ge (tgt := 10) hx hb dJ13_compare_3 (by decide) (fun c_3 => ?_) (fun c_3 => ?_)
  · refine lv_lload_n hx hb dJ13_compare_10 rfl (lv_at hl 0 rfl) ?_
    refine lv_lload_n hx hb dJ13_compare_11 rfl (lv_at hl 1 rfl) ?_
    refine W.lcmp hx hb dJ13_compare_12 ?_
    refine lv_if_ne (tgt := 20) hx hb dJ13_compare_13 (by decide) (fun c_13 => ?_) (fun c_13 => ?_)
    · refine lv_iconst (v := 1) hx hb dJ13_compare_20 (by decide) ?_
      have hF : (f_J13_compare p0 p1) = 1 := by rw [f_J13_compare, if_pos c_3, if_neg c_13]
      have hP9 := hP.sub (ws' := []) [] rfl
      have hD9 := hD.sub (ws' := []) [] (by decide) rfl
      exact W.iret (v := 1) hx hb hr (fun u hu hW => ⟨⟨1, (), rfl, hF.symm, by rw [hu]; exact hP9, hD9⟩, hS.F hu⟩) hS.2.2 dJ13_compare_21
    · refine lv_iconst (v := 0) hx hb dJ13_compare_16 (by decide) ?_
      refine lv_goto (tgt := 21) hx hb dJ13_compare_17 (by decide) ?_
      have hF : (f_J13_compare p0 p1) = 0 := by rw [f_J13_compare, if_pos c_3, if_pos c_13]
      have hP9 := hP.sub (ws' := []) [] rfl
      have hD9 := hD.sub (ws' := []) [] (by decide) rfl
      exact W.iret (v := 0) hx hb hr (fun u hu hW => ⟨⟨0, (), rfl, hF.symm, by rw [hu]; exact hP9, hD9⟩, hS.F hu⟩) hS.2.2 dJ13_compare_21
  · refine lv_iconst (v := (-1)) hx hb dJ13_compare_6 (by decide) ?_
    refine lv_goto (tgt := 21) hx hb dJ13_compare_7 (by decide) ?_
    have hF : (f_J13_compare p0 p1) = (-1) := by rw [f_J13_compare, if_neg c_3]
    have hP9 := hP.sub (ws' := []) [] rfl
    have hD9 := hD.sub (ws' := []) [] (by decide) rfl
    exact W.iret (v := (-1)) hx hb hr (fun u hu hW => ⟨⟨(-1), (), rfl, hF.symm, by rw [hu]; exact hP9, hD9⟩, hS.F hu⟩) hS.2.2 dJ13_compare_21
def f_J13_compareUnsigned (p0 : Int64) (p1 : Int64) : Int32 :=
  (f_J13_compare (p0 + (-9223372036854775808)) (p1 + (-9223372036854775808)))
set_option maxHeartbeats 4000000 in
set_option maxRecDepth 100000 in
theorem k_J13_compareUnsigned (l : Launch) (dC : Nat → ClassId) (dI : Nat → Nat → Nat) (cI cJ cB cZ : ClassId) (sz : Nat) (p0 : Int64) (p1 : Int64)  : Met l yJ13_compareUnsigned wsJ13_compareUnsigned ({ frames := 1, cells := 0, slots := 0, locals := 23 }) (va_Pc [.long p0, .long p1] (fun U => U.heap.size = sz ∧ va_P (dC, dI) vwCl [] U.heap ∧ va_K (dC, dI) vwCl [(cI, .int), (cJ, .long), (cB, .byte), (cZ, .boolean)] U ∧ va_D (fun _ => True) [] ∧ nw_ U)) (va_Qi (fun (r : Int32) (_ : Unit) => r = (f_J13_compareUnsigned p0 p1)) (fun (_ : Unit) (w : State) => va_P (dC, dI) vwCl [] w.heap ∧ va_D (va_A [] sz) []) (va_A [] sz)) 0 0 (va_A [] sz) := by
  refine Met.ofW (cc := prog_11_method_43_code) (maxL := 4) (ret := (some .int)) (by decide) rfl ?_
  intro p e s m args below meth c s₁ B hml hv
  obtain ⟨rfl, hsz, hP, hK, hD0, hN⟩ := hv
  have hx := B.exec
  have hb := B.bytes
  have hr := B.returns
  have hw := hw_of (atoms_spec (ws := wsJ13_compareUnsigned) B.pre)
  have hown : s.vm.findClass RJ13 = some m.cls := findClass_of_methodNamed B.named
  have hlocks := B.notSynchronized
  subst hsz
  have hD := hD0.self (sz := s.heap.size)
  generalize hAe : va_A [] s.heap.size = A at hD ⊢
  have hA : ∀ q : Nat, s.heap.size ≤ q → A q := fun q h => by rw [← hAe]; exact Or.inr h
  have hS : va_S A s.heap s.heap [] := va_S.rf
  have hP : va_P (dC, dI) vwCl [] s.heap := hP
  have hl := lv_entry ([.long p0, .long p1]) (n := 4) (Nat.le_of_ble_eq_true rfl)
  rw [lg_entry_eq]
  generalize (lg_sl ([.long p0, .long p1]) ++ List.replicate (4 - (lg_sl ([.long p0, .long p1])).length) Slot.unset).toArray = ls at hl ⊢
  have hl : lv_has ls 4 [(0, .long p0), (2, .long p1)] := hl
  refine lv_lload_n hx hb dJ13_compareUnsigned_0 rfl (lv_at hl 0 rfl) ?_
  refine lv_ldc2 (v := (-9223372036854775808)) hx hb hown (hw _ w_440) dJ13_compareUnsigned_1 ?_
  refine lv_ladd hx hb dJ13_compareUnsigned_4 ?_
  refine lv_lload_n hx hb dJ13_compareUnsigned_5 rfl (lv_at hl 1 rfl) ?_
  refine lv_ldc2 (v := (-9223372036854775808)) hx hb hown (hw _ w_440) dJ13_compareUnsigned_6 ?_
  refine lv_ladd hx hb dJ13_compareUnsigned_9 ?_
  have hPc := hP.sub (ws' := []) [] rfl
  have hDc := hD.sub (ws' := []) [] (by decide) rfl
  have hFc := va_free (wc := []) hD hS hA [] rfl
  refine va_calli (va_runS (As := [.long (p0 + (-9223372036854775808)), .long (p1 + (-9223372036854775808))]) (rest := []) ⟨hx, hb, hml, hown, hw⟩ (k_J13_compare l dC dI cI cJ cB cZ s.heap.size (p0 + (-9223372036854775808)) (p1 + (-9223372036854775808))) (va_cwS 2 hw (gS w_441 w_442 w_13 w_443) rfl rfl rfl (by decide +kernel) ⟨Nat.le_of_ble_eq_true rfl, Nat.le_of_ble_eq_true rfl⟩) ⟨fun a U g mk q => by obtain ⟨q0, q1, qP, qK, qD, qN⟩ := q; exact ⟨q0, q1, qP, va_K.moved (u := U) (U := U.calling g mk a) (Vm.Alike.refl U.vm) qK, qD, nw_same (s := U) (U := U.calling g mk a) rfl qN⟩, fun U hU hW => ⟨rfl, by rw [hU], by rw [hU]; exact hPc, va_K.moved hW.alike hK, hDc.weaken (fun _ _ _ _ => trivial), nw_warm hW hN⟩⟩ rfl rfl hl.1 rfl (lv_room (Nat.le_of_ble_eq_true rfl)) dJ13_compareUnsigned_10 ⟨Nat.le_of_ble_eq_true rfl, Nat.le_of_ble_eq_true rfl⟩) hS (fun q _ h => hFc q h) hFc (fun r_10 u t9 H1 locs ht hvm hR hB hz1 hk1 hS => ?_)
  replace hR := Eq.symm hR
  subst hR
  obtain ⟨hP1, hD1⟩ := hB
  rw [ht] at hP1
  obtain ⟨hP, hD⟩ := va_join (wr := []) (w1 := []) hP hD [] [] rfl rfl (by decide) (by decide) hk1 hFc hP1 hD1
  generalize H1 = H at hP hS ⊢
  have hP : va_P (dC, dI) vwCl [] H := hP
  have hD : va_D A [] := hD
  have hF : (f_J13_compareUnsigned p0 p1) = (f_J13_compare (p0 + (-9223372036854775808)) (p1 + (-9223372036854775808))) := by rfl
  have hP9 := hP.sub (ws' := []) [] rfl
  have hD9 := hD.sub (ws' := []) [] (by decide) rfl
  exact W.iret (v := (f_J13_compare (p0 + (-9223372036854775808)) (p1 + (-9223372036854775808)))) hx hb hr (fun u hu hW => ⟨⟨(f_J13_compare (p0 + (-9223372036854775808)) (p1 + (-9223372036854775808))), (), rfl, hF.symm, by rw [hu]; exact hP9, hD9⟩, hS.F hu⟩) hS.2.2 dJ13_compareUnsigned_13
def f_X5_slotAt (p0 : Int64) (p1 : Int64) (p2 : Int32) (p3 : Int32) : Int32 :=
  if (lg_cmp (p0 - p1) 0) < 0 then (-1)
  else if 0 ≤ (lg_cmp ((p0 - p1) >>> ((Int32.toInt64 p2) &&& 63)) (Int32.toInt64 p3)) then (-1)
    else if (lg_cmp (((p0 - p1) >>> ((Int32.toInt64 p2) &&& 63)) <<< ((Int32.toInt64 p2) &&& 63)) (p0 - p1)) = 0 then (Int64.toInt32 ((p0 - p1) >>> ((Int32.toInt64 p2) &&& 63)))
      else (-1)
set_option maxHeartbeats 4000000 in
set_option maxRecDepth 100000 in
theorem k_X5_slotAt (l : Launch) (dC : Nat → ClassId) (dI : Nat → Nat → Nat) (cI cJ cB cZ : ClassId) (sz : Nat) (p0 : Int64) (p1 : Int64) (p2 : Int32) (p3 : Int32)  : Met l yX5_slotAt wsX5_slotAt ({ frames := 0, cells := 0, slots := 0, locals := 0 }) (va_Pc [.long p0, .long p1, .int p2, .int p3] (fun U => U.heap.size = sz ∧ va_P (dC, dI) vwCl [] U.heap ∧ va_K (dC, dI) vwCl [(cI, .int), (cJ, .long), (cB, .byte), (cZ, .boolean)] U ∧ va_D (fun _ => True) [] ∧ nw_ U)) (va_Qi (fun (r : Int32) (_ : Unit) => r = (f_X5_slotAt p0 p1 p2 p3)) (fun (_ : Unit) (w : State) => va_P (dC, dI) vwCl [] w.heap ∧ va_D (va_A [] sz) []) (va_A [] sz)) 0 0 (va_A [] sz) := by
  refine Met.ofW (cc := prog_1_method_14_code) (maxL := 10) (ret := (some .int)) (by decide) rfl ?_
  intro p e s m args below meth c s₁ B hml hv
  obtain ⟨rfl, hsz, hP, hK, hD0, hN⟩ := hv
  have hx := B.exec
  have hb := B.bytes
  have hr := B.returns
  have hw := hw_of (atoms_spec (ws := wsX5_slotAt) B.pre)
  have hown : s.vm.findClass RX5 = some m.cls := findClass_of_methodNamed B.named
  have hlocks := B.notSynchronized
  subst hsz
  have hD := hD0.self (sz := s.heap.size)
  generalize hAe : va_A [] s.heap.size = A at hD ⊢
  have hA : ∀ q : Nat, s.heap.size ≤ q → A q := fun q h => by rw [← hAe]; exact Or.inr h
  have hS : va_S A s.heap s.heap [] := va_S.rf
  have hP : va_P (dC, dI) vwCl [] s.heap := hP
  have hl := lv_entry ([.long p0, .long p1, .int p2, .int p3]) (n := 10) (Nat.le_of_ble_eq_true rfl)
  rw [lg_entry_eq]
  generalize (lg_sl ([.long p0, .long p1, .int p2, .int p3]) ++ List.replicate (10 - (lg_sl ([.long p0, .long p1, .int p2, .int p3])).length) Slot.unset).toArray = ls at hl ⊢
  have hl : lv_has ls 10 [(0, .long p0), (2, .long p1), (4, .int p2), (5, .int p3)] := hl
  refine lv_lload_n hx hb dX5_slotAt_0 rfl (lv_at hl 0 rfl) ?_
  refine lv_lload_n hx hb dX5_slotAt_1 rfl (lv_at hl 1 rfl) ?_
  refine lv_lsub hx hb dX5_slotAt_2 ?_
  refine lv_lstore (lv' := [(6, .long (p0 - p1)), (0, .long p0), (2, .long p1), (4, .int p2), (5, .int p3)]) hx hb dX5_slotAt_3 hl (by decide) rfl (fun ls hl => ?_)
  refine lv_lload hx hb dX5_slotAt_5 (lv_at hl 0 rfl) ?_
  refine lv_iload hx hb dX5_slotAt_7 (lv_at hl 3 rfl) ?_
  refine lv_lshr hx hb dX5_slotAt_9 rfl ?_
  refine lv_lstore (lv' := [(8, .long ((p0 - p1) >>> ((Int32.toInt64 p2) &&& 63))), (6, .long (p0 - p1)), (0, .long p0), (2, .long p1), (4, .int p2), (5, .int p3)]) hx hb dX5_slotAt_10 hl (by decide) rfl (fun ls hl => ?_)
  refine lv_lload hx hb dX5_slotAt_12 (lv_at hl 1 rfl) ?_
  refine lv_lconst (v := 0) hx hb dX5_slotAt_14 (by decide) ?_
  refine W.lcmp hx hb dX5_slotAt_15 ?_
  refine lv_if_lt (tgt := 39) hx hb dX5_slotAt_16 (by decide) (fun c_16 => ?_) (fun c_16 => ?_)
  · refine lv_iconst (v := (-1)) hx hb dX5_slotAt_39 (by decide) ?_
    have hF : (f_X5_slotAt p0 p1 p2 p3) = (-1) := by rw [f_X5_slotAt, if_pos c_16]
    have hP9 := hP.sub (ws' := []) [] rfl
    have hD9 := hD.sub (ws' := []) [] (by decide) rfl
    exact W.iret (v := (-1)) hx hb hr (fun u hu hW => ⟨⟨(-1), (), rfl, hF.symm, by rw [hu]; exact hP9, hD9⟩, hS.F hu⟩) hS.2.2 dX5_slotAt_40
  · refine lv_lload hx hb dX5_slotAt_19 (lv_at hl 0 rfl) ?_
    refine lv_iload hx hb dX5_slotAt_21 (lv_at hl 5 rfl) ?_
    refine lv_i2l hx hb dX5_slotAt_23 rfl ?_
    refine W.lcmp hx hb dX5_slotAt_24 ?_
    refine lv_if_ge (tgt := 39) hx hb dX5_slotAt_25 (by decide) (fun c_25 => ?_) (fun c_25 => ?_)
    · refine lv_iconst (v := (-1)) hx hb dX5_slotAt_39 (by decide) ?_
      have hF : (f_X5_slotAt p0 p1 p2 p3) = (-1) := by rw [f_X5_slotAt, if_neg c_16, if_pos c_25]
      have hP9 := hP.sub (ws' := []) [] rfl
      have hD9 := hD.sub (ws' := []) [] (by decide) rfl
      exact W.iret (v := (-1)) hx hb hr (fun u hu hW => ⟨⟨(-1), (), rfl, hF.symm, by rw [hu]; exact hP9, hD9⟩, hS.F hu⟩) hS.2.2 dX5_slotAt_40
    · refine lv_lload hx hb dX5_slotAt_28 (lv_at hl 0 rfl) ?_
      refine lv_iload hx hb dX5_slotAt_30 (lv_at hl 4 rfl) ?_
      refine lv_lshl hx hb dX5_slotAt_32 rfl ?_
      refine lv_lload hx hb dX5_slotAt_33 (lv_at hl 1 rfl) ?_
      refine W.lcmp hx hb dX5_slotAt_35 ?_
      refine lv_if_eq (tgt := 41) hx hb dX5_slotAt_36 (by decide) (fun c_36 => ?_) (fun c_36 => ?_)
      · refine lv_lload hx hb dX5_slotAt_41 (lv_at hl 0 rfl) ?_
        refine lv_l2i hx hb dX5_slotAt_43 rfl ?_
        have hF : (f_X5_slotAt p0 p1 p2 p3) = (Int64.toInt32 ((p0 - p1) >>> ((Int32.toInt64 p2) &&& 63))) := by rw [f_X5_slotAt, if_neg c_16, if_neg c_25, if_pos c_36]
        have hP9 := hP.sub (ws' := []) [] rfl
        have hD9 := hD.sub (ws' := []) [] (by decide) rfl
        exact W.iret (v := (Int64.toInt32 ((p0 - p1) >>> ((Int32.toInt64 p2) &&& 63)))) hx hb hr (fun u hu hW => ⟨⟨(Int64.toInt32 ((p0 - p1) >>> ((Int32.toInt64 p2) &&& 63))), (), rfl, hF.symm, by rw [hu]; exact hP9, hD9⟩, hS.F hu⟩) hS.2.2 dX5_slotAt_44
      · refine lv_iconst (v := (-1)) hx hb dX5_slotAt_39 (by decide) ?_
        have hF : (f_X5_slotAt p0 p1 p2 p3) = (-1) := by rw [f_X5_slotAt, if_neg c_16, if_neg c_25, if_neg c_36]
        have hP9 := hP.sub (ws' := []) [] rfl
        have hD9 := hD.sub (ws' := []) [] (by decide) rfl
        exact W.iret (v := (-1)) hx hb hr (fun u hu hW => ⟨⟨(-1), (), rfl, hF.symm, by rw [hu]; exact hP9, hD9⟩, hS.F hu⟩) hS.2.2 dX5_slotAt_40
def f_X5_canAccess (p0 : Int32) (p1 : Int64) (p2 : Int32) : Int32 :=
  if p2 = 1 then if (lg_cmp p1 0) < 0 then 0
    else if p0 < 0 then 0
      else if 2 < p0 then 0
        else 1
  else if p2 = 2 then if (lg_cmp p1 0) < 0 then 0
      else if p0 < 0 then 0
        else if 2 < p0 then 0
          else 1
    else if p2 = 4 then if (lg_cmp p1 0) < 0 then 0
        else if p0 < 0 then 0
          else if 2 < p0 then 0
            else 1
      else if p2 = 8 then if (lg_cmp p1 0) < 0 then 0
          else if p0 < 0 then 0
            else if 2 < p0 then 0
              else 1
        else 0
set_option maxHeartbeats 4000000 in
set_option maxRecDepth 100000 in
theorem k_X5_canAccess (l : Launch) (dC : Nat → ClassId) (dI : Nat → Nat → Nat) (cI cJ cB cZ : ClassId) (sz : Nat) (p0 : Int32) (p1 : Int64) (p2 : Int32)  : Met l yX5_canAccess wsX5_canAccess ({ frames := 0, cells := 0, slots := 0, locals := 0 }) (va_Pc [.int p0, .long p1, .int p2] (fun U => U.heap.size = sz ∧ va_P (dC, dI) vwCl [] U.heap ∧ va_K (dC, dI) vwCl [(cI, .int), (cJ, .long), (cB, .byte), (cZ, .boolean)] U ∧ va_D (fun _ => True) [] ∧ nw_ U)) (va_Qi (fun (r : Int32) (_ : Unit) => r = (f_X5_canAccess p0 p1 p2)) (fun (_ : Unit) (w : State) => va_P (dC, dI) vwCl [] w.heap ∧ va_D (va_A [] sz) []) (va_A [] sz)) 0 0 (va_A [] sz) := by
  refine Met.ofW (cc := prog_1_method_12_code) (maxL := 5) (ret := (some .boolean)) (by decide) rfl ?_
  intro p e s m args below meth c s₁ B hml hv
  obtain ⟨rfl, hsz, hP, hK, hD0, hN⟩ := hv
  have hx := B.exec
  have hb := B.bytes
  have hr := B.returns
  have hw := hw_of (atoms_spec (ws := wsX5_canAccess) B.pre)
  have hown : s.vm.findClass RX5 = some m.cls := findClass_of_methodNamed B.named
  have hlocks := B.notSynchronized
  subst hsz
  have hD := hD0.self (sz := s.heap.size)
  generalize hAe : va_A [] s.heap.size = A at hD ⊢
  have hA : ∀ q : Nat, s.heap.size ≤ q → A q := fun q h => by rw [← hAe]; exact Or.inr h
  have hS : va_S A s.heap s.heap [] := va_S.rf
  have hP : va_P (dC, dI) vwCl [] s.heap := hP
  have hl := lv_entry ([.int p0, .long p1, .int p2]) (n := 5) (Nat.le_of_ble_eq_true rfl)
  rw [lg_entry_eq]
  generalize (lg_sl ([.int p0, .long p1, .int p2]) ++ List.replicate (5 - (lg_sl ([.int p0, .long p1, .int p2])).length) Slot.unset).toArray = ls at hl ⊢
  have hl : lv_has ls 5 [(0, .int p0), (1, .long p1), (3, .int p2)] := hl
  refine lv_iload_n hx hb dX5_canAccess_0 rfl (lv_at hl 2 rfl) ?_
  refine lv_iconst (v := 1) hx hb dX5_canAccess_1 (by decide) ?_
  refine lv_icmp_eq (tgt := 21) hx hb dX5_canAccess_2 (by decide) (fun c_2 => ?_) (fun c_2 => ?_)
  · refine lv_iconst (v := 1) hx hb dX5_canAccess_21 (by decide) ?_
    refine lv_goto (tgt := 26) hx hb dX5_canAccess_22 (by decide) ?_
    refine lv_istore (lv' := [(4, .int 1), (0, .int p0), (1, .long p1), (3, .int p2)]) hx hb dX5_canAccess_26 hl (by decide) rfl (fun ls hl => ?_)
    refine lv_iload hx hb dX5_canAccess_28 (lv_at hl 0 rfl) ?_
    refine lv_if_eq (tgt := 52) hx hb dX5_canAccess_30 (by decide) (fun c_30 => ?_) (fun c_30 => ?_)
    · exact absurd c_30 (by decide)
    · refine lv_lload_n hx hb dX5_canAccess_33 rfl (lv_at hl 2 rfl) ?_
      refine lv_lconst (v := 0) hx hb dX5_canAccess_34 (by decide) ?_
      refine W.lcmp hx hb dX5_canAccess_35 ?_
      refine lv_if_lt (tgt := 52) hx hb dX5_canAccess_36 (by decide) (fun c_36 => ?_) (fun c_36 => ?_)
      · refine lv_iconst (v := 0) hx hb dX5_canAccess_52 (by decide) ?_
        have hF : (f_X5_canAccess p0 p1 p2) = 0 := by rw [f_X5_canAccess, if_pos c_2, if_pos c_36]
        have hP9 := hP.sub (ws' := []) [] rfl
        have hD9 := hD.sub (ws' := []) [] (by decide) rfl
        exact W.zret (v := 0) hx hb hr rfl (fun u hu hW => ⟨⟨0, (), rfl, hF.symm, by rw [hu]; exact hP9, hD9⟩, hS.F hu⟩) hS.2.2 dX5_canAccess_53
      · refine lv_iload_n hx hb dX5_canAccess_39 rfl (lv_at hl 1 rfl) ?_
        refine lv_if_lt (tgt := 52) hx hb dX5_canAccess_40 (by decide) (fun c_40 => ?_) (fun c_40 => ?_)
        · refine lv_iconst (v := 0) hx hb dX5_canAccess_52 (by decide) ?_
          have hF : (f_X5_canAccess p0 p1 p2) = 0 := by rw [f_X5_canAccess, if_pos c_2, if_neg c_36, if_pos c_40]
          have hP9 := hP.sub (ws' := []) [] rfl
          have hD9 := hD.sub (ws' := []) [] (by decide) rfl
          exact W.zret (v := 0) hx hb hr rfl (fun u hu hW => ⟨⟨0, (), rfl, hF.symm, by rw [hu]; exact hP9, hD9⟩, hS.F hu⟩) hS.2.2 dX5_canAccess_53
        · refine lv_iload_n hx hb dX5_canAccess_43 rfl (lv_at hl 1 rfl) ?_
          refine lv_iconst (v := 2) hx hb dX5_canAccess_44 (by decide) ?_
          refine lv_icmp_gt (tgt := 52) hx hb dX5_canAccess_45 (by decide) (fun c_45 => ?_) (fun c_45 => ?_)
          · refine lv_iconst (v := 0) hx hb dX5_canAccess_52 (by decide) ?_
            have hF : (f_X5_canAccess p0 p1 p2) = 0 := by rw [f_X5_canAccess, if_pos c_2, if_neg c_36, if_neg c_40, if_pos c_45]
            have hP9 := hP.sub (ws' := []) [] rfl
            have hD9 := hD.sub (ws' := []) [] (by decide) rfl
            exact W.zret (v := 0) hx hb hr rfl (fun u hu hW => ⟨⟨0, (), rfl, hF.symm, by rw [hu]; exact hP9, hD9⟩, hS.F hu⟩) hS.2.2 dX5_canAccess_53
          · refine lv_iconst (v := 1) hx hb dX5_canAccess_48 (by decide) ?_
            refine lv_goto (tgt := 53) hx hb dX5_canAccess_49 (by decide) ?_
            have hF : (f_X5_canAccess p0 p1 p2) = 1 := by rw [f_X5_canAccess, if_pos c_2, if_neg c_36, if_neg c_40, if_neg c_45]
            have hP9 := hP.sub (ws' := []) [] rfl
            have hD9 := hD.sub (ws' := []) [] (by decide) rfl
            exact W.zret (v := 1) hx hb hr rfl (fun u hu hW => ⟨⟨1, (), rfl, hF.symm, by rw [hu]; exact hP9, hD9⟩, hS.F hu⟩) hS.2.2 dX5_canAccess_53
  · refine lv_iload_n hx hb dX5_canAccess_5 rfl (lv_at hl 2 rfl) ?_
    refine lv_iconst (v := 2) hx hb dX5_canAccess_6 (by decide) ?_
    refine lv_icmp_eq (tgt := 21) hx hb dX5_canAccess_7 (by decide) (fun c_7 => ?_) (fun c_7 => ?_)
    · refine lv_iconst (v := 1) hx hb dX5_canAccess_21 (by decide) ?_
      refine lv_goto (tgt := 26) hx hb dX5_canAccess_22 (by decide) ?_
      refine lv_istore (lv' := [(4, .int 1), (0, .int p0), (1, .long p1), (3, .int p2)]) hx hb dX5_canAccess_26 hl (by decide) rfl (fun ls hl => ?_)
      refine lv_iload hx hb dX5_canAccess_28 (lv_at hl 0 rfl) ?_
      refine lv_if_eq (tgt := 52) hx hb dX5_canAccess_30 (by decide) (fun c_30 => ?_) (fun c_30 => ?_)
      · exact absurd c_30 (by decide)
      · refine lv_lload_n hx hb dX5_canAccess_33 rfl (lv_at hl 2 rfl) ?_
        refine lv_lconst (v := 0) hx hb dX5_canAccess_34 (by decide) ?_
        refine W.lcmp hx hb dX5_canAccess_35 ?_
        refine lv_if_lt (tgt := 52) hx hb dX5_canAccess_36 (by decide) (fun c_36 => ?_) (fun c_36 => ?_)
        · refine lv_iconst (v := 0) hx hb dX5_canAccess_52 (by decide) ?_
          have hF : (f_X5_canAccess p0 p1 p2) = 0 := by rw [f_X5_canAccess, if_neg c_2, if_pos c_7, if_pos c_36]
          have hP9 := hP.sub (ws' := []) [] rfl
          have hD9 := hD.sub (ws' := []) [] (by decide) rfl
          exact W.zret (v := 0) hx hb hr rfl (fun u hu hW => ⟨⟨0, (), rfl, hF.symm, by rw [hu]; exact hP9, hD9⟩, hS.F hu⟩) hS.2.2 dX5_canAccess_53
        · refine lv_iload_n hx hb dX5_canAccess_39 rfl (lv_at hl 1 rfl) ?_
          refine lv_if_lt (tgt := 52) hx hb dX5_canAccess_40 (by decide) (fun c_40 => ?_) (fun c_40 => ?_)
          · refine lv_iconst (v := 0) hx hb dX5_canAccess_52 (by decide) ?_
            have hF : (f_X5_canAccess p0 p1 p2) = 0 := by rw [f_X5_canAccess, if_neg c_2, if_pos c_7, if_neg c_36, if_pos c_40]
            have hP9 := hP.sub (ws' := []) [] rfl
            have hD9 := hD.sub (ws' := []) [] (by decide) rfl
            exact W.zret (v := 0) hx hb hr rfl (fun u hu hW => ⟨⟨0, (), rfl, hF.symm, by rw [hu]; exact hP9, hD9⟩, hS.F hu⟩) hS.2.2 dX5_canAccess_53
          · refine lv_iload_n hx hb dX5_canAccess_43 rfl (lv_at hl 1 rfl) ?_
            refine lv_iconst (v := 2) hx hb dX5_canAccess_44 (by decide) ?_
            refine lv_icmp_gt (tgt := 52) hx hb dX5_canAccess_45 (by decide) (fun c_45 => ?_) (fun c_45 => ?_)
            · refine lv_iconst (v := 0) hx hb dX5_canAccess_52 (by decide) ?_
              have hF : (f_X5_canAccess p0 p1 p2) = 0 := by rw [f_X5_canAccess, if_neg c_2, if_pos c_7, if_neg c_36, if_neg c_40, if_pos c_45]
              have hP9 := hP.sub (ws' := []) [] rfl
              have hD9 := hD.sub (ws' := []) [] (by decide) rfl
              exact W.zret (v := 0) hx hb hr rfl (fun u hu hW => ⟨⟨0, (), rfl, hF.symm, by rw [hu]; exact hP9, hD9⟩, hS.F hu⟩) hS.2.2 dX5_canAccess_53
            · refine lv_iconst (v := 1) hx hb dX5_canAccess_48 (by decide) ?_
              refine lv_goto (tgt := 53) hx hb dX5_canAccess_49 (by decide) ?_
              have hF : (f_X5_canAccess p0 p1 p2) = 1 := by rw [f_X5_canAccess, if_neg c_2, if_pos c_7, if_neg c_36, if_neg c_40, if_neg c_45]
              have hP9 := hP.sub (ws' := []) [] rfl
              have hD9 := hD.sub (ws' := []) [] (by decide) rfl
              exact W.zret (v := 1) hx hb hr rfl (fun u hu hW => ⟨⟨1, (), rfl, hF.symm, by rw [hu]; exact hP9, hD9⟩, hS.F hu⟩) hS.2.2 dX5_canAccess_53
    · refine lv_iload_n hx hb dX5_canAccess_10 rfl (lv_at hl 2 rfl) ?_
      refine lv_iconst (v := 4) hx hb dX5_canAccess_11 (by decide) ?_
      refine lv_icmp_eq (tgt := 21) hx hb dX5_canAccess_12 (by decide) (fun c_12 => ?_) (fun c_12 => ?_)
      · refine lv_iconst (v := 1) hx hb dX5_canAccess_21 (by decide) ?_
        refine lv_goto (tgt := 26) hx hb dX5_canAccess_22 (by decide) ?_
        refine lv_istore (lv' := [(4, .int 1), (0, .int p0), (1, .long p1), (3, .int p2)]) hx hb dX5_canAccess_26 hl (by decide) rfl (fun ls hl => ?_)
        refine lv_iload hx hb dX5_canAccess_28 (lv_at hl 0 rfl) ?_
        refine lv_if_eq (tgt := 52) hx hb dX5_canAccess_30 (by decide) (fun c_30 => ?_) (fun c_30 => ?_)
        · exact absurd c_30 (by decide)
        · refine lv_lload_n hx hb dX5_canAccess_33 rfl (lv_at hl 2 rfl) ?_
          refine lv_lconst (v := 0) hx hb dX5_canAccess_34 (by decide) ?_
          refine W.lcmp hx hb dX5_canAccess_35 ?_
          refine lv_if_lt (tgt := 52) hx hb dX5_canAccess_36 (by decide) (fun c_36 => ?_) (fun c_36 => ?_)
          · refine lv_iconst (v := 0) hx hb dX5_canAccess_52 (by decide) ?_
            have hF : (f_X5_canAccess p0 p1 p2) = 0 := by rw [f_X5_canAccess, if_neg c_2, if_neg c_7, if_pos c_12, if_pos c_36]
            have hP9 := hP.sub (ws' := []) [] rfl
            have hD9 := hD.sub (ws' := []) [] (by decide) rfl
            exact W.zret (v := 0) hx hb hr rfl (fun u hu hW => ⟨⟨0, (), rfl, hF.symm, by rw [hu]; exact hP9, hD9⟩, hS.F hu⟩) hS.2.2 dX5_canAccess_53
          · refine lv_iload_n hx hb dX5_canAccess_39 rfl (lv_at hl 1 rfl) ?_
            refine lv_if_lt (tgt := 52) hx hb dX5_canAccess_40 (by decide) (fun c_40 => ?_) (fun c_40 => ?_)
            · refine lv_iconst (v := 0) hx hb dX5_canAccess_52 (by decide) ?_
              have hF : (f_X5_canAccess p0 p1 p2) = 0 := by rw [f_X5_canAccess, if_neg c_2, if_neg c_7, if_pos c_12, if_neg c_36, if_pos c_40]
              have hP9 := hP.sub (ws' := []) [] rfl
              have hD9 := hD.sub (ws' := []) [] (by decide) rfl
              exact W.zret (v := 0) hx hb hr rfl (fun u hu hW => ⟨⟨0, (), rfl, hF.symm, by rw [hu]; exact hP9, hD9⟩, hS.F hu⟩) hS.2.2 dX5_canAccess_53
            · refine lv_iload_n hx hb dX5_canAccess_43 rfl (lv_at hl 1 rfl) ?_
              refine lv_iconst (v := 2) hx hb dX5_canAccess_44 (by decide) ?_
              refine lv_icmp_gt (tgt := 52) hx hb dX5_canAccess_45 (by decide) (fun c_45 => ?_) (fun c_45 => ?_)
              · refine lv_iconst (v := 0) hx hb dX5_canAccess_52 (by decide) ?_
                have hF : (f_X5_canAccess p0 p1 p2) = 0 := by rw [f_X5_canAccess, if_neg c_2, if_neg c_7, if_pos c_12, if_neg c_36, if_neg c_40, if_pos c_45]
                have hP9 := hP.sub (ws' := []) [] rfl
                have hD9 := hD.sub (ws' := []) [] (by decide) rfl
                exact W.zret (v := 0) hx hb hr rfl (fun u hu hW => ⟨⟨0, (), rfl, hF.symm, by rw [hu]; exact hP9, hD9⟩, hS.F hu⟩) hS.2.2 dX5_canAccess_53
              · refine lv_iconst (v := 1) hx hb dX5_canAccess_48 (by decide) ?_
                refine lv_goto (tgt := 53) hx hb dX5_canAccess_49 (by decide) ?_
                have hF : (f_X5_canAccess p0 p1 p2) = 1 := by rw [f_X5_canAccess, if_neg c_2, if_neg c_7, if_pos c_12, if_neg c_36, if_neg c_40, if_neg c_45]
                have hP9 := hP.sub (ws' := []) [] rfl
                have hD9 := hD.sub (ws' := []) [] (by decide) rfl
                exact W.zret (v := 1) hx hb hr rfl (fun u hu hW => ⟨⟨1, (), rfl, hF.symm, by rw [hu]; exact hP9, hD9⟩, hS.F hu⟩) hS.2.2 dX5_canAccess_53
      · refine lv_iload_n hx hb dX5_canAccess_15 rfl (lv_at hl 2 rfl) ?_
        refine lv_bipush (v := 8) hx hb dX5_canAccess_16 (by decide) ?_
        refine lv_icmp_ne (tgt := 25) hx hb dX5_canAccess_18 (by decide) (fun c_18 => ?_) (fun c_18 => ?_)
        · refine lv_iconst (v := 0) hx hb dX5_canAccess_25 (by decide) ?_
          refine lv_istore (lv' := [(4, .int 0), (0, .int p0), (1, .long p1), (3, .int p2)]) hx hb dX5_canAccess_26 hl (by decide) rfl (fun ls hl => ?_)
          refine lv_iload hx hb dX5_canAccess_28 (lv_at hl 0 rfl) ?_
          refine lv_if_eq (tgt := 52) hx hb dX5_canAccess_30 (by decide) (fun c_30 => ?_) (fun c_30 => ?_)
          · refine lv_iconst (v := 0) hx hb dX5_canAccess_52 (by decide) ?_
            have hF : (f_X5_canAccess p0 p1 p2) = 0 := by rw [f_X5_canAccess, if_neg c_2, if_neg c_7, if_neg c_12, if_neg c_18]
            have hP9 := hP.sub (ws' := []) [] rfl
            have hD9 := hD.sub (ws' := []) [] (by decide) rfl
            exact W.zret (v := 0) hx hb hr rfl (fun u hu hW => ⟨⟨0, (), rfl, hF.symm, by rw [hu]; exact hP9, hD9⟩, hS.F hu⟩) hS.2.2 dX5_canAccess_53
          · exact absurd (by decide) c_30
        · refine lv_iconst (v := 1) hx hb dX5_canAccess_21 (by decide) ?_
          refine lv_goto (tgt := 26) hx hb dX5_canAccess_22 (by decide) ?_
          refine lv_istore (lv' := [(4, .int 1), (0, .int p0), (1, .long p1), (3, .int p2)]) hx hb dX5_canAccess_26 hl (by decide) rfl (fun ls hl => ?_)
          refine lv_iload hx hb dX5_canAccess_28 (lv_at hl 0 rfl) ?_
          refine lv_if_eq (tgt := 52) hx hb dX5_canAccess_30 (by decide) (fun c_30 => ?_) (fun c_30 => ?_)
          · exact absurd c_30 (by decide)
          · refine lv_lload_n hx hb dX5_canAccess_33 rfl (lv_at hl 2 rfl) ?_
            refine lv_lconst (v := 0) hx hb dX5_canAccess_34 (by decide) ?_
            refine W.lcmp hx hb dX5_canAccess_35 ?_
            refine lv_if_lt (tgt := 52) hx hb dX5_canAccess_36 (by decide) (fun c_36 => ?_) (fun c_36 => ?_)
            · refine lv_iconst (v := 0) hx hb dX5_canAccess_52 (by decide) ?_
              have hF : (f_X5_canAccess p0 p1 p2) = 0 := by rw [f_X5_canAccess, if_neg c_2, if_neg c_7, if_neg c_12, if_pos c_18, if_pos c_36]
              have hP9 := hP.sub (ws' := []) [] rfl
              have hD9 := hD.sub (ws' := []) [] (by decide) rfl
              exact W.zret (v := 0) hx hb hr rfl (fun u hu hW => ⟨⟨0, (), rfl, hF.symm, by rw [hu]; exact hP9, hD9⟩, hS.F hu⟩) hS.2.2 dX5_canAccess_53
            · refine lv_iload_n hx hb dX5_canAccess_39 rfl (lv_at hl 1 rfl) ?_
              refine lv_if_lt (tgt := 52) hx hb dX5_canAccess_40 (by decide) (fun c_40 => ?_) (fun c_40 => ?_)
              · refine lv_iconst (v := 0) hx hb dX5_canAccess_52 (by decide) ?_
                have hF : (f_X5_canAccess p0 p1 p2) = 0 := by rw [f_X5_canAccess, if_neg c_2, if_neg c_7, if_neg c_12, if_pos c_18, if_neg c_36, if_pos c_40]
                have hP9 := hP.sub (ws' := []) [] rfl
                have hD9 := hD.sub (ws' := []) [] (by decide) rfl
                exact W.zret (v := 0) hx hb hr rfl (fun u hu hW => ⟨⟨0, (), rfl, hF.symm, by rw [hu]; exact hP9, hD9⟩, hS.F hu⟩) hS.2.2 dX5_canAccess_53
              · refine lv_iload_n hx hb dX5_canAccess_43 rfl (lv_at hl 1 rfl) ?_
                refine lv_iconst (v := 2) hx hb dX5_canAccess_44 (by decide) ?_
                refine lv_icmp_gt (tgt := 52) hx hb dX5_canAccess_45 (by decide) (fun c_45 => ?_) (fun c_45 => ?_)
                · refine lv_iconst (v := 0) hx hb dX5_canAccess_52 (by decide) ?_
                  have hF : (f_X5_canAccess p0 p1 p2) = 0 := by rw [f_X5_canAccess, if_neg c_2, if_neg c_7, if_neg c_12, if_pos c_18, if_neg c_36, if_neg c_40, if_pos c_45]
                  have hP9 := hP.sub (ws' := []) [] rfl
                  have hD9 := hD.sub (ws' := []) [] (by decide) rfl
                  exact W.zret (v := 0) hx hb hr rfl (fun u hu hW => ⟨⟨0, (), rfl, hF.symm, by rw [hu]; exact hP9, hD9⟩, hS.F hu⟩) hS.2.2 dX5_canAccess_53
                · refine lv_iconst (v := 1) hx hb dX5_canAccess_48 (by decide) ?_
                  refine lv_goto (tgt := 53) hx hb dX5_canAccess_49 (by decide) ?_
                  have hF : (f_X5_canAccess p0 p1 p2) = 1 := by rw [f_X5_canAccess, if_neg c_2, if_neg c_7, if_neg c_12, if_pos c_18, if_neg c_36, if_neg c_40, if_neg c_45]
                  have hP9 := hP.sub (ws' := []) [] rfl
                  have hD9 := hD.sub (ws' := []) [] (by decide) rfl
                  exact W.zret (v := 1) hx hb hr rfl (fun u hu hW => ⟨⟨1, (), rfl, hF.symm, by rw [hu]; exact hP9, hD9⟩, hS.F hu⟩) hS.2.2 dX5_canAccess_53
def f_X4_isUpperHalf (p0 : Int64) : Int32 :=
  if (lg_cmp (p0 &&& 4) 0) = 0 then 0
  else 1
set_option maxHeartbeats 4000000 in
set_option maxRecDepth 100000 in
theorem k_X4_isUpperHalf (l : Launch) (dC : Nat → ClassId) (dI : Nat → Nat → Nat) (cI cJ cB cZ : ClassId) (sz : Nat) (p0 : Int64)  : Met l yX4_isUpperHalf wsX4_isUpperHalf ({ frames := 0, cells := 0, slots := 0, locals := 0 }) (va_Pc [.long p0] (fun U => U.heap.size = sz ∧ va_P (dC, dI) vwCl [] U.heap ∧ va_K (dC, dI) vwCl [(cI, .int), (cJ, .long), (cB, .byte), (cZ, .boolean)] U ∧ va_D (fun _ => True) [] ∧ nw_ U)) (va_Qi (fun (r : Int32) (_ : Unit) => r = (f_X4_isUpperHalf p0)) (fun (_ : Unit) (w : State) => va_P (dC, dI) vwCl [] w.heap ∧ va_D (va_A [] sz) []) (va_A [] sz)) 0 0 (va_A [] sz) := by
  refine Met.ofW (cc := prog_6_method_9_code) (maxL := 2) (ret := (some .boolean)) (by decide) rfl ?_
  intro p e s m args below meth c s₁ B hml hv
  obtain ⟨rfl, hsz, hP, hK, hD0, hN⟩ := hv
  have hx := B.exec
  have hb := B.bytes
  have hr := B.returns
  have hw := hw_of (atoms_spec (ws := wsX4_isUpperHalf) B.pre)
  have hown : s.vm.findClass RX4 = some m.cls := findClass_of_methodNamed B.named
  have hlocks := B.notSynchronized
  subst hsz
  have hD := hD0.self (sz := s.heap.size)
  generalize hAe : va_A [] s.heap.size = A at hD ⊢
  have hA : ∀ q : Nat, s.heap.size ≤ q → A q := fun q h => by rw [← hAe]; exact Or.inr h
  have hS : va_S A s.heap s.heap [] := va_S.rf
  have hP : va_P (dC, dI) vwCl [] s.heap := hP
  have hl := lv_entry ([.long p0]) (n := 2) (Nat.le_of_ble_eq_true rfl)
  rw [lg_entry_eq]
  generalize (lg_sl ([.long p0]) ++ List.replicate (2 - (lg_sl ([.long p0])).length) Slot.unset).toArray = ls at hl ⊢
  have hl : lv_has ls 2 [(0, .long p0)] := hl
  refine lv_lload_n hx hb dX4_isUpperHalf_0 rfl (lv_at hl 0 rfl) ?_
  refine lv_ldc2 (v := 4) hx hb hown (hw _ w_325) dX4_isUpperHalf_1 ?_
  refine lv_land hx hb dX4_isUpperHalf_4 ?_
  refine lv_lconst (v := 0) hx hb dX4_isUpperHalf_5 (by decide) ?_
  refine W.lcmp hx hb dX4_isUpperHalf_6 ?_
  refine lv_if_eq (tgt := 14) hx hb dX4_isUpperHalf_7 (by decide) (fun c_7 => ?_) (fun c_7 => ?_)
  · refine lv_iconst (v := 0) hx hb dX4_isUpperHalf_14 (by decide) ?_
    have hF : (f_X4_isUpperHalf p0) = 0 := by rw [f_X4_isUpperHalf, if_pos c_7]
    have hP9 := hP.sub (ws' := []) [] rfl
    have hD9 := hD.sub (ws' := []) [] (by decide) rfl
    exact W.zret (v := 0) hx hb hr rfl (fun u hu hW => ⟨⟨0, (), rfl, hF.symm, by rw [hu]; exact hP9, hD9⟩, hS.F hu⟩) hS.2.2 dX4_isUpperHalf_15
  · refine lv_iconst (v := 1) hx hb dX4_isUpperHalf_10 (by decide) ?_
    refine lv_goto (tgt := 15) hx hb dX4_isUpperHalf_11 (by decide) ?_
    have hF : (f_X4_isUpperHalf p0) = 1 := by rw [f_X4_isUpperHalf, if_neg c_7]
    have hP9 := hP.sub (ws' := []) [] rfl
    have hD9 := hD.sub (ws' := []) [] (by decide) rfl
    exact W.zret (v := 1) hx hb hr rfl (fun u hu hW => ⟨⟨1, (), rfl, hF.symm, by rw [hu]; exact hP9, hD9⟩, hS.F hu⟩) hS.2.2 dX4_isUpperHalf_15
