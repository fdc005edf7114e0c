theorem put01 (v : QS) (p : Int32) : (f_X1_put v p).1 = 0 ∨ (f_X1_put v p).1 = 1 := by
  unfold f_X1_put
  split
  · exact Or.inr rfl
  · exact Or.inl rfl

def f_X3_showsOthers (vS : SS) : Int32 :=
  if (vS.2.1 &&& 128) = 0 then 0
  else 1
set_option maxHeartbeats 4000000 in
set_option maxRecDepth 100000 in
theorem k_X3_showsOthers (l : Launch) (dC : Nat → ClassId) (dI : Nat → Nat → Nat) (cI cJ cB cZ : ClassId) (sH qH oH : Nat) (sz : Nat) (vS : SS)  : Met l yX3_showsOthers wsX3_showsOthers ({ frames := 0, cells := 0, slots := 0, locals := 0 }) (va_Pc [.ref sH] (fun U => U.heap.size = sz ∧ va_P (dC, dI) vwCl [(sH, .inr (3, [.ref qH, .ref oH, .int vS.1, .int vS.2.1, .int vS.2.2.1, .int vS.2.2.2.1, .int vS.2.2.2.2.1, .int vS.2.2.2.2.2.1, .int vS.2.2.2.2.2.2.1, .int vS.2.2.2.2.2.2.2]))] U.heap ∧ va_K (dC, dI) vwCl [(cI, .int), (cJ, .long), (cB, .byte), (cZ, .boolean)] U ∧ va_D (fun _ => True) [(sH, .inr (3, [.ref qH, .ref oH, .int vS.1, .int vS.2.1, .int vS.2.2.1, .int vS.2.2.2.1, .int vS.2.2.2.2.1, .int vS.2.2.2.2.2.1, .int vS.2.2.2.2.2.2.1, .int vS.2.2.2.2.2.2.2]))] ∧ nw_ U)) (va_Qi (fun (r : Int32) (_ : Unit) => r = (f_X3_showsOthers vS)) (fun (_ : Unit) (w : State) => va_P (dC, dI) vwCl [(sH, .inr (3, [.ref qH, .ref oH, .int vS.1, .int vS.2.1, .int vS.2.2.1, .int vS.2.2.2.1, .int vS.2.2.2.2.1, .int vS.2.2.2.2.2.1, .int vS.2.2.2.2.2.2.1, .int vS.2.2.2.2.2.2.2]))] w.heap ∧ va_D (va_A [(sH, .inr (3, [.ref qH, .ref oH, .int vS.1, .int vS.2.1, .int vS.2.2.1, .int vS.2.2.2.1, .int vS.2.2.2.2.1, .int vS.2.2.2.2.2.1, .int vS.2.2.2.2.2.2.1, .int vS.2.2.2.2.2.2.2]))] sz) [(sH, .inr (3, [.ref qH, .ref oH, .int vS.1, .int vS.2.1, .int vS.2.2.1, .int vS.2.2.2.1, .int vS.2.2.2.2.1, .int vS.2.2.2.2.2.1, .int vS.2.2.2.2.2.2.1, .int vS.2.2.2.2.2.2.2]))]) (va_A [(sH, .inr (3, [.ref qH, .ref oH, .int vS.1, .int vS.2.1, .int vS.2.2.1, .int vS.2.2.2.1, .int vS.2.2.2.2.1, .int vS.2.2.2.2.2.1, .int vS.2.2.2.2.2.2.1, .int vS.2.2.2.2.2.2.2]))] sz)) 0 0 (va_A [(sH, .inr (3, [.ref qH, .ref oH, .int vS.1, .int vS.2.1, .int vS.2.2.1, .int vS.2.2.2.1, .int vS.2.2.2.2.1, .int vS.2.2.2.2.2.1, .int vS.2.2.2.2.2.2.1, .int vS.2.2.2.2.2.2.2]))] sz) := by
  refine Met.ofW (cc := prog_5_method_6_code) (maxL := 1) (ret := (some .boolean)) (by decide) rfl ?_
  intro p e s m args below meth c s₁ B hml hv
  obtain ⟨rfl, hsz, hP, hK, hD0, hN⟩ := hv
  have hx := B.exec
  have hb := B.bytes
  have hr := B.returns
  have hw := hw_of (atoms_spec (ws := wsX3_showsOthers) B.pre)
  have hown : s.vm.findClass RX3 = some m.cls := findClass_of_methodNamed B.named
  have hlocks := B.notSynchronized
  subst hsz
  have hD := hD0.self (sz := s.heap.size)
  generalize hAe : va_A [(sH, .inr (3, [.ref qH, .ref oH, .int vS.1, .int vS.2.1, .int vS.2.2.1, .int vS.2.2.2.1, .int vS.2.2.2.2.1, .int vS.2.2.2.2.2.1, .int vS.2.2.2.2.2.2.1, .int vS.2.2.2.2.2.2.2]))] s.heap.size = A at hD ⊢
  have hA : ∀ q : Nat, s.heap.size ≤ q → A q := fun q h => by rw [← hAe]; exact Or.inr h
  have hS : va_S A s.heap s.heap [] := va_S.rf
  have hP : va_P (dC, dI) vwCl [(sH, .inr (3, [.ref qH, .ref oH, .int vS.1, .int vS.2.1, .int vS.2.2.1, .int vS.2.2.2.1, .int vS.2.2.2.2.1, .int vS.2.2.2.2.2.1, .int vS.2.2.2.2.2.2.1, .int vS.2.2.2.2.2.2.2]))] s.heap := hP
  have hl := lv_entry ([.ref sH]) (n := 1) (Nat.le_of_ble_eq_true rfl)
  rw [lg_entry_eq]
  generalize (lg_sl ([.ref sH]) ++ List.replicate (1 - (lg_sl ([.ref sH])).length) Slot.unset).toArray = ls at hl ⊢
  have hl : lv_has ls 1 [(0, .ref sH)] := hl
  refine lv_aload_n hx hb dX3_showsOthers_0 rfl (lv_at hl 0 rfl) ?_
  refine va_get (D := (dC, dI)) (ci := 3) (v := .int vS.2.1) (C := RX3) (T := TX3) (N := 10) hx hb hw inWX3 hown hK hP 0 rfl rfl 3 (by decide) (hw _ w_119) (fun _ h9 => h9) rfl dX3_showsOthers_1 ?_
  refine lv_sipush (v := 128) hx hb dX3_showsOthers_4 (by decide) ?_
  refine lv_iand hx hb dX3_showsOthers_7 ?_
  refine lv_if_eq (tgt := 15) hx hb dX3_showsOthers_8 (by decide) (fun c_8 => ?_) (fun c_8 => ?_)
  · refine lv_iconst (v := 0) hx hb dX3_showsOthers_15 (by decide) ?_
    have hF : (f_X3_showsOthers vS) = 0 := by rw [f_X3_showsOthers, if_pos c_8]
    have hP9 := hP.sub (ws' := [(sH, .inr (3, [.ref qH, .ref oH, .int vS.1, .int vS.2.1, .int vS.2.2.1, .int vS.2.2.2.1, .int vS.2.2.2.2.1, .int vS.2.2.2.2.2.1, .int vS.2.2.2.2.2.2.1, .int vS.2.2.2.2.2.2.2]))]) [0] rfl
    have hD9 := hD.sub (ws' := [(sH, .inr (3, [.ref qH, .ref oH, .int vS.1, .int vS.2.1, .int vS.2.2.1, .int vS.2.2.2.1, .int vS.2.2.2.2.1, .int vS.2.2.2.2.2.1, .int vS.2.2.2.2.2.2.1, .int vS.2.2.2.2.2.2.2]))]) [0] (by decide) rfl
    exact W.zret (v := 0) hx hb hr rfl (fun u hu hW => ⟨⟨0, (), rfl, hF.symm, by rw [hu]; exact hP9, hD9⟩, hS.F hu⟩) hS.2.2 dX3_showsOthers_16
  · refine lv_iconst (v := 1) hx hb dX3_showsOthers_11 (by decide) ?_
    refine lv_goto (tgt := 16) hx hb dX3_showsOthers_12 (by decide) ?_
    have hF : (f_X3_showsOthers vS) = 1 := by rw [f_X3_showsOthers, if_neg c_8]
    have hP9 := hP.sub (ws' := [(sH, .inr (3, [.ref qH, .ref oH, .int vS.1, .int vS.2.1, .int vS.2.2.1, .int vS.2.2.2.1, .int vS.2.2.2.2.1, .int vS.2.2.2.2.2.1, .int vS.2.2.2.2.2.2.1, .int vS.2.2.2.2.2.2.2]))]) [0] rfl
    have hD9 := hD.sub (ws' := [(sH, .inr (3, [.ref qH, .ref oH, .int vS.1, .int vS.2.1, .int vS.2.2.1, .int vS.2.2.2.1, .int vS.2.2.2.2.1, .int vS.2.2.2.2.2.1, .int vS.2.2.2.2.2.2.1, .int vS.2.2.2.2.2.2.2]))]) [0] (by decide) rfl
    exact W.zret (v := 1) hx hb hr rfl (fun u hu hW => ⟨⟨1, (), rfl, hF.symm, by rw [hu]; exact hP9, hD9⟩, hS.F hu⟩) hS.2.2 dX3_showsOthers_16
def f_X3_cause (vS : SS) (vQ : QS) : Int32 :=
  if vS.2.2.2.2.2.2.1 = 0 then if vQ.2.2.1 ≤ 0 then if vS.2.2.2.2.2.2.2 = 0 then 1
      else if (vS.1 &&& 2) = 0 then 1
        else 2
    else if (vS.1 &&& 1) = 0 then if vS.2.2.2.2.2.2.2 = 0 then 1
        else if (vS.1 &&& 2) = 0 then 1
          else 2
      else 4
  else if (vS.1 &&& 4) = 0 then if vQ.2.2.1 ≤ 0 then if vS.2.2.2.2.2.2.2 = 0 then 1
        else if (vS.1 &&& 2) = 0 then 1
          else 2
      else if (vS.1 &&& 1) = 0 then if vS.2.2.2.2.2.2.2 = 0 then 1
          else if (vS.1 &&& 2) = 0 then 1
            else 2
        else 4
    else 6
set_option maxHeartbeats 4000000 in
set_option maxRecDepth 100000 in
theorem k_X3_cause (l : Launch) (dC : Nat → ClassId) (dI : Nat → Nat → Nat) (cI cJ cB cZ : ClassId) (sH qH oH qA : Nat) (sz : Nat) (vS : SS) (vQ : QS)  : Met l yX3_cause wsX3_cause ({ frames := 0, cells := 0, slots := 0, locals := 0 }) (va_Pc [.ref sH] (fun U => U.heap.size = sz ∧ va_P (dC, dI) vwCl [(sH, .inr (3, [.ref qH, .ref oH, .int vS.1, .int vS.2.1, .int vS.2.2.1, .int vS.2.2.2.1, .int vS.2.2.2.2.1, .int vS.2.2.2.2.2.1, .int vS.2.2.2.2.2.2.1, .int vS.2.2.2.2.2.2.2])), (qH, .inr (1, [.ref qA, .int vQ.2.1, .int vQ.2.2.1, .int vQ.2.2.2])), (qA, .inl (cI, 16, .inl vQ.1))] U.heap ∧ va_K (dC, dI) vwCl [(cI, .int), (cJ, .long), (cB, .byte), (cZ, .boolean)] U ∧ va_D (fun _ => True) [(sH, .inr (3, [.ref qH, .ref oH, .int vS.1, .int vS.2.1, .int vS.2.2.1, .int vS.2.2.2.1, .int vS.2.2.2.2.1, .int vS.2.2.2.2.2.1, .int vS.2.2.2.2.2.2.1, .int vS.2.2.2.2.2.2.2])), (qH, .inr (1, [.ref qA, .int vQ.2.1, .int vQ.2.2.1, .int vQ.2.2.2])), (qA, .inl (cI, 16, .inl vQ.1))] ∧ nw_ U)) (va_Qi (fun (r : Int32) (_ : Unit) => r = (f_X3_cause vS vQ)) (fun (_ : Unit) (w : State) => va_P (dC, dI) vwCl [(sH, .inr (3, [.ref qH, .ref oH, .int vS.1, .int vS.2.1, .int vS.2.2.1, .int vS.2.2.2.1, .int vS.2.2.2.2.1, .int vS.2.2.2.2.2.1, .int vS.2.2.2.2.2.2.1, .int vS.2.2.2.2.2.2.2])), (qH, .inr (1, [.ref qA, .int vQ.2.1, .int vQ.2.2.1, .int vQ.2.2.2])), (qA, .inl (cI, 16, .inl vQ.1))] w.heap ∧ va_D (va_A [(sH, .inr (3, [.ref qH, .ref oH, .int vS.1, .int vS.2.1, .int vS.2.2.1, .int vS.2.2.2.1, .int vS.2.2.2.2.1, .int vS.2.2.2.2.2.1, .int vS.2.2.2.2.2.2.1, .int vS.2.2.2.2.2.2.2])), (qH, .inr (1, [.ref qA, .int vQ.2.1, .int vQ.2.2.1, .int vQ.2.2.2])), (qA, .inl (cI, 16, .inl vQ.1))] sz) [(sH, .inr (3, [.ref qH, .ref oH, .int vS.1, .int vS.2.1, .int vS.2.2.1, .int vS.2.2.2.1, .int vS.2.2.2.2.1, .int vS.2.2.2.2.2.1, .int vS.2.2.2.2.2.2.1, .int vS.2.2.2.2.2.2.2])), (qH, .inr (1, [.ref qA, .int vQ.2.1, .int vQ.2.2.1, .int vQ.2.2.2])), (qA, .inl (cI, 16, .inl vQ.1))]) (va_A [(sH, .inr (3, [.ref qH, .ref oH, .int vS.1, .int vS.2.1, .int vS.2.2.1, .int vS.2.2.2.1, .int vS.2.2.2.2.1, .int vS.2.2.2.2.2.1, .int vS.2.2.2.2.2.2.1, .int vS.2.2.2.2.2.2.2])), (qH, .inr (1, [.ref qA, .int vQ.2.1, .int vQ.2.2.1, .int vQ.2.2.2])), (qA, .inl (cI, 16, .inl vQ.1))] sz)) 0 0 (va_A [(sH, .inr (3, [.ref qH, .ref oH, .int vS.1, .int vS.2.1, .int vS.2.2.1, .int vS.2.2.2.1, .int vS.2.2.2.2.1, .int vS.2.2.2.2.2.1, .int vS.2.2.2.2.2.2.1, .int vS.2.2.2.2.2.2.2])), (qH, .inr (1, [.ref qA, .int vQ.2.1, .int vQ.2.2.1, .int vQ.2.2.2])), (qA, .inl (cI, 16, .inl vQ.1))] sz) := by
  refine Met.ofW (cc := prog_5_method_5_code) (maxL := 1) (ret := (some .int)) (by decide) rfl ?_
  intro p e s m args below meth c s₁ B hml hv
  obtain ⟨rfl, hsz, hP, hK, hD0, hN⟩ := hv
  have hx := B.exec
  have hb := B.bytes
  have hr := B.returns
  have hw := hw_of (atoms_spec (ws := wsX3_cause) B.pre)
  have hown : s.vm.findClass RX3 = some m.cls := findClass_of_methodNamed B.named
  have hlocks := B.notSynchronized
  subst hsz
  have hD := hD0.self (sz := s.heap.size)
  generalize hAe : va_A [(sH, .inr (3, [.ref qH, .ref oH, .int vS.1, .int vS.2.1, .int vS.2.2.1, .int vS.2.2.2.1, .int vS.2.2.2.2.1, .int vS.2.2.2.2.2.1, .int vS.2.2.2.2.2.2.1, .int vS.2.2.2.2.2.2.2])), (qH, .inr (1, [.ref qA, .int vQ.2.1, .int vQ.2.2.1, .int vQ.2.2.2])), (qA, .inl (cI, 16, .inl vQ.1))] s.heap.size = A at hD ⊢
  have hA : ∀ q : Nat, s.heap.size ≤ q → A q := fun q h => by rw [← hAe]; exact Or.inr h
  have hS : va_S A s.heap s.heap [] := va_S.rf
  have hP : va_P (dC, dI) vwCl [(sH, .inr (3, [.ref qH, .ref oH, .int vS.1, .int vS.2.1, .int vS.2.2.1, .int vS.2.2.2.1, .int vS.2.2.2.2.1, .int vS.2.2.2.2.2.1, .int vS.2.2.2.2.2.2.1, .int vS.2.2.2.2.2.2.2])), (qH, .inr (1, [.ref qA, .int vQ.2.1, .int vQ.2.2.1, .int vQ.2.2.2])), (qA, .inl (cI, 16, .inl vQ.1))] s.heap := hP
  have hl := lv_entry ([.ref sH]) (n := 1) (Nat.le_of_ble_eq_true rfl)
  rw [lg_entry_eq]
  generalize (lg_sl ([.ref sH]) ++ List.replicate (1 - (lg_sl ([.ref sH])).length) Slot.unset).toArray = ls at hl ⊢
  have hl : lv_has ls 1 [(0, .ref sH)] := hl
  refine lv_aload_n hx hb dX3_cause_0 rfl (lv_at hl 0 rfl) ?_
  refine va_get (D := (dC, dI)) (ci := 3) (v := .int vS.2.2.2.2.2.2.1) (C := RX3) (T := TX3) (N := 10) hx hb hw inWX3 hown hK hP 0 rfl rfl 8 (by decide) (hw _ w_124) (fun _ h9 => h9) rfl dX3_cause_1 ?_
  refine lv_if_eq (tgt := 19) hx hb dX3_cause_4 (by decide) (fun c_4 => ?_) (fun c_4 => ?_)
  · refine lv_aload_n hx hb dX3_cause_19 rfl (lv_at hl 0 rfl) ?_
    refine va_get (D := (dC, dI)) (ci := 3) (v := .ref qH) (C := RX3) (T := TX3) (N := 10) hx hb hw inWX3 hown hK hP 0 rfl rfl 0 (by decide) (hw _ w_114) (fun _ h9 => h9) rfl dX3_cause_20 ?_
    refine va_getN (D := (dC, dI)) (ci := 1) (v := .int vQ.2.2.1) (C := RX1) (T := TX1) (N := 4) hx hb hw inWX1 hown hK hP 1 rfl rfl 2 (by decide) (va_Nw.use rfl (hN _ n_87)) (fun _ h9 => h9) rfl dX3_cause_23 ?_
    refine lv_if_le (tgt := 40) hx hb dX3_cause_26 (by decide) (fun c_26 => ?_) (fun c_26 => ?_)
    · refine lv_aload_n hx hb dX3_cause_40 rfl (lv_at hl 0 rfl) ?_
      refine va_get (D := (dC, dI)) (ci := 3) (v := .int vS.2.2.2.2.2.2.2) (C := RX3) (T := TX3) (N := 10) hx hb hw inWX3 hown hK hP 0 rfl rfl 9 (by decide) (hw _ w_125) (fun _ h9 => h9) rfl dX3_cause_41 ?_
      refine lv_if_eq (tgt := 58) hx hb dX3_cause_44 (by decide) (fun c_44 => ?_) (fun c_44 => ?_)
      · refine lv_iconst (v := 1) hx hb dX3_cause_58 (by decide) ?_
        have hF : (f_X3_cause vS vQ) = 1 := by rw [f_X3_cause, if_pos c_4, if_pos c_26, if_pos c_44]
        have hP9 := hP.sub (ws' := [(sH, .inr (3, [.ref qH, .ref oH, .int vS.1, .int vS.2.1, .int vS.2.2.1, .int vS.2.2.2.1, .int vS.2.2.2.2.1, .int vS.2.2.2.2.2.1, .int vS.2.2.2.2.2.2.1, .int vS.2.2.2.2.2.2.2])), (qH, .inr (1, [.ref qA, .int vQ.2.1, .int vQ.2.2.1, .int vQ.2.2.2])), (qA, .inl (cI, 16, .inl vQ.1))]) [0, 1, 2] rfl
        have hD9 := hD.sub (ws' := [(sH, .inr (3, [.ref qH, .ref oH, .int vS.1, .int vS.2.1, .int vS.2.2.1, .int vS.2.2.2.1, .int vS.2.2.2.2.1, .int vS.2.2.2.2.2.1, .int vS.2.2.2.2.2.2.1, .int vS.2.2.2.2.2.2.2])), (qH, .inr (1, [.ref qA, .int vQ.2.1, .int vQ.2.2.1, .int vQ.2.2.2])), (qA, .inl (cI, 16, .inl vQ.1))]) [0, 1, 2] (by decide) rfl
        exact W.iret (v := 1) hx hb hr (fun u hu hW => ⟨⟨1, (), rfl, hF.symm, by rw [hu]; exact hP9, hD9⟩, hS.F hu⟩) hS.2.2 dX3_cause_59
      · refine lv_aload_n hx hb dX3_cause_47 rfl (lv_at hl 0 rfl) ?_
        refine va_get (D := (dC, dI)) (ci := 3) (v := .int vS.1) (C := RX3) (T := TX3) (N := 10) hx hb hw inWX3 hown hK hP 0 rfl rfl 2 (by decide) (hw _ w_118) (fun _ h9 => h9) rfl dX3_cause_48 ?_
        refine lv_iconst (v := 2) hx hb dX3_cause_51 (by decide) ?_
        refine lv_iand hx hb dX3_cause_52 ?_
        refine lv_if_eq (tgt := 58) hx hb dX3_cause_53 (by decide) (fun c_53 => ?_) (fun c_53 => ?_)
        · refine lv_iconst (v := 1) hx hb dX3_cause_58 (by decide) ?_
          have hF : (f_X3_cause vS vQ) = 1 := by rw [f_X3_cause, if_pos c_4, if_pos c_26, if_neg c_44, if_pos c_53]
          have hP9 := hP.sub (ws' := [(sH, .inr (3, [.ref qH, .ref oH, .int vS.1, .int vS.2.1, .int vS.2.2.1, .int vS.2.2.2.1, .int vS.2.2.2.2.1, .int vS.2.2.2.2.2.1, .int vS.2.2.2.2.2.2.1, .int vS.2.2.2.2.2.2.2])), (qH, .inr (1, [.ref qA, .int vQ.2.1, .int vQ.2.2.1, .int vQ.2.2.2])), (qA, .inl (cI, 16, .inl vQ.1))]) [0, 1, 2] rfl
          have hD9 := hD.sub (ws' := [(sH, .inr (3, [.ref qH, .ref oH, .int vS.1, .int vS.2.1, .int vS.2.2.1, .int vS.2.2.2.1, .int vS.2.2.2.2.1, .int vS.2.2.2.2.2.1, .int vS.2.2.2.2.2.2.1, .int vS.2.2.2.2.2.2.2])), (qH, .inr (1, [.ref qA, .int vQ.2.1, .int vQ.2.2.1, .int vQ.2.2.2])), (qA, .inl (cI, 16, .inl vQ.1))]) [0, 1, 2] (by decide) rfl
          exact W.iret (v := 1) hx hb hr (fun u hu hW => ⟨⟨1, (), rfl, hF.symm, by rw [hu]; exact hP9, hD9⟩, hS.F hu⟩) hS.2.2 dX3_cause_59
        · refine lv_iconst (v := 2) hx hb dX3_cause_56 (by decide) ?_
          have hF : (f_X3_cause vS vQ) = 2 := by rw [f_X3_cause, if_pos c_4, if_pos c_26, if_neg c_44, if_neg c_53]
          have hP9 := hP.sub (ws' := [(sH, .inr (3, [.ref qH, .ref oH, .int vS.1, .int vS.2.1, .int vS.2.2.1, .int vS.2.2.2.1, .int vS.2.2.2.2.1, .int vS.2.2.2.2.2.1, .int vS.2.2.2.2.2.2.1, .int vS.2.2.2.2.2.2.2])), (qH, .inr (1, [.ref qA, .int vQ.2.1, .int vQ.2.2.1, .int vQ.2.2.2])), (qA, .inl (cI, 16, .inl vQ.1))]) [0, 1, 2] rfl
          have hD9 := hD.sub (ws' := [(sH, .inr (3, [.ref qH, .ref oH, .int vS.1, .int vS.2.1, .int vS.2.2.1, .int vS.2.2.2.1, .int vS.2.2.2.2.1, .int vS.2.2.2.2.2.1, .int vS.2.2.2.2.2.2.1, .int vS.2.2.2.2.2.2.2])), (qH, .inr (1, [.ref qA, .int vQ.2.1, .int vQ.2.2.1, .int vQ.2.2.2])), (qA, .inl (cI, 16, .inl vQ.1))]) [0, 1, 2] (by decide) rfl
          exact W.iret (v := 2) hx hb hr (fun u hu hW => ⟨⟨2, (), rfl, hF.symm, by rw [hu]; exact hP9, hD9⟩, hS.F hu⟩) hS.2.2 dX3_cause_57
    · refine lv_aload_n hx hb dX3_cause_29 rfl (lv_at hl 0 rfl) ?_
      refine va_get (D := (dC, dI)) (ci := 3) (v := .int vS.1) (C := RX3) (T := TX3) (N := 10) hx hb hw inWX3 hown hK hP 0 rfl rfl 2 (by decide) (hw _ w_118) (fun _ h9 => h9) rfl dX3_cause_30 ?_
      refine lv_iconst (v := 1) hx hb dX3_cause_33 (by decide) ?_
      refine lv_iand hx hb dX3_cause_34 ?_
      refine lv_if_eq (tgt := 40) hx hb dX3_cause_35 (by decide) (fun c_35 => ?_) (fun c_35 => ?_)
      · refine lv_aload_n hx hb dX3_cause_40 rfl (lv_at hl 0 rfl) ?_
        refine va_get (D := (dC, dI)) (ci := 3) (v := .int vS.2.2.2.2.2.2.2) (C := RX3) (T := TX3) (N := 10) hx hb hw inWX3 hown hK hP 0 rfl rfl 9 (by decide) (hw _ w_125) (fun _ h9 => h9) rfl dX3_cause_41 ?_
        refine lv_if_eq (tgt := 58) hx hb dX3_cause_44 (by decide) (fun c_44 => ?_) (fun c_44 => ?_)
        · refine lv_iconst (v := 1) hx hb dX3_cause_58 (by decide) ?_
          have hF : (f_X3_cause vS vQ) = 1 := by rw [f_X3_cause, if_pos c_4, if_neg c_26, if_pos c_35, if_pos c_44]
          have hP9 := hP.sub (ws' := [(sH, .inr (3, [.ref qH, .ref oH, .int vS.1, .int vS.2.1, .int vS.2.2.1, .int vS.2.2.2.1, .int vS.2.2.2.2.1, .int vS.2.2.2.2.2.1, .int vS.2.2.2.2.2.2.1, .int vS.2.2.2.2.2.2.2])), (qH, .inr (1, [.ref qA, .int vQ.2.1, .int vQ.2.2.1, .int vQ.2.2.2])), (qA, .inl (cI, 16, .inl vQ.1))]) [0, 1, 2] rfl
          have hD9 := hD.sub (ws' := [(sH, .inr (3, [.ref qH, .ref oH, .int vS.1, .int vS.2.1, .int vS.2.2.1, .int vS.2.2.2.1, .int vS.2.2.2.2.1, .int vS.2.2.2.2.2.1, .int vS.2.2.2.2.2.2.1, .int vS.2.2.2.2.2.2.2])), (qH, .inr (1, [.ref qA, .int vQ.2.1, .int vQ.2.2.1, .int vQ.2.2.2])), (qA, .inl (cI, 16, .inl vQ.1))]) [0, 1, 2] (by decide) rfl
          exact W.iret (v := 1) hx hb hr (fun u hu hW => ⟨⟨1, (), rfl, hF.symm, by rw [hu]; exact hP9, hD9⟩, hS.F hu⟩) hS.2.2 dX3_cause_59
        · refine lv_aload_n hx hb dX3_cause_47 rfl (lv_at hl 0 rfl) ?_
          refine va_get (D := (dC, dI)) (ci := 3) (v := .int vS.1) (C := RX3) (T := TX3) (N := 10) hx hb hw inWX3 hown hK hP 0 rfl rfl 2 (by decide) (hw _ w_118) (fun _ h9 => h9) rfl dX3_cause_48 ?_
          refine lv_iconst (v := 2) hx hb dX3_cause_51 (by decide) ?_
          refine lv_iand hx hb dX3_cause_52 ?_
          refine lv_if_eq (tgt := 58) hx hb dX3_cause_53 (by decide) (fun c_53 => ?_) (fun c_53 => ?_)
          · refine lv_iconst (v := 1) hx hb dX3_cause_58 (by decide) ?_
            have hF : (f_X3_cause vS vQ) = 1 := by rw [f_X3_cause, if_pos c_4, if_neg c_26, if_pos c_35, if_neg c_44, if_pos c_53]
            have hP9 := hP.sub (ws' := [(sH, .inr (3, [.ref qH, .ref oH, .int vS.1, .int vS.2.1, .int vS.2.2.1, .int vS.2.2.2.1, .int vS.2.2.2.2.1, .int vS.2.2.2.2.2.1, .int vS.2.2.2.2.2.2.1, .int vS.2.2.2.2.2.2.2])), (qH, .inr (1, [.ref qA, .int vQ.2.1, .int vQ.2.2.1, .int vQ.2.2.2])), (qA, .inl (cI, 16, .inl vQ.1))]) [0, 1, 2] rfl
            have hD9 := hD.sub (ws' := [(sH, .inr (3, [.ref qH, .ref oH, .int vS.1, .int vS.2.1, .int vS.2.2.1, .int vS.2.2.2.1, .int vS.2.2.2.2.1, .int vS.2.2.2.2.2.1, .int vS.2.2.2.2.2.2.1, .int vS.2.2.2.2.2.2.2])), (qH, .inr (1, [.ref qA, .int vQ.2.1, .int vQ.2.2.1, .int vQ.2.2.2])), (qA, .inl (cI, 16, .inl vQ.1))]) [0, 1, 2] (by decide) rfl
            exact W.iret (v := 1) hx hb hr (fun u hu hW => ⟨⟨1, (), rfl, hF.symm, by rw [hu]; exact hP9, hD9⟩, hS.F hu⟩) hS.2.2 dX3_cause_59
          · refine lv_iconst (v := 2) hx hb dX3_cause_56 (by decide) ?_
            have hF : (f_X3_cause vS vQ) = 2 := by rw [f_X3_cause, if_pos c_4, if_neg c_26, if_pos c_35, if_neg c_44, if_neg c_53]
            have hP9 := hP.sub (ws' := [(sH, .inr (3, [.ref qH, .ref oH, .int vS.1, .int vS.2.1, .int vS.2.2.1, .int vS.2.2.2.1, .int vS.2.2.2.2.1, .int vS.2.2.2.2.2.1, .int vS.2.2.2.2.2.2.1, .int vS.2.2.2.2.2.2.2])), (qH, .inr (1, [.ref qA, .int vQ.2.1, .int vQ.2.2.1, .int vQ.2.2.2])), (qA, .inl (cI, 16, .inl vQ.1))]) [0, 1, 2] rfl
            have hD9 := hD.sub (ws' := [(sH, .inr (3, [.ref qH, .ref oH, .int vS.1, .int vS.2.1, .int vS.2.2.1, .int vS.2.2.2.1, .int vS.2.2.2.2.1, .int vS.2.2.2.2.2.1, .int vS.2.2.2.2.2.2.1, .int vS.2.2.2.2.2.2.2])), (qH, .inr (1, [.ref qA, .int vQ.2.1, .int vQ.2.2.1, .int vQ.2.2.2])), (qA, .inl (cI, 16, .inl vQ.1))]) [0, 1, 2] (by decide) rfl
            exact W.iret (v := 2) hx hb hr (fun u hu hW => ⟨⟨2, (), rfl, hF.symm, by rw [hu]; exact hP9, hD9⟩, hS.F hu⟩) hS.2.2 dX3_cause_57
      · refine lv_iconst (v := 4) hx hb dX3_cause_38 (by decide) ?_
        have hF : (f_X3_cause vS vQ) = 4 := by rw [f_X3_cause, if_pos c_4, if_neg c_26, if_neg c_35]
        have hP9 := hP.sub (ws' := [(sH, .inr (3, [.ref qH, .ref oH, .int vS.1, .int vS.2.1, .int vS.2.2.1, .int vS.2.2.2.1, .int vS.2.2.2.2.1, .int vS.2.2.2.2.2.1, .int vS.2.2.2.2.2.2.1, .int vS.2.2.2.2.2.2.2])), (qH, .inr (1, [.ref qA, .int vQ.2.1, .int vQ.2.2.1, .int vQ.2.2.2])), (qA, .inl (cI, 16, .inl vQ.1))]) [0, 1, 2] rfl
        have hD9 := hD.sub (ws' := [(sH, .inr (3, [.ref qH, .ref oH, .int vS.1, .int vS.2.1, .int vS.2.2.1, .int vS.2.2.2.1, .int vS.2.2.2.2.1, .int vS.2.2.2.2.2.1, .int vS.2.2.2.2.2.2.1, .int vS.2.2.2.2.2.2.2])), (qH, .inr (1, [.ref qA, .int vQ.2.1, .int vQ.2.2.1, .int vQ.2.2.2])), (qA, .inl (cI, 16, .inl vQ.1))]) [0, 1, 2] (by decide) rfl
        exact W.iret (v := 4) hx hb hr (fun u hu hW => ⟨⟨4, (), rfl, hF.symm, by rw [hu]; exact hP9, hD9⟩, hS.F hu⟩) hS.2.2 dX3_cause_39
  · refine lv_aload_n hx hb dX3_cause_7 rfl (lv_at hl 0 rfl) ?_
    refine va_get (D := (dC, dI)) (ci := 3) (v := .int vS.1) (C := RX3) (T := TX3) (N := 10) hx hb hw inWX3 hown hK hP 0 rfl rfl 2 (by decide) (hw _ w_118) (fun _ h9 => h9) rfl dX3_cause_8 ?_
    refine lv_iconst (v := 4) hx hb dX3_cause_11 (by decide) ?_
    refine lv_iand hx hb dX3_cause_12 ?_
    refine lv_if_eq (tgt := 19) hx hb dX3_cause_13 (by decide) (fun c_13 => ?_) (fun c_13 => ?_)
    · refine lv_aload_n hx hb dX3_cause_19 rfl (lv_at hl 0 rfl) ?_
      refine va_get (D := (dC, dI)) (ci := 3) (v := .ref qH) (C := RX3) (T := TX3) (N := 10) hx hb hw inWX3 hown hK hP 0 rfl rfl 0 (by decide) (hw _ w_114) (fun _ h9 => h9) rfl dX3_cause_20 ?_
      refine va_getN (D := (dC, dI)) (ci := 1) (v := .int vQ.2.2.1) (C := RX1) (T := TX1) (N := 4) hx hb hw inWX1 hown hK hP 1 rfl rfl 2 (by decide) (va_Nw.use rfl (hN _ n_87)) (fun _ h9 => h9) rfl dX3_cause_23 ?_
      refine lv_if_le (tgt := 40) hx hb dX3_cause_26 (by decide) (fun c_26 => ?_) (fun c_26 => ?_)
      · refine lv_aload_n hx hb dX3_cause_40 rfl (lv_at hl 0 rfl) ?_
        refine va_get (D := (dC, dI)) (ci := 3) (v := .int vS.2.2.2.2.2.2.2) (C := RX3) (T := TX3) (N := 10) hx hb hw inWX3 hown hK hP 0 rfl rfl 9 (by decide) (hw _ w_125) (fun _ h9 => h9) rfl dX3_cause_41 ?_
        refine lv_if_eq (tgt := 58) hx hb dX3_cause_44 (by decide) (fun c_44 => ?_) (fun c_44 => ?_)
        · refine lv_iconst (v := 1) hx hb dX3_cause_58 (by decide) ?_
          have hF : (f_X3_cause vS vQ) = 1 := by rw [f_X3_cause, if_neg c_4, if_pos c_13, if_pos c_26, if_pos c_44]
          have hP9 := hP.sub (ws' := [(sH, .inr (3, [.ref qH, .ref oH, .int vS.1, .int vS.2.1, .int vS.2.2.1, .int vS.2.2.2.1, .int vS.2.2.2.2.1, .int vS.2.2.2.2.2.1, .int vS.2.2.2.2.2.2.1, .int vS.2.2.2.2.2.2.2])), (qH, .inr (1, [.ref qA, .int vQ.2.1, .int vQ.2.2.1, .int vQ.2.2.2])), (qA, .inl (cI, 16, .inl vQ.1))]) [0, 1, 2] rfl
          have hD9 := hD.sub (ws' := [(sH, .inr (3, [.ref qH, .ref oH, .int vS.1, .int vS.2.1, .int vS.2.2.1, .int vS.2.2.2.1, .int vS.2.2.2.2.1, .int vS.2.2.2.2.2.1, .int vS.2.2.2.2.2.2.1, .int vS.2.2.2.2.2.2.2])), (qH, .inr (1, [.ref qA, .int vQ.2.1, .int vQ.2.2.1, .int vQ.2.2.2])), (qA, .inl (cI, 16, .inl vQ.1))]) [0, 1, 2] (by decide) rfl
          exact W.iret (v := 1) hx hb hr (fun u hu hW => ⟨⟨1, (), rfl, hF.symm, by rw [hu]; exact hP9, hD9⟩, hS.F hu⟩) hS.2.2 dX3_cause_59
        · refine lv_aload_n hx hb dX3_cause_47 rfl (lv_at hl 0 rfl) ?_
          refine va_get (D := (dC, dI)) (ci := 3) (v := .int vS.1) (C := RX3) (T := TX3) (N := 10) hx hb hw inWX3 hown hK hP 0 rfl rfl 2 (by decide) (hw _ w_118) (fun _ h9 => h9) rfl dX3_cause_48 ?_
          refine lv_iconst (v := 2) hx hb dX3_cause_51 (by decide) ?_
          refine lv_iand hx hb dX3_cause_52 ?_
          refine lv_if_eq (tgt := 58) hx hb dX3_cause_53 (by decide) (fun c_53 => ?_) (fun c_53 => ?_)
          · refine lv_iconst (v := 1) hx hb dX3_cause_58 (by decide) ?_
            have hF : (f_X3_cause vS vQ) = 1 := by rw [f_X3_cause, if_neg c_4, if_pos c_13, if_pos c_26, if_neg c_44, if_pos c_53]
            have hP9 := hP.sub (ws' := [(sH, .inr (3, [.ref qH, .ref oH, .int vS.1, .int vS.2.1, .int vS.2.2.1, .int vS.2.2.2.1, .int vS.2.2.2.2.1, .int vS.2.2.2.2.2.1, .int vS.2.2.2.2.2.2.1, .int vS.2.2.2.2.2.2.2])), (qH, .inr (1, [.ref qA, .int vQ.2.1, .int vQ.2.2.1, .int vQ.2.2.2])), (qA, .inl (cI, 16, .inl vQ.1))]) [0, 1, 2] rfl
            have hD9 := hD.sub (ws' := [(sH, .inr (3, [.ref qH, .ref oH, .int vS.1, .int vS.2.1, .int vS.2.2.1, .int vS.2.2.2.1, .int vS.2.2.2.2.1, .int vS.2.2.2.2.2.1, .int vS.2.2.2.2.2.2.1, .int vS.2.2.2.2.2.2.2])), (qH, .inr (1, [.ref qA, .int vQ.2.1, .int vQ.2.2.1, .int vQ.2.2.2])), (qA, .inl (cI, 16, .inl vQ.1))]) [0, 1, 2] (by decide) rfl
            exact W.iret (v := 1) hx hb hr (fun u hu hW => ⟨⟨1, (), rfl, hF.symm, by rw [hu]; exact hP9, hD9⟩, hS.F hu⟩) hS.2.2 dX3_cause_59
          · refine lv_iconst (v := 2) hx hb dX3_cause_56 (by decide) ?_
            have hF : (f_X3_cause vS vQ) = 2 := by rw [f_X3_cause, if_neg c_4, if_pos c_13, if_pos c_26, if_neg c_44, if_neg c_53]
            have hP9 := hP.sub (ws' := [(sH, .inr (3, [.ref qH, .ref oH, .int vS.1, .int vS.2.1, .int vS.2.2.1, .int vS.2.2.2.1, .int vS.2.2.2.2.1, .int vS.2.2.2.2.2.1, .int vS.2.2.2.2.2.2.1, .int vS.2.2.2.2.2.2.2])), (qH, .inr (1, [.ref qA, .int vQ.2.1, .int vQ.2.2.1, .int vQ.2.2.2])), (qA, .inl (cI, 16, .inl vQ.1))]) [0, 1, 2] rfl
            have hD9 := hD.sub (ws' := [(sH, .inr (3, [.ref qH, .ref oH, .int vS.1, .int vS.2.1, .int vS.2.2.1, .int vS.2.2.2.1, .int vS.2.2.2.2.1, .int vS.2.2.2.2.2.1, .int vS.2.2.2.2.2.2.1, .int vS.2.2.2.2.2.2.2])), (qH, .inr (1, [.ref qA, .int vQ.2.1, .int vQ.2.2.1, .int vQ.2.2.2])), (qA, .inl (cI, 16, .inl vQ.1))]) [0, 1, 2] (by decide) rfl
            exact W.iret (v := 2) hx hb hr (fun u hu hW => ⟨⟨2, (), rfl, hF.symm, by rw [hu]; exact hP9, hD9⟩, hS.F hu⟩) hS.2.2 dX3_cause_57
      · refine lv_aload_n hx hb dX3_cause_29 rfl (lv_at hl 0 rfl) ?_
        refine va_get (D := (dC, dI)) (ci := 3) (v := .int vS.1) (C := RX3) (T := TX3) (N := 10) hx hb hw inWX3 hown hK hP 0 rfl rfl 2 (by decide) (hw _ w_118) (fun _ h9 => h9) rfl dX3_cause_30 ?_
        refine lv_iconst (v := 1) hx hb dX3_cause_33 (by decide) ?_
        refine lv_iand hx hb dX3_cause_34 ?_
        refine lv_if_eq (tgt := 40) hx hb dX3_cause_35 (by decide) (fun c_35 => ?_) (fun c_35 => ?_)
        · refine lv_aload_n hx hb dX3_cause_40 rfl (lv_at hl 0 rfl) ?_
          refine va_get (D := (dC, dI)) (ci := 3) (v := .int vS.2.2.2.2.2.2.2) (C := RX3) (T := TX3) (N := 10) hx hb hw inWX3 hown hK hP 0 rfl rfl 9 (by decide) (hw _ w_125) (fun _ h9 => h9) rfl dX3_cause_41 ?_
          refine lv_if_eq (tgt := 58) hx hb dX3_cause_44 (by decide) (fun c_44 => ?_) (fun c_44 => ?_)
          · refine lv_iconst (v := 1) hx hb dX3_cause_58 (by decide) ?_
            have hF : (f_X3_cause vS vQ) = 1 := by rw [f_X3_cause, if_neg c_4, if_pos c_13, if_neg c_26, if_pos c_35, if_pos c_44]
            have hP9 := hP.sub (ws' := [(sH, .inr (3, [.ref qH, .ref oH, .int vS.1, .int vS.2.1, .int vS.2.2.1, .int vS.2.2.2.1, .int vS.2.2.2.2.1, .int vS.2.2.2.2.2.1, .int vS.2.2.2.2.2.2.1, .int vS.2.2.2.2.2.2.2])), (qH, .inr (1, [.ref qA, .int vQ.2.1, .int vQ.2.2.1, .int vQ.2.2.2])), (qA, .inl (cI, 16, .inl vQ.1))]) [0, 1, 2] rfl
            have hD9 := hD.sub (ws' := [(sH, .inr (3, [.ref qH, .ref oH, .int vS.1, .int vS.2.1, .int vS.2.2.1, .int vS.2.2.2.1, .int vS.2.2.2.2.1, .int vS.2.2.2.2.2.1, .int vS.2.2.2.2.2.2.1, .int vS.2.2.2.2.2.2.2])), (qH, .inr (1, [.ref qA, .int vQ.2.1, .int vQ.2.2.1, .int vQ.2.2.2])), (qA, .inl (cI, 16, .inl vQ.1))]) [0, 1, 2] (by decide) rfl
            exact W.iret (v := 1) hx hb hr (fun u hu hW => ⟨⟨1, (), rfl, hF.symm, by rw [hu]; exact hP9, hD9⟩, hS.F hu⟩) hS.2.2 dX3_cause_59
          · refine lv_aload_n hx hb dX3_cause_47 rfl (lv_at hl 0 rfl) ?_
            refine va_get (D := (dC, dI)) (ci := 3) (v := .int vS.1) (C := RX3) (T := TX3) (N := 10) hx hb hw inWX3 hown hK hP 0 rfl rfl 2 (by decide) (hw _ w_118) (fun _ h9 => h9) rfl dX3_cause_48 ?_
            refine lv_iconst (v := 2) hx hb dX3_cause_51 (by decide) ?_
            refine lv_iand hx hb dX3_cause_52 ?_
            refine lv_if_eq (tgt := 58) hx hb dX3_cause_53 (by decide) (fun c_53 => ?_) (fun c_53 => ?_)
            · refine lv_iconst (v := 1) hx hb dX3_cause_58 (by decide) ?_
              have hF : (f_X3_cause vS vQ) = 1 := by rw [f_X3_cause, if_neg c_4, if_pos c_13, if_neg c_26, if_pos c_35, if_neg c_44, if_pos c_53]
              have hP9 := hP.sub (ws' := [(sH, .inr (3, [.ref qH, .ref oH, .int vS.1, .int vS.2.1, .int vS.2.2.1, .int vS.2.2.2.1, .int vS.2.2.2.2.1, .int vS.2.2.2.2.2.1, .int vS.2.2.2.2.2.2.1, .int vS.2.2.2.2.2.2.2])), (qH, .inr (1, [.ref qA, .int vQ.2.1, .int vQ.2.2.1, .int vQ.2.2.2])), (qA, .inl (cI, 16, .inl vQ.1))]) [0, 1, 2] rfl
              have hD9 := hD.sub (ws' := [(sH, .inr (3, [.ref qH, .ref oH, .int vS.1, .int vS.2.1, .int vS.2.2.1, .int vS.2.2.2.1, .int vS.2.2.2.2.1, .int vS.2.2.2.2.2.1, .int vS.2.2.2.2.2.2.1, .int vS.2.2.2.2.2.2.2])), (qH, .inr (1, [.ref qA, .int vQ.2.1, .int vQ.2.2.1, .int vQ.2.2.2])), (qA, .inl (cI, 16, .inl vQ.1))]) [0, 1, 2] (by decide) rfl
              exact W.iret (v := 1) hx hb hr (fun u hu hW => ⟨⟨1, (), rfl, hF.symm, by rw [hu]; exact hP9, hD9⟩, hS.F hu⟩) hS.2.2 dX3_cause_59
            · refine lv_iconst (v := 2) hx hb dX3_cause_56 (by decide) ?_
              have hF : (f_X3_cause vS vQ) = 2 := by rw [f_X3_cause, if_neg c_4, if_pos c_13, if_neg c_26, if_pos c_35, if_neg c_44, if_neg c_53]
              have hP9 := hP.sub (ws' := [(sH, .inr (3, [.ref qH, .ref oH, .int vS.1, .int vS.2.1, .int vS.2.2.1, .int vS.2.2.2.1, .int vS.2.2.2.2.1, .int vS.2.2.2.2.2.1, .int vS.2.2.2.2.2.2.1, .int vS.2.2.2.2.2.2.2])), (qH, .inr (1, [.ref qA, .int vQ.2.1, .int vQ.2.2.1, .int vQ.2.2.2])), (qA, .inl (cI, 16, .inl vQ.1))]) [0, 1, 2] rfl
              have hD9 := hD.sub (ws' := [(sH, .inr (3, [.ref qH, .ref oH, .int vS.1, .int vS.2.1, .int vS.2.2.1, .int vS.2.2.2.1, .int vS.2.2.2.2.1, .int vS.2.2.2.2.2.1, .int vS.2.2.2.2.2.2.1, .int vS.2.2.2.2.2.2.2])), (qH, .inr (1, [.ref qA, .int vQ.2.1, .int vQ.2.2.1, .int vQ.2.2.2])), (qA, .inl (cI, 16, .inl vQ.1))]) [0, 1, 2] (by decide) rfl
              exact W.iret (v := 2) hx hb hr (fun u hu hW => ⟨⟨2, (), rfl, hF.symm, by rw [hu]; exact hP9, hD9⟩, hS.F hu⟩) hS.2.2 dX3_cause_57
        · refine lv_iconst (v := 4) hx hb dX3_cause_38 (by decide) ?_
          have hF : (f_X3_cause vS vQ) = 4 := by rw [f_X3_cause, if_neg c_4, if_pos c_13, if_neg c_26, if_neg c_35]
          have hP9 := hP.sub (ws' := [(sH, .inr (3, [.ref qH, .ref oH, .int vS.1, .int vS.2.1, .int vS.2.2.1, .int vS.2.2.2.1, .int vS.2.2.2.2.1, .int vS.2.2.2.2.2.1, .int vS.2.2.2.2.2.2.1, .int vS.2.2.2.2.2.2.2])), (qH, .inr (1, [.ref qA, .int vQ.2.1, .int vQ.2.2.1, .int vQ.2.2.2])), (qA, .inl (cI, 16, .inl vQ.1))]) [0, 1, 2] rfl
          have hD9 := hD.sub (ws' := [(sH, .inr (3, [.ref qH, .ref oH, .int vS.1, .int vS.2.1, .int vS.2.2.1, .int vS.2.2.2.1, .int vS.2.2.2.2.1, .int vS.2.2.2.2.2.1, .int vS.2.2.2.2.2.2.1, .int vS.2.2.2.2.2.2.2])), (qH, .inr (1, [.ref qA, .int vQ.2.1, .int vQ.2.2.1, .int vQ.2.2.2])), (qA, .inl (cI, 16, .inl vQ.1))]) [0, 1, 2] (by decide) rfl
          exact W.iret (v := 4) hx hb hr (fun u hu hW => ⟨⟨4, (), rfl, hF.symm, by rw [hu]; exact hP9, hD9⟩, hS.F hu⟩) hS.2.2 dX3_cause_39
    · refine lv_bipush (v := 6) hx hb dX3_cause_16 (by decide) ?_
      have hF : (f_X3_cause vS vQ) = 6 := by rw [f_X3_cause, if_neg c_4, if_neg c_13]
      have hP9 := hP.sub (ws' := [(sH, .inr (3, [.ref qH, .ref oH, .int vS.1, .int vS.2.1, .int vS.2.2.1, .int vS.2.2.2.1, .int vS.2.2.2.2.1, .int vS.2.2.2.2.2.1, .int vS.2.2.2.2.2.2.1, .int vS.2.2.2.2.2.2.2])), (qH, .inr (1, [.ref qA, .int vQ.2.1, .int vQ.2.2.1, .int vQ.2.2.2])), (qA, .inl (cI, 16, .inl vQ.1))]) [0, 1, 2] rfl
      have hD9 := hD.sub (ws' := [(sH, .inr (3, [.ref qH, .ref oH, .int vS.1, .int vS.2.1, .int vS.2.2.1, .int vS.2.2.2.1, .int vS.2.2.2.2.1, .int vS.2.2.2.2.2.1, .int vS.2.2.2.2.2.2.1, .int vS.2.2.2.2.2.2.2])), (qH, .inr (1, [.ref qA, .int vQ.2.1, .int vQ.2.2.1, .int vQ.2.2.2])), (qA, .inl (cI, 16, .inl vQ.1))]) [0, 1, 2] (by decide) rfl
      exact W.iret (v := 6) hx hb hr (fun u hu hW => ⟨⟨6, (), rfl, hF.symm, by rw [hu]; exact hP9, hD9⟩, hS.F hu⟩) hS.2.2 dX3_cause_18
def f_X3_loadCause (vS : SS) (vQ : QS) : Int32 × SS :=
  if (f_X3_cause vS vQ) = 2 then if vQ.2.2.2 = 0 then ((f_X3_cause vS vQ), (vS.1, vS.2.1, vS.2.2.1, vS.2.2.2.1, vS.2.2.2.2.1, vS.2.2.2.2.2.1, vS.2.2.2.2.2.2.1, 0))
    else (((f_X3_cause vS vQ) ||| 192), (vS.1, vS.2.1, vS.2.2.1, vS.2.2.2.1, vS.2.2.2.2.1, vS.2.2.2.2.2.1, vS.2.2.2.2.2.2.1, 0))
  else if vQ.2.2.2 = 0 then ((f_X3_cause vS vQ), vS)
    else (((f_X3_cause vS vQ) ||| 192), vS)
set_option maxHeartbeats 4000000 in
set_option maxRecDepth 100000 in
theorem k_X3_loadCause (l : Launch) (dC : Nat → ClassId) (dI : Nat → Nat → Nat) (cI cJ cB cZ : ClassId) (sH qH oH qA : Nat) (sz : Nat) (vS : SS) (vQ : QS)  : Met l yX3_loadCause wsX3_loadCause ({ frames := 1, cells := 0, slots := 0, locals := 20 }) (va_Pc [.ref sH] (fun U => U.heap.size = sz ∧ va_P (dC, dI) vwCl [(sH, .inr (3, [.ref qH, .ref oH, .int vS.1, .int vS.2.1, .int vS.2.2.1, .int vS.2.2.2.1, .int vS.2.2.2.2.1, .int vS.2.2.2.2.2.1, .int vS.2.2.2.2.2.2.1, .int vS.2.2.2.2.2.2.2])), (qH, .inr (1, [.ref qA, .int vQ.2.1, .int vQ.2.2.1, .int vQ.2.2.2])), (qA, .inl (cI, 16, .inl vQ.1))] U.heap ∧ va_K (dC, dI) vwCl [(cI, .int), (cJ, .long), (cB, .byte), (cZ, .boolean)] U ∧ va_D (fun _ => True) [(sH, .inr (3, [.ref qH, .ref oH, .int vS.1, .int vS.2.1, .int vS.2.2.1, .int vS.2.2.2.1, .int vS.2.2.2.2.1, .int vS.2.2.2.2.2.1, .int vS.2.2.2.2.2.2.1, .int vS.2.2.2.2.2.2.2])), (qH, .inr (1, [.ref qA, .int vQ.2.1, .int vQ.2.2.1, .int vQ.2.2.2])), (qA, .inl (cI, 16, .inl vQ.1))] ∧ nw_ U)) (va_Qi (fun (r : Int32) (_ : Unit) => r = (f_X3_loadCause vS vQ).1) (fun (_ : Unit) (w : State) => va_P (dC, dI) vwCl [(sH, .inr (3, [.ref qH, .ref oH, .int (f_X3_loadCause vS vQ).2.1, .int (f_X3_loadCause vS vQ).2.2.1, .int (f_X3_loadCause vS vQ).2.2.2.1, .int (f_X3_loadCause vS vQ).2.2.2.2.1, .int (f_X3_loadCause vS vQ).2.2.2.2.2.1, .int (f_X3_loadCause vS vQ).2.2.2.2.2.2.1, .int (f_X3_loadCause vS vQ).2.2.2.2.2.2.2.1, .int (f_X3_loadCause vS vQ).2.2.2.2.2.2.2.2])), (qH, .inr (1, [.ref qA, .int vQ.2.1, .int vQ.2.2.1, .int vQ.2.2.2])), (qA, .inl (cI, 16, .inl vQ.1))] w.heap ∧ va_D (va_A [(sH, .inr (3, [.ref qH, .ref oH, .int vS.1, .int vS.2.1, .int vS.2.2.1, .int vS.2.2.2.1, .int vS.2.2.2.2.1, .int vS.2.2.2.2.2.1, .int vS.2.2.2.2.2.2.1, .int vS.2.2.2.2.2.2.2])), (qH, .inr (1, [.ref qA, .int vQ.2.1, .int vQ.2.2.1, .int vQ.2.2.2])), (qA, .inl (cI, 16, .inl vQ.1))] sz) [(sH, .inr (3, [.ref qH, .ref oH, .int (f_X3_loadCause vS vQ).2.1, .int (f_X3_loadCause vS vQ).2.2.1, .int (f_X3_loadCause vS vQ).2.2.2.1, .int (f_X3_loadCause vS vQ).2.2.2.2.1, .int (f_X3_loadCause vS vQ).2.2.2.2.2.1, .int (f_X3_loadCause vS vQ).2.2.2.2.2.2.1, .int (f_X3_loadCause vS vQ).2.2.2.2.2.2.2.1, .int (f_X3_loadCause vS vQ).2.2.2.2.2.2.2.2])), (qH, .inr (1, [.ref qA, .int vQ.2.1, .int vQ.2.2.1, .int vQ.2.2.2])), (qA, .inl (cI, 16, .inl vQ.1))]) (va_A [(sH, .inr (3, [.ref qH, .ref oH, .int vS.1, .int vS.2.1, .int vS.2.2.1, .int vS.2.2.2.1, .int vS.2.2.2.2.1, .int vS.2.2.2.2.2.1, .int vS.2.2.2.2.2.2.1, .int vS.2.2.2.2.2.2.2])), (qH, .inr (1, [.ref qA, .int vQ.2.1, .int vQ.2.2.1, .int vQ.2.2.2])), (qA, .inl (cI, 16, .inl vQ.1))] sz)) 0 0 (va_A [(sH, .inr (3, [.ref qH, .ref oH, .int vS.1, .int vS.2.1, .int vS.2.2.1, .int vS.2.2.2.1, .int vS.2.2.2.2.1, .int vS.2.2.2.2.2.1, .int vS.2.2.2.2.2.2.1, .int vS.2.2.2.2.2.2.2])), (qH, .inr (1, [.ref qA, .int vQ.2.1, .int vQ.2.2.1, .int vQ.2.2.2])), (qA, .inl (cI, 16, .inl vQ.1))] sz) := by
  refine Met.ofW (cc := prog_5_method_7_code) (maxL := 2) (ret := (some .int)) (by decide) rfl ?_
  intro p e s m args below meth c s₁ B hml hv
  obtain ⟨rfl, hsz, hP, hK, hD0, hN⟩ := hv
  have hx := B.exec
  have hb := B.bytes
  have hr := B.returns
  have hw := hw_of (atoms_spec (ws := wsX3_loadCause) B.pre)
  have hown : s.vm.findClass RX3 = some m.cls := findClass_of_methodNamed B.named
  have hlocks := B.notSynchronized
  subst hsz
  have hD := hD0.self (sz := s.heap.size)
  generalize hAe : va_A [(sH, .inr (3, [.ref qH, .ref oH, .int vS.1, .int vS.2.1, .int vS.2.2.1, .int vS.2.2.2.1, .int vS.2.2.2.2.1, .int vS.2.2.2.2.2.1, .int vS.2.2.2.2.2.2.1, .int vS.2.2.2.2.2.2.2])), (qH, .inr (1, [.ref qA, .int vQ.2.1, .int vQ.2.2.1, .int vQ.2.2.2])), (qA, .inl (cI, 16, .inl vQ.1))] s.heap.size = A at hD ⊢
  have hA : ∀ q : Nat, s.heap.size ≤ q → A q := fun q h => by rw [← hAe]; exact Or.inr h
  have hS : va_S A s.heap s.heap [] := va_S.rf
  have hP : va_P (dC, dI) vwCl [(sH, .inr (3, [.ref qH, .ref oH, .int vS.1, .int vS.2.1, .int vS.2.2.1, .int vS.2.2.2.1, .int vS.2.2.2.2.1, .int vS.2.2.2.2.2.1, .int vS.2.2.2.2.2.2.1, .int vS.2.2.2.2.2.2.2])), (qH, .inr (1, [.ref qA, .int vQ.2.1, .int vQ.2.2.1, .int vQ.2.2.2])), (qA, .inl (cI, 16, .inl vQ.1))] s.heap := hP
  have hl := lv_entry ([.ref sH]) (n := 2) (Nat.le_of_ble_eq_true rfl)
  rw [lg_entry_eq]
  generalize (lg_sl ([.ref sH]) ++ List.replicate (2 - (lg_sl ([.ref sH])).length) Slot.unset).toArray = ls at hl ⊢
  have hl : lv_has ls 2 [(0, .ref sH)] := hl
  refine lv_aload_n hx hb dX3_loadCause_0 rfl (lv_at hl 0 rfl) ?_
  have hPc := hP.sub (ws' := [(sH, .inr (3, [.ref qH, .ref oH, .int vS.1, .int vS.2.1, .int vS.2.2.1, .int vS.2.2.2.1, .int vS.2.2.2.2.1, .int vS.2.2.2.2.2.1, .int vS.2.2.2.2.2.2.1, .int vS.2.2.2.2.2.2.2])), (qH, .inr (1, [.ref qA, .int vQ.2.1, .int vQ.2.2.1, .int vQ.2.2.2])), (qA, .inl (cI, 16, .inl vQ.1))]) [0, 1, 2] rfl
  have hDc := hD.sub (ws' := [(sH, .inr (3, [.ref qH, .ref oH, .int vS.1, .int vS.2.1, .int vS.2.2.1, .int vS.2.2.2.1, .int vS.2.2.2.2.1, .int vS.2.2.2.2.2.1, .int vS.2.2.2.2.2.2.1, .int vS.2.2.2.2.2.2.2])), (qH, .inr (1, [.ref qA, .int vQ.2.1, .int vQ.2.2.1, .int vQ.2.2.2])), (qA, .inl (cI, 16, .inl vQ.1))]) [0, 1, 2] (by decide) rfl
  have hFc := va_free (wc := [(sH, .inr (3, [.ref qH, .ref oH, .int vS.1, .int vS.2.1, .int vS.2.2.1, .int vS.2.2.2.1, .int vS.2.2.2.2.1, .int vS.2.2.2.2.2.1, .int vS.2.2.2.2.2.2.1, .int vS.2.2.2.2.2.2.2])), (qH, .inr (1, [.ref qA, .int vQ.2.1, .int vQ.2.2.1, .int vQ.2.2.2])), (qA, .inl (cI, 16, .inl vQ.1))]) hD hS hA [0, 1, 2] rfl
  refine va_calli (va_runV (As := []) (rest := []) ⟨hx, hb, hml, hown, hw⟩ (k_X3_cause l dC dI cI cJ cB cZ sH qH oH qA s.heap.size vS vQ) (cwV 0 hw (gV w_362 w_185 w_186 w_5 w_187) rfl rfl rfl (by decide +kernel) ⟨Nat.le_of_ble_eq_true rfl, Nat.le_of_ble_eq_true rfl⟩) ⟨fun a U g mk q => by obtain ⟨q0, q1, qP, qK, qD, qN⟩ := q; exact ⟨q0, q1, qP, va_K.moved (u := U) (U := U.calling g mk a) (Vm.Alike.refl U.vm) qK, qD, nw_same (s := U) (U := U.calling g mk a) rfl qN⟩, va_recv hK hPc (ci := 3) (q0 := 0) rfl rfl, fun U hU hW => ⟨rfl, by rw [hU], by rw [hU]; exact hPc, va_K.moved hW.alike hK, hDc.weaken (fun _ _ _ _ => trivial), nw_warm hW hN⟩⟩ rfl rfl hl.1 rfl (lv_room (Nat.le_of_ble_eq_true rfl)) dX3_loadCause_1 ⟨Nat.le_of_ble_eq_true rfl, Nat.le_of_ble_eq_true rfl⟩) hS (fun q _ h => hFc q h) hFc (fun r_1 u t9 H1 locs ht hvm hR hB hz1 hk1 hS => ?_)
  replace hR := Eq.symm hR
  subst hR
  obtain ⟨hP1, hD1⟩ := hB
  rw [ht] at hP1
  obtain ⟨hP, hD⟩ := va_join (wr := []) (w1 := [(sH, .inr (3, [.ref qH, .ref oH, .int vS.1, .int vS.2.1, .int vS.2.2.1, .int vS.2.2.2.1, .int vS.2.2.2.2.1, .int vS.2.2.2.2.2.1, .int vS.2.2.2.2.2.2.1, .int vS.2.2.2.2.2.2.2])), (qH, .inr (1, [.ref qA, .int vQ.2.1, .int vQ.2.2.1, .int vQ.2.2.2])), (qA, .inl (cI, 16, .inl vQ.1))]) hP hD [0, 1, 2] [] rfl rfl (by decide) (by decide) hk1 hFc hP1 hD1
  generalize H1 = H at hP hS ⊢
  have hP : va_P (dC, dI) vwCl [(sH, .inr (3, [.ref qH, .ref oH, .int vS.1, .int vS.2.1, .int vS.2.2.1, .int vS.2.2.2.1, .int vS.2.2.2.2.1, .int vS.2.2.2.2.2.1, .int vS.2.2.2.2.2.2.1, .int vS.2.2.2.2.2.2.2])), (qH, .inr (1, [.ref qA, .int vQ.2.1, .int vQ.2.2.1, .int vQ.2.2.2])), (qA, .inl (cI, 16, .inl vQ.1))] H := hP
  have hD : va_D A [(sH, .inr (3, [.ref qH, .ref oH, .int vS.1, .int vS.2.1, .int vS.2.2.1, .int vS.2.2.2.1, .int vS.2.2.2.2.1, .int vS.2.2.2.2.2.1, .int vS.2.2.2.2.2.2.1, .int vS.2.2.2.2.2.2.2])), (qH, .inr (1, [.ref qA, .int vQ.2.1, .int vQ.2.2.1, .int vQ.2.2.2])), (qA, .inl (cI, 16, .inl vQ.1))] := hD
  refine lv_istore_n (lv' := [(1, .int (f_X3_cause vS vQ)), (0, .ref sH)]) hx hb dX3_loadCause_4 rfl hl (by decide) rfl (fun ls hl => ?_)
  refine lv_iload_n hx hb dX3_loadCause_5 rfl (lv_at hl 0 rfl) ?_
  refine lv_iconst (v := 2) hx hb dX3_loadCause_6 (by decide) ?_
  refine lv_icmp_ne (tgt := 15) hx hb dX3_loadCause_7 (by decide) (fun c_7 => ?_) (fun c_7 => ?_)
  · refine lv_aload_n hx hb dX3_loadCause_15 rfl (lv_at hl 1 rfl) ?_
    refine va_get (D := (dC, dI)) (ci := 3) (v := .ref qH) (C := RX3) (T := TX3) (N := 10) hx hb hw inWX3 hown hK hP 0 rfl rfl 0 (by decide) (hw _ w_114) (fun _ h9 => h9) rfl dX3_loadCause_16 ?_
    refine va_getN (D := (dC, dI)) (ci := 1) (v := .int vQ.2.2.2) (C := RX1) (T := TX1) (N := 4) hx hb hw inWX1 hown hK hP 1 rfl rfl 3 (by decide) (va_Nw.use rfl (hN _ n_89)) (fun _ h9 => h9) rfl dX3_loadCause_19 ?_
    refine lv_if_eq (tgt := 33) hx hb dX3_loadCause_22 (by decide) (fun c_22 => ?_) (fun c_22 => ?_)
    · refine lv_iload_n hx hb dX3_loadCause_33 rfl (lv_at hl 0 rfl) ?_
      have hF : (f_X3_loadCause vS vQ) = ((f_X3_cause vS vQ), vS) := by rw [f_X3_loadCause, if_neg c_7, if_pos c_22]
      have hP9 := hP.sub (ws' := [(sH, .inr (3, [.ref qH, .ref oH, .int vS.1, .int vS.2.1, .int vS.2.2.1, .int vS.2.2.2.1, .int vS.2.2.2.2.1, .int vS.2.2.2.2.2.1, .int vS.2.2.2.2.2.2.1, .int vS.2.2.2.2.2.2.2])), (qH, .inr (1, [.ref qA, .int vQ.2.1, .int vQ.2.2.1, .int vQ.2.2.2])), (qA, .inl (cI, 16, .inl vQ.1))]) [0, 1, 2] rfl
      have hD9 := hD.sub (ws' := [(sH, .inr (3, [.ref qH, .ref oH, .int vS.1, .int vS.2.1, .int vS.2.2.1, .int vS.2.2.2.1, .int vS.2.2.2.2.1, .int vS.2.2.2.2.2.1, .int vS.2.2.2.2.2.2.1, .int vS.2.2.2.2.2.2.2])), (qH, .inr (1, [.ref qA, .int vQ.2.1, .int vQ.2.2.1, .int vQ.2.2.2])), (qA, .inl (cI, 16, .inl vQ.1))]) [0, 1, 2] (by decide) rfl
      exact W.iret (v := (f_X3_cause vS vQ)) hx hb hr (fun u hu hW => ⟨⟨(f_X3_cause vS vQ), (), rfl, (congrArg Prod.fst hF).symm, by rw [hu, hF]; exact hP9, by rw [hF]; exact hD9⟩, hS.F hu⟩) hS.2.2 dX3_loadCause_34
    · refine lv_iload_n hx hb dX3_loadCause_25 rfl (lv_at hl 0 rfl) ?_
      refine lv_sipush (v := 192) hx hb dX3_loadCause_26 (by decide) ?_
      refine lv_ior hx hb dX3_loadCause_29 ?_
      refine lv_goto (tgt := 34) hx hb dX3_loadCause_30 (by decide) ?_
      have hF : (f_X3_loadCause vS vQ) = (((f_X3_cause vS vQ) ||| 192), vS) := by rw [f_X3_loadCause, if_neg c_7, if_neg c_22]
      have hP9 := hP.sub (ws' := [(sH, .inr (3, [.ref qH, .ref oH, .int vS.1, .int vS.2.1, .int vS.2.2.1, .int vS.2.2.2.1, .int vS.2.2.2.2.1, .int vS.2.2.2.2.2.1, .int vS.2.2.2.2.2.2.1, .int vS.2.2.2.2.2.2.2])), (qH, .inr (1, [.ref qA, .int vQ.2.1, .int vQ.2.2.1, .int vQ.2.2.2])), (qA, .inl (cI, 16, .inl vQ.1))]) [0, 1, 2] rfl
      have hD9 := hD.sub (ws' := [(sH, .inr (3, [.ref qH, .ref oH, .int vS.1, .int vS.2.1, .int vS.2.2.1, .int vS.2.2.2.1, .int vS.2.2.2.2.1, .int vS.2.2.2.2.2.1, .int vS.2.2.2.2.2.2.1, .int vS.2.2.2.2.2.2.2])), (qH, .inr (1, [.ref qA, .int vQ.2.1, .int vQ.2.2.1, .int vQ.2.2.2])), (qA, .inl (cI, 16, .inl vQ.1))]) [0, 1, 2] (by decide) rfl
      exact W.iret (v := ((f_X3_cause vS vQ) ||| 192)) hx hb hr (fun u hu hW => ⟨⟨((f_X3_cause vS vQ) ||| 192), (), rfl, (congrArg Prod.fst hF).symm, by rw [hu, hF]; exact hP9, by rw [hF]; exact hD9⟩, hS.F hu⟩) hS.2.2 dX3_loadCause_34
  · refine lv_aload_n hx hb dX3_loadCause_10 rfl (lv_at hl 1 rfl) ?_
    refine lv_iconst (v := 0) hx hb dX3_loadCause_11 (by decide) ?_
    refine va_put (D := (dC, dI)) (ci := 3) (v := .int 0) (ty := .boolean) (C := RX3) (T := TX3) (N := 10) hx hb hw inWX3 tyX3 tyX3_ok nmX3 hown hK hP hD hS 0 rfl rfl 9 (by decide) (hw _ w_125) (fun _ h9 => h9) rfl (by decide +kernel) rfl rfl (Nat.le_of_ble_eq_true rfl) dX3_loadCause_12 (fun H locs hP hD hS => ?_)
    have hP : va_P (dC, dI) vwCl [(sH, .inr (3, [.ref qH, .ref oH, .int vS.1, .int vS.2.1, .int vS.2.2.1, .int vS.2.2.2.1, .int vS.2.2.2.2.1, .int vS.2.2.2.2.2.1, .int vS.2.2.2.2.2.2.1, .int 0])), (qH, .inr (1, [.ref qA, .int vQ.2.1, .int vQ.2.2.1, .int vQ.2.2.2])), (qA, .inl (cI, 16, .inl vQ.1))] H := hP
    have hD : va_D A [(sH, .inr (3, [.ref qH, .ref oH, .int vS.1, .int vS.2.1, .int vS.2.2.1, .int vS.2.2.2.1, .int vS.2.2.2.2.1, .int vS.2.2.2.2.2.1, .int vS.2.2.2.2.2.2.1, .int 0])), (qH, .inr (1, [.ref qA, .int vQ.2.1, .int vQ.2.2.1, .int vQ.2.2.2])), (qA, .inl (cI, 16, .inl vQ.1))] := hD
    refine lv_aload_n hx hb dX3_loadCause_15 rfl (lv_at hl 1 rfl) ?_
    refine va_get (D := (dC, dI)) (ci := 3) (v := .ref qH) (C := RX3) (T := TX3) (N := 10) hx hb hw inWX3 hown hK hP 0 rfl rfl 0 (by decide) (hw _ w_114) (fun _ h9 => h9) rfl dX3_loadCause_16 ?_
    refine va_getN (D := (dC, dI)) (ci := 1) (v := .int vQ.2.2.2) (C := RX1) (T := TX1) (N := 4) hx hb hw inWX1 hown hK hP 1 rfl rfl 3 (by decide) (va_Nw.use rfl (hN _ n_89)) (fun _ h9 => h9) rfl dX3_loadCause_19 ?_
    refine lv_if_eq (tgt := 33) hx hb dX3_loadCause_22 (by decide) (fun c_22 => ?_) (fun c_22 => ?_)
    · refine lv_iload_n hx hb dX3_loadCause_33 rfl (lv_at hl 0 rfl) ?_
      have hF : (f_X3_loadCause vS vQ) = ((f_X3_cause vS vQ), (vS.1, vS.2.1, vS.2.2.1, vS.2.2.2.1, vS.2.2.2.2.1, vS.2.2.2.2.2.1, vS.2.2.2.2.2.2.1, 0)) := by rw [f_X3_loadCause, if_pos c_7, if_pos c_22]
      have hP9 := hP.sub (ws' := [(sH, .inr (3, [.ref qH, .ref oH, .int vS.1, .int vS.2.1, .int vS.2.2.1, .int vS.2.2.2.1, .int vS.2.2.2.2.1, .int vS.2.2.2.2.2.1, .int vS.2.2.2.2.2.2.1, .int 0])), (qH, .inr (1, [.ref qA, .int vQ.2.1, .int vQ.2.2.1, .int vQ.2.2.2])), (qA, .inl (cI, 16, .inl vQ.1))]) [0, 1, 2] rfl
      have hD9 := hD.sub (ws' := [(sH, .inr (3, [.ref qH, .ref oH, .int vS.1, .int vS.2.1, .int vS.2.2.1, .int vS.2.2.2.1, .int vS.2.2.2.2.1, .int vS.2.2.2.2.2.1, .int vS.2.2.2.2.2.2.1, .int 0])), (qH, .inr (1, [.ref qA, .int vQ.2.1, .int vQ.2.2.1, .int vQ.2.2.2])), (qA, .inl (cI, 16, .inl vQ.1))]) [0, 1, 2] (by decide) rfl
      exact W.iret (v := (f_X3_cause vS vQ)) hx hb hr (fun u hu hW => ⟨⟨(f_X3_cause vS vQ), (), rfl, (congrArg Prod.fst hF).symm, by rw [hu, hF]; exact hP9, by rw [hF]; exact hD9⟩, hS.F hu⟩) hS.2.2 dX3_loadCause_34
    · refine lv_iload_n hx hb dX3_loadCause_25 rfl (lv_at hl 0 rfl) ?_
      refine lv_sipush (v := 192) hx hb dX3_loadCause_26 (by decide) ?_
      refine lv_ior hx hb dX3_loadCause_29 ?_
      refine lv_goto (tgt := 34) hx hb dX3_loadCause_30 (by decide) ?_
      have hF : (f_X3_loadCause vS vQ) = (((f_X3_cause vS vQ) ||| 192), (vS.1, vS.2.1, vS.2.2.1, vS.2.2.2.1, vS.2.2.2.2.1, vS.2.2.2.2.2.1, vS.2.2.2.2.2.2.1, 0)) := by rw [f_X3_loadCause, if_pos c_7, if_neg c_22]
      have hP9 := hP.sub (ws' := [(sH, .inr (3, [.ref qH, .ref oH, .int vS.1, .int vS.2.1, .int vS.2.2.1, .int vS.2.2.2.1, .int vS.2.2.2.2.1, .int vS.2.2.2.2.2.1, .int vS.2.2.2.2.2.2.1, .int 0])), (qH, .inr (1, [.ref qA, .int vQ.2.1, .int vQ.2.2.1, .int vQ.2.2.2])), (qA, .inl (cI, 16, .inl vQ.1))]) [0, 1, 2] rfl
      have hD9 := hD.sub (ws' := [(sH, .inr (3, [.ref qH, .ref oH, .int vS.1, .int vS.2.1, .int vS.2.2.1, .int vS.2.2.2.1, .int vS.2.2.2.2.1, .int vS.2.2.2.2.2.1, .int vS.2.2.2.2.2.2.1, .int 0])), (qH, .inr (1, [.ref qA, .int vQ.2.1, .int vQ.2.2.1, .int vQ.2.2.2])), (qA, .inl (cI, 16, .inl vQ.1))]) [0, 1, 2] (by decide) rfl
      exact W.iret (v := ((f_X3_cause vS vQ) ||| 192)) hx hb hr (fun u hu hW => ⟨⟨((f_X3_cause vS vQ) ||| 192), (), rfl, (congrArg Prod.fst hF).symm, by rw [hu, hF]; exact hP9, by rw [hF]; exact hD9⟩, hS.F hu⟩) hS.2.2 dX3_loadCause_34
def f_X3_loadLineState (vS : SS) (vQ : QS) : Int32 × SS :=
  if vQ.2.2.1 ≤ 0 then if vS.2.2.2.2.2.2.1 = 0 then ((((96 : Int32) ||| 0) ||| 0), (vS.1, vS.2.1, vS.2.2.1, vS.2.2.2.1, vS.2.2.2.2.1, vS.2.2.2.2.2.1, 0, vS.2.2.2.2.2.2.2))
    else ((((96 : Int32) ||| 0) ||| 2), (vS.1, vS.2.1, vS.2.2.1, vS.2.2.2.1, vS.2.2.2.2.1, vS.2.2.2.2.2.1, 0, vS.2.2.2.2.2.2.2))
  else if vS.2.2.2.2.2.2.1 = 0 then ((((96 : Int32) ||| 1) ||| 0), (vS.1, vS.2.1, vS.2.2.1, vS.2.2.2.1, vS.2.2.2.2.1, vS.2.2.2.2.2.1, 0, vS.2.2.2.2.2.2.2))
    else ((((96 : Int32) ||| 1) ||| 2), (vS.1, vS.2.1, vS.2.2.1, vS.2.2.2.1, vS.2.2.2.2.1, vS.2.2.2.2.2.1, 0, vS.2.2.2.2.2.2.2))
set_option maxHeartbeats 4000000 in
set_option maxRecDepth 100000 in
theorem k_X3_loadLineState (l : Launch) (dC : Nat → ClassId) (dI : Nat → Nat → Nat) (cI cJ cB cZ : ClassId) (sH qH oH qA : Nat) (sz : Nat) (vS : SS) (vQ : QS)  : Met l yX3_loadLineState wsX3_loadLineState ({ frames := 0, cells := 0, slots := 0, locals := 0 }) (va_Pc [.ref sH] (fun U => U.heap.size = sz ∧ va_P (dC, dI) vwCl [(sH, .inr (3, [.ref qH, .ref oH, .int vS.1, .int vS.2.1, .int vS.2.2.1, .int vS.2.2.2.1, .int vS.2.2.2.2.1, .int vS.2.2.2.2.2.1, .int vS.2.2.2.2.2.2.1, .int vS.2.2.2.2.2.2.2])), (qH, .inr (1, [.ref qA, .int vQ.2.1, .int vQ.2.2.1, .int vQ.2.2.2])), (qA, .inl (cI, 16, .inl vQ.1))] U.heap ∧ va_K (dC, dI) vwCl [(cI, .int), (cJ, .long), (cB, .byte), (cZ, .boolean)] U ∧ va_D (fun _ => True) [(sH, .inr (3, [.ref qH, .ref oH, .int vS.1, .int vS.2.1, .int vS.2.2.1, .int vS.2.2.2.1, .int vS.2.2.2.2.1, .int vS.2.2.2.2.2.1, .int vS.2.2.2.2.2.2.1, .int vS.2.2.2.2.2.2.2])), (qH, .inr (1, [.ref qA, .int vQ.2.1, .int vQ.2.2.1, .int vQ.2.2.2])), (qA, .inl (cI, 16, .inl vQ.1))] ∧ nw_ U)) (va_Qi (fun (r : Int32) (_ : Unit) => r = (f_X3_loadLineState vS vQ).1) (fun (_ : Unit) (w : State) => va_P (dC, dI) vwCl [(sH, .inr (3, [.ref qH, .ref oH, .int (f_X3_loadLineState vS vQ).2.1, .int (f_X3_loadLineState vS vQ).2.2.1, .int (f_X3_loadLineState vS vQ).2.2.2.1, .int (f_X3_loadLineState vS vQ).2.2.2.2.1, .int (f_X3_loadLineState vS vQ).2.2.2.2.2.1, .int (f_X3_loadLineState vS vQ).2.2.2.2.2.2.1, .int (f_X3_loadLineState vS vQ).2.2.2.2.2.2.2.1, .int (f_X3_loadLineState vS vQ).2.2.2.2.2.2.2.2])), (qH, .inr (1, [.ref qA, .int vQ.2.1, .int vQ.2.2.1, .int vQ.2.2.2])), (qA, .inl (cI, 16, .inl vQ.1))] w.heap ∧ va_D (va_A [(sH, .inr (3, [.ref qH, .ref oH, .int vS.1, .int vS.2.1, .int vS.2.2.1, .int vS.2.2.2.1, .int vS.2.2.2.2.1, .int vS.2.2.2.2.2.1, .int vS.2.2.2.2.2.2.1, .int vS.2.2.2.2.2.2.2])), (qH, .inr (1, [.ref qA, .int vQ.2.1, .int vQ.2.2.1, .int vQ.2.2.2])), (qA, .inl (cI, 16, .inl vQ.1))] sz) [(sH, .inr (3, [.ref qH, .ref oH, .int (f_X3_loadLineState vS vQ).2.1, .int (f_X3_loadLineState vS vQ).2.2.1, .int (f_X3_loadLineState vS vQ).2.2.2.1, .int (f_X3_loadLineState vS vQ).2.2.2.2.1, .int (f_X3_loadLineState vS vQ).2.2.2.2.2.1, .int (f_X3_loadLineState vS vQ).2.2.2.2.2.2.1, .int (f_X3_loadLineState vS vQ).2.2.2.2.2.2.2.1, .int (f_X3_loadLineState vS vQ).2.2.2.2.2.2.2.2])), (qH, .inr (1, [.ref qA, .int vQ.2.1, .int vQ.2.2.1, .int vQ.2.2.2])), (qA, .inl (cI, 16, .inl vQ.1))]) (va_A [(sH, .inr (3, [.ref qH, .ref oH, .int vS.1, .int vS.2.1, .int vS.2.2.1, .int vS.2.2.2.1, .int vS.2.2.2.2.1, .int vS.2.2.2.2.2.1, .int vS.2.2.2.2.2.2.1, .int vS.2.2.2.2.2.2.2])), (qH, .inr (1, [.ref qA, .int vQ.2.1, .int vQ.2.2.1, .int vQ.2.2.2])), (qA, .inl (cI, 16, .inl vQ.1))] sz)) 0 0 (va_A [(sH, .inr (3, [.ref qH, .ref oH, .int vS.1, .int vS.2.1, .int vS.2.2.1, .int vS.2.2.2.1, .int vS.2.2.2.2.1, .int vS.2.2.2.2.2.1, .int vS.2.2.2.2.2.2.1, .int vS.2.2.2.2.2.2.2])), (qH, .inr (1, [.ref qA, .int vQ.2.1, .int vQ.2.2.1, .int vQ.2.2.2])), (qA, .inl (cI, 16, .inl vQ.1))] sz) := by
  refine Met.ofW (cc := prog_5_method_8_code) (maxL := 2) (ret := (some .int)) (by decide) rfl ?_
  intro p e s m args below meth c s₁ B hml hv
  obtain ⟨rfl, hsz, hP, hK, hD0, hN⟩ := hv
  have hx := B.exec
  have hb := B.bytes
  have hr := B.returns
  have hw := hw_of (atoms_spec (ws := wsX3_loadLineState) B.pre)
  have hown : s.vm.findClass RX3 = some m.cls := findClass_of_methodNamed B.named
  have hlocks := B.notSynchronized
  subst hsz
  have hD := hD0.self (sz := s.heap.size)
  generalize hAe : va_A [(sH, .inr (3, [.ref qH, .ref oH, .int vS.1, .int vS.2.1, .int vS.2.2.1, .int vS.2.2.2.1, .int vS.2.2.2.2.1, .int vS.2.2.2.2.2.1, .int vS.2.2.2.2.2.2.1, .int vS.2.2.2.2.2.2.2])), (qH, .inr (1, [.ref qA, .int vQ.2.1, .int vQ.2.2.1, .int vQ.2.2.2])), (qA, .inl (cI, 16, .inl vQ.1))] s.heap.size = A at hD ⊢
  have hA : ∀ q : Nat, s.heap.size ≤ q → A q := fun q h => by rw [← hAe]; exact Or.inr h
  have hS : va_S A s.heap s.heap [] := va_S.rf
  have hP : va_P (dC, dI) vwCl [(sH, .inr (3, [.ref qH, .ref oH, .int vS.1, .int vS.2.1, .int vS.2.2.1, .int vS.2.2.2.1, .int vS.2.2.2.2.1, .int vS.2.2.2.2.2.1, .int vS.2.2.2.2.2.2.1, .int vS.2.2.2.2.2.2.2])), (qH, .inr (1, [.ref qA, .int vQ.2.1, .int vQ.2.2.1, .int vQ.2.2.2])), (qA, .inl (cI, 16, .inl vQ.1))] s.heap := hP
  have hl := lv_entry ([.ref sH]) (n := 2) (Nat.le_of_ble_eq_true rfl)
  rw [lg_entry_eq]
  generalize (lg_sl ([.ref sH]) ++ List.replicate (2 - (lg_sl ([.ref sH])).length) Slot.unset).toArray = ls at hl ⊢
  have hl : lv_has ls 2 [(0, .ref sH)] := hl
  refine lv_bipush (v := 96) hx hb dX3_loadLineState_0 (by decide) ?_
  refine lv_aload_n hx hb dX3_loadLineState_2 rfl (lv_at hl 0 rfl) ?_
  refine va_get (D := (dC, dI)) (ci := 3) (v := .ref qH) (C := RX3) (T := TX3) (N := 10) hx hb hw inWX3 hown hK hP 0 rfl rfl 0 (by decide) (hw _ w_114) (fun _ h9 => h9) rfl dX3_loadLineState_3 ?_
  refine va_getN (D := (dC, dI)) (ci := 1) (v := .int vQ.2.2.1) (C := RX1) (T := TX1) (N := 4) hx hb hw inWX1 hown hK hP 1 rfl rfl 2 (by decide) (va_Nw.use rfl (hN _ n_87)) (fun _ h9 => h9) rfl dX3_loadLineState_6 ?_
  refine lv_if_le (tgt := 16) hx hb dX3_loadLineState_9 (by decide) (fun c_9 => ?_) (fun c_9 => ?_)
  · refine lv_iconst (v := 0) hx hb dX3_loadLineState_16 (by decide) ?_
    refine lv_ior hx hb dX3_loadLineState_17 ?_
    refine lv_aload_n hx hb dX3_loadLineState_18 rfl (lv_at hl 0 rfl) ?_
    refine va_get (D := (dC, dI)) (ci := 3) (v := .int vS.2.2.2.2.2.2.1) (C := RX3) (T := TX3) (N := 10) hx hb hw inWX3 hown hK hP 0 rfl rfl 8 (by decide) (hw _ w_124) (fun _ h9 => h9) rfl dX3_loadLineState_19 ?_
    refine lv_if_eq (tgt := 29) hx hb dX3_loadLineState_22 (by decide) (fun c_22 => ?_) (fun c_22 => ?_)
    · refine lv_iconst (v := 0) hx hb dX3_loadLineState_29 (by decide) ?_
      refine lv_ior hx hb dX3_loadLineState_30 ?_
      refine lv_istore_n (lv' := [(1, .int (((96 : Int32) ||| 0) ||| 0)), (0, .ref sH)]) hx hb dX3_loadLineState_31 rfl hl (by decide) rfl (fun ls hl => ?_)
      refine lv_aload_n hx hb dX3_loadLineState_32 rfl (lv_at hl 1 rfl) ?_
      refine lv_iconst (v := 0) hx hb dX3_loadLineState_33 (by decide) ?_
      refine va_put (D := (dC, dI)) (ci := 3) (v := .int 0) (ty := .boolean) (C := RX3) (T := TX3) (N := 10) hx hb hw inWX3 tyX3 tyX3_ok nmX3 hown hK hP hD hS 0 rfl rfl 8 (by decide) (hw _ w_124) (fun _ h9 => h9) rfl (by decide +kernel) rfl rfl (Nat.le_of_ble_eq_true rfl) dX3_loadLineState_34 (fun H locs hP hD hS => ?_)
      have hP : va_P (dC, dI) vwCl [(sH, .inr (3, [.ref qH, .ref oH, .int vS.1, .int vS.2.1, .int vS.2.2.1, .int vS.2.2.2.1, .int vS.2.2.2.2.1, .int vS.2.2.2.2.2.1, .int 0, .int vS.2.2.2.2.2.2.2])), (qH, .inr (1, [.ref qA, .int vQ.2.1, .int vQ.2.2.1, .int vQ.2.2.2])), (qA, .inl (cI, 16, .inl vQ.1))] H := hP
      have hD : va_D A [(sH, .inr (3, [.ref qH, .ref oH, .int vS.1, .int vS.2.1, .int vS.2.2.1, .int vS.2.2.2.1, .int vS.2.2.2.2.1, .int vS.2.2.2.2.2.1, .int 0, .int vS.2.2.2.2.2.2.2])), (qH, .inr (1, [.ref qA, .int vQ.2.1, .int vQ.2.2.1, .int vQ.2.2.2])), (qA, .inl (cI, 16, .inl vQ.1))] := hD
      refine lv_iload_n hx hb dX3_loadLineState_37 rfl (lv_at hl 0 rfl) ?_
      have hF : (f_X3_loadLineState vS vQ) = ((((96 : Int32) ||| 0) ||| 0), (vS.1, vS.2.1, vS.2.2.1, vS.2.2.2.1, vS.2.2.2.2.1, vS.2.2.2.2.2.1, 0, vS.2.2.2.2.2.2.2)) := by rw [f_X3_loadLineState, if_pos c_9, if_pos c_22]
      have hP9 := hP.sub (ws' := [(sH, .inr (3, [.ref qH, .ref oH, .int vS.1, .int vS.2.1, .int vS.2.2.1, .int vS.2.2.2.1, .int vS.2.2.2.2.1, .int vS.2.2.2.2.2.1, .int 0, .int vS.2.2.2.2.2.2.2])), (qH, .inr (1, [.ref qA, .int vQ.2.1, .int vQ.2.2.1, .int vQ.2.2.2])), (qA, .inl (cI, 16, .inl vQ.1))]) [0, 1, 2] rfl
      have hD9 := hD.sub (ws' := [(sH, .inr (3, [.ref qH, .ref oH, .int vS.1, .int vS.2.1, .int vS.2.2.1, .int vS.2.2.2.1, .int vS.2.2.2.2.1, .int vS.2.2.2.2.2.1, .int 0, .int vS.2.2.2.2.2.2.2])), (qH, .inr (1, [.ref qA, .int vQ.2.1, .int vQ.2.2.1, .int vQ.2.2.2])), (qA, .inl (cI, 16, .inl vQ.1))]) [0, 1, 2] (by decide) rfl
      exact W.iret (v := (((96 : Int32) ||| 0) ||| 0)) hx hb hr (fun u hu hW => ⟨⟨(((96 : Int32) ||| 0) ||| 0), (), rfl, (congrArg Prod.fst hF).symm, by rw [hu, hF]; exact hP9, by rw [hF]; exact hD9⟩, hS.F hu⟩) hS.2.2 dX3_loadLineState_38
    · refine lv_iconst (v := 2) hx hb dX3_loadLineState_25 (by decide) ?_
      refine lv_goto (tgt := 30) hx hb dX3_loadLineState_26 (by decide) ?_
      refine lv_ior hx hb dX3_loadLineState_30 ?_
      refine lv_istore_n (lv' := [(1, .int (((96 : Int32) ||| 0) ||| 2)), (0, .ref sH)]) hx hb dX3_loadLineState_31 rfl hl (by decide) rfl (fun ls hl => ?_)
      refine lv_aload_n hx hb dX3_loadLineState_32 rfl (lv_at hl 1 rfl) ?_
      refine lv_iconst (v := 0) hx hb dX3_loadLineState_33 (by decide) ?_
      refine va_put (D := (dC, dI)) (ci := 3) (v := .int 0) (ty := .boolean) (C := RX3) (T := TX3) (N := 10) hx hb hw inWX3 tyX3 tyX3_ok nmX3 hown hK hP hD hS 0 rfl rfl 8 (by decide) (hw _ w_124) (fun _ h9 => h9) rfl (by decide +kernel) rfl rfl (Nat.le_of_ble_eq_true rfl) dX3_loadLineState_34 (fun H locs hP hD hS => ?_)
      have hP : va_P (dC, dI) vwCl [(sH, .inr (3, [.ref qH, .ref oH, .int vS.1, .int vS.2.1, .int vS.2.2.1, .int vS.2.2.2.1, .int vS.2.2.2.2.1, .int vS.2.2.2.2.2.1, .int 0, .int vS.2.2.2.2.2.2.2])), (qH, .inr (1, [.ref qA, .int vQ.2.1, .int vQ.2.2.1, .int vQ.2.2.2])), (qA, .inl (cI, 16, .inl vQ.1))] H := hP
      have hD : va_D A [(sH, .inr (3, [.ref qH, .ref oH, .int vS.1, .int vS.2.1, .int vS.2.2.1, .int vS.2.2.2.1, .int vS.2.2.2.2.1, .int vS.2.2.2.2.2.1, .int 0, .int vS.2.2.2.2.2.2.2])), (qH, .inr (1, [.ref qA, .int vQ.2.1, .int vQ.2.2.1, .int vQ.2.2.2])), (qA, .inl (cI, 16, .inl vQ.1))] := hD
      refine lv_iload_n hx hb dX3_loadLineState_37 rfl (lv_at hl 0 rfl) ?_
      have hF : (f_X3_loadLineState vS vQ) = ((((96 : Int32) ||| 0) ||| 2), (vS.1, vS.2.1, vS.2.2.1, vS.2.2.2.1, vS.2.2.2.2.1, vS.2.2.2.2.2.1, 0, vS.2.2.2.2.2.2.2)) := by rw [f_X3_loadLineState, if_pos c_9, if_neg c_22]
      have hP9 := hP.sub (ws' := [(sH, .inr (3, [.ref qH, .ref oH, .int vS.1, .int vS.2.1, .int vS.2.2.1, .int vS.2.2.2.1, .int vS.2.2.2.2.1, .int vS.2.2.2.2.2.1, .int 0, .int vS.2.2.2.2.2.2.2])), (qH, .inr (1, [.ref qA, .int vQ.2.1, .int vQ.2.2.1, .int vQ.2.2.2])), (qA, .inl (cI, 16, .inl vQ.1))]) [0, 1, 2] rfl
      have hD9 := hD.sub (ws' := [(sH, .inr (3, [.ref qH, .ref oH, .int vS.1, .int vS.2.1, .int vS.2.2.1, .int vS.2.2.2.1, .int vS.2.2.2.2.1, .int vS.2.2.2.2.2.1, .int 0, .int vS.2.2.2.2.2.2.2])), (qH, .inr (1, [.ref qA, .int vQ.2.1, .int vQ.2.2.1, .int vQ.2.2.2])), (qA, .inl (cI, 16, .inl vQ.1))]) [0, 1, 2] (by decide) rfl
      exact W.iret (v := (((96 : Int32) ||| 0) ||| 2)) hx hb hr (fun u hu hW => ⟨⟨(((96 : Int32) ||| 0) ||| 2), (), rfl, (congrArg Prod.fst hF).symm, by rw [hu, hF]; exact hP9, by rw [hF]; exact hD9⟩, hS.F hu⟩) hS.2.2 dX3_loadLineState_38
  · refine lv_iconst (v := 1) hx hb dX3_loadLineState_12 (by decide) ?_
    refine lv_goto (tgt := 17) hx hb dX3_loadLineState_13 (by decide) ?_
    refine lv_ior hx hb dX3_loadLineState_17 ?_
    refine lv_aload_n hx hb dX3_loadLineState_18 rfl (lv_at hl 0 rfl) ?_
    refine va_get (D := (dC, dI)) (ci := 3) (v := .int vS.2.2.2.2.2.2.1) (C := RX3) (T := TX3) (N := 10) hx hb hw inWX3 hown hK hP 0 rfl rfl 8 (by decide) (hw _ w_124) (fun _ h9 => h9) rfl dX3_loadLineState_19 ?_
    refine lv_if_eq (tgt := 29) hx hb dX3_loadLineState_22 (by decide) (fun c_22 => ?_) (fun c_22 => ?_)
    · refine lv_iconst (v := 0) hx hb dX3_loadLineState_29 (by decide) ?_
      refine lv_ior hx hb dX3_loadLineState_30 ?_
      refine lv_istore_n (lv' := [(1, .int (((96 : Int32) ||| 1) ||| 0)), (0, .ref sH)]) hx hb dX3_loadLineState_31 rfl hl (by decide) rfl (fun ls hl => ?_)
      refine lv_aload_n hx hb dX3_loadLineState_32 rfl (lv_at hl 1 rfl) ?_
      refine lv_iconst (v := 0) hx hb dX3_loadLineState_33 (by decide) ?_
      refine va_put (D := (dC, dI)) (ci := 3) (v := .int 0) (ty := .boolean) (C := RX3) (T := TX3) (N := 10) hx hb hw inWX3 tyX3 tyX3_ok nmX3 hown hK hP hD hS 0 rfl rfl 8 (by decide) (hw _ w_124) (fun _ h9 => h9) rfl (by decide +kernel) rfl rfl (Nat.le_of_ble_eq_true rfl) dX3_loadLineState_34 (fun H locs hP hD hS => ?_)
      have hP : va_P (dC, dI) vwCl [(sH, .inr (3, [.ref qH, .ref oH, .int vS.1, .int vS.2.1, .int vS.2.2.1, .int vS.2.2.2.1, .int vS.2.2.2.2.1, .int vS.2.2.2.2.2.1, .int 0, .int vS.2.2.2.2.2.2.2])), (qH, .inr (1, [.ref qA, .int vQ.2.1, .int vQ.2.2.1, .int vQ.2.2.2])), (qA, .inl (cI, 16, .inl vQ.1))] H := hP
      have hD : va_D A [(sH, .inr (3, [.ref qH, .ref oH, .int vS.1, .int vS.2.1, .int vS.2.2.1, .int vS.2.2.2.1, .int vS.2.2.2.2.1, .int vS.2.2.2.2.2.1, .int 0, .int vS.2.2.2.2.2.2.2])), (qH, .inr (1, [.ref qA, .int vQ.2.1, .int vQ.2.2.1, .int vQ.2.2.2])), (qA, .inl (cI, 16, .inl vQ.1))] := hD
      refine lv_iload_n hx hb dX3_loadLineState_37 rfl (lv_at hl 0 rfl) ?_
      have hF : (f_X3_loadLineState vS vQ) = ((((96 : Int32) ||| 1) ||| 0), (vS.1, vS.2.1, vS.2.2.1, vS.2.2.2.1, vS.2.2.2.2.1, vS.2.2.2.2.2.1, 0, vS.2.2.2.2.2.2.2)) := by rw [f_X3_loadLineState, if_neg c_9, if_pos c_22]
      have hP9 := hP.sub (ws' := [(sH, .inr (3, [.ref qH, .ref oH, .int vS.1, .int vS.2.1, .int vS.2.2.1, .int vS.2.2.2.1, .int vS.2.2.2.2.1, .int vS.2.2.2.2.2.1, .int 0, .int vS.2.2.2.2.2.2.2])), (qH, .inr (1, [.ref qA, .int vQ.2.1, .int vQ.2.2.1, .int vQ.2.2.2])), (qA, .inl (cI, 16, .inl vQ.1))]) [0, 1, 2] rfl
      have hD9 := hD.sub (ws' := [(sH, .inr (3, [.ref qH, .ref oH, .int vS.1, .int vS.2.1, .int vS.2.2.1, .int vS.2.2.2.1, .int vS.2.2.2.2.1, .int vS.2.2.2.2.2.1, .int 0, .int vS.2.2.2.2.2.2.2])), (qH, .inr (1, [.ref qA, .int vQ.2.1, .int vQ.2.2.1, .int vQ.2.2.2])), (qA, .inl (cI, 16, .inl vQ.1))]) [0, 1, 2] (by decide) rfl
      exact W.iret (v := (((96 : Int32) ||| 1) ||| 0)) hx hb hr (fun u hu hW => ⟨⟨(((96 : Int32) ||| 1) ||| 0), (), rfl, (congrArg Prod.fst hF).symm, by rw [hu, hF]; exact hP9, by rw [hF]; exact hD9⟩, hS.F hu⟩) hS.2.2 dX3_loadLineState_38
    · refine lv_iconst (v := 2) hx hb dX3_loadLineState_25 (by decide) ?_
      refine lv_goto (tgt := 30) hx hb dX3_loadLineState_26 (by decide) ?_
      refine lv_ior hx hb dX3_loadLineState_30 ?_
      refine lv_istore_n (lv' := [(1, .int (((96 : Int32) ||| 1) ||| 2)), (0, .ref sH)]) hx hb dX3_loadLineState_31 rfl hl (by decide) rfl (fun ls hl => ?_)
      refine lv_aload_n hx hb dX3_loadLineState_32 rfl (lv_at hl 1 rfl) ?_
      refine lv_iconst (v := 0) hx hb dX3_loadLineState_33 (by decide) ?_
      refine va_put (D := (dC, dI)) (ci := 3) (v := .int 0) (ty := .boolean) (C := RX3) (T := TX3) (N := 10) hx hb hw inWX3 tyX3 tyX3_ok nmX3 hown hK hP hD hS 0 rfl rfl 8 (by decide) (hw _ w_124) (fun _ h9 => h9) rfl (by decide +kernel) rfl rfl (Nat.le_of_ble_eq_true rfl) dX3_loadLineState_34 (fun H locs hP hD hS => ?_)
      have hP : va_P (dC, dI) vwCl [(sH, .inr (3, [.ref qH, .ref oH, .int vS.1, .int vS.2.1, .int vS.2.2.1, .int vS.2.2.2.1, .int vS.2.2.2.2.1, .int vS.2.2.2.2.2.1, .int 0, .int vS.2.2.2.2.2.2.2])), (qH, .inr (1, [.ref qA, .int vQ.2.1, .int vQ.2.2.1, .int vQ.2.2.2])), (qA, .inl (cI, 16, .inl vQ.1))] H := hP
      have hD : va_D A [(sH, .inr (3, [.ref qH, .ref oH, .int vS.1, .int vS.2.1, .int vS.2.2.1, .int vS.2.2.2.1, .int vS.2.2.2.2.1, .int vS.2.2.2.2.2.1, .int 0, .int vS.2.2.2.2.2.2.2])), (qH, .inr (1, [.ref qA, .int vQ.2.1, .int vQ.2.2.1, .int vQ.2.2.2])), (qA, .inl (cI, 16, .inl vQ.1))] := hD
      refine lv_iload_n hx hb dX3_loadLineState_37 rfl (lv_at hl 0 rfl) ?_
      have hF : (f_X3_loadLineState vS vQ) = ((((96 : Int32) ||| 1) ||| 2), (vS.1, vS.2.1, vS.2.2.1, vS.2.2.2.1, vS.2.2.2.2.1, vS.2.2.2.2.2.1, 0, vS.2.2.2.2.2.2.2)) := by rw [f_X3_loadLineState, if_neg c_9, if_neg c_22]
      have hP9 := hP.sub (ws' := [(sH, .inr (3, [.ref qH, .ref oH, .int vS.1, .int vS.2.1, .int vS.2.2.1, .int vS.2.2.2.1, .int vS.2.2.2.2.1, .int vS.2.2.2.2.2.1, .int 0, .int vS.2.2.2.2.2.2.2])), (qH, .inr (1, [.ref qA, .int vQ.2.1, .int vQ.2.2.1, .int vQ.2.2.2])), (qA, .inl (cI, 16, .inl vQ.1))]) [0, 1, 2] rfl
      have hD9 := hD.sub (ws' := [(sH, .inr (3, [.ref qH, .ref oH, .int vS.1, .int vS.2.1, .int vS.2.2.1, .int vS.2.2.2.1, .int vS.2.2.2.2.1, .int vS.2.2.2.2.2.1, .int 0, .int vS.2.2.2.2.2.2.2])), (qH, .inr (1, [.ref qA, .int vQ.2.1, .int vQ.2.2.1, .int vQ.2.2.2])), (qA, .inl (cI, 16, .inl vQ.1))]) [0, 1, 2] (by decide) rfl
      exact W.iret (v := (((96 : Int32) ||| 1) ||| 2)) hx hb hr (fun u hu hW => ⟨⟨(((96 : Int32) ||| 1) ||| 2), (), rfl, (congrArg Prod.fst hF).symm, by rw [hu, hF]; exact hP9, by rw [hF]; exact hD9⟩, hS.F hu⟩) hS.2.2 dX3_loadLineState_38
def f_X3_modemState (vS : SS) : Int32 :=
  if (vS.2.2.1 &&& 16) = 0 then 176
  else ((((vS.2.2.1 &&& 2) <<< ((3 : Int32) &&& 31)) ||| ((vS.2.2.1 &&& 1) <<< ((5 : Int32) &&& 31))) ||| ((vS.2.2.1 &&& 12) <<< ((4 : Int32) &&& 31)))
set_option maxHeartbeats 4000000 in
set_option maxRecDepth 100000 in
theorem k_X3_modemState (l : Launch) (dC : Nat → ClassId) (dI : Nat → Nat → Nat) (cI cJ cB cZ : ClassId) (sH qH oH : Nat) (sz : Nat) (vS : SS)  : Met l yX3_modemState wsX3_modemState ({ frames := 0, cells := 0, slots := 0, locals := 0 }) (va_Pc [.ref sH] (fun U => U.heap.size = sz ∧ va_P (dC, dI) vwCl [(sH, .inr (3, [.ref qH, .ref oH, .int vS.1, .int vS.2.1, .int vS.2.2.1, .int vS.2.2.2.1, .int vS.2.2.2.2.1, .int vS.2.2.2.2.2.1, .int vS.2.2.2.2.2.2.1, .int vS.2.2.2.2.2.2.2]))] U.heap ∧ va_K (dC, dI) vwCl [(cI, .int), (cJ, .long), (cB, .byte), (cZ, .boolean)] U ∧ va_D (fun _ => True) [(sH, .inr (3, [.ref qH, .ref oH, .int vS.1, .int vS.2.1, .int vS.2.2.1, .int vS.2.2.2.1, .int vS.2.2.2.2.1, .int vS.2.2.2.2.2.1, .int vS.2.2.2.2.2.2.1, .int vS.2.2.2.2.2.2.2]))] ∧ nw_ U)) (va_Qi (fun (r : Int32) (_ : Unit) => r = (f_X3_modemState vS)) (fun (_ : Unit) (w : State) => va_P (dC, dI) vwCl [(sH, .inr (3, [.ref qH, .ref oH, .int vS.1, .int vS.2.1, .int vS.2.2.1, .int vS.2.2.2.1, .int vS.2.2.2.2.1, .int vS.2.2.2.2.2.1, .int vS.2.2.2.2.2.2.1, .int vS.2.2.2.2.2.2.2]))] w.heap ∧ va_D (va_A [(sH, .inr (3, [.ref qH, .ref oH, .int vS.1, .int vS.2.1, .int vS.2.2.1, .int vS.2.2.2.1, .int vS.2.2.2.2.1, .int vS.2.2.2.2.2.1, .int vS.2.2.2.2.2.2.1, .int vS.2.2.2.2.2.2.2]))] sz) [(sH, .inr (3, [.ref qH, .ref oH, .int vS.1, .int vS.2.1, .int vS.2.2.1, .int vS.2.2.2.1, .int vS.2.2.2.2.1, .int vS.2.2.2.2.2.1, .int vS.2.2.2.2.2.2.1, .int vS.2.2.2.2.2.2.2]))]) (va_A [(sH, .inr (3, [.ref qH, .ref oH, .int vS.1, .int vS.2.1, .int vS.2.2.1, .int vS.2.2.2.1, .int vS.2.2.2.2.1, .int vS.2.2.2.2.2.1, .int vS.2.2.2.2.2.2.1, .int vS.2.2.2.2.2.2.2]))] sz)) 0 0 (va_A [(sH, .inr (3, [.ref qH, .ref oH, .int vS.1, .int vS.2.1, .int vS.2.2.1, .int vS.2.2.2.1, .int vS.2.2.2.2.1, .int vS.2.2.2.2.2.1, .int vS.2.2.2.2.2.2.1, .int vS.2.2.2.2.2.2.2]))] sz) := by
  refine Met.ofW (cc := prog_5_method_9_code) (maxL := 1) (ret := (some .int)) (by decide) rfl ?_
  intro p e s m args below meth c s₁ B hml hv
  obtain ⟨rfl, hsz, hP, hK, hD0, hN⟩ := hv
  have hx := B.exec
  have hb := B.bytes
  have hr := B.returns
  have hw := hw_of (atoms_spec (ws := wsX3_modemState) B.pre)
  have hown : s.vm.findClass RX3 = some m.cls := findClass_of_methodNamed B.named
  have hlocks := B.notSynchronized
  subst hsz
  have hD := hD0.self (sz := s.heap.size)
  generalize hAe : va_A [(sH, .inr (3, [.ref qH, .ref oH, .int vS.1, .int vS.2.1, .int vS.2.2.1, .int vS.2.2.2.1, .int vS.2.2.2.2.1, .int vS.2.2.2.2.2.1, .int vS.2.2.2.2.2.2.1, .int vS.2.2.2.2.2.2.2]))] s.heap.size = A at hD ⊢
  have hA : ∀ q : Nat, s.heap.size ≤ q → A q := fun q h => by rw [← hAe]; exact Or.inr h
  have hS : va_S A s.heap s.heap [] := va_S.rf
  have hP : va_P (dC, dI) vwCl [(sH, .inr (3, [.ref qH, .ref oH, .int vS.1, .int vS.2.1, .int vS.2.2.1, .int vS.2.2.2.1, .int vS.2.2.2.2.1, .int vS.2.2.2.2.2.1, .int vS.2.2.2.2.2.2.1, .int vS.2.2.2.2.2.2.2]))] s.heap := hP
  have hl := lv_entry ([.ref sH]) (n := 1) (Nat.le_of_ble_eq_true rfl)
  rw [lg_entry_eq]
  generalize (lg_sl ([.ref sH]) ++ List.replicate (1 - (lg_sl ([.ref sH])).length) Slot.unset).toArray = ls at hl ⊢
  have hl : lv_has ls 1 [(0, .ref sH)] := hl
  refine lv_aload_n hx hb dX3_modemState_0 rfl (lv_at hl 0 rfl) ?_
  refine va_get (D := (dC, dI)) (ci := 3) (v := .int vS.2.2.1) (C := RX3) (T := TX3) (N := 10) hx hb hw inWX3 hown hK hP 0 rfl rfl 4 (by decide) (hw _ w_120) (fun _ h9 => h9) rfl dX3_modemState_1 ?_
  refine lv_bipush (v := 16) hx hb dX3_modemState_4 (by decide) ?_
  refine lv_iand hx hb dX3_modemState_6 ?_
  refine lv_if_ne (tgt := 14) hx hb dX3_modemState_7 (by decide) (fun c_7 => ?_) (fun c_7 => ?_)
  · refine lv_aload_n hx hb dX3_modemState_14 rfl (lv_at hl 0 rfl) ?_
    refine va_get (D := (dC, dI)) (ci := 3) (v := .int vS.2.2.1) (C := RX3) (T := TX3) (N := 10) hx hb hw inWX3 hown hK hP 0 rfl rfl 4 (by decide) (hw _ w_120) (fun _ h9 => h9) rfl dX3_modemState_15 ?_
    refine lv_iconst (v := 2) hx hb dX3_modemState_18 (by decide) ?_
    refine lv_iand hx hb dX3_modemState_19 ?_
    refine lv_iconst (v := 3) hx hb dX3_modemState_20 (by decide) ?_
    refine lv_ishl hx hb dX3_modemState_21 ?_
    refine lv_aload_n hx hb dX3_modemState_22 rfl (lv_at hl 0 rfl) ?_
    refine va_get (D := (dC, dI)) (ci := 3) (v := .int vS.2.2.1) (C := RX3) (T := TX3) (N := 10) hx hb hw inWX3 hown hK hP 0 rfl rfl 4 (by decide) (hw _ w_120) (fun _ h9 => h9) rfl dX3_modemState_23 ?_
    refine lv_iconst (v := 1) hx hb dX3_modemState_26 (by decide) ?_
    refine lv_iand hx hb dX3_modemState_27 ?_
    refine lv_iconst (v := 5) hx hb dX3_modemState_28 (by decide) ?_
    refine lv_ishl hx hb dX3_modemState_29 ?_
    refine lv_ior hx hb dX3_modemState_30 ?_
    refine lv_aload_n hx hb dX3_modemState_31 rfl (lv_at hl 0 rfl) ?_
    refine va_get (D := (dC, dI)) (ci := 3) (v := .int vS.2.2.1) (C := RX3) (T := TX3) (N := 10) hx hb hw inWX3 hown hK hP 0 rfl rfl 4 (by decide) (hw _ w_120) (fun _ h9 => h9) rfl dX3_modemState_32 ?_
    refine lv_bipush (v := 12) hx hb dX3_modemState_35 (by decide) ?_
    refine lv_iand hx hb dX3_modemState_37 ?_
    refine lv_iconst (v := 4) hx hb dX3_modemState_38 (by decide) ?_
    refine lv_ishl hx hb dX3_modemState_39 ?_
    refine lv_ior hx hb dX3_modemState_40 ?_
    have hF : (f_X3_modemState vS) = ((((vS.2.2.1 &&& 2) <<< ((3 : Int32) &&& 31)) ||| ((vS.2.2.1 &&& 1) <<< ((5 : Int32) &&& 31))) ||| ((vS.2.2.1 &&& 12) <<< ((4 : Int32) &&& 31))) := by rw [f_X3_modemState, if_neg c_7]
    have hP9 := hP.sub (ws' := [(sH, .inr (3, [.ref qH, .ref oH, .int vS.1, .int vS.2.1, .int vS.2.2.1, .int vS.2.2.2.1, .int vS.2.2.2.2.1, .int vS.2.2.2.2.2.1, .int vS.2.2.2.2.2.2.1, .int vS.2.2.2.2.2.2.2]))]) [0] rfl
    have hD9 := hD.sub (ws' := [(sH, .inr (3, [.ref qH, .ref oH, .int vS.1, .int vS.2.1, .int vS.2.2.1, .int vS.2.2.2.1, .int vS.2.2.2.2.1, .int vS.2.2.2.2.2.1, .int vS.2.2.2.2.2.2.1, .int vS.2.2.2.2.2.2.2]))]) [0] (by decide) rfl
    exact W.iret (v := ((((vS.2.2.1 &&& 2) <<< ((3 : Int32) &&& 31)) ||| ((vS.2.2.1 &&& 1) <<< ((5 : Int32) &&& 31))) ||| ((vS.2.2.1 &&& 12) <<< ((4 : Int32) &&& 31)))) hx hb hr (fun u hu hW => ⟨⟨((((vS.2.2.1 &&& 2) <<< ((3 : Int32) &&& 31)) ||| ((vS.2.2.1 &&& 1) <<< ((5 : Int32) &&& 31))) ||| ((vS.2.2.1 &&& 12) <<< ((4 : Int32) &&& 31))), (), rfl, hF.symm, by rw [hu]; exact hP9, hD9⟩, hS.F hu⟩) hS.2.2 dX3_modemState_41
  · refine lv_sipush (v := 176) hx hb dX3_modemState_10 (by decide) ?_
    have hF : (f_X3_modemState vS) = 176 := by rw [f_X3_modemState, if_pos c_7]
    have hP9 := hP.sub (ws' := [(sH, .inr (3, [.ref qH, .ref oH, .int vS.1, .int vS.2.1, .int vS.2.2.1, .int vS.2.2.2.1, .int vS.2.2.2.2.1, .int vS.2.2.2.2.2.1, .int vS.2.2.2.2.2.2.1, .int vS.2.2.2.2.2.2.2]))]) [0] rfl
    have hD9 := hD.sub (ws' := [(sH, .inr (3, [.ref qH, .ref oH, .int vS.1, .int vS.2.1, .int vS.2.2.1, .int vS.2.2.2.1, .int vS.2.2.2.2.1, .int vS.2.2.2.2.2.1, .int vS.2.2.2.2.2.2.1, .int vS.2.2.2.2.2.2.2]))]) [0] (by decide) rfl
    exact W.iret (v := 176) hx hb hr (fun u hu hW => ⟨⟨176, (), rfl, hF.symm, by rw [hu]; exact hP9, hD9⟩, hS.F hu⟩) hS.2.2 dX3_modemState_13
def f_X3_receive (vS : SS) (vQ : QS) (p1 : Int32) : Int32 × SS × QS :=
  if (f_X1_put vQ p1).1 = 0 then ((f_X1_put vQ p1).1, (vS.1, vS.2.1, vS.2.2.1, vS.2.2.2.1, vS.2.2.2.2.1, vS.2.2.2.2.2.1, 1, vS.2.2.2.2.2.2.2), (f_X1_put vQ p1).2)
  else ((f_X1_put vQ p1).1, vS, (f_X1_put vQ p1).2)
set_option maxHeartbeats 4000000 in
set_option maxRecDepth 100000 in
theorem k_X3_receive (l : Launch) (dC : Nat → ClassId) (dI : Nat → Nat → Nat) (cI cJ cB cZ : ClassId) (sH qH oH qA : Nat) (sz : Nat) (vS : SS) (vQ : QS) (p1 : Int32)  : Met l yX3_receive wsX3_receive ({ frames := 2, cells := 0, slots := 0, locals := 41 }) (va_Pc [.ref sH, .int p1] (fun U => U.heap.size = sz ∧ va_P (dC, dI) vwCl [(sH, .inr (3, [.ref qH, .ref oH, .int vS.1, .int vS.2.1, .int vS.2.2.1, .int vS.2.2.2.1, .int vS.2.2.2.2.1, .int vS.2.2.2.2.2.1, .int vS.2.2.2.2.2.2.1, .int vS.2.2.2.2.2.2.2])), (qH, .inr (1, [.ref qA, .int vQ.2.1, .int vQ.2.2.1, .int vQ.2.2.2])), (qA, .inl (cI, 16, .inl vQ.1))] U.heap ∧ va_K (dC, dI) vwCl [(cI, .int), (cJ, .long), (cB, .byte), (cZ, .boolean)] U ∧ va_D (fun _ => True) [(sH, .inr (3, [.ref qH, .ref oH, .int vS.1, .int vS.2.1, .int vS.2.2.1, .int vS.2.2.2.1, .int vS.2.2.2.2.1, .int vS.2.2.2.2.2.1, .int vS.2.2.2.2.2.2.1, .int vS.2.2.2.2.2.2.2])), (qH, .inr (1, [.ref qA, .int vQ.2.1, .int vQ.2.2.1, .int vQ.2.2.2])), (qA, .inl (cI, 16, .inl vQ.1))] ∧ nw_ U)) (va_Qi (fun (r : Int32) (_ : Unit) => r = (f_X3_receive vS vQ p1).1) (fun (_ : Unit) (w : State) => va_P (dC, dI) vwCl [(sH, .inr (3, [.ref qH, .ref oH, .int (f_X3_receive vS vQ p1).2.1.1, .int (f_X3_receive vS vQ p1).2.1.2.1, .int (f_X3_receive vS vQ p1).2.1.2.2.1, .int (f_X3_receive vS vQ p1).2.1.2.2.2.1, .int (f_X3_receive vS vQ p1).2.1.2.2.2.2.1, .int (f_X3_receive vS vQ p1).2.1.2.2.2.2.2.1, .int (f_X3_receive vS vQ p1).2.1.2.2.2.2.2.2.1, .int (f_X3_receive vS vQ p1).2.1.2.2.2.2.2.2.2])), (qH, .inr (1, [.ref qA, .int (f_X3_receive vS vQ p1).2.2.2.1, .int (f_X3_receive vS vQ p1).2.2.2.2.1, .int (f_X3_receive vS vQ p1).2.2.2.2.2])), (qA, .inl (cI, 16, .inl (f_X3_receive vS vQ p1).2.2.1))] w.heap ∧ va_D (va_A [(sH, .inr (3, [.ref qH, .ref oH, .int vS.1, .int vS.2.1, .int vS.2.2.1, .int vS.2.2.2.1, .int vS.2.2.2.2.1, .int vS.2.2.2.2.2.1, .int vS.2.2.2.2.2.2.1, .int vS.2.2.2.2.2.2.2])), (qH, .inr (1, [.ref qA, .int vQ.2.1, .int vQ.2.2.1, .int vQ.2.2.2])), (qA, .inl (cI, 16, .inl vQ.1))] sz) [(sH, .inr (3, [.ref qH, .ref oH, .int (f_X3_receive vS vQ p1).2.1.1, .int (f_X3_receive vS vQ p1).2.1.2.1, .int (f_X3_receive vS vQ p1).2.1.2.2.1, .int (f_X3_receive vS vQ p1).2.1.2.2.2.1, .int (f_X3_receive vS vQ p1).2.1.2.2.2.2.1, .int (f_X3_receive vS vQ p1).2.1.2.2.2.2.2.1, .int (f_X3_receive vS vQ p1).2.1.2.2.2.2.2.2.1, .int (f_X3_receive vS vQ p1).2.1.2.2.2.2.2.2.2])), (qH, .inr (1, [.ref qA, .int (f_X3_receive vS vQ p1).2.2.2.1, .int (f_X3_receive vS vQ p1).2.2.2.2.1, .int (f_X3_receive vS vQ p1).2.2.2.2.2])), (qA, .inl (cI, 16, .inl (f_X3_receive vS vQ p1).2.2.1))]) (va_A [(sH, .inr (3, [.ref qH, .ref oH, .int vS.1, .int vS.2.1, .int vS.2.2.1, .int vS.2.2.2.1, .int vS.2.2.2.2.1, .int vS.2.2.2.2.2.1, .int vS.2.2.2.2.2.2.1, .int vS.2.2.2.2.2.2.2])), (qH, .inr (1, [.ref qA, .int vQ.2.1, .int vQ.2.2.1, .int vQ.2.2.2])), (qA, .inl (cI, 16, .inl vQ.1))] sz)) 0 0 (va_A [(sH, .inr (3, [.ref qH, .ref oH, .int vS.1, .int vS.2.1, .int vS.2.2.1, .int vS.2.2.2.1, .int vS.2.2.2.2.1, .int vS.2.2.2.2.2.1, .int vS.2.2.2.2.2.2.1, .int vS.2.2.2.2.2.2.2])), (qH, .inr (1, [.ref qA, .int vQ.2.1, .int vQ.2.2.1, .int vQ.2.2.2])), (qA, .inl (cI, 16, .inl vQ.1))] sz) := by
  refine Met.ofW (cc := prog_5_method_4_code) (maxL := 3) (ret := (some .boolean)) (by decide) rfl ?_
  intro p e s m args below meth c s₁ B hml hv
  obtain ⟨rfl, hsz, hP, hK, hD0, hN⟩ := hv
  have hx := B.exec
  have hb := B.bytes
  have hr := B.returns
  have hw := hw_of (atoms_spec (ws := wsX3_receive) B.pre)
  have hown : s.vm.findClass RX3 = some m.cls := findClass_of_methodNamed B.named
  have hlocks := B.notSynchronized
  subst hsz
  have hD := hD0.self (sz := s.heap.size)
  generalize hAe : va_A [(sH, .inr (3, [.ref qH, .ref oH, .int vS.1, .int vS.2.1, .int vS.2.2.1, .int vS.2.2.2.1, .int vS.2.2.2.2.1, .int vS.2.2.2.2.2.1, .int vS.2.2.2.2.2.2.1, .int vS.2.2.2.2.2.2.2])), (qH, .inr (1, [.ref qA, .int vQ.2.1, .int vQ.2.2.1, .int vQ.2.2.2])), (qA, .inl (cI, 16, .inl vQ.1))] s.heap.size = A at hD ⊢
  have hA : ∀ q : Nat, s.heap.size ≤ q → A q := fun q h => by rw [← hAe]; exact Or.inr h
  have hS : va_S A s.heap s.heap [] := va_S.rf
  have hP : va_P (dC, dI) vwCl [(sH, .inr (3, [.ref qH, .ref oH, .int vS.1, .int vS.2.1, .int vS.2.2.1, .int vS.2.2.2.1, .int vS.2.2.2.2.1, .int vS.2.2.2.2.2.1, .int vS.2.2.2.2.2.2.1, .int vS.2.2.2.2.2.2.2])), (qH, .inr (1, [.ref qA, .int vQ.2.1, .int vQ.2.2.1, .int vQ.2.2.2])), (qA, .inl (cI, 16, .inl vQ.1))] s.heap := hP
  have hl := lv_entry ([.ref sH, .int p1]) (n := 3) (Nat.le_of_ble_eq_true rfl)
  rw [lg_entry_eq]
  generalize (lg_sl ([.ref sH, .int p1]) ++ List.replicate (3 - (lg_sl ([.ref sH, .int p1])).length) Slot.unset).toArray = ls at hl ⊢
  have hl : lv_has ls 3 [(0, .ref sH), (1, .int p1)] := hl
  refine lv_aload_n hx hb dX3_receive_0 rfl (lv_at hl 0 rfl) ?_
  refine va_get (D := (dC, dI)) (ci := 3) (v := .ref qH) (C := RX3) (T := TX3) (N := 10) hx hb hw inWX3 hown hK hP 0 rfl rfl 0 (by decide) (hw _ w_114) (fun _ h9 => h9) rfl dX3_receive_1 ?_
  refine lv_iload_n hx hb dX3_receive_4 rfl (lv_at hl 1 rfl) ?_
  have hPc := hP.sub (ws' := [(qH, .inr (1, [.ref qA, .int vQ.2.1, .int vQ.2.2.1, .int vQ.2.2.2])), (qA, .inl (cI, 16, .inl vQ.1))]) [1, 2] rfl
  have hDc := hD.sub (ws' := [(qH, .inr (1, [.ref qA, .int vQ.2.1, .int vQ.2.2.1, .int vQ.2.2.2])), (qA, .inl (cI, 16, .inl vQ.1))]) [1, 2] (by decide) rfl
  have hFc := va_free (wc := [(qH, .inr (1, [.ref qA, .int vQ.2.1, .int vQ.2.2.1, .int vQ.2.2.2])), (qA, .inl (cI, 16, .inl vQ.1))]) hD hS hA [1, 2] rfl
  refine va_calli (va_runV (As := [.int p1]) (rest := []) ⟨hx, hb, hml, hown, hw⟩ (k_X1_put l dC dI cI cJ cB cZ qH qA s.heap.size vQ p1) (cwV 1 hw (gV w_172 w_173 w_174 w_6 w_175) rfl rfl rfl (by decide +kernel) ⟨Nat.le_of_ble_eq_true rfl, Nat.le_of_ble_eq_true rfl⟩) ⟨fun a U g mk q => by obtain ⟨q0, q1, qP, qK, qD, qN⟩ := q; exact ⟨q0, q1, qP, va_K.moved (u := U) (U := U.calling g mk a) (Vm.Alike.refl U.vm) qK, qD, nw_same (s := U) (U := U.calling g mk a) rfl qN⟩, va_recv hK hPc (ci := 1) (q0 := 0) rfl rfl, fun U hU hW => ⟨rfl, by rw [hU], by rw [hU]; exact hPc, va_K.moved hW.alike hK, hDc.weaken (fun _ _ _ _ => trivial), nw_warm hW hN⟩⟩ rfl rfl hl.1 rfl (lv_room (Nat.le_of_ble_eq_true rfl)) dX3_receive_5 ⟨Nat.le_of_ble_eq_true rfl, Nat.le_of_ble_eq_true rfl⟩) hS (fun q _ h => hFc q h) hFc (fun r_5 u t9 H1 locs ht hvm hR hB hz1 hk1 hS => ?_)
  replace hR := Eq.symm hR
  subst hR
  obtain ⟨hP1, hD1⟩ := hB
  rw [ht] at hP1
  obtain ⟨hP, hD⟩ := va_join (wr := [(sH, .inr (3, [.ref qH, .ref oH, .int vS.1, .int vS.2.1, .int vS.2.2.1, .int vS.2.2.2.1, .int vS.2.2.2.2.1, .int vS.2.2.2.2.2.1, .int vS.2.2.2.2.2.2.1, .int vS.2.2.2.2.2.2.2]))]) (w1 := [(qH, .inr (1, [.ref qA, .int (f_X1_put vQ p1).2.2.1, .int (f_X1_put vQ p1).2.2.2.1, .int (f_X1_put vQ p1).2.2.2.2])), (qA, .inl (cI, 16, .inl (f_X1_put vQ p1).2.1))]) hP hD [1, 2] [0] rfl rfl (by decide) (by decide) hk1 hFc hP1 hD1
  generalize H1 = H at hP hS ⊢
  have hP : va_P (dC, dI) vwCl [(sH, .inr (3, [.ref qH, .ref oH, .int vS.1, .int vS.2.1, .int vS.2.2.1, .int vS.2.2.2.1, .int vS.2.2.2.2.1, .int vS.2.2.2.2.2.1, .int vS.2.2.2.2.2.2.1, .int vS.2.2.2.2.2.2.2])), (qH, .inr (1, [.ref qA, .int (f_X1_put vQ p1).2.2.1, .int (f_X1_put vQ p1).2.2.2.1, .int (f_X1_put vQ p1).2.2.2.2])), (qA, .inl (cI, 16, .inl (f_X1_put vQ p1).2.1))] H := hP
  have hD : va_D A [(sH, .inr (3, [.ref qH, .ref oH, .int vS.1, .int vS.2.1, .int vS.2.2.1, .int vS.2.2.2.1, .int vS.2.2.2.2.1, .int vS.2.2.2.2.2.1, .int vS.2.2.2.2.2.2.1, .int vS.2.2.2.2.2.2.2])), (qH, .inr (1, [.ref qA, .int (f_X1_put vQ p1).2.2.1, .int (f_X1_put vQ p1).2.2.2.1, .int (f_X1_put vQ p1).2.2.2.2])), (qA, .inl (cI, 16, .inl (f_X1_put vQ p1).2.1))] := hD
  refine lv_istore_n (lv' := [(2, .int (f_X1_put vQ p1).1), (0, .ref sH), (1, .int p1)]) hx hb dX3_receive_8 rfl hl (by decide) rfl (fun ls hl => ?_)
  refine lv_iload_n hx hb dX3_receive_9 rfl (lv_at hl 0 rfl) ?_
  refine lv_if_ne (tgt := 18) hx hb dX3_receive_10 (by decide) (fun c_10 => ?_) (fun c_10 => ?_)
  · refine lv_iload_n hx hb dX3_receive_18 rfl (lv_at hl 0 rfl) ?_
    have hF : (f_X3_receive vS vQ p1) = ((f_X1_put vQ p1).1, vS, (f_X1_put vQ p1).2) := by rw [f_X3_receive, if_neg c_10]
    have hP9 := hP.sub (ws' := [(sH, .inr (3, [.ref qH, .ref oH, .int vS.1, .int vS.2.1, .int vS.2.2.1, .int vS.2.2.2.1, .int vS.2.2.2.2.1, .int vS.2.2.2.2.2.1, .int vS.2.2.2.2.2.2.1, .int vS.2.2.2.2.2.2.2])), (qH, .inr (1, [.ref qA, .int (f_X1_put vQ p1).2.2.1, .int (f_X1_put vQ p1).2.2.2.1, .int (f_X1_put vQ p1).2.2.2.2])), (qA, .inl (cI, 16, .inl (f_X1_put vQ p1).2.1))]) [0, 1, 2] rfl
    have hD9 := hD.sub (ws' := [(sH, .inr (3, [.ref qH, .ref oH, .int vS.1, .int vS.2.1, .int vS.2.2.1, .int vS.2.2.2.1, .int vS.2.2.2.2.1, .int vS.2.2.2.2.2.1, .int vS.2.2.2.2.2.2.1, .int vS.2.2.2.2.2.2.2])), (qH, .inr (1, [.ref qA, .int (f_X1_put vQ p1).2.2.1, .int (f_X1_put vQ p1).2.2.2.1, .int (f_X1_put vQ p1).2.2.2.2])), (qA, .inl (cI, 16, .inl (f_X1_put vQ p1).2.1))]) [0, 1, 2] (by decide) rfl
    exact W.zret (v := (f_X1_put vQ p1).1) hx hb hr (z_nar (put01 _ _)) (fun u hu hW => ⟨⟨(f_X1_put vQ p1).1, (), rfl, (congrArg Prod.fst hF).symm, by rw [hu, hF]; exact hP9, by rw [hF]; exact hD9⟩, hS.F hu⟩) hS.2.2 dX3_receive_19
  · refine lv_aload_n hx hb dX3_receive_13 rfl (lv_at hl 1 rfl) ?_
    refine lv_iconst (v := 1) hx hb dX3_receive_14 (by decide) ?_
    refine va_put (D := (dC, dI)) (ci := 3) (v := .int 1) (ty := .boolean) (C := RX3) (T := TX3) (N := 10) hx hb hw inWX3 tyX3 tyX3_ok nmX3 hown hK hP hD hS 0 rfl rfl 8 (by decide) (hw _ w_124) (fun _ h9 => h9) rfl (by decide +kernel) rfl rfl (Nat.le_of_ble_eq_true rfl) dX3_receive_15 (fun H locs hP hD hS => ?_)
    have hP : va_P (dC, dI) vwCl [(sH, .inr (3, [.ref qH, .ref oH, .int vS.1, .int vS.2.1, .int vS.2.2.1, .int vS.2.2.2.1, .int vS.2.2.2.2.1, .int vS.2.2.2.2.2.1, .int 1, .int vS.2.2.2.2.2.2.2])), (qH, .inr (1, [.ref qA, .int (f_X1_put vQ p1).2.2.1, .int (f_X1_put vQ p1).2.2.2.1, .int (f_X1_put vQ p1).2.2.2.2])), (qA, .inl (cI, 16, .inl (f_X1_put vQ p1).2.1))] H := hP
    have hD : va_D A [(sH, .inr (3, [.ref qH, .ref oH, .int vS.1, .int vS.2.1, .int vS.2.2.1, .int vS.2.2.2.1, .int vS.2.2.2.2.1, .int vS.2.2.2.2.2.1, .int 1, .int vS.2.2.2.2.2.2.2])), (qH, .inr (1, [.ref qA, .int (f_X1_put vQ p1).2.2.1, .int (f_X1_put vQ p1).2.2.2.1, .int (f_X1_put vQ p1).2.2.2.2])), (qA, .inl (cI, 16, .inl (f_X1_put vQ p1).2.1))] := hD
    refine lv_iload_n hx hb dX3_receive_18 rfl (lv_at hl 0 rfl) ?_
    have hF : (f_X3_receive vS vQ p1) = ((f_X1_put vQ p1).1, (vS.1, vS.2.1, vS.2.2.1, vS.2.2.2.1, vS.2.2.2.2.1, vS.2.2.2.2.2.1, 1, vS.2.2.2.2.2.2.2), (f_X1_put vQ p1).2) := by rw [f_X3_receive, if_pos c_10]
    have hP9 := hP.sub (ws' := [(sH, .inr (3, [.ref qH, .ref oH, .int vS.1, .int vS.2.1, .int vS.2.2.1, .int vS.2.2.2.1, .int vS.2.2.2.2.1, .int vS.2.2.2.2.2.1, .int 1, .int vS.2.2.2.2.2.2.2])), (qH, .inr (1, [.ref qA, .int (f_X1_put vQ p1).2.2.1, .int (f_X1_put vQ p1).2.2.2.1, .int (f_X1_put vQ p1).2.2.2.2])), (qA, .inl (cI, 16, .inl (f_X1_put vQ p1).2.1))]) [0, 1, 2] rfl
    have hD9 := hD.sub (ws' := [(sH, .inr (3, [.ref qH, .ref oH, .int vS.1, .int vS.2.1, .int vS.2.2.1, .int vS.2.2.2.1, .int vS.2.2.2.2.1, .int vS.2.2.2.2.2.1, .int 1, .int vS.2.2.2.2.2.2.2])), (qH, .inr (1, [.ref qA, .int (f_X1_put vQ p1).2.2.1, .int (f_X1_put vQ p1).2.2.2.1, .int (f_X1_put vQ p1).2.2.2.2])), (qA, .inl (cI, 16, .inl (f_X1_put vQ p1).2.1))]) [0, 1, 2] (by decide) rfl
    exact W.zret (v := (f_X1_put vQ p1).1) hx hb hr (z_nar (put01 _ _)) (fun u hu hW => ⟨⟨(f_X1_put vQ p1).1, (), rfl, (congrArg Prod.fst hF).symm, by rw [hu, hF]; exact hP9, by rw [hF]; exact hD9⟩, hS.F hu⟩) hS.2.2 dX3_receive_19
def f_X3_storeData (vS : SS) (vQ : QS) (vO : OS) (p1 : Int32) : SS × QS × OS :=
  if (f_X3_showsOthers vS) = 0 then if (vS.2.2.1 &&& 16) = 0 then ((vS.1, vS.2.1, vS.2.2.1, vS.2.2.2.1, vS.2.2.2.2.1, vS.2.2.2.2.2.1, vS.2.2.2.2.2.2.1, 1), vQ, (f_X2_add vO p1))
    else (((f_X3_receive vS vQ p1).2.1.1, (f_X3_receive vS vQ p1).2.1.2.1, (f_X3_receive vS vQ p1).2.1.2.2.1, (f_X3_receive vS vQ p1).2.1.2.2.2.1, (f_X3_receive vS vQ p1).2.1.2.2.2.2.1, (f_X3_receive vS vQ p1).2.1.2.2.2.2.2.1, (f_X3_receive vS vQ p1).2.1.2.2.2.2.2.2.1, 1), (f_X3_receive vS vQ p1).2.2, vO)
  else ((vS.1, vS.2.1, vS.2.2.1, vS.2.2.2.1, p1, vS.2.2.2.2.2.1, vS.2.2.2.2.2.2.1, vS.2.2.2.2.2.2.2), vQ, vO)
set_option maxHeartbeats 4000000 in
set_option maxRecDepth 100000 in
theorem k_X3_storeData (l : Launch) (dC : Nat → ClassId) (dI : Nat → Nat → Nat) (cI cJ cB cZ : ClassId) (sH qH oH qA oA : Nat) (sz : Nat) (vS : SS) (vQ : QS) (vO : OS) (p1 : Int32)  : Met l yX3_storeData wsX3_storeData ({ frames := 3, cells := 0, slots := 0, locals := 63 }) (va_Pc [.ref sH, .int p1] (fun U => U.heap.size = sz ∧ va_P (dC, dI) vwCl [(sH, .inr (3, [.ref qH, .ref oH, .int vS.1, .int vS.2.1, .int vS.2.2.1, .int vS.2.2.2.1, .int vS.2.2.2.2.1, .int vS.2.2.2.2.2.1, .int vS.2.2.2.2.2.2.1, .int vS.2.2.2.2.2.2.2])), (qH, .inr (1, [.ref qA, .int vQ.2.1, .int vQ.2.2.1, .int vQ.2.2.2])), (qA, .inl (cI, 16, .inl vQ.1)), (oH, .inr (2, [.ref oA, .long vO.2])), (oA, .inl (cB, 4096, .inl vO.1))] U.heap ∧ va_K (dC, dI) vwCl [(cI, .int), (cJ, .long), (cB, .byte), (cZ, .boolean)] U ∧ va_D (fun _ => True) [(sH, .inr (3, [.ref qH, .ref oH, .int vS.1, .int vS.2.1, .int vS.2.2.1, .int vS.2.2.2.1, .int vS.2.2.2.2.1, .int vS.2.2.2.2.2.1, .int vS.2.2.2.2.2.2.1, .int vS.2.2.2.2.2.2.2])), (qH, .inr (1, [.ref qA, .int vQ.2.1, .int vQ.2.2.1, .int vQ.2.2.2])), (qA, .inl (cI, 16, .inl vQ.1)), (oH, .inr (2, [.ref oA, .long vO.2])), (oA, .inl (cB, 4096, .inl vO.1))] ∧ nw_ U)) (va_Qv (fun (_ : Unit) => True) (fun (_ : Unit) (w : State) => va_P (dC, dI) vwCl [(sH, .inr (3, [.ref qH, .ref oH, .int (f_X3_storeData vS vQ vO p1).1.1, .int (f_X3_storeData vS vQ vO p1).1.2.1, .int (f_X3_storeData vS vQ vO p1).1.2.2.1, .int (f_X3_storeData vS vQ vO p1).1.2.2.2.1, .int (f_X3_storeData vS vQ vO p1).1.2.2.2.2.1, .int (f_X3_storeData vS vQ vO p1).1.2.2.2.2.2.1, .int (f_X3_storeData vS vQ vO p1).1.2.2.2.2.2.2.1, .int (f_X3_storeData vS vQ vO p1).1.2.2.2.2.2.2.2])), (qH, .inr (1, [.ref qA, .int (f_X3_storeData vS vQ vO p1).2.1.2.1, .int (f_X3_storeData vS vQ vO p1).2.1.2.2.1, .int (f_X3_storeData vS vQ vO p1).2.1.2.2.2])), (qA, .inl (cI, 16, .inl (f_X3_storeData vS vQ vO p1).2.1.1)), (oH, .inr (2, [.ref oA, .long (f_X3_storeData vS vQ vO p1).2.2.2])), (oA, .inl (cB, 4096, .inl (f_X3_storeData vS vQ vO p1).2.2.1))] w.heap ∧ va_D (va_A [(sH, .inr (3, [.ref qH, .ref oH, .int vS.1, .int vS.2.1, .int vS.2.2.1, .int vS.2.2.2.1, .int vS.2.2.2.2.1, .int vS.2.2.2.2.2.1, .int vS.2.2.2.2.2.2.1, .int vS.2.2.2.2.2.2.2])), (qH, .inr (1, [.ref qA, .int vQ.2.1, .int vQ.2.2.1, .int vQ.2.2.2])), (qA, .inl (cI, 16, .inl vQ.1)), (oH, .inr (2, [.ref oA, .long vO.2])), (oA, .inl (cB, 4096, .inl vO.1))] sz) [(sH, .inr (3, [.ref qH, .ref oH, .int (f_X3_storeData vS vQ vO p1).1.1, .int (f_X3_storeData vS vQ vO p1).1.2.1, .int (f_X3_storeData vS vQ vO p1).1.2.2.1, .int (f_X3_storeData vS vQ vO p1).1.2.2.2.1, .int (f_X3_storeData vS vQ vO p1).1.2.2.2.2.1, .int (f_X3_storeData vS vQ vO p1).1.2.2.2.2.2.1, .int (f_X3_storeData vS vQ vO p1).1.2.2.2.2.2.2.1, .int (f_X3_storeData vS vQ vO p1).1.2.2.2.2.2.2.2])), (qH, .inr (1, [.ref qA, .int (f_X3_storeData vS vQ vO p1).2.1.2.1, .int (f_X3_storeData vS vQ vO p1).2.1.2.2.1, .int (f_X3_storeData vS vQ vO p1).2.1.2.2.2])), (qA, .inl (cI, 16, .inl (f_X3_storeData vS vQ vO p1).2.1.1)), (oH, .inr (2, [.ref oA, .long (f_X3_storeData vS vQ vO p1).2.2.2])), (oA, .inl (cB, 4096, .inl (f_X3_storeData vS vQ vO p1).2.2.1))]) (va_A [(sH, .inr (3, [.ref qH, .ref oH, .int vS.1, .int vS.2.1, .int vS.2.2.1, .int vS.2.2.2.1, .int vS.2.2.2.2.1, .int vS.2.2.2.2.2.1, .int vS.2.2.2.2.2.2.1, .int vS.2.2.2.2.2.2.2])), (qH, .inr (1, [.ref qA, .int vQ.2.1, .int vQ.2.2.1, .int vQ.2.2.2])), (qA, .inl (cI, 16, .inl vQ.1)), (oH, .inr (2, [.ref oA, .long vO.2])), (oA, .inl (cB, 4096, .inl vO.1))] sz)) 0 0 (va_A [(sH, .inr (3, [.ref qH, .ref oH, .int vS.1, .int vS.2.1, .int vS.2.2.1, .int vS.2.2.2.1, .int vS.2.2.2.2.1, .int vS.2.2.2.2.2.1, .int vS.2.2.2.2.2.2.1, .int vS.2.2.2.2.2.2.2])), (qH, .inr (1, [.ref qA, .int vQ.2.1, .int vQ.2.2.1, .int vQ.2.2.2])), (qA, .inl (cI, 16, .inl vQ.1)), (oH, .inr (2, [.ref oA, .long vO.2])), (oA, .inl (cB, 4096, .inl vO.1))] sz) := by
  refine Met.ofW (cc := prog_5_method_10_code) (maxL := 2) (ret := none) (by decide) rfl ?_
  intro p e s m args below meth c s₁ B hml hv
  obtain ⟨rfl, hsz, hP, hK, hD0, hN⟩ := hv
  have hx := B.exec
  have hb := B.bytes
  have hr := B.returns
  have hw := hw_of (atoms_spec (ws := wsX3_storeData) B.pre)
  have hown : s.vm.findClass RX3 = some m.cls := findClass_of_methodNamed B.named
  have hlocks := B.notSynchronized
  subst hsz
  have hD := hD0.self (sz := s.heap.size)
  generalize hAe : va_A [(sH, .inr (3, [.ref qH, .ref oH, .int vS.1, .int vS.2.1, .int vS.2.2.1, .int vS.2.2.2.1, .int vS.2.2.2.2.1, .int vS.2.2.2.2.2.1, .int vS.2.2.2.2.2.2.1, .int vS.2.2.2.2.2.2.2])), (qH, .inr (1, [.ref qA, .int vQ.2.1, .int vQ.2.2.1, .int vQ.2.2.2])), (qA, .inl (cI, 16, .inl vQ.1)), (oH, .inr (2, [.ref oA, .long vO.2])), (oA, .inl (cB, 4096, .inl vO.1))] s.heap.size = A at hD ⊢
  have hA : ∀ q : Nat, s.heap.size ≤ q → A q := fun q h => by rw [← hAe]; exact Or.inr h
  have hS : va_S A s.heap s.heap [] := va_S.rf
  have hP : va_P (dC, dI) vwCl [(sH, .inr (3, [.ref qH, .ref oH, .int vS.1, .int vS.2.1, .int vS.2.2.1, .int vS.2.2.2.1, .int vS.2.2.2.2.1, .int vS.2.2.2.2.2.1, .int vS.2.2.2.2.2.2.1, .int vS.2.2.2.2.2.2.2])), (qH, .inr (1, [.ref qA, .int vQ.2.1, .int vQ.2.2.1, .int vQ.2.2.2])), (qA, .inl (cI, 16, .inl vQ.1)), (oH, .inr (2, [.ref oA, .long vO.2])), (oA, .inl (cB, 4096, .inl vO.1))] s.heap := hP
  have hl := lv_entry ([.ref sH, .int p1]) (n := 2) (Nat.le_of_ble_eq_true rfl)
  rw [lg_entry_eq]
  generalize (lg_sl ([.ref sH, .int p1]) ++ List.replicate (2 - (lg_sl ([.ref sH, .int p1])).length) Slot.unset).toArray = ls at hl ⊢
  have hl : lv_has ls 2 [(0, .ref sH), (1, .int p1)] := hl
  refine lv_aload_n hx hb dX3_storeData_0 rfl (lv_at hl 0 rfl) ?_
  have hPc := hP.sub (ws' := [(sH, .inr (3, [.ref qH, .ref oH, .int vS.1, .int vS.2.1, .int vS.2.2.1, .int vS.2.2.2.1, .int vS.2.2.2.2.1, .int vS.2.2.2.2.2.1, .int vS.2.2.2.2.2.2.1, .int vS.2.2.2.2.2.2.2]))]) [0] rfl
  have hDc := hD.sub (ws' := [(sH, .inr (3, [.ref qH, .ref oH, .int vS.1, .int vS.2.1, .int vS.2.2.1, .int vS.2.2.2.1, .int vS.2.2.2.2.1, .int vS.2.2.2.2.2.1, .int vS.2.2.2.2.2.2.1, .int vS.2.2.2.2.2.2.2]))]) [0] (by decide) rfl
  have hFc := va_free (wc := [(sH, .inr (3, [.ref qH, .ref oH, .int vS.1, .int vS.2.1, .int vS.2.2.1, .int vS.2.2.2.1, .int vS.2.2.2.2.1, .int vS.2.2.2.2.2.1, .int vS.2.2.2.2.2.2.1, .int vS.2.2.2.2.2.2.2]))]) hD hS hA [0] rfl
  refine va_calli (va_runV (As := []) (rest := []) ⟨hx, hb, hml, hown, hw⟩ (k_X3_showsOthers l dC dI cI cJ cB cZ sH qH oH s.heap.size vS) (cwV 0 hw (gV w_350 w_352 w_s7 w_5 w_353) rfl rfl rfl (by decide +kernel) ⟨Nat.le_of_ble_eq_true rfl, Nat.le_of_ble_eq_true rfl⟩) ⟨fun a U g mk q => by obtain ⟨q0, q1, qP, qK, qD, qN⟩ := q; exact ⟨q0, q1, qP, va_K.moved (u := U) (U := U.calling g mk a) (Vm.Alike.refl U.vm) qK, qD, nw_same (s := U) (U := U.calling g mk a) rfl qN⟩, va_recv hK hPc (ci := 3) (q0 := 0) rfl rfl, fun U hU hW => ⟨rfl, by rw [hU], by rw [hU]; exact hPc, va_K.moved hW.alike hK, hDc.weaken (fun _ _ _ _ => trivial), nw_warm hW hN⟩⟩ rfl rfl hl.1 rfl (lv_room (Nat.le_of_ble_eq_true rfl)) dX3_storeData_1 ⟨Nat.le_of_ble_eq_true rfl, Nat.le_of_ble_eq_true rfl⟩) hS (fun q _ h => hFc q h) hFc (fun r_1 u t9 H1 locs ht hvm hR hB hz1 hk1 hS => ?_)
  replace hR := Eq.symm hR
  subst hR
  obtain ⟨hP1, hD1⟩ := hB
  rw [ht] at hP1
  obtain ⟨hP, hD⟩ := va_join (wr := [(qH, .inr (1, [.ref qA, .int vQ.2.1, .int vQ.2.2.1, .int vQ.2.2.2])), (qA, .inl (cI, 16, .inl vQ.1)), (oH, .inr (2, [.ref oA, .long vO.2])), (oA, .inl (cB, 4096, .inl vO.1))]) (w1 := [(sH, .inr (3, [.ref qH, .ref oH, .int vS.1, .int vS.2.1, .int vS.2.2.1, .int vS.2.2.2.1, .int vS.2.2.2.2.1, .int vS.2.2.2.2.2.1, .int vS.2.2.2.2.2.2.1, .int vS.2.2.2.2.2.2.2]))]) hP hD [0] [1, 2, 3, 4] rfl rfl (by decide) (by decide) hk1 hFc hP1 hD1
  generalize H1 = H at hP hS ⊢
  have hP : va_P (dC, dI) vwCl [(qH, .inr (1, [.ref qA, .int vQ.2.1, .int vQ.2.2.1, .int vQ.2.2.2])), (qA, .inl (cI, 16, .inl vQ.1)), (oH, .inr (2, [.ref oA, .long vO.2])), (oA, .inl (cB, 4096, .inl vO.1)), (sH, .inr (3, [.ref qH, .ref oH, .int vS.1, .int vS.2.1, .int vS.2.2.1, .int vS.2.2.2.1, .int vS.2.2.2.2.1, .int vS.2.2.2.2.2.1, .int vS.2.2.2.2.2.2.1, .int vS.2.2.2.2.2.2.2]))] H := hP
  have hD : va_D A [(qH, .inr (1, [.ref qA, .int vQ.2.1, .int vQ.2.2.1, .int vQ.2.2.2])), (qA, .inl (cI, 16, .inl vQ.1)), (oH, .inr (2, [.ref oA, .long vO.2])), (oA, .inl (cB, 4096, .inl vO.1)), (sH, .inr (3, [.ref qH, .ref oH, .int vS.1, .int vS.2.1, .int vS.2.2.1, .int vS.2.2.2.1, .int vS.2.2.2.2.1, .int vS.2.2.2.2.2.1, .int vS.2.2.2.2.2.2.1, .int vS.2.2.2.2.2.2.2]))] := hD
  refine lv_if_eq (tgt := 13) hx hb dX3_storeData_4 (by decide) (fun c_4 => ?_) (fun c_4 => ?_)
  · refine lv_aload_n hx hb dX3_storeData_13 rfl (lv_at hl 0 rfl) ?_
    refine va_get (D := (dC, dI)) (ci := 3) (v := .int vS.2.2.1) (C := RX3) (T := TX3) (N := 10) hx hb hw inWX3 hown hK hP 4 rfl rfl 4 (by decide) (hw _ w_120) (fun _ h9 => h9) rfl dX3_storeData_14 ?_
    refine lv_bipush (v := 16) hx hb dX3_storeData_17 (by decide) ?_
    refine lv_iand hx hb dX3_storeData_19 ?_
    refine lv_if_eq (tgt := 32) hx hb dX3_storeData_20 (by decide) (fun c_20 => ?_) (fun c_20 => ?_)
    · refine lv_aload_n hx hb dX3_storeData_32 rfl (lv_at hl 0 rfl) ?_
      refine va_get (D := (dC, dI)) (ci := 3) (v := .ref oH) (C := RX3) (T := TX3) (N := 10) hx hb hw inWX3 hown hK hP 4 rfl rfl 1 (by decide) (hw _ w_116) (fun _ h9 => h9) rfl dX3_storeData_33 ?_
      refine lv_iload_n hx hb dX3_storeData_36 rfl (lv_at hl 1 rfl) ?_
      have hPc := hP.sub (ws' := [(oH, .inr (2, [.ref oA, .long vO.2])), (oA, .inl (cB, 4096, .inl vO.1))]) [2, 3] rfl
      have hDc := hD.sub (ws' := [(oH, .inr (2, [.ref oA, .long vO.2])), (oA, .inl (cB, 4096, .inl vO.1))]) [2, 3] (by decide) rfl
      have hFc := va_free (wc := [(oH, .inr (2, [.ref oA, .long vO.2])), (oA, .inl (cB, 4096, .inl vO.1))]) hD hS hA [2, 3] rfl
      refine va_callv (va_runV (As := [.int p1]) (rest := []) ⟨hx, hb, hml, hown, hw⟩ (k_X2_add l dC dI cI cJ cB cZ oH oA H.size vO p1) (cwV 1 hw (gV w_401 w_402 w_403 w_7 w_404) rfl rfl rfl (by decide +kernel) ⟨Nat.le_of_ble_eq_true rfl, Nat.le_of_ble_eq_true rfl⟩) ⟨fun a U g mk q => by obtain ⟨q0, q1, qP, qK, qD, qN⟩ := q; exact ⟨q0, q1, qP, va_K.moved (u := U) (U := U.calling g mk a) (Vm.Alike.refl U.vm) qK, qD, nw_same (s := U) (U := U.calling g mk a) rfl qN⟩, va_recv hK hPc (ci := 2) (q0 := 0) rfl rfl, fun U hU hW => ⟨rfl, by rw [hU], by rw [hU]; exact hPc, va_K.moved hW.alike hK, hDc.weaken (fun _ _ _ _ => trivial), nw_warm hW hN⟩⟩ rfl rfl hl.1 rfl (lv_room (Nat.le_of_ble_eq_true rfl)) dX3_storeData_37 ⟨Nat.le_of_ble_eq_true rfl, Nat.le_of_ble_eq_true rfl⟩) hS (fun q _ h => hFc q h) hFc (fun u t9 H1 locs ht hvm hR hB hz1 hk1 hS => ?_)
      obtain ⟨hP1, hD1⟩ := hB
      rw [ht] at hP1
      obtain ⟨hP, hD⟩ := va_join (wr := [(qH, .inr (1, [.ref qA, .int vQ.2.1, .int vQ.2.2.1, .int vQ.2.2.2])), (qA, .inl (cI, 16, .inl vQ.1)), (sH, .inr (3, [.ref qH, .ref oH, .int vS.1, .int vS.2.1, .int vS.2.2.1, .int vS.2.2.2.1, .int vS.2.2.2.2.1, .int vS.2.2.2.2.2.1, .int vS.2.2.2.2.2.2.1, .int vS.2.2.2.2.2.2.2]))]) (w1 := [(oH, .inr (2, [.ref oA, .long (f_X2_add vO p1).2])), (oA, .inl (cB, 4096, .inl (f_X2_add vO p1).1))]) hP hD [2, 3] [0, 1, 4] rfl rfl (by decide) (by decide) hk1 hFc hP1 hD1
      generalize H1 = H at hP hS ⊢
      have hP : va_P (dC, dI) vwCl [(qH, .inr (1, [.ref qA, .int vQ.2.1, .int vQ.2.2.1, .int vQ.2.2.2])), (qA, .inl (cI, 16, .inl vQ.1)), (sH, .inr (3, [.ref qH, .ref oH, .int vS.1, .int vS.2.1, .int vS.2.2.1, .int vS.2.2.2.1, .int vS.2.2.2.2.1, .int vS.2.2.2.2.2.1, .int vS.2.2.2.2.2.2.1, .int vS.2.2.2.2.2.2.2])), (oH, .inr (2, [.ref oA, .long (f_X2_add vO p1).2])), (oA, .inl (cB, 4096, .inl (f_X2_add vO p1).1))] H := hP
      have hD : va_D A [(qH, .inr (1, [.ref qA, .int vQ.2.1, .int vQ.2.2.1, .int vQ.2.2.2])), (qA, .inl (cI, 16, .inl vQ.1)), (sH, .inr (3, [.ref qH, .ref oH, .int vS.1, .int vS.2.1, .int vS.2.2.1, .int vS.2.2.2.1, .int vS.2.2.2.2.1, .int vS.2.2.2.2.2.1, .int vS.2.2.2.2.2.2.1, .int vS.2.2.2.2.2.2.2])), (oH, .inr (2, [.ref oA, .long (f_X2_add vO p1).2])), (oA, .inl (cB, 4096, .inl (f_X2_add vO p1).1))] := hD
      refine lv_aload_n hx hb dX3_storeData_40 rfl (lv_at hl 0 rfl) ?_
      refine lv_iconst (v := 1) hx hb dX3_storeData_41 (by decide) ?_
      refine va_put (D := (dC, dI)) (ci := 3) (v := .int 1) (ty := .boolean) (C := RX3) (T := TX3) (N := 10) hx hb hw inWX3 tyX3 tyX3_ok nmX3 hown hK hP hD hS 2 rfl rfl 9 (by decide) (hw _ w_125) (fun _ h9 => h9) rfl (by decide +kernel) rfl rfl (Nat.le_of_ble_eq_true rfl) dX3_storeData_42 (fun H locs hP hD hS => ?_)
      have hP : va_P (dC, dI) vwCl [(qH, .inr (1, [.ref qA, .int vQ.2.1, .int vQ.2.2.1, .int vQ.2.2.2])), (qA, .inl (cI, 16, .inl vQ.1)), (sH, .inr (3, [.ref qH, .ref oH, .int vS.1, .int vS.2.1, .int vS.2.2.1, .int vS.2.2.2.1, .int vS.2.2.2.2.1, .int vS.2.2.2.2.2.1, .int vS.2.2.2.2.2.2.1, .int 1])), (oH, .inr (2, [.ref oA, .long (f_X2_add vO p1).2])), (oA, .inl (cB, 4096, .inl (f_X2_add vO p1).1))] H := hP
      have hD : va_D A [(qH, .inr (1, [.ref qA, .int vQ.2.1, .int vQ.2.2.1, .int vQ.2.2.2])), (qA, .inl (cI, 16, .inl vQ.1)), (sH, .inr (3, [.ref qH, .ref oH, .int vS.1, .int vS.2.1, .int vS.2.2.1, .int vS.2.2.2.1, .int vS.2.2.2.2.1, .int vS.2.2.2.2.2.1, .int vS.2.2.2.2.2.2.1, .int 1])), (oH, .inr (2, [.ref oA, .long (f_X2_add vO p1).2])), (oA, .inl (cB, 4096, .inl (f_X2_add vO p1).1))] := hD
      have hF : (f_X3_storeData vS vQ vO p1) = ((vS.1, vS.2.1, vS.2.2.1, vS.2.2.2.1, vS.2.2.2.2.1, vS.2.2.2.2.2.1, vS.2.2.2.2.2.2.1, 1), vQ, (f_X2_add vO p1)) := by rw [f_X3_storeData, if_pos c_4, if_pos c_20]
      have hP9 := hP.sub (ws' := [(sH, .inr (3, [.ref qH, .ref oH, .int vS.1, .int vS.2.1, .int vS.2.2.1, .int vS.2.2.2.1, .int vS.2.2.2.2.1, .int vS.2.2.2.2.2.1, .int vS.2.2.2.2.2.2.1, .int 1])), (qH, .inr (1, [.ref qA, .int vQ.2.1, .int vQ.2.2.1, .int vQ.2.2.2])), (qA, .inl (cI, 16, .inl vQ.1)), (oH, .inr (2, [.ref oA, .long (f_X2_add vO p1).2])), (oA, .inl (cB, 4096, .inl (f_X2_add vO p1).1))]) [2, 0, 1, 3, 4] rfl
      have hD9 := hD.sub (ws' := [(sH, .inr (3, [.ref qH, .ref oH, .int vS.1, .int vS.2.1, .int vS.2.2.1, .int vS.2.2.2.1, .int vS.2.2.2.2.1, .int vS.2.2.2.2.2.1, .int vS.2.2.2.2.2.2.1, .int 1])), (qH, .inr (1, [.ref qA, .int vQ.2.1, .int vQ.2.2.1, .int vQ.2.2.2])), (qA, .inl (cI, 16, .inl vQ.1)), (oH, .inr (2, [.ref oA, .long (f_X2_add vO p1).2])), (oA, .inl (cB, 4096, .inl (f_X2_add vO p1).1))]) [2, 0, 1, 3, 4] (by decide) rfl
      exact W.vret hx hb hr (fun u hu hW => ⟨⟨(), rfl, trivial, by rw [hu, hF]; exact hP9, by rw [hF]; exact hD9⟩, hS.F hu⟩) hS.2.2 dX3_storeData_45
    · refine lv_aload_n hx hb dX3_storeData_23 rfl (lv_at hl 0 rfl) ?_
      refine lv_iload_n hx hb dX3_storeData_24 rfl (lv_at hl 1 rfl) ?_
      have hPc := hP.sub (ws' := [(sH, .inr (3, [.ref qH, .ref oH, .int vS.1, .int vS.2.1, .int vS.2.2.1, .int vS.2.2.2.1, .int vS.2.2.2.2.1, .int vS.2.2.2.2.2.1, .int vS.2.2.2.2.2.2.1, .int vS.2.2.2.2.2.2.2])), (qH, .inr (1, [.ref qA, .int vQ.2.1, .int vQ.2.2.1, .int vQ.2.2.2])), (qA, .inl (cI, 16, .inl vQ.1))]) [4, 0, 1] rfl
      have hDc := hD.sub (ws' := [(sH, .inr (3, [.ref qH, .ref oH, .int vS.1, .int vS.2.1, .int vS.2.2.1, .int vS.2.2.2.1, .int vS.2.2.2.2.1, .int vS.2.2.2.2.2.1, .int vS.2.2.2.2.2.2.1, .int vS.2.2.2.2.2.2.2])), (qH, .inr (1, [.ref qA, .int vQ.2.1, .int vQ.2.2.1, .int vQ.2.2.2])), (qA, .inl (cI, 16, .inl vQ.1))]) [4, 0, 1] (by decide) rfl
      have hFc := va_free (wc := [(sH, .inr (3, [.ref qH, .ref oH, .int vS.1, .int vS.2.1, .int vS.2.2.1, .int vS.2.2.2.1, .int vS.2.2.2.2.1, .int vS.2.2.2.2.2.1, .int vS.2.2.2.2.2.2.1, .int vS.2.2.2.2.2.2.2])), (qH, .inr (1, [.ref qA, .int vQ.2.1, .int vQ.2.2.1, .int vQ.2.2.2])), (qA, .inl (cI, 16, .inl vQ.1))]) hD hS hA [4, 0, 1] rfl
      refine va_calli (va_runV (As := [.int p1]) (rest := []) ⟨hx, hb, hml, hown, hw⟩ (k_X3_receive l dC dI cI cJ cB cZ sH qH oH qA H.size vS vQ p1) (cwV 1 hw (gV w_400 w_169 w_170 w_5 w_171) rfl rfl rfl (by decide +kernel) ⟨Nat.le_of_ble_eq_true rfl, Nat.le_of_ble_eq_true rfl⟩) ⟨fun a U g mk q => by obtain ⟨q0, q1, qP, qK, qD, qN⟩ := q; exact ⟨q0, q1, qP, va_K.moved (u := U) (U := U.calling g mk a) (Vm.Alike.refl U.vm) qK, qD, nw_same (s := U) (U := U.calling g mk a) rfl qN⟩, va_recv hK hPc (ci := 3) (q0 := 0) rfl rfl, fun U hU hW => ⟨rfl, by rw [hU], by rw [hU]; exact hPc, va_K.moved hW.alike hK, hDc.weaken (fun _ _ _ _ => trivial), nw_warm hW hN⟩⟩ rfl rfl hl.1 rfl (lv_room (Nat.le_of_ble_eq_true rfl)) dX3_storeData_25 ⟨Nat.le_of_ble_eq_true rfl, Nat.le_of_ble_eq_true rfl⟩) hS (fun q _ h => hFc q h) hFc (fun r_25 u t9 H1 locs ht hvm hR hB hz1 hk1 hS => ?_)
      replace hR := Eq.symm hR
      subst hR
      obtain ⟨hP1, hD1⟩ := hB
      rw [ht] at hP1
      obtain ⟨hP, hD⟩ := va_join (wr := [(oH, .inr (2, [.ref oA, .long vO.2])), (oA, .inl (cB, 4096, .inl vO.1))]) (w1 := [(sH, .inr (3, [.ref qH, .ref oH, .int (f_X3_receive vS vQ p1).2.1.1, .int (f_X3_receive vS vQ p1).2.1.2.1, .int (f_X3_receive vS vQ p1).2.1.2.2.1, .int (f_X3_receive vS vQ p1).2.1.2.2.2.1, .int (f_X3_receive vS vQ p1).2.1.2.2.2.2.1, .int (f_X3_receive vS vQ p1).2.1.2.2.2.2.2.1, .int (f_X3_receive vS vQ p1).2.1.2.2.2.2.2.2.1, .int (f_X3_receive vS vQ p1).2.1.2.2.2.2.2.2.2])), (qH, .inr (1, [.ref qA, .int (f_X3_receive vS vQ p1).2.2.2.1, .int (f_X3_receive vS vQ p1).2.2.2.2.1, .int (f_X3_receive vS vQ p1).2.2.2.2.2])), (qA, .inl (cI, 16, .inl (f_X3_receive vS vQ p1).2.2.1))]) hP hD [4, 0, 1] [2, 3] rfl rfl (by decide) (by decide) hk1 hFc hP1 hD1
      generalize H1 = H at hP hS ⊢
      have hP : va_P (dC, dI) vwCl [(oH, .inr (2, [.ref oA, .long vO.2])), (oA, .inl (cB, 4096, .inl vO.1)), (sH, .inr (3, [.ref qH, .ref oH, .int (f_X3_receive vS vQ p1).2.1.1, .int (f_X3_receive vS vQ p1).2.1.2.1, .int (f_X3_receive vS vQ p1).2.1.2.2.1, .int (f_X3_receive vS vQ p1).2.1.2.2.2.1, .int (f_X3_receive vS vQ p1).2.1.2.2.2.2.1, .int (f_X3_receive vS vQ p1).2.1.2.2.2.2.2.1, .int (f_X3_receive vS vQ p1).2.1.2.2.2.2.2.2.1, .int (f_X3_receive vS vQ p1).2.1.2.2.2.2.2.2.2])), (qH, .inr (1, [.ref qA, .int (f_X3_receive vS vQ p1).2.2.2.1, .int (f_X3_receive vS vQ p1).2.2.2.2.1, .int (f_X3_receive vS vQ p1).2.2.2.2.2])), (qA, .inl (cI, 16, .inl (f_X3_receive vS vQ p1).2.2.1))] H := hP
      have hD : va_D A [(oH, .inr (2, [.ref oA, .long vO.2])), (oA, .inl (cB, 4096, .inl vO.1)), (sH, .inr (3, [.ref qH, .ref oH, .int (f_X3_receive vS vQ p1).2.1.1, .int (f_X3_receive vS vQ p1).2.1.2.1, .int (f_X3_receive vS vQ p1).2.1.2.2.1, .int (f_X3_receive vS vQ p1).2.1.2.2.2.1, .int (f_X3_receive vS vQ p1).2.1.2.2.2.2.1, .int (f_X3_receive vS vQ p1).2.1.2.2.2.2.2.1, .int (f_X3_receive vS vQ p1).2.1.2.2.2.2.2.2.1, .int (f_X3_receive vS vQ p1).2.1.2.2.2.2.2.2.2])), (qH, .inr (1, [.ref qA, .int (f_X3_receive vS vQ p1).2.2.2.1, .int (f_X3_receive vS vQ p1).2.2.2.2.1, .int (f_X3_receive vS vQ p1).2.2.2.2.2])), (qA, .inl (cI, 16, .inl (f_X3_receive vS vQ p1).2.2.1))] := hD
      refine lv_pop hx hb dX3_storeData_28 rfl ?_
      refine lv_goto (tgt := 40) hx hb dX3_storeData_29 (by decide) ?_
      refine lv_aload_n hx hb dX3_storeData_40 rfl (lv_at hl 0 rfl) ?_
      refine lv_iconst (v := 1) hx hb dX3_storeData_41 (by decide) ?_
      refine va_put (D := (dC, dI)) (ci := 3) (v := .int 1) (ty := .boolean) (C := RX3) (T := TX3) (N := 10) hx hb hw inWX3 tyX3 tyX3_ok nmX3 hown hK hP hD hS 2 rfl rfl 9 (by decide) (hw _ w_125) (fun _ h9 => h9) rfl (by decide +kernel) rfl rfl (Nat.le_of_ble_eq_true rfl) dX3_storeData_42 (fun H locs hP hD hS => ?_)
      have hP : va_P (dC, dI) vwCl [(oH, .inr (2, [.ref oA, .long vO.2])), (oA, .inl (cB, 4096, .inl vO.1)), (sH, .inr (3, [.ref qH, .ref oH, .int (f_X3_receive vS vQ p1).2.1.1, .int (f_X3_receive vS vQ p1).2.1.2.1, .int (f_X3_receive vS vQ p1).2.1.2.2.1, .int (f_X3_receive vS vQ p1).2.1.2.2.2.1, .int (f_X3_receive vS vQ p1).2.1.2.2.2.2.1, .int (f_X3_receive vS vQ p1).2.1.2.2.2.2.2.1, .int (f_X3_receive vS vQ p1).2.1.2.2.2.2.2.2.1, .int 1])), (qH, .inr (1, [.ref qA, .int (f_X3_receive vS vQ p1).2.2.2.1, .int (f_X3_receive vS vQ p1).2.2.2.2.1, .int (f_X3_receive vS vQ p1).2.2.2.2.2])), (qA, .inl (cI, 16, .inl (f_X3_receive vS vQ p1).2.2.1))] H := hP
      have hD : va_D A [(oH, .inr (2, [.ref oA, .long vO.2])), (oA, .inl (cB, 4096, .inl vO.1)), (sH, .inr (3, [.ref qH, .ref oH, .int (f_X3_receive vS vQ p1).2.1.1, .int (f_X3_receive vS vQ p1).2.1.2.1, .int (f_X3_receive vS vQ p1).2.1.2.2.1, .int (f_X3_receive vS vQ p1).2.1.2.2.2.1, .int (f_X3_receive vS vQ p1).2.1.2.2.2.2.1, .int (f_X3_receive vS vQ p1).2.1.2.2.2.2.2.1, .int (f_X3_receive vS vQ p1).2.1.2.2.2.2.2.2.1, .int 1])), (qH, .inr (1, [.ref qA, .int (f_X3_receive vS vQ p1).2.2.2.1, .int (f_X3_receive vS vQ p1).2.2.2.2.1, .int (f_X3_receive vS vQ p1).2.2.2.2.2])), (qA, .inl (cI, 16, .inl (f_X3_receive vS vQ p1).2.2.1))] := hD
      have hF : (f_X3_storeData vS vQ vO p1) = (((f_X3_receive vS vQ p1).2.1.1, (f_X3_receive vS vQ p1).2.1.2.1, (f_X3_receive vS vQ p1).2.1.2.2.1, (f_X3_receive vS vQ p1).2.1.2.2.2.1, (f_X3_receive vS vQ p1).2.1.2.2.2.2.1, (f_X3_receive vS vQ p1).2.1.2.2.2.2.2.1, (f_X3_receive vS vQ p1).2.1.2.2.2.2.2.2.1, 1), (f_X3_receive vS vQ p1).2.2, vO) := by rw [f_X3_storeData, if_pos c_4, if_neg c_20]
      have hP9 := hP.sub (ws' := [(sH, .inr (3, [.ref qH, .ref oH, .int (f_X3_receive vS vQ p1).2.1.1, .int (f_X3_receive vS vQ p1).2.1.2.1, .int (f_X3_receive vS vQ p1).2.1.2.2.1, .int (f_X3_receive vS vQ p1).2.1.2.2.2.1, .int (f_X3_receive vS vQ p1).2.1.2.2.2.2.1, .int (f_X3_receive vS vQ p1).2.1.2.2.2.2.2.1, .int (f_X3_receive vS vQ p1).2.1.2.2.2.2.2.2.1, .int 1])), (qH, .inr (1, [.ref qA, .int (f_X3_receive vS vQ p1).2.2.2.1, .int (f_X3_receive vS vQ p1).2.2.2.2.1, .int (f_X3_receive vS vQ p1).2.2.2.2.2])), (qA, .inl (cI, 16, .inl (f_X3_receive vS vQ p1).2.2.1)), (oH, .inr (2, [.ref oA, .long vO.2])), (oA, .inl (cB, 4096, .inl vO.1))]) [2, 3, 4, 0, 1] rfl
      have hD9 := hD.sub (ws' := [(sH, .inr (3, [.ref qH, .ref oH, .int (f_X3_receive vS vQ p1).2.1.1, .int (f_X3_receive vS vQ p1).2.1.2.1, .int (f_X3_receive vS vQ p1).2.1.2.2.1, .int (f_X3_receive vS vQ p1).2.1.2.2.2.1, .int (f_X3_receive vS vQ p1).2.1.2.2.2.2.1, .int (f_X3_receive vS vQ p1).2.1.2.2.2.2.2.1, .int (f_X3_receive vS vQ p1).2.1.2.2.2.2.2.2.1, .int 1])), (qH, .inr (1, [.ref qA, .int (f_X3_receive vS vQ p1).2.2.2.1, .int (f_X3_receive vS vQ p1).2.2.2.2.1, .int (f_X3_receive vS vQ p1).2.2.2.2.2])), (qA, .inl (cI, 16, .inl (f_X3_receive vS vQ p1).2.2.1)), (oH, .inr (2, [.ref oA, .long vO.2])), (oA, .inl (cB, 4096, .inl vO.1))]) [2, 3, 4, 0, 1] (by decide) rfl
      exact W.vret hx hb hr (fun u hu hW => ⟨⟨(), rfl, trivial, by rw [hu, hF]; exact hP9, by rw [hF]; exact hD9⟩, hS.F hu⟩) hS.2.2 dX3_storeData_45
  · refine lv_aload_n hx hb dX3_storeData_7 rfl (lv_at hl 0 rfl) ?_
    refine lv_iload_n hx hb dX3_storeData_8 rfl (lv_at hl 1 rfl) ?_
    refine va_put (D := (dC, dI)) (ci := 3) (v := .int p1) (ty := .int) (C := RX3) (T := TX3) (N := 10) hx hb hw inWX3 tyX3 tyX3_ok nmX3 hown hK hP hD hS 4 rfl rfl 6 (by decide) (hw _ w_122) (fun _ h9 => h9) rfl (by decide +kernel) rfl rfl (Nat.le_of_ble_eq_true rfl) dX3_storeData_9 (fun H locs hP hD hS => ?_)
    have hP : va_P (dC, dI) vwCl [(qH, .inr (1, [.ref qA, .int vQ.2.1, .int vQ.2.2.1, .int vQ.2.2.2])), (qA, .inl (cI, 16, .inl vQ.1)), (oH, .inr (2, [.ref oA, .long vO.2])), (oA, .inl (cB, 4096, .inl vO.1)), (sH, .inr (3, [.ref qH, .ref oH, .int vS.1, .int vS.2.1, .int vS.2.2.1, .int vS.2.2.2.1, .int p1, .int vS.2.2.2.2.2.1, .int vS.2.2.2.2.2.2.1, .int vS.2.2.2.2.2.2.2]))] H := hP
    have hD : va_D A [(qH, .inr (1, [.ref qA, .int vQ.2.1, .int vQ.2.2.1, .int vQ.2.2.2])), (qA, .inl (cI, 16, .inl vQ.1)), (oH, .inr (2, [.ref oA, .long vO.2])), (oA, .inl (cB, 4096, .inl vO.1)), (sH, .inr (3, [.ref qH, .ref oH, .int vS.1, .int vS.2.1, .int vS.2.2.1, .int vS.2.2.2.1, .int p1, .int vS.2.2.2.2.2.1, .int vS.2.2.2.2.2.2.1, .int vS.2.2.2.2.2.2.2]))] := hD
    have hF : (f_X3_storeData vS vQ vO p1) = ((vS.1, vS.2.1, vS.2.2.1, vS.2.2.2.1, p1, vS.2.2.2.2.2.1, vS.2.2.2.2.2.2.1, vS.2.2.2.2.2.2.2), vQ, vO) := by rw [f_X3_storeData, if_neg c_4]
    have hP9 := hP.sub (ws' := [(sH, .inr (3, [.ref qH, .ref oH, .int vS.1, .int vS.2.1, .int vS.2.2.1, .int vS.2.2.2.1, .int p1, .int vS.2.2.2.2.2.1, .int vS.2.2.2.2.2.2.1, .int vS.2.2.2.2.2.2.2])), (qH, .inr (1, [.ref qA, .int vQ.2.1, .int vQ.2.2.1, .int vQ.2.2.2])), (qA, .inl (cI, 16, .inl vQ.1)), (oH, .inr (2, [.ref oA, .long vO.2])), (oA, .inl (cB, 4096, .inl vO.1))]) [4, 0, 1, 2, 3] rfl
    have hD9 := hD.sub (ws' := [(sH, .inr (3, [.ref qH, .ref oH, .int vS.1, .int vS.2.1, .int vS.2.2.1, .int vS.2.2.2.1, .int p1, .int vS.2.2.2.2.2.1, .int vS.2.2.2.2.2.2.1, .int vS.2.2.2.2.2.2.2])), (qH, .inr (1, [.ref qA, .int vQ.2.1, .int vQ.2.2.1, .int vQ.2.2.2])), (qA, .inl (cI, 16, .inl vQ.1)), (oH, .inr (2, [.ref oA, .long vO.2])), (oA, .inl (cB, 4096, .inl vO.1))]) [4, 0, 1, 2, 3] (by decide) rfl
    exact W.vret hx hb hr (fun u hu hW => ⟨⟨(), rfl, trivial, by rw [hu, hF]; exact hP9, by rw [hF]; exact hD9⟩, hS.F hu⟩) hS.2.2 dX3_storeData_12
def f_X3_storeEnables (vS : SS) (p1 : Int32) : SS :=
  if (f_X3_showsOthers vS) = 0 then if ((p1 &&& (vS.1 ^^^ (-1))) &&& 2) = 0 then ((p1 &&& 15), vS.2.1, vS.2.2.1, vS.2.2.2.1, vS.2.2.2.2.1, vS.2.2.2.2.2.1, vS.2.2.2.2.2.2.1, vS.2.2.2.2.2.2.2)
    else ((p1 &&& 15), vS.2.1, vS.2.2.1, vS.2.2.2.1, vS.2.2.2.2.1, vS.2.2.2.2.2.1, vS.2.2.2.2.2.2.1, 1)
  else (vS.1, vS.2.1, vS.2.2.1, vS.2.2.2.1, vS.2.2.2.2.1, p1, vS.2.2.2.2.2.2.1, vS.2.2.2.2.2.2.2)
set_option maxHeartbeats 4000000 in
set_option maxRecDepth 100000 in
theorem k_X3_storeEnables (l : Launch) (dC : Nat → ClassId) (dI : Nat → Nat → Nat) (cI cJ cB cZ : ClassId) (sH qH oH : Nat) (sz : Nat) (vS : SS) (p1 : Int32)  : Met l yX3_storeEnables wsX3_storeEnables ({ frames := 1, cells := 0, slots := 0, locals := 20 }) (va_Pc [.ref sH, .int p1] (fun U => U.heap.size = sz ∧ va_P (dC, dI) vwCl [(sH, .inr (3, [.ref qH, .ref oH, .int vS.1, .int vS.2.1, .int vS.2.2.1, .int vS.2.2.2.1, .int vS.2.2.2.2.1, .int vS.2.2.2.2.2.1, .int vS.2.2.2.2.2.2.1, .int vS.2.2.2.2.2.2.2]))] U.heap ∧ va_K (dC, dI) vwCl [(cI, .int), (cJ, .long), (cB, .byte), (cZ, .boolean)] U ∧ va_D (fun _ => True) [(sH, .inr (3, [.ref qH, .ref oH, .int vS.1, .int vS.2.1, .int vS.2.2.1, .int vS.2.2.2.1, .int vS.2.2.2.2.1, .int vS.2.2.2.2.2.1, .int vS.2.2.2.2.2.2.1, .int vS.2.2.2.2.2.2.2]))] ∧ nw_ U)) (va_Qv (fun (_ : Unit) => True) (fun (_ : Unit) (w : State) => va_P (dC, dI) vwCl [(sH, .inr (3, [.ref qH, .ref oH, .int (f_X3_storeEnables vS p1).1, .int (f_X3_storeEnables vS p1).2.1, .int (f_X3_storeEnables vS p1).2.2.1, .int (f_X3_storeEnables vS p1).2.2.2.1, .int (f_X3_storeEnables vS p1).2.2.2.2.1, .int (f_X3_storeEnables vS p1).2.2.2.2.2.1, .int (f_X3_storeEnables vS p1).2.2.2.2.2.2.1, .int (f_X3_storeEnables vS p1).2.2.2.2.2.2.2]))] w.heap ∧ va_D (va_A [(sH, .inr (3, [.ref qH, .ref oH, .int vS.1, .int vS.2.1, .int vS.2.2.1, .int vS.2.2.2.1, .int vS.2.2.2.2.1, .int vS.2.2.2.2.2.1, .int vS.2.2.2.2.2.2.1, .int vS.2.2.2.2.2.2.2]))] sz) [(sH, .inr (3, [.ref qH, .ref oH, .int (f_X3_storeEnables vS p1).1, .int (f_X3_storeEnables vS p1).2.1, .int (f_X3_storeEnables vS p1).2.2.1, .int (f_X3_storeEnables vS p1).2.2.2.1, .int (f_X3_storeEnables vS p1).2.2.2.2.1, .int (f_X3_storeEnables vS p1).2.2.2.2.2.1, .int (f_X3_storeEnables vS p1).2.2.2.2.2.2.1, .int (f_X3_storeEnables vS p1).2.2.2.2.2.2.2]))]) (va_A [(sH, .inr (3, [.ref qH, .ref oH, .int vS.1, .int vS.2.1, .int vS.2.2.1, .int vS.2.2.2.1, .int vS.2.2.2.2.1, .int vS.2.2.2.2.2.1, .int vS.2.2.2.2.2.2.1, .int vS.2.2.2.2.2.2.2]))] sz)) 0 0 (va_A [(sH, .inr (3, [.ref qH, .ref oH, .int vS.1, .int vS.2.1, .int vS.2.2.1, .int vS.2.2.2.1, .int vS.2.2.2.2.1, .int vS.2.2.2.2.2.1, .int vS.2.2.2.2.2.2.1, .int vS.2.2.2.2.2.2.2]))] sz) := by
  refine Met.ofW (cc := prog_5_method_11_code) (maxL := 2) (ret := none) (by decide) rfl ?_
  intro p e s m args below meth c s₁ B hml hv
  obtain ⟨rfl, hsz, hP, hK, hD0, hN⟩ := hv
  have hx := B.exec
  have hb := B.bytes
  have hr := B.returns
  have hw := hw_of (atoms_spec (ws := wsX3_storeEnables) B.pre)
  have hown : s.vm.findClass RX3 = some m.cls := findClass_of_methodNamed B.named
  have hlocks := B.notSynchronized
  subst hsz
  have hD := hD0.self (sz := s.heap.size)
  generalize hAe : va_A [(sH, .inr (3, [.ref qH, .ref oH, .int vS.1, .int vS.2.1, .int vS.2.2.1, .int vS.2.2.2.1, .int vS.2.2.2.2.1, .int vS.2.2.2.2.2.1, .int vS.2.2.2.2.2.2.1, .int vS.2.2.2.2.2.2.2]))] s.heap.size = A at hD ⊢
  have hA : ∀ q : Nat, s.heap.size ≤ q → A q := fun q h => by rw [← hAe]; exact Or.inr h
  have hS : va_S A s.heap s.heap [] := va_S.rf
  have hP : va_P (dC, dI) vwCl [(sH, .inr (3, [.ref qH, .ref oH, .int vS.1, .int vS.2.1, .int vS.2.2.1, .int vS.2.2.2.1, .int vS.2.2.2.2.1, .int vS.2.2.2.2.2.1, .int vS.2.2.2.2.2.2.1, .int vS.2.2.2.2.2.2.2]))] s.heap := hP
  have hl := lv_entry ([.ref sH, .int p1]) (n := 2) (Nat.le_of_ble_eq_true rfl)
  rw [lg_entry_eq]
  generalize (lg_sl ([.ref sH, .int p1]) ++ List.replicate (2 - (lg_sl ([.ref sH, .int p1])).length) Slot.unset).toArray = ls at hl ⊢
  have hl : lv_has ls 2 [(0, .ref sH), (1, .int p1)] := hl
  refine lv_aload_n hx hb dX3_storeEnables_0 rfl (lv_at hl 0 rfl) ?_
  have hPc := hP.sub (ws' := [(sH, .inr (3, [.ref qH, .ref oH, .int vS.1, .int vS.2.1, .int vS.2.2.1, .int vS.2.2.2.1, .int vS.2.2.2.2.1, .int vS.2.2.2.2.2.1, .int vS.2.2.2.2.2.2.1, .int vS.2.2.2.2.2.2.2]))]) [0] rfl
  have hDc := hD.sub (ws' := [(sH, .inr (3, [.ref qH, .ref oH, .int vS.1, .int vS.2.1, .int vS.2.2.1, .int vS.2.2.2.1, .int vS.2.2.2.2.1, .int vS.2.2.2.2.2.1, .int vS.2.2.2.2.2.2.1, .int vS.2.2.2.2.2.2.2]))]) [0] (by decide) rfl
  have hFc := va_free (wc := [(sH, .inr (3, [.ref qH, .ref oH, .int vS.1, .int vS.2.1, .int vS.2.2.1, .int vS.2.2.2.1, .int vS.2.2.2.2.1, .int vS.2.2.2.2.2.1, .int vS.2.2.2.2.2.2.1, .int vS.2.2.2.2.2.2.2]))]) hD hS hA [0] rfl
  refine va_calli (va_runV (As := []) (rest := []) ⟨hx, hb, hml, hown, hw⟩ (k_X3_showsOthers l dC dI cI cJ cB cZ sH qH oH s.heap.size vS) (cwV 0 hw (gV w_350 w_352 w_s7 w_5 w_353) rfl rfl rfl (by decide +kernel) ⟨Nat.le_of_ble_eq_true rfl, Nat.le_of_ble_eq_true rfl⟩) ⟨fun a U g mk q => by obtain ⟨q0, q1, qP, qK, qD, qN⟩ := q; exact ⟨q0, q1, qP, va_K.moved (u := U) (U := U.calling g mk a) (Vm.Alike.refl U.vm) qK, qD, nw_same (s := U) (U := U.calling g mk a) rfl qN⟩, va_recv hK hPc (ci := 3) (q0 := 0) rfl rfl, fun U hU hW => ⟨rfl, by rw [hU], by rw [hU]; exact hPc, va_K.moved hW.alike hK, hDc.weaken (fun _ _ _ _ => trivial), nw_warm hW hN⟩⟩ rfl rfl hl.1 rfl (lv_room (Nat.le_of_ble_eq_true rfl)) dX3_storeEnables_1 ⟨Nat.le_of_ble_eq_true rfl, Nat.le_of_ble_eq_true rfl⟩) hS (fun q _ h => hFc q h) hFc (fun r_1 u t9 H1 locs ht hvm hR hB hz1 hk1 hS => ?_)
  replace hR := Eq.symm hR
  subst hR
  obtain ⟨hP1, hD1⟩ := hB
  rw [ht] at hP1
  obtain ⟨hP, hD⟩ := va_join (wr := []) (w1 := [(sH, .inr (3, [.ref qH, .ref oH, .int vS.1, .int vS.2.1, .int vS.2.2.1, .int vS.2.2.2.1, .int vS.2.2.2.2.1, .int vS.2.2.2.2.2.1, .int vS.2.2.2.2.2.2.1, .int vS.2.2.2.2.2.2.2]))]) hP hD [0] [] rfl rfl (by decide) (by decide) hk1 hFc hP1 hD1
  generalize H1 = H at hP hS ⊢
  have hP : va_P (dC, dI) vwCl [(sH, .inr (3, [.ref qH, .ref oH, .int vS.1, .int vS.2.1, .int vS.2.2.1, .int vS.2.2.2.1, .int vS.2.2.2.2.1, .int vS.2.2.2.2.2.1, .int vS.2.2.2.2.2.2.1, .int vS.2.2.2.2.2.2.2]))] H := hP
  have hD : va_D A [(sH, .inr (3, [.ref qH, .ref oH, .int vS.1, .int vS.2.1, .int vS.2.2.1, .int vS.2.2.2.1, .int vS.2.2.2.2.1, .int vS.2.2.2.2.2.1, .int vS.2.2.2.2.2.2.1, .int vS.2.2.2.2.2.2.2]))] := hD
  refine lv_if_eq (tgt := 13) hx hb dX3_storeEnables_4 (by decide) (fun c_4 => ?_) (fun c_4 => ?_)
  · refine lv_iload_n hx hb dX3_storeEnables_13 rfl (lv_at hl 1 rfl) ?_
    refine lv_aload_n hx hb dX3_storeEnables_14 rfl (lv_at hl 0 rfl) ?_
    refine va_get (D := (dC, dI)) (ci := 3) (v := .int vS.1) (C := RX3) (T := TX3) (N := 10) hx hb hw inWX3 hown hK hP 0 rfl rfl 2 (by decide) (hw _ w_118) (fun _ h9 => h9) rfl dX3_storeEnables_15 ?_
    refine lv_iconst (v := (-1)) hx hb dX3_storeEnables_18 (by decide) ?_
    refine lv_ixor hx hb dX3_storeEnables_19 ?_
    refine lv_iand hx hb dX3_storeEnables_20 ?_
    refine lv_iconst (v := 2) hx hb dX3_storeEnables_21 (by decide) ?_
    refine lv_iand hx hb dX3_storeEnables_22 ?_
    refine lv_if_eq (tgt := 31) hx hb dX3_storeEnables_23 (by decide) (fun c_23 => ?_) (fun c_23 => ?_)
    · refine lv_aload_n hx hb dX3_storeEnables_31 rfl (lv_at hl 0 rfl) ?_
      refine lv_iload_n hx hb dX3_storeEnables_32 rfl (lv_at hl 1 rfl) ?_
      refine lv_bipush (v := 15) hx hb dX3_storeEnables_33 (by decide) ?_
      refine lv_iand hx hb dX3_storeEnables_35 ?_
      refine va_put (D := (dC, dI)) (ci := 3) (v := .int (p1 &&& 15)) (ty := .int) (C := RX3) (T := TX3) (N := 10) hx hb hw inWX3 tyX3 tyX3_ok nmX3 hown hK hP hD hS 0 rfl rfl 2 (by decide) (hw _ w_118) (fun _ h9 => h9) rfl (by decide +kernel) rfl rfl (Nat.le_of_ble_eq_true rfl) dX3_storeEnables_36 (fun H locs hP hD hS => ?_)
      have hP : va_P (dC, dI) vwCl [(sH, .inr (3, [.ref qH, .ref oH, .int (p1 &&& 15), .int vS.2.1, .int vS.2.2.1, .int vS.2.2.2.1, .int vS.2.2.2.2.1, .int vS.2.2.2.2.2.1, .int vS.2.2.2.2.2.2.1, .int vS.2.2.2.2.2.2.2]))] H := hP
      have hD : va_D A [(sH, .inr (3, [.ref qH, .ref oH, .int (p1 &&& 15), .int vS.2.1, .int vS.2.2.1, .int vS.2.2.2.1, .int vS.2.2.2.2.1, .int vS.2.2.2.2.2.1, .int vS.2.2.2.2.2.2.1, .int vS.2.2.2.2.2.2.2]))] := hD
      have hF : (f_X3_storeEnables vS p1) = ((p1 &&& 15), vS.2.1, vS.2.2.1, vS.2.2.2.1, vS.2.2.2.2.1, vS.2.2.2.2.2.1, vS.2.2.2.2.2.2.1, vS.2.2.2.2.2.2.2) := by rw [f_X3_storeEnables, if_pos c_4, if_pos c_23]
      have hP9 := hP.sub (ws' := [(sH, .inr (3, [.ref qH, .ref oH, .int (p1 &&& 15), .int vS.2.1, .int vS.2.2.1, .int vS.2.2.2.1, .int vS.2.2.2.2.1, .int vS.2.2.2.2.2.1, .int vS.2.2.2.2.2.2.1, .int vS.2.2.2.2.2.2.2]))]) [0] rfl
      have hD9 := hD.sub (ws' := [(sH, .inr (3, [.ref qH, .ref oH, .int (p1 &&& 15), .int vS.2.1, .int vS.2.2.1, .int vS.2.2.2.1, .int vS.2.2.2.2.1, .int vS.2.2.2.2.2.1, .int vS.2.2.2.2.2.2.1, .int vS.2.2.2.2.2.2.2]))]) [0] (by decide) rfl
      exact W.vret hx hb hr (fun u hu hW => ⟨⟨(), rfl, trivial, by rw [hu, hF]; exact hP9, by rw [hF]; exact hD9⟩, hS.F hu⟩) hS.2.2 dX3_storeEnables_39
    · refine lv_aload_n hx hb dX3_storeEnables_26 rfl (lv_at hl 0 rfl) ?_
      refine lv_iconst (v := 1) hx hb dX3_storeEnables_27 (by decide) ?_
      refine va_put (D := (dC, dI)) (ci := 3) (v := .int 1) (ty := .boolean) (C := RX3) (T := TX3) (N := 10) hx hb hw inWX3 tyX3 tyX3_ok nmX3 hown hK hP hD hS 0 rfl rfl 9 (by decide) (hw _ w_125) (fun _ h9 => h9) rfl (by decide +kernel) rfl rfl (Nat.le_of_ble_eq_true rfl) dX3_storeEnables_28 (fun H locs hP hD hS => ?_)
      have hP : va_P (dC, dI) vwCl [(sH, .inr (3, [.ref qH, .ref oH, .int vS.1, .int vS.2.1, .int vS.2.2.1, .int vS.2.2.2.1, .int vS.2.2.2.2.1, .int vS.2.2.2.2.2.1, .int vS.2.2.2.2.2.2.1, .int 1]))] H := hP
      have hD : va_D A [(sH, .inr (3, [.ref qH, .ref oH, .int vS.1, .int vS.2.1, .int vS.2.2.1, .int vS.2.2.2.1, .int vS.2.2.2.2.1, .int vS.2.2.2.2.2.1, .int vS.2.2.2.2.2.2.1, .int 1]))] := hD
      refine lv_aload_n hx hb dX3_storeEnables_31 rfl (lv_at hl 0 rfl) ?_
      refine lv_iload_n hx hb dX3_storeEnables_32 rfl (lv_at hl 1 rfl) ?_
      refine lv_bipush (v := 15) hx hb dX3_storeEnables_33 (by decide) ?_
      refine lv_iand hx hb dX3_storeEnables_35 ?_
      refine va_put (D := (dC, dI)) (ci := 3) (v := .int (p1 &&& 15)) (ty := .int) (C := RX3) (T := TX3) (N := 10) hx hb hw inWX3 tyX3 tyX3_ok nmX3 hown hK hP hD hS 0 rfl rfl 2 (by decide) (hw _ w_118) (fun _ h9 => h9) rfl (by decide +kernel) rfl rfl (Nat.le_of_ble_eq_true rfl) dX3_storeEnables_36 (fun H locs hP hD hS => ?_)
      have hP : va_P (dC, dI) vwCl [(sH, .inr (3, [.ref qH, .ref oH, .int (p1 &&& 15), .int vS.2.1, .int vS.2.2.1, .int vS.2.2.2.1, .int vS.2.2.2.2.1, .int vS.2.2.2.2.2.1, .int vS.2.2.2.2.2.2.1, .int 1]))] H := hP
      have hD : va_D A [(sH, .inr (3, [.ref qH, .ref oH, .int (p1 &&& 15), .int vS.2.1, .int vS.2.2.1, .int vS.2.2.2.1, .int vS.2.2.2.2.1, .int vS.2.2.2.2.2.1, .int vS.2.2.2.2.2.2.1, .int 1]))] := hD
      have hF : (f_X3_storeEnables vS p1) = ((p1 &&& 15), vS.2.1, vS.2.2.1, vS.2.2.2.1, vS.2.2.2.2.1, vS.2.2.2.2.2.1, vS.2.2.2.2.2.2.1, 1) := by rw [f_X3_storeEnables, if_pos c_4, if_neg c_23]
      have hP9 := hP.sub (ws' := [(sH, .inr (3, [.ref qH, .ref oH, .int (p1 &&& 15), .int vS.2.1, .int vS.2.2.1, .int vS.2.2.2.1, .int vS.2.2.2.2.1, .int vS.2.2.2.2.2.1, .int vS.2.2.2.2.2.2.1, .int 1]))]) [0] rfl
      have hD9 := hD.sub (ws' := [(sH, .inr (3, [.ref qH, .ref oH, .int (p1 &&& 15), .int vS.2.1, .int vS.2.2.1, .int vS.2.2.2.1, .int vS.2.2.2.2.1, .int vS.2.2.2.2.2.1, .int vS.2.2.2.2.2.2.1, .int 1]))]) [0] (by decide) rfl
      exact W.vret hx hb hr (fun u hu hW => ⟨⟨(), rfl, trivial, by rw [hu, hF]; exact hP9, by rw [hF]; exact hD9⟩, hS.F hu⟩) hS.2.2 dX3_storeEnables_39
  · refine lv_aload_n hx hb dX3_storeEnables_7 rfl (lv_at hl 0 rfl) ?_
    refine lv_iload_n hx hb dX3_storeEnables_8 rfl (lv_at hl 1 rfl) ?_
    refine va_put (D := (dC, dI)) (ci := 3) (v := .int p1) (ty := .int) (C := RX3) (T := TX3) (N := 10) hx hb hw inWX3 tyX3 tyX3_ok nmX3 hown hK hP hD hS 0 rfl rfl 7 (by decide) (hw _ w_123) (fun _ h9 => h9) rfl (by decide +kernel) rfl rfl (Nat.le_of_ble_eq_true rfl) dX3_storeEnables_9 (fun H locs hP hD hS => ?_)
    have hP : va_P (dC, dI) vwCl [(sH, .inr (3, [.ref qH, .ref oH, .int vS.1, .int vS.2.1, .int vS.2.2.1, .int vS.2.2.2.1, .int vS.2.2.2.2.1, .int p1, .int vS.2.2.2.2.2.2.1, .int vS.2.2.2.2.2.2.2]))] H := hP
    have hD : va_D A [(sH, .inr (3, [.ref qH, .ref oH, .int vS.1, .int vS.2.1, .int vS.2.2.1, .int vS.2.2.2.1, .int vS.2.2.2.2.1, .int p1, .int vS.2.2.2.2.2.2.1, .int vS.2.2.2.2.2.2.2]))] := hD
    have hF : (f_X3_storeEnables vS p1) = (vS.1, vS.2.1, vS.2.2.1, vS.2.2.2.1, vS.2.2.2.2.1, p1, vS.2.2.2.2.2.2.1, vS.2.2.2.2.2.2.2) := by rw [f_X3_storeEnables, if_neg c_4]
    have hP9 := hP.sub (ws' := [(sH, .inr (3, [.ref qH, .ref oH, .int vS.1, .int vS.2.1, .int vS.2.2.1, .int vS.2.2.2.1, .int vS.2.2.2.2.1, .int p1, .int vS.2.2.2.2.2.2.1, .int vS.2.2.2.2.2.2.2]))]) [0] rfl
    have hD9 := hD.sub (ws' := [(sH, .inr (3, [.ref qH, .ref oH, .int vS.1, .int vS.2.1, .int vS.2.2.1, .int vS.2.2.2.1, .int vS.2.2.2.2.1, .int p1, .int vS.2.2.2.2.2.2.1, .int vS.2.2.2.2.2.2.2]))]) [0] (by decide) rfl
    exact W.vret hx hb hr (fun u hu hW => ⟨⟨(), rfl, trivial, by rw [hu, hF]; exact hP9, by rw [hF]; exact hD9⟩, hS.F hu⟩) hS.2.2 dX3_storeEnables_12
def f_X3_load (vS : SS) (vQ : QS) (p1 : Int64) (p2 : Int32) : Int32 × SS × QS :=
  if p2 = 1 then if (lg_cmp p1 7) ≤ 0 then if (Int64.toInt32 p1) = 0 then if (f_X3_showsOthers vS) = 0 then ((f_X1_take vQ).1, vS, (f_X1_take vQ).2)
        else (vS.2.2.2.2.1, vS, vQ)
      else if (Int64.toInt32 p1) = 1 then if (f_X3_showsOthers vS) = 0 then (vS.1, vS, vQ)
          else (vS.2.2.2.2.2.1, vS, vQ)
        else if (Int64.toInt32 p1) = 2 then ((f_X3_loadCause vS vQ).1, (f_X3_loadCause vS vQ).2, vQ)
          else if (Int64.toInt32 p1) = 3 then (vS.2.1, vS, vQ)
            else if (Int64.toInt32 p1) = 4 then (vS.2.2.1, vS, vQ)
              else if (Int64.toInt32 p1) = 5 then ((f_X3_loadLineState vS vQ).1, (f_X3_loadLineState vS vQ).2, vQ)
                else if (Int64.toInt32 p1) = 6 then ((f_X3_modemState vS), vS, vQ)
                  else if (Int64.toInt32 p1) = 7 then (vS.2.2.2.1, vS, vQ)
                    else (0, vS, vQ)
    else (0, vS, vQ)
  else (0, vS, vQ)
set_option maxHeartbeats 4000000 in
set_option maxRecDepth 100000 in
theorem k_X3_load (l : Launch) (dC : Nat → ClassId) (dI : Nat → Nat → Nat) (cI cJ cB cZ : ClassId) (sH qH oH qA : Nat) (sz : Nat) (vS : SS) (vQ : QS) (p1 : Int64) (p2 : Int32) (hq : vp_in vQ.2.1 16) : Met l yX3_load wsX3_load ({ frames := 2, cells := 0, slots := 0, locals := 41 }) (va_Pc [.ref sH, .long p1, .int p2] (fun U => U.heap.size = sz ∧ va_P (dC, dI) vwCl [(sH, .inr (3, [.ref qH, .ref oH, .int vS.1, .int vS.2.1, .int vS.2.2.1, .int vS.2.2.2.1, .int vS.2.2.2.2.1, .int vS.2.2.2.2.2.1, .int vS.2.2.2.2.2.2.1, .int vS.2.2.2.2.2.2.2])), (qH, .inr (1, [.ref qA, .int vQ.2.1, .int vQ.2.2.1, .int vQ.2.2.2])), (qA, .inl (cI, 16, .inl vQ.1))] U.heap ∧ va_K (dC, dI) vwCl [(cI, .int), (cJ, .long), (cB, .byte), (cZ, .boolean)] U ∧ va_D (fun _ => True) [(sH, .inr (3, [.ref qH, .ref oH, .int vS.1, .int vS.2.1, .int vS.2.2.1, .int vS.2.2.2.1, .int vS.2.2.2.2.1, .int vS.2.2.2.2.2.1, .int vS.2.2.2.2.2.2.1, .int vS.2.2.2.2.2.2.2])), (qH, .inr (1, [.ref qA, .int vQ.2.1, .int vQ.2.2.1, .int vQ.2.2.2])), (qA, .inl (cI, 16, .inl vQ.1))] ∧ nw_ U)) (va_Qi (fun (r : Int32) (_ : Unit) => r = (f_X3_load vS vQ p1 p2).1) (fun (_ : Unit) (w : State) => va_P (dC, dI) vwCl [(sH, .inr (3, [.ref qH, .ref oH, .int (f_X3_load vS vQ p1 p2).2.1.1, .int (f_X3_load vS vQ p1 p2).2.1.2.1, .int (f_X3_load vS vQ p1 p2).2.1.2.2.1, .int (f_X3_load vS vQ p1 p2).2.1.2.2.2.1, .int (f_X3_load vS vQ p1 p2).2.1.2.2.2.2.1, .int (f_X3_load vS vQ p1 p2).2.1.2.2.2.2.2.1, .int (f_X3_load vS vQ p1 p2).2.1.2.2.2.2.2.2.1, .int (f_X3_load vS vQ p1 p2).2.1.2.2.2.2.2.2.2])), (qH, .inr (1, [.ref qA, .int (f_X3_load vS vQ p1 p2).2.2.2.1, .int (f_X3_load vS vQ p1 p2).2.2.2.2.1, .int (f_X3_load vS vQ p1 p2).2.2.2.2.2])), (qA, .inl (cI, 16, .inl (f_X3_load vS vQ p1 p2).2.2.1))] w.heap ∧ va_D (va_A [(sH, .inr (3, [.ref qH, .ref oH, .int vS.1, .int vS.2.1, .int vS.2.2.1, .int vS.2.2.2.1, .int vS.2.2.2.2.1, .int vS.2.2.2.2.2.1, .int vS.2.2.2.2.2.2.1, .int vS.2.2.2.2.2.2.2])), (qH, .inr (1, [.ref qA, .int vQ.2.1, .int vQ.2.2.1, .int vQ.2.2.2])), (qA, .inl (cI, 16, .inl vQ.1))] sz) [(sH, .inr (3, [.ref qH, .ref oH, .int (f_X3_load vS vQ p1 p2).2.1.1, .int (f_X3_load vS vQ p1 p2).2.1.2.1, .int (f_X3_load vS vQ p1 p2).2.1.2.2.1, .int (f_X3_load vS vQ p1 p2).2.1.2.2.2.1, .int (f_X3_load vS vQ p1 p2).2.1.2.2.2.2.1, .int (f_X3_load vS vQ p1 p2).2.1.2.2.2.2.2.1, .int (f_X3_load vS vQ p1 p2).2.1.2.2.2.2.2.2.1, .int (f_X3_load vS vQ p1 p2).2.1.2.2.2.2.2.2.2])), (qH, .inr (1, [.ref qA, .int (f_X3_load vS vQ p1 p2).2.2.2.1, .int (f_X3_load vS vQ p1 p2).2.2.2.2.1, .int (f_X3_load vS vQ p1 p2).2.2.2.2.2])), (qA, .inl (cI, 16, .inl (f_X3_load vS vQ p1 p2).2.2.1))]) (va_A [(sH, .inr (3, [.ref qH, .ref oH, .int vS.1, .int vS.2.1, .int vS.2.2.1, .int vS.2.2.2.1, .int vS.2.2.2.2.1, .int vS.2.2.2.2.2.1, .int vS.2.2.2.2.2.2.1, .int vS.2.2.2.2.2.2.2])), (qH, .inr (1, [.ref qA, .int vQ.2.1, .int vQ.2.2.1, .int vQ.2.2.2])), (qA, .inl (cI, 16, .inl vQ.1))] sz)) 0 0 (va_A [(sH, .inr (3, [.ref qH, .ref oH, .int vS.1, .int vS.2.1, .int vS.2.2.1, .int vS.2.2.2.1, .int vS.2.2.2.2.1, .int vS.2.2.2.2.2.1, .int vS.2.2.2.2.2.2.1, .int vS.2.2.2.2.2.2.2])), (qH, .inr (1, [.ref qA, .int vQ.2.1, .int vQ.2.2.1, .int vQ.2.2.2])), (qA, .inl (cI, 16, .inl vQ.1))] sz) := by
  refine Met.ofW (cc := prog_5_method_2_code) (maxL := 4) (ret := (some .int)) (by decide) rfl ?_
  intro p e s m args below meth c s₁ B hml hv
  obtain ⟨rfl, hsz, hP, hK, hD0, hN⟩ := hv
  have hx := B.exec
  have hb := B.bytes
  have hr := B.returns
  have hw := hw_of (atoms_spec (ws := wsX3_load) B.pre)
  have hown : s.vm.findClass RX3 = some m.cls := findClass_of_methodNamed B.named
  have hlocks := B.notSynchronized
  subst hsz
  have hD := hD0.self (sz := s.heap.size)
  generalize hAe : va_A [(sH, .inr (3, [.ref qH, .ref oH, .int vS.1, .int vS.2.1, .int vS.2.2.1, .int vS.2.2.2.1, .int vS.2.2.2.2.1, .int vS.2.2.2.2.2.1, .int vS.2.2.2.2.2.2.1, .int vS.2.2.2.2.2.2.2])), (qH, .inr (1, [.ref qA, .int vQ.2.1, .int vQ.2.2.1, .int vQ.2.2.2])), (qA, .inl (cI, 16, .inl vQ.1))] s.heap.size = A at hD ⊢
  have hA : ∀ q : Nat, s.heap.size ≤ q → A q := fun q h => by rw [← hAe]; exact Or.inr h
  have hS : va_S A s.heap s.heap [] := va_S.rf
  have hP : va_P (dC, dI) vwCl [(sH, .inr (3, [.ref qH, .ref oH, .int vS.1, .int vS.2.1, .int vS.2.2.1, .int vS.2.2.2.1, .int vS.2.2.2.2.1, .int vS.2.2.2.2.2.1, .int vS.2.2.2.2.2.2.1, .int vS.2.2.2.2.2.2.2])), (qH, .inr (1, [.ref qA, .int vQ.2.1, .int vQ.2.2.1, .int vQ.2.2.2])), (qA, .inl (cI, 16, .inl vQ.1))] s.heap := hP
  have hl := lv_entry ([.ref sH, .long p1, .int p2]) (n := 4) (Nat.le_of_ble_eq_true rfl)
  rw [lg_entry_eq]
  generalize (lg_sl ([.ref sH, .long p1, .int p2]) ++ List.replicate (4 - (lg_sl ([.ref sH, .long p1, .int p2])).length) Slot.unset).toArray = ls at hl ⊢
  have hl : lv_has ls 4 [(0, .ref sH), (1, .long p1), (3, .int p2)] := hl
  refine lv_iload_n hx hb dX3_load_0 rfl (lv_at hl 2 rfl) ?_
  refine lv_iconst (v := 1) hx hb dX3_load_1 (by decide) ?_
  refine lv_icmp_ne (tgt := 13) hx hb dX3_load_2 (by decide) (fun c_2 => ?_) (fun c_2 => ?_)
  · refine lv_iconst (v := 0) hx hb dX3_load_13 (by decide) ?_
    have hF : (f_X3_load vS vQ p1 p2) = (0, vS, vQ) := by rw [f_X3_load, if_neg c_2]
    have hP9 := hP.sub (ws' := [(sH, .inr (3, [.ref qH, .ref oH, .int vS.1, .int vS.2.1, .int vS.2.2.1, .int vS.2.2.2.1, .int vS.2.2.2.2.1, .int vS.2.2.2.2.2.1, .int vS.2.2.2.2.2.2.1, .int vS.2.2.2.2.2.2.2])), (qH, .inr (1, [.ref qA, .int vQ.2.1, .int vQ.2.2.1, .int vQ.2.2.2])), (qA, .inl (cI, 16, .inl vQ.1))]) [0, 1, 2] rfl
    have hD9 := hD.sub (ws' := [(sH, .inr (3, [.ref qH, .ref oH, .int vS.1, .int vS.2.1, .int vS.2.2.1, .int vS.2.2.2.1, .int vS.2.2.2.2.1, .int vS.2.2.2.2.2.1, .int vS.2.2.2.2.2.2.1, .int vS.2.2.2.2.2.2.2])), (qH, .inr (1, [.ref qA, .int vQ.2.1, .int vQ.2.2.1, .int vQ.2.2.2])), (qA, .inl (cI, 16, .inl vQ.1))]) [0, 1, 2] (by decide) rfl
    exact W.iret (v := 0) hx hb hr (fun u hu hW => ⟨⟨0, (), rfl, (congrArg Prod.fst hF).symm, by rw [hu, hF]; exact hP9, by rw [hF]; exact hD9⟩, hS.F hu⟩) hS.2.2 dX3_load_14
  · refine lv_lload_n hx hb dX3_load_5 rfl (lv_at hl 1 rfl) ?_
    refine lv_ldc2 (v := 7) hx hb hown (hw _ w_349) dX3_load_6 ?_
    refine W.lcmp hx hb dX3_load_9 ?_
    refine lv_if_le (tgt := 15) hx hb dX3_load_10 (by decide) (fun c_10 => ?_) (fun c_10 => ?_)
    · refine lv_lload_n hx hb dX3_load_15 rfl (lv_at hl 1 rfl) ?_
      refine lv_l2i hx hb dX3_load_16 rfl ?_
      by_cases c_17_0 : (Int64.toInt32 p1) = 0
      · refine lv_tableIn (tgt := 64) hx hb dX3_load_17 (by rw [c_17_0]; decide) (by rw [c_17_0]; decide) (by rw [c_17_0]; rfl) (by decide) ?_
        refine lv_aload_n hx hb dX3_load_64 rfl (lv_at hl 0 rfl) ?_
        have hPc := hP.sub (ws' := [(sH, .inr (3, [.ref qH, .ref oH, .int vS.1, .int vS.2.1, .int vS.2.2.1, .int vS.2.2.2.1, .int vS.2.2.2.2.1, .int vS.2.2.2.2.2.1, .int vS.2.2.2.2.2.2.1, .int vS.2.2.2.2.2.2.2]))]) [0] rfl
        have hDc := hD.sub (ws' := [(sH, .inr (3, [.ref qH, .ref oH, .int vS.1, .int vS.2.1, .int vS.2.2.1, .int vS.2.2.2.1, .int vS.2.2.2.2.1, .int vS.2.2.2.2.2.1, .int vS.2.2.2.2.2.2.1, .int vS.2.2.2.2.2.2.2]))]) [0] (by decide) rfl
        have hFc := va_free (wc := [(sH, .inr (3, [.ref qH, .ref oH, .int vS.1, .int vS.2.1, .int vS.2.2.1, .int vS.2.2.2.1, .int vS.2.2.2.2.1, .int vS.2.2.2.2.2.1, .int vS.2.2.2.2.2.2.1, .int vS.2.2.2.2.2.2.2]))]) hD hS hA [0] rfl
        refine va_calli (va_runV (As := []) (rest := []) ⟨hx, hb, hml, hown, hw⟩ (k_X3_showsOthers l dC dI cI cJ cB cZ sH qH oH s.heap.size vS) (cwV 0 hw (gV w_350 w_352 w_s7 w_5 w_353) rfl rfl rfl (by decide +kernel) ⟨Nat.le_of_ble_eq_true rfl, Nat.le_of_ble_eq_true rfl⟩) ⟨fun a U g mk q => by obtain ⟨q0, q1, qP, qK, qD, qN⟩ := q; exact ⟨q0, q1, qP, va_K.moved (u := U) (U := U.calling g mk a) (Vm.Alike.refl U.vm) qK, qD, nw_same (s := U) (U := U.calling g mk a) rfl qN⟩, va_recv hK hPc (ci := 3) (q0 := 0) rfl rfl, fun U hU hW => ⟨rfl, by rw [hU], by rw [hU]; exact hPc, va_K.moved hW.alike hK, hDc.weaken (fun _ _ _ _ => trivial), nw_warm hW hN⟩⟩ rfl rfl hl.1 rfl (lv_room (Nat.le_of_ble_eq_true rfl)) dX3_load_65 ⟨Nat.le_of_ble_eq_true rfl, Nat.le_of_ble_eq_true rfl⟩) hS (fun q _ h => hFc q h) hFc (fun r_65 u t9 H1 locs ht hvm hR hB hz1 hk1 hS => ?_)
        replace hR := Eq.symm hR
        subst hR
        obtain ⟨hP1, hD1⟩ := hB
        rw [ht] at hP1
        obtain ⟨hP, hD⟩ := va_join (wr := [(qH, .inr (1, [.ref qA, .int vQ.2.1, .int vQ.2.2.1, .int vQ.2.2.2])), (qA, .inl (cI, 16, .inl vQ.1))]) (w1 := [(sH, .inr (3, [.ref qH, .ref oH, .int vS.1, .int vS.2.1, .int vS.2.2.1, .int vS.2.2.2.1, .int vS.2.2.2.2.1, .int vS.2.2.2.2.2.1, .int vS.2.2.2.2.2.2.1, .int vS.2.2.2.2.2.2.2]))]) hP hD [0] [1, 2] rfl rfl (by decide) (by decide) hk1 hFc hP1 hD1
        generalize H1 = H at hP hS ⊢
        have hP : va_P (dC, dI) vwCl [(qH, .inr (1, [.ref qA, .int vQ.2.1, .int vQ.2.2.1, .int vQ.2.2.2])), (qA, .inl (cI, 16, .inl vQ.1)), (sH, .inr (3, [.ref qH, .ref oH, .int vS.1, .int vS.2.1, .int vS.2.2.1, .int vS.2.2.2.1, .int vS.2.2.2.2.1, .int vS.2.2.2.2.2.1, .int vS.2.2.2.2.2.2.1, .int vS.2.2.2.2.2.2.2]))] H := hP
        have hD : va_D A [(qH, .inr (1, [.ref qA, .int vQ.2.1, .int vQ.2.2.1, .int vQ.2.2.2])), (qA, .inl (cI, 16, .inl vQ.1)), (sH, .inr (3, [.ref qH, .ref oH, .int vS.1, .int vS.2.1, .int vS.2.2.1, .int vS.2.2.2.1, .int vS.2.2.2.2.1, .int vS.2.2.2.2.2.1, .int vS.2.2.2.2.2.2.1, .int vS.2.2.2.2.2.2.2]))] := hD
        refine lv_if_eq (tgt := 78) hx hb dX3_load_68 (by decide) (fun c_68 => ?_) (fun c_68 => ?_)
        · refine lv_aload_n hx hb dX3_load_78 rfl (lv_at hl 0 rfl) ?_
          refine va_get (D := (dC, dI)) (ci := 3) (v := .ref qH) (C := RX3) (T := TX3) (N := 10) hx hb hw inWX3 hown hK hP 2 rfl rfl 0 (by decide) (hw _ w_114) (fun _ h9 => h9) rfl dX3_load_79 ?_
          have hPc := hP.sub (ws' := [(qH, .inr (1, [.ref qA, .int vQ.2.1, .int vQ.2.2.1, .int vQ.2.2.2])), (qA, .inl (cI, 16, .inl vQ.1))]) [0, 1] rfl
          have hDc := hD.sub (ws' := [(qH, .inr (1, [.ref qA, .int vQ.2.1, .int vQ.2.2.1, .int vQ.2.2.2])), (qA, .inl (cI, 16, .inl vQ.1))]) [0, 1] (by decide) rfl
          have hFc := va_free (wc := [(qH, .inr (1, [.ref qA, .int vQ.2.1, .int vQ.2.2.1, .int vQ.2.2.2])), (qA, .inl (cI, 16, .inl vQ.1))]) hD hS hA [0, 1] rfl
          refine va_calli (va_runV (As := []) (rest := []) ⟨hx, hb, hml, hown, hw⟩ (k_X1_take l dC dI cI cJ cB cZ qH qA H.size vQ hq) (cwV 0 hw (gV w_354 w_355 w_356 w_6 w_357) rfl rfl rfl (by decide +kernel) ⟨Nat.le_of_ble_eq_true rfl, Nat.le_of_ble_eq_true rfl⟩) ⟨fun a U g mk q => by obtain ⟨q0, q1, qP, qK, qD, qN⟩ := q; exact ⟨q0, q1, qP, va_K.moved (u := U) (U := U.calling g mk a) (Vm.Alike.refl U.vm) qK, qD, nw_same (s := U) (U := U.calling g mk a) rfl qN⟩, va_recv hK hPc (ci := 1) (q0 := 0) rfl rfl, fun U hU hW => ⟨rfl, by rw [hU], by rw [hU]; exact hPc, va_K.moved hW.alike hK, hDc.weaken (fun _ _ _ _ => trivial), nw_warm hW hN⟩⟩ rfl rfl hl.1 rfl (lv_room (Nat.le_of_ble_eq_true rfl)) dX3_load_82 ⟨Nat.le_of_ble_eq_true rfl, Nat.le_of_ble_eq_true rfl⟩) hS (fun q _ h => hFc q h) hFc (fun r_82 u t9 H1 locs ht hvm hR hB hz1 hk1 hS => ?_)
          replace hR := Eq.symm hR
          subst hR
          obtain ⟨hP1, hD1⟩ := hB
          rw [ht] at hP1
          obtain ⟨hP, hD⟩ := va_join (wr := [(sH, .inr (3, [.ref qH, .ref oH, .int vS.1, .int vS.2.1, .int vS.2.2.1, .int vS.2.2.2.1, .int vS.2.2.2.2.1, .int vS.2.2.2.2.2.1, .int vS.2.2.2.2.2.2.1, .int vS.2.2.2.2.2.2.2]))]) (w1 := [(qH, .inr (1, [.ref qA, .int (f_X1_take vQ).2.2.1, .int (f_X1_take vQ).2.2.2.1, .int (f_X1_take vQ).2.2.2.2])), (qA, .inl (cI, 16, .inl (f_X1_take vQ).2.1))]) hP hD [0, 1] [2] rfl rfl (by decide) (by decide) hk1 hFc hP1 hD1
          generalize H1 = H at hP hS ⊢
          have hP : va_P (dC, dI) vwCl [(sH, .inr (3, [.ref qH, .ref oH, .int vS.1, .int vS.2.1, .int vS.2.2.1, .int vS.2.2.2.1, .int vS.2.2.2.2.1, .int vS.2.2.2.2.2.1, .int vS.2.2.2.2.2.2.1, .int vS.2.2.2.2.2.2.2])), (qH, .inr (1, [.ref qA, .int (f_X1_take vQ).2.2.1, .int (f_X1_take vQ).2.2.2.1, .int (f_X1_take vQ).2.2.2.2])), (qA, .inl (cI, 16, .inl (f_X1_take vQ).2.1))] H := hP
          have hD : va_D A [(sH, .inr (3, [.ref qH, .ref oH, .int vS.1, .int vS.2.1, .int vS.2.2.1, .int vS.2.2.2.1, .int vS.2.2.2.2.1, .int vS.2.2.2.2.2.1, .int vS.2.2.2.2.2.2.1, .int vS.2.2.2.2.2.2.2])), (qH, .inr (1, [.ref qA, .int (f_X1_take vQ).2.2.1, .int (f_X1_take vQ).2.2.2.1, .int (f_X1_take vQ).2.2.2.2])), (qA, .inl (cI, 16, .inl (f_X1_take vQ).2.1))] := hD
          have hF : (f_X3_load vS vQ p1 p2) = ((f_X1_take vQ).1, vS, (f_X1_take vQ).2) := by rw [f_X3_load, if_pos c_2, if_pos c_10, if_pos c_17_0, if_pos c_68]
          have hP9 := hP.sub (ws' := [(sH, .inr (3, [.ref qH, .ref oH, .int vS.1, .int vS.2.1, .int vS.2.2.1, .int vS.2.2.2.1, .int vS.2.2.2.2.1, .int vS.2.2.2.2.2.1, .int vS.2.2.2.2.2.2.1, .int vS.2.2.2.2.2.2.2])), (qH, .inr (1, [.ref qA, .int (f_X1_take vQ).2.2.1, .int (f_X1_take vQ).2.2.2.1, .int (f_X1_take vQ).2.2.2.2])), (qA, .inl (cI, 16, .inl (f_X1_take vQ).2.1))]) [0, 1, 2] rfl
          have hD9 := hD.sub (ws' := [(sH, .inr (3, [.ref qH, .ref oH, .int vS.1, .int vS.2.1, .int vS.2.2.1, .int vS.2.2.2.1, .int vS.2.2.2.2.1, .int vS.2.2.2.2.2.1, .int vS.2.2.2.2.2.2.1, .int vS.2.2.2.2.2.2.2])), (qH, .inr (1, [.ref qA, .int (f_X1_take vQ).2.2.1, .int (f_X1_take vQ).2.2.2.1, .int (f_X1_take vQ).2.2.2.2])), (qA, .inl (cI, 16, .inl (f_X1_take vQ).2.1))]) [0, 1, 2] (by decide) rfl
          exact W.iret (v := (f_X1_take vQ).1) hx hb hr (fun u hu hW => ⟨⟨(f_X1_take vQ).1, (), rfl, (congrArg Prod.fst hF).symm, by rw [hu, hF]; exact hP9, by rw [hF]; exact hD9⟩, hS.F hu⟩) hS.2.2 dX3_load_85
        · refine lv_aload_n hx hb dX3_load_71 rfl (lv_at hl 0 rfl) ?_
          refine va_get (D := (dC, dI)) (ci := 3) (v := .int vS.2.2.2.2.1) (C := RX3) (T := TX3) (N := 10) hx hb hw inWX3 hown hK hP 2 rfl rfl 6 (by decide) (hw _ w_122) (fun _ h9 => h9) rfl dX3_load_72 ?_
          refine lv_goto (tgt := 85) hx hb dX3_load_75 (by decide) ?_
          have hF : (f_X3_load vS vQ p1 p2) = (vS.2.2.2.2.1, vS, vQ) := by rw [f_X3_load, if_pos c_2, if_pos c_10, if_pos c_17_0, if_neg c_68]
          have hP9 := hP.sub (ws' := [(sH, .inr (3, [.ref qH, .ref oH, .int vS.1, .int vS.2.1, .int vS.2.2.1, .int vS.2.2.2.1, .int vS.2.2.2.2.1, .int vS.2.2.2.2.2.1, .int vS.2.2.2.2.2.2.1, .int vS.2.2.2.2.2.2.2])), (qH, .inr (1, [.ref qA, .int vQ.2.1, .int vQ.2.2.1, .int vQ.2.2.2])), (qA, .inl (cI, 16, .inl vQ.1))]) [2, 0, 1] rfl
          have hD9 := hD.sub (ws' := [(sH, .inr (3, [.ref qH, .ref oH, .int vS.1, .int vS.2.1, .int vS.2.2.1, .int vS.2.2.2.1, .int vS.2.2.2.2.1, .int vS.2.2.2.2.2.1, .int vS.2.2.2.2.2.2.1, .int vS.2.2.2.2.2.2.2])), (qH, .inr (1, [.ref qA, .int vQ.2.1, .int vQ.2.2.1, .int vQ.2.2.2])), (qA, .inl (cI, 16, .inl vQ.1))]) [2, 0, 1] (by decide) rfl
          exact W.iret (v := vS.2.2.2.2.1) hx hb hr (fun u hu hW => ⟨⟨vS.2.2.2.2.1, (), rfl, (congrArg Prod.fst hF).symm, by rw [hu, hF]; exact hP9, by rw [hF]; exact hD9⟩, hS.F hu⟩) hS.2.2 dX3_load_85
      by_cases c_17_1 : (Int64.toInt32 p1) = 1
      · refine lv_tableIn (tgt := 86) hx hb dX3_load_17 (by rw [c_17_1]; decide) (by rw [c_17_1]; decide) (by rw [c_17_1]; rfl) (by decide) ?_
        refine lv_aload_n hx hb dX3_load_86 rfl (lv_at hl 0 rfl) ?_
        have hPc := hP.sub (ws' := [(sH, .inr (3, [.ref qH, .ref oH, .int vS.1, .int vS.2.1, .int vS.2.2.1, .int vS.2.2.2.1, .int vS.2.2.2.2.1, .int vS.2.2.2.2.2.1, .int vS.2.2.2.2.2.2.1, .int vS.2.2.2.2.2.2.2]))]) [0] rfl
        have hDc := hD.sub (ws' := [(sH, .inr (3, [.ref qH, .ref oH, .int vS.1, .int vS.2.1, .int vS.2.2.1, .int vS.2.2.2.1, .int vS.2.2.2.2.1, .int vS.2.2.2.2.2.1, .int vS.2.2.2.2.2.2.1, .int vS.2.2.2.2.2.2.2]))]) [0] (by decide) rfl
        have hFc := va_free (wc := [(sH, .inr (3, [.ref qH, .ref oH, .int vS.1, .int vS.2.1, .int vS.2.2.1, .int vS.2.2.2.1, .int vS.2.2.2.2.1, .int vS.2.2.2.2.2.1, .int vS.2.2.2.2.2.2.1, .int vS.2.2.2.2.2.2.2]))]) hD hS hA [0] rfl
        refine va_calli (va_runV (As := []) (rest := []) ⟨hx, hb, hml, hown, hw⟩ (k_X3_showsOthers l dC dI cI cJ cB cZ sH qH oH s.heap.size vS) (cwV 0 hw (gV w_350 w_352 w_s7 w_5 w_353) rfl rfl rfl (by decide +kernel) ⟨Nat.le_of_ble_eq_true rfl, Nat.le_of_ble_eq_true rfl⟩) ⟨fun a U g mk q => by obtain ⟨q0, q1, qP, qK, qD, qN⟩ := q; exact ⟨q0, q1, qP, va_K.moved (u := U) (U := U.calling g mk a) (Vm.Alike.refl U.vm) qK, qD, nw_same (s := U) (U := U.calling g mk a) rfl qN⟩, va_recv hK hPc (ci := 3) (q0 := 0) rfl rfl, fun U hU hW => ⟨rfl, by rw [hU], by rw [hU]; exact hPc, va_K.moved hW.alike hK, hDc.weaken (fun _ _ _ _ => trivial), nw_warm hW hN⟩⟩ rfl rfl hl.1 rfl (lv_room (Nat.le_of_ble_eq_true rfl)) dX3_load_87 ⟨Nat.le_of_ble_eq_true rfl, Nat.le_of_ble_eq_true rfl⟩) hS (fun q _ h => hFc q h) hFc (fun r_87 u t9 H1 locs ht hvm hR hB hz1 hk1 hS => ?_)
        replace hR := Eq.symm hR
        subst hR
        obtain ⟨hP1, hD1⟩ := hB
        rw [ht] at hP1
        obtain ⟨hP, hD⟩ := va_join (wr := [(qH, .inr (1, [.ref qA, .int vQ.2.1, .int vQ.2.2.1, .int vQ.2.2.2])), (qA, .inl (cI, 16, .inl vQ.1))]) (w1 := [(sH, .inr (3, [.ref qH, .ref oH, .int vS.1, .int vS.2.1, .int vS.2.2.1, .int vS.2.2.2.1, .int vS.2.2.2.2.1, .int vS.2.2.2.2.2.1, .int vS.2.2.2.2.2.2.1, .int vS.2.2.2.2.2.2.2]))]) hP hD [0] [1, 2] rfl rfl (by decide) (by decide) hk1 hFc hP1 hD1
        generalize H1 = H at hP hS ⊢
        have hP : va_P (dC, dI) vwCl [(qH, .inr (1, [.ref qA, .int vQ.2.1, .int vQ.2.2.1, .int vQ.2.2.2])), (qA, .inl (cI, 16, .inl vQ.1)), (sH, .inr (3, [.ref qH, .ref oH, .int vS.1, .int vS.2.1, .int vS.2.2.1, .int vS.2.2.2.1, .int vS.2.2.2.2.1, .int vS.2.2.2.2.2.1, .int vS.2.2.2.2.2.2.1, .int vS.2.2.2.2.2.2.2]))] H := hP
        have hD : va_D A [(qH, .inr (1, [.ref qA, .int vQ.2.1, .int vQ.2.2.1, .int vQ.2.2.2])), (qA, .inl (cI, 16, .inl vQ.1)), (sH, .inr (3, [.ref qH, .ref oH, .int vS.1, .int vS.2.1, .int vS.2.2.1, .int vS.2.2.2.1, .int vS.2.2.2.2.1, .int vS.2.2.2.2.2.1, .int vS.2.2.2.2.2.2.1, .int vS.2.2.2.2.2.2.2]))] := hD
        refine lv_if_eq (tgt := 100) hx hb dX3_load_90 (by decide) (fun c_90 => ?_) (fun c_90 => ?_)
        · refine lv_aload_n hx hb dX3_load_100 rfl (lv_at hl 0 rfl) ?_
          refine va_get (D := (dC, dI)) (ci := 3) (v := .int vS.1) (C := RX3) (T := TX3) (N := 10) hx hb hw inWX3 hown hK hP 2 rfl rfl 2 (by decide) (hw _ w_118) (fun _ h9 => h9) rfl dX3_load_101 ?_
          have hF : (f_X3_load vS vQ p1 p2) = (vS.1, vS, vQ) := by rw [f_X3_load, if_pos c_2, if_pos c_10, if_neg c_17_0, if_pos c_17_1, if_pos c_90]
          have hP9 := hP.sub (ws' := [(sH, .inr (3, [.ref qH, .ref oH, .int vS.1, .int vS.2.1, .int vS.2.2.1, .int vS.2.2.2.1, .int vS.2.2.2.2.1, .int vS.2.2.2.2.2.1, .int vS.2.2.2.2.2.2.1, .int vS.2.2.2.2.2.2.2])), (qH, .inr (1, [.ref qA, .int vQ.2.1, .int vQ.2.2.1, .int vQ.2.2.2])), (qA, .inl (cI, 16, .inl vQ.1))]) [2, 0, 1] rfl
          have hD9 := hD.sub (ws' := [(sH, .inr (3, [.ref qH, .ref oH, .int vS.1, .int vS.2.1, .int vS.2.2.1, .int vS.2.2.2.1, .int vS.2.2.2.2.1, .int vS.2.2.2.2.2.1, .int vS.2.2.2.2.2.2.1, .int vS.2.2.2.2.2.2.2])), (qH, .inr (1, [.ref qA, .int vQ.2.1, .int vQ.2.2.1, .int vQ.2.2.2])), (qA, .inl (cI, 16, .inl vQ.1))]) [2, 0, 1] (by decide) rfl
          exact W.iret (v := vS.1) hx hb hr (fun u hu hW => ⟨⟨vS.1, (), rfl, (congrArg Prod.fst hF).symm, by rw [hu, hF]; exact hP9, by rw [hF]; exact hD9⟩, hS.F hu⟩) hS.2.2 dX3_load_104
        · refine lv_aload_n hx hb dX3_load_93 rfl (lv_at hl 0 rfl) ?_
          refine va_get (D := (dC, dI)) (ci := 3) (v := .int vS.2.2.2.2.2.1) (C := RX3) (T := TX3) (N := 10) hx hb hw inWX3 hown hK hP 2 rfl rfl 7 (by decide) (hw _ w_123) (fun _ h9 => h9) rfl dX3_load_94 ?_
          refine lv_goto (tgt := 104) hx hb dX3_load_97 (by decide) ?_
          have hF : (f_X3_load vS vQ p1 p2) = (vS.2.2.2.2.2.1, vS, vQ) := by rw [f_X3_load, if_pos c_2, if_pos c_10, if_neg c_17_0, if_pos c_17_1, if_neg c_90]
          have hP9 := hP.sub (ws' := [(sH, .inr (3, [.ref qH, .ref oH, .int vS.1, .int vS.2.1, .int vS.2.2.1, .int vS.2.2.2.1, .int vS.2.2.2.2.1, .int vS.2.2.2.2.2.1, .int vS.2.2.2.2.2.2.1, .int vS.2.2.2.2.2.2.2])), (qH, .inr (1, [.ref qA, .int vQ.2.1, .int vQ.2.2.1, .int vQ.2.2.2])), (qA, .inl (cI, 16, .inl vQ.1))]) [2, 0, 1] rfl
          have hD9 := hD.sub (ws' := [(sH, .inr (3, [.ref qH, .ref oH, .int vS.1, .int vS.2.1, .int vS.2.2.1, .int vS.2.2.2.1, .int vS.2.2.2.2.1, .int vS.2.2.2.2.2.1, .int vS.2.2.2.2.2.2.1, .int vS.2.2.2.2.2.2.2])), (qH, .inr (1, [.ref qA, .int vQ.2.1, .int vQ.2.2.1, .int vQ.2.2.2])), (qA, .inl (cI, 16, .inl vQ.1))]) [2, 0, 1] (by decide) rfl
          exact W.iret (v := vS.2.2.2.2.2.1) hx hb hr (fun u hu hW => ⟨⟨vS.2.2.2.2.2.1, (), rfl, (congrArg Prod.fst hF).symm, by rw [hu, hF]; exact hP9, by rw [hF]; exact hD9⟩, hS.F hu⟩) hS.2.2 dX3_load_104
      by_cases c_17_2 : (Int64.toInt32 p1) = 2
      · refine lv_tableIn (tgt := 105) hx hb dX3_load_17 (by rw [c_17_2]; decide) (by rw [c_17_2]; decide) (by rw [c_17_2]; rfl) (by decide) ?_
        refine lv_aload_n hx hb dX3_load_105 rfl (lv_at hl 0 rfl) ?_
        have hPc := hP.sub (ws' := [(sH, .inr (3, [.ref qH, .ref oH, .int vS.1, .int vS.2.1, .int vS.2.2.1, .int vS.2.2.2.1, .int vS.2.2.2.2.1, .int vS.2.2.2.2.2.1, .int vS.2.2.2.2.2.2.1, .int vS.2.2.2.2.2.2.2])), (qH, .inr (1, [.ref qA, .int vQ.2.1, .int vQ.2.2.1, .int vQ.2.2.2])), (qA, .inl (cI, 16, .inl vQ.1))]) [0, 1, 2] rfl
        have hDc := hD.sub (ws' := [(sH, .inr (3, [.ref qH, .ref oH, .int vS.1, .int vS.2.1, .int vS.2.2.1, .int vS.2.2.2.1, .int vS.2.2.2.2.1, .int vS.2.2.2.2.2.1, .int vS.2.2.2.2.2.2.1, .int vS.2.2.2.2.2.2.2])), (qH, .inr (1, [.ref qA, .int vQ.2.1, .int vQ.2.2.1, .int vQ.2.2.2])), (qA, .inl (cI, 16, .inl vQ.1))]) [0, 1, 2] (by decide) rfl
        have hFc := va_free (wc := [(sH, .inr (3, [.ref qH, .ref oH, .int vS.1, .int vS.2.1, .int vS.2.2.1, .int vS.2.2.2.1, .int vS.2.2.2.2.1, .int vS.2.2.2.2.2.1, .int vS.2.2.2.2.2.2.1, .int vS.2.2.2.2.2.2.2])), (qH, .inr (1, [.ref qA, .int vQ.2.1, .int vQ.2.2.1, .int vQ.2.2.2])), (qA, .inl (cI, 16, .inl vQ.1))]) hD hS hA [0, 1, 2] rfl
        refine va_calli (va_runV (As := []) (rest := []) ⟨hx, hb, hml, hown, hw⟩ (k_X3_loadCause l dC dI cI cJ cB cZ sH qH oH qA s.heap.size vS vQ) (cwV 0 hw (gV w_358 w_360 w_s8 w_5 w_361) rfl rfl rfl (by decide +kernel) ⟨Nat.le_of_ble_eq_true rfl, Nat.le_of_ble_eq_true rfl⟩) ⟨fun a U g mk q => by obtain ⟨q0, q1, qP, qK, qD, qN⟩ := q; exact ⟨q0, q1, qP, va_K.moved (u := U) (U := U.calling g mk a) (Vm.Alike.refl U.vm) qK, qD, nw_same (s := U) (U := U.calling g mk a) rfl qN⟩, va_recv hK hPc (ci := 3) (q0 := 0) rfl rfl, fun U hU hW => ⟨rfl, by rw [hU], by rw [hU]; exact hPc, va_K.moved hW.alike hK, hDc.weaken (fun _ _ _ _ => trivial), nw_warm hW hN⟩⟩ rfl rfl hl.1 rfl (lv_room (Nat.le_of_ble_eq_true rfl)) dX3_load_106 ⟨Nat.le_of_ble_eq_true rfl, Nat.le_of_ble_eq_true rfl⟩) hS (fun q _ h => hFc q h) hFc (fun r_106 u t9 H1 locs ht hvm hR hB hz1 hk1 hS => ?_)
        replace hR := Eq.symm hR
        subst hR
        obtain ⟨hP1, hD1⟩ := hB
        rw [ht] at hP1
        obtain ⟨hP, hD⟩ := va_join (wr := []) (w1 := [(sH, .inr (3, [.ref qH, .ref oH, .int (f_X3_loadCause vS vQ).2.1, .int (f_X3_loadCause vS vQ).2.2.1, .int (f_X3_loadCause vS vQ).2.2.2.1, .int (f_X3_loadCause vS vQ).2.2.2.2.1, .int (f_X3_loadCause vS vQ).2.2.2.2.2.1, .int (f_X3_loadCause vS vQ).2.2.2.2.2.2.1, .int (f_X3_loadCause vS vQ).2.2.2.2.2.2.2.1, .int (f_X3_loadCause vS vQ).2.2.2.2.2.2.2.2])), (qH, .inr (1, [.ref qA, .int vQ.2.1, .int vQ.2.2.1, .int vQ.2.2.2])), (qA, .inl (cI, 16, .inl vQ.1))]) hP hD [0, 1, 2] [] rfl rfl (by decide) (by decide) hk1 hFc hP1 hD1
        generalize H1 = H at hP hS ⊢
        have hP : va_P (dC, dI) vwCl [(sH, .inr (3, [.ref qH, .ref oH, .int (f_X3_loadCause vS vQ).2.1, .int (f_X3_loadCause vS vQ).2.2.1, .int (f_X3_loadCause vS vQ).2.2.2.1, .int (f_X3_loadCause vS vQ).2.2.2.2.1, .int (f_X3_loadCause vS vQ).2.2.2.2.2.1, .int (f_X3_loadCause vS vQ).2.2.2.2.2.2.1, .int (f_X3_loadCause vS vQ).2.2.2.2.2.2.2.1, .int (f_X3_loadCause vS vQ).2.2.2.2.2.2.2.2])), (qH, .inr (1, [.ref qA, .int vQ.2.1, .int vQ.2.2.1, .int vQ.2.2.2])), (qA, .inl (cI, 16, .inl vQ.1))] H := hP
        have hD : va_D A [(sH, .inr (3, [.ref qH, .ref oH, .int (f_X3_loadCause vS vQ).2.1, .int (f_X3_loadCause vS vQ).2.2.1, .int (f_X3_loadCause vS vQ).2.2.2.1, .int (f_X3_loadCause vS vQ).2.2.2.2.1, .int (f_X3_loadCause vS vQ).2.2.2.2.2.1, .int (f_X3_loadCause vS vQ).2.2.2.2.2.2.1, .int (f_X3_loadCause vS vQ).2.2.2.2.2.2.2.1, .int (f_X3_loadCause vS vQ).2.2.2.2.2.2.2.2])), (qH, .inr (1, [.ref qA, .int vQ.2.1, .int vQ.2.2.1, .int vQ.2.2.2])), (qA, .inl (cI, 16, .inl vQ.1))] := hD
        have hF : (f_X3_load vS vQ p1 p2) = ((f_X3_loadCause vS vQ).1, (f_X3_loadCause vS vQ).2, vQ) := by rw [f_X3_load, if_pos c_2, if_pos c_10, if_neg c_17_0, if_neg c_17_1, if_pos c_17_2]
        have hP9 := hP.sub (ws' := [(sH, .inr (3, [.ref qH, .ref oH, .int (f_X3_loadCause vS vQ).2.1, .int (f_X3_loadCause vS vQ).2.2.1, .int (f_X3_loadCause vS vQ).2.2.2.1, .int (f_X3_loadCause vS vQ).2.2.2.2.1, .int (f_X3_loadCause vS vQ).2.2.2.2.2.1, .int (f_X3_loadCause vS vQ).2.2.2.2.2.2.1, .int (f_X3_loadCause vS vQ).2.2.2.2.2.2.2.1, .int (f_X3_loadCause vS vQ).2.2.2.2.2.2.2.2])), (qH, .inr (1, [.ref qA, .int vQ.2.1, .int vQ.2.2.1, .int vQ.2.2.2])), (qA, .inl (cI, 16, .inl vQ.1))]) [0, 1, 2] rfl
        have hD9 := hD.sub (ws' := [(sH, .inr (3, [.ref qH, .ref oH, .int (f_X3_loadCause vS vQ).2.1, .int (f_X3_loadCause vS vQ).2.2.1, .int (f_X3_loadCause vS vQ).2.2.2.1, .int (f_X3_loadCause vS vQ).2.2.2.2.1, .int (f_X3_loadCause vS vQ).2.2.2.2.2.1, .int (f_X3_loadCause vS vQ).2.2.2.2.2.2.1, .int (f_X3_loadCause vS vQ).2.2.2.2.2.2.2.1, .int (f_X3_loadCause vS vQ).2.2.2.2.2.2.2.2])), (qH, .inr (1, [.ref qA, .int vQ.2.1, .int vQ.2.2.1, .int vQ.2.2.2])), (qA, .inl (cI, 16, .inl vQ.1))]) [0, 1, 2] (by decide) rfl
        exact W.iret (v := (f_X3_loadCause vS vQ).1) hx hb hr (fun u hu hW => ⟨⟨(f_X3_loadCause vS vQ).1, (), rfl, (congrArg Prod.fst hF).symm, by rw [hu, hF]; exact hP9, by rw [hF]; exact hD9⟩, hS.F hu⟩) hS.2.2 dX3_load_109
      by_cases c_17_3 : (Int64.toInt32 p1) = 3
      · refine lv_tableIn (tgt := 110) hx hb dX3_load_17 (by rw [c_17_3]; decide) (by rw [c_17_3]; decide) (by rw [c_17_3]; rfl) (by decide) ?_
        refine lv_aload_n hx hb dX3_load_110 rfl (lv_at hl 0 rfl) ?_
        refine va_get (D := (dC, dI)) (ci := 3) (v := .int vS.2.1) (C := RX3) (T := TX3) (N := 10) hx hb hw inWX3 hown hK hP 0 rfl rfl 3 (by decide) (hw _ w_119) (fun _ h9 => h9) rfl dX3_load_111 ?_
        have hF : (f_X3_load vS vQ p1 p2) = (vS.2.1, vS, vQ) := by rw [f_X3_load, if_pos c_2, if_pos c_10, if_neg c_17_0, if_neg c_17_1, if_neg c_17_2, if_pos c_17_3]
        have hP9 := hP.sub (ws' := [(sH, .inr (3, [.ref qH, .ref oH, .int vS.1, .int vS.2.1, .int vS.2.2.1, .int vS.2.2.2.1, .int vS.2.2.2.2.1, .int vS.2.2.2.2.2.1, .int vS.2.2.2.2.2.2.1, .int vS.2.2.2.2.2.2.2])), (qH, .inr (1, [.ref qA, .int vQ.2.1, .int vQ.2.2.1, .int vQ.2.2.2])), (qA, .inl (cI, 16, .inl vQ.1))]) [0, 1, 2] rfl
        have hD9 := hD.sub (ws' := [(sH, .inr (3, [.ref qH, .ref oH, .int vS.1, .int vS.2.1, .int vS.2.2.1, .int vS.2.2.2.1, .int vS.2.2.2.2.1, .int vS.2.2.2.2.2.1, .int vS.2.2.2.2.2.2.1, .int vS.2.2.2.2.2.2.2])), (qH, .inr (1, [.ref qA, .int vQ.2.1, .int vQ.2.2.1, .int vQ.2.2.2])), (qA, .inl (cI, 16, .inl vQ.1))]) [0, 1, 2] (by decide) rfl
        exact W.iret (v := vS.2.1) hx hb hr (fun u hu hW => ⟨⟨vS.2.1, (), rfl, (congrArg Prod.fst hF).symm, by rw [hu, hF]; exact hP9, by rw [hF]; exact hD9⟩, hS.F hu⟩) hS.2.2 dX3_load_114
      by_cases c_17_4 : (Int64.toInt32 p1) = 4
      · refine lv_tableIn (tgt := 115) hx hb dX3_load_17 (by rw [c_17_4]; decide) (by rw [c_17_4]; decide) (by rw [c_17_4]; rfl) (by decide) ?_
        refine lv_aload_n hx hb dX3_load_115 rfl (lv_at hl 0 rfl) ?_
        refine va_get (D := (dC, dI)) (ci := 3) (v := .int vS.2.2.1) (C := RX3) (T := TX3) (N := 10) hx hb hw inWX3 hown hK hP 0 rfl rfl 4 (by decide) (hw _ w_120) (fun _ h9 => h9) rfl dX3_load_116 ?_
        have hF : (f_X3_load vS vQ p1 p2) = (vS.2.2.1, vS, vQ) := by rw [f_X3_load, if_pos c_2, if_pos c_10, if_neg c_17_0, if_neg c_17_1, if_neg c_17_2, if_neg c_17_3, if_pos c_17_4]
        have hP9 := hP.sub (ws' := [(sH, .inr (3, [.ref qH, .ref oH, .int vS.1, .int vS.2.1, .int vS.2.2.1, .int vS.2.2.2.1, .int vS.2.2.2.2.1, .int vS.2.2.2.2.2.1, .int vS.2.2.2.2.2.2.1, .int vS.2.2.2.2.2.2.2])), (qH, .inr (1, [.ref qA, .int vQ.2.1, .int vQ.2.2.1, .int vQ.2.2.2])), (qA, .inl (cI, 16, .inl vQ.1))]) [0, 1, 2] rfl
        have hD9 := hD.sub (ws' := [(sH, .inr (3, [.ref qH, .ref oH, .int vS.1, .int vS.2.1, .int vS.2.2.1, .int vS.2.2.2.1, .int vS.2.2.2.2.1, .int vS.2.2.2.2.2.1, .int vS.2.2.2.2.2.2.1, .int vS.2.2.2.2.2.2.2])), (qH, .inr (1, [.ref qA, .int vQ.2.1, .int vQ.2.2.1, .int vQ.2.2.2])), (qA, .inl (cI, 16, .inl vQ.1))]) [0, 1, 2] (by decide) rfl
        exact W.iret (v := vS.2.2.1) hx hb hr (fun u hu hW => ⟨⟨vS.2.2.1, (), rfl, (congrArg Prod.fst hF).symm, by rw [hu, hF]; exact hP9, by rw [hF]; exact hD9⟩, hS.F hu⟩) hS.2.2 dX3_load_119
      by_cases c_17_5 : (Int64.toInt32 p1) = 5
      · refine lv_tableIn (tgt := 120) hx hb dX3_load_17 (by rw [c_17_5]; decide) (by rw [c_17_5]; decide) (by rw [c_17_5]; rfl) (by decide) ?_
        refine lv_aload_n hx hb dX3_load_120 rfl (lv_at hl 0 rfl) ?_
        have hPc := hP.sub (ws' := [(sH, .inr (3, [.ref qH, .ref oH, .int vS.1, .int vS.2.1, .int vS.2.2.1, .int vS.2.2.2.1, .int vS.2.2.2.2.1, .int vS.2.2.2.2.2.1, .int vS.2.2.2.2.2.2.1, .int vS.2.2.2.2.2.2.2])), (qH, .inr (1, [.ref qA, .int vQ.2.1, .int vQ.2.2.1, .int vQ.2.2.2])), (qA, .inl (cI, 16, .inl vQ.1))]) [0, 1, 2] rfl
        have hDc := hD.sub (ws' := [(sH, .inr (3, [.ref qH, .ref oH, .int vS.1, .int vS.2.1, .int vS.2.2.1, .int vS.2.2.2.1, .int vS.2.2.2.2.1, .int vS.2.2.2.2.2.1, .int vS.2.2.2.2.2.2.1, .int vS.2.2.2.2.2.2.2])), (qH, .inr (1, [.ref qA, .int vQ.2.1, .int vQ.2.2.1, .int vQ.2.2.2])), (qA, .inl (cI, 16, .inl vQ.1))]) [0, 1, 2] (by decide) rfl
        have hFc := va_free (wc := [(sH, .inr (3, [.ref qH, .ref oH, .int vS.1, .int vS.2.1, .int vS.2.2.1, .int vS.2.2.2.1, .int vS.2.2.2.2.1, .int vS.2.2.2.2.2.1, .int vS.2.2.2.2.2.2.1, .int vS.2.2.2.2.2.2.2])), (qH, .inr (1, [.ref qA, .int vQ.2.1, .int vQ.2.2.1, .int vQ.2.2.2])), (qA, .inl (cI, 16, .inl vQ.1))]) hD hS hA [0, 1, 2] rfl
        refine va_calli (va_runV (As := []) (rest := []) ⟨hx, hb, hml, hown, hw⟩ (k_X3_loadLineState l dC dI cI cJ cB cZ sH qH oH qA s.heap.size vS vQ) (cwV 0 hw (gV w_363 w_365 w_s9 w_5 w_366) rfl rfl rfl (by decide +kernel) ⟨Nat.le_of_ble_eq_true rfl, Nat.le_of_ble_eq_true rfl⟩) ⟨fun a U g mk q => by obtain ⟨q0, q1, qP, qK, qD, qN⟩ := q; exact ⟨q0, q1, qP, va_K.moved (u := U) (U := U.calling g mk a) (Vm.Alike.refl U.vm) qK, qD, nw_same (s := U) (U := U.calling g mk a) rfl qN⟩, va_recv hK hPc (ci := 3) (q0 := 0) rfl rfl, fun U hU hW => ⟨rfl, by rw [hU], by rw [hU]; exact hPc, va_K.moved hW.alike hK, hDc.weaken (fun _ _ _ _ => trivial), nw_warm hW hN⟩⟩ rfl rfl hl.1 rfl (lv_room (Nat.le_of_ble_eq_true rfl)) dX3_load_121 ⟨Nat.le_of_ble_eq_true rfl, Nat.le_of_ble_eq_true rfl⟩) hS (fun q _ h => hFc q h) hFc (fun r_121 u t9 H1 locs ht hvm hR hB hz1 hk1 hS => ?_)
        replace hR := Eq.symm hR
        subst hR
        obtain ⟨hP1, hD1⟩ := hB
        rw [ht] at hP1
        obtain ⟨hP, hD⟩ := va_join (wr := []) (w1 := [(sH, .inr (3, [.ref qH, .ref oH, .int (f_X3_loadLineState vS vQ).2.1, .int (f_X3_loadLineState vS vQ).2.2.1, .int (f_X3_loadLineState vS vQ).2.2.2.1, .int (f_X3_loadLineState vS vQ).2.2.2.2.1, .int (f_X3_loadLineState vS vQ).2.2.2.2.2.1, .int (f_X3_loadLineState vS vQ).2.2.2.2.2.2.1, .int (f_X3_loadLineState vS vQ).2.2.2.2.2.2.2.1, .int (f_X3_loadLineState vS vQ).2.2.2.2.2.2.2.2])), (qH, .inr (1, [.ref qA, .int vQ.2.1, .int vQ.2.2.1, .int vQ.2.2.2])), (qA, .inl (cI, 16, .inl vQ.1))]) hP hD [0, 1, 2] [] rfl rfl (by decide) (by decide) hk1 hFc hP1 hD1
        generalize H1 = H at hP hS ⊢
        have hP : va_P (dC, dI) vwCl [(sH, .inr (3, [.ref qH, .ref oH, .int (f_X3_loadLineState vS vQ).2.1, .int (f_X3_loadLineState vS vQ).2.2.1, .int (f_X3_loadLineState vS vQ).2.2.2.1, .int (f_X3_loadLineState vS vQ).2.2.2.2.1, .int (f_X3_loadLineState vS vQ).2.2.2.2.2.1, .int (f_X3_loadLineState vS vQ).2.2.2.2.2.2.1, .int (f_X3_loadLineState vS vQ).2.2.2.2.2.2.2.1, .int (f_X3_loadLineState vS vQ).2.2.2.2.2.2.2.2])), (qH, .inr (1, [.ref qA, .int vQ.2.1, .int vQ.2.2.1, .int vQ.2.2.2])), (qA, .inl (cI, 16, .inl vQ.1))] H := hP
        have hD : va_D A [(sH, .inr (3, [.ref qH, .ref oH, .int (f_X3_loadLineState vS vQ).2.1, .int (f_X3_loadLineState vS vQ).2.2.1, .int (f_X3_loadLineState vS vQ).2.2.2.1, .int (f_X3_loadLineState vS vQ).2.2.2.2.1, .int (f_X3_loadLineState vS vQ).2.2.2.2.2.1, .int (f_X3_loadLineState vS vQ).2.2.2.2.2.2.1, .int (f_X3_loadLineState vS vQ).2.2.2.2.2.2.2.1, .int (f_X3_loadLineState vS vQ).2.2.2.2.2.2.2.2])), (qH, .inr (1, [.ref qA, .int vQ.2.1, .int vQ.2.2.1, .int vQ.2.2.2])), (qA, .inl (cI, 16, .inl vQ.1))] := hD
        have hF : (f_X3_load vS vQ p1 p2) = ((f_X3_loadLineState vS vQ).1, (f_X3_loadLineState vS vQ).2, vQ) := by rw [f_X3_load, if_pos c_2, if_pos c_10, if_neg c_17_0, if_neg c_17_1, if_neg c_17_2, if_neg c_17_3, if_neg c_17_4, if_pos c_17_5]
        have hP9 := hP.sub (ws' := [(sH, .inr (3, [.ref qH, .ref oH, .int (f_X3_loadLineState vS vQ).2.1, .int (f_X3_loadLineState vS vQ).2.2.1, .int (f_X3_loadLineState vS vQ).2.2.2.1, .int (f_X3_loadLineState vS vQ).2.2.2.2.1, .int (f_X3_loadLineState vS vQ).2.2.2.2.2.1, .int (f_X3_loadLineState vS vQ).2.2.2.2.2.2.1, .int (f_X3_loadLineState vS vQ).2.2.2.2.2.2.2.1, .int (f_X3_loadLineState vS vQ).2.2.2.2.2.2.2.2])), (qH, .inr (1, [.ref qA, .int vQ.2.1, .int vQ.2.2.1, .int vQ.2.2.2])), (qA, .inl (cI, 16, .inl vQ.1))]) [0, 1, 2] rfl
        have hD9 := hD.sub (ws' := [(sH, .inr (3, [.ref qH, .ref oH, .int (f_X3_loadLineState vS vQ).2.1, .int (f_X3_loadLineState vS vQ).2.2.1, .int (f_X3_loadLineState vS vQ).2.2.2.1, .int (f_X3_loadLineState vS vQ).2.2.2.2.1, .int (f_X3_loadLineState vS vQ).2.2.2.2.2.1, .int (f_X3_loadLineState vS vQ).2.2.2.2.2.2.1, .int (f_X3_loadLineState vS vQ).2.2.2.2.2.2.2.1, .int (f_X3_loadLineState vS vQ).2.2.2.2.2.2.2.2])), (qH, .inr (1, [.ref qA, .int vQ.2.1, .int vQ.2.2.1, .int vQ.2.2.2])), (qA, .inl (cI, 16, .inl vQ.1))]) [0, 1, 2] (by decide) rfl
        exact W.iret (v := (f_X3_loadLineState vS vQ).1) hx hb hr (fun u hu hW => ⟨⟨(f_X3_loadLineState vS vQ).1, (), rfl, (congrArg Prod.fst hF).symm, by rw [hu, hF]; exact hP9, by rw [hF]; exact hD9⟩, hS.F hu⟩) hS.2.2 dX3_load_124
      by_cases c_17_6 : (Int64.toInt32 p1) = 6
      · refine lv_tableIn (tgt := 125) hx hb dX3_load_17 (by rw [c_17_6]; decide) (by rw [c_17_6]; decide) (by rw [c_17_6]; rfl) (by decide) ?_
        refine lv_aload_n hx hb dX3_load_125 rfl (lv_at hl 0 rfl) ?_
        have hPc := hP.sub (ws' := [(sH, .inr (3, [.ref qH, .ref oH, .int vS.1, .int vS.2.1, .int vS.2.2.1, .int vS.2.2.2.1, .int vS.2.2.2.2.1, .int vS.2.2.2.2.2.1, .int vS.2.2.2.2.2.2.1, .int vS.2.2.2.2.2.2.2]))]) [0] rfl
        have hDc := hD.sub (ws' := [(sH, .inr (3, [.ref qH, .ref oH, .int vS.1, .int vS.2.1, .int vS.2.2.1, .int vS.2.2.2.1, .int vS.2.2.2.2.1, .int vS.2.2.2.2.2.1, .int vS.2.2.2.2.2.2.1, .int vS.2.2.2.2.2.2.2]))]) [0] (by decide) rfl
        have hFc := va_free (wc := [(sH, .inr (3, [.ref qH, .ref oH, .int vS.1, .int vS.2.1, .int vS.2.2.1, .int vS.2.2.2.1, .int vS.2.2.2.2.1, .int vS.2.2.2.2.2.1, .int vS.2.2.2.2.2.2.1, .int vS.2.2.2.2.2.2.2]))]) hD hS hA [0] rfl
        refine va_calli (va_runV (As := []) (rest := []) ⟨hx, hb, hml, hown, hw⟩ (k_X3_modemState l dC dI cI cJ cB cZ sH qH oH s.heap.size vS) (cwV 0 hw (gV w_367 w_369 w_s10 w_5 w_370) rfl rfl rfl (by decide +kernel) ⟨Nat.le_of_ble_eq_true rfl, Nat.le_of_ble_eq_true rfl⟩) ⟨fun a U g mk q => by obtain ⟨q0, q1, qP, qK, qD, qN⟩ := q; exact ⟨q0, q1, qP, va_K.moved (u := U) (U := U.calling g mk a) (Vm.Alike.refl U.vm) qK, qD, nw_same (s := U) (U := U.calling g mk a) rfl qN⟩, va_recv hK hPc (ci := 3) (q0 := 0) rfl rfl, fun U hU hW => ⟨rfl, by rw [hU], by rw [hU]; exact hPc, va_K.moved hW.alike hK, hDc.weaken (fun _ _ _ _ => trivial), nw_warm hW hN⟩⟩ rfl rfl hl.1 rfl (lv_room (Nat.le_of_ble_eq_true rfl)) dX3_load_126 ⟨Nat.le_of_ble_eq_true rfl, Nat.le_of_ble_eq_true rfl⟩) hS (fun q _ h => hFc q h) hFc (fun r_126 u t9 H1 locs ht hvm hR hB hz1 hk1 hS => ?_)
        replace hR := Eq.symm hR
        subst hR
        obtain ⟨hP1, hD1⟩ := hB
        rw [ht] at hP1
        obtain ⟨hP, hD⟩ := va_join (wr := [(qH, .inr (1, [.ref qA, .int vQ.2.1, .int vQ.2.2.1, .int vQ.2.2.2])), (qA, .inl (cI, 16, .inl vQ.1))]) (w1 := [(sH, .inr (3, [.ref qH, .ref oH, .int vS.1, .int vS.2.1, .int vS.2.2.1, .int vS.2.2.2.1, .int vS.2.2.2.2.1, .int vS.2.2.2.2.2.1, .int vS.2.2.2.2.2.2.1, .int vS.2.2.2.2.2.2.2]))]) hP hD [0] [1, 2] rfl rfl (by decide) (by decide) hk1 hFc hP1 hD1
        generalize H1 = H at hP hS ⊢
        have hP : va_P (dC, dI) vwCl [(qH, .inr (1, [.ref qA, .int vQ.2.1, .int vQ.2.2.1, .int vQ.2.2.2])), (qA, .inl (cI, 16, .inl vQ.1)), (sH, .inr (3, [.ref qH, .ref oH, .int vS.1, .int vS.2.1, .int vS.2.2.1, .int vS.2.2.2.1, .int vS.2.2.2.2.1, .int vS.2.2.2.2.2.1, .int vS.2.2.2.2.2.2.1, .int vS.2.2.2.2.2.2.2]))] H := hP
        have hD : va_D A [(qH, .inr (1, [.ref qA, .int vQ.2.1, .int vQ.2.2.1, .int vQ.2.2.2])), (qA, .inl (cI, 16, .inl vQ.1)), (sH, .inr (3, [.ref qH, .ref oH, .int vS.1, .int vS.2.1, .int vS.2.2.1, .int vS.2.2.2.1, .int vS.2.2.2.2.1, .int vS.2.2.2.2.2.1, .int vS.2.2.2.2.2.2.1, .int vS.2.2.2.2.2.2.2]))] := hD
        have hF : (f_X3_load vS vQ p1 p2) = ((f_X3_modemState vS), vS, vQ) := by rw [f_X3_load, if_pos c_2, if_pos c_10, if_neg c_17_0, if_neg c_17_1, if_neg c_17_2, if_neg c_17_3, if_neg c_17_4, if_neg c_17_5, if_pos c_17_6]
        have hP9 := hP.sub (ws' := [(sH, .inr (3, [.ref qH, .ref oH, .int vS.1, .int vS.2.1, .int vS.2.2.1, .int vS.2.2.2.1, .int vS.2.2.2.2.1, .int vS.2.2.2.2.2.1, .int vS.2.2.2.2.2.2.1, .int vS.2.2.2.2.2.2.2])), (qH, .inr (1, [.ref qA, .int vQ.2.1, .int vQ.2.2.1, .int vQ.2.2.2])), (qA, .inl (cI, 16, .inl vQ.1))]) [2, 0, 1] rfl
        have hD9 := hD.sub (ws' := [(sH, .inr (3, [.ref qH, .ref oH, .int vS.1, .int vS.2.1, .int vS.2.2.1, .int vS.2.2.2.1, .int vS.2.2.2.2.1, .int vS.2.2.2.2.2.1, .int vS.2.2.2.2.2.2.1, .int vS.2.2.2.2.2.2.2])), (qH, .inr (1, [.ref qA, .int vQ.2.1, .int vQ.2.2.1, .int vQ.2.2.2])), (qA, .inl (cI, 16, .inl vQ.1))]) [2, 0, 1] (by decide) rfl
        exact W.iret (v := (f_X3_modemState vS)) hx hb hr (fun u hu hW => ⟨⟨(f_X3_modemState vS), (), rfl, (congrArg Prod.fst hF).symm, by rw [hu, hF]; exact hP9, by rw [hF]; exact hD9⟩, hS.F hu⟩) hS.2.2 dX3_load_129
      by_cases c_17_7 : (Int64.toInt32 p1) = 7
      · refine lv_tableIn (tgt := 130) hx hb dX3_load_17 (by rw [c_17_7]; decide) (by rw [c_17_7]; decide) (by rw [c_17_7]; rfl) (by decide) ?_
        refine lv_aload_n hx hb dX3_load_130 rfl (lv_at hl 0 rfl) ?_
        refine va_get (D := (dC, dI)) (ci := 3) (v := .int vS.2.2.2.1) (C := RX3) (T := TX3) (N := 10) hx hb hw inWX3 hown hK hP 0 rfl rfl 5 (by decide) (hw _ w_121) (fun _ h9 => h9) rfl dX3_load_131 ?_
        have hF : (f_X3_load vS vQ p1 p2) = (vS.2.2.2.1, vS, vQ) := by rw [f_X3_load, if_pos c_2, if_pos c_10, if_neg c_17_0, if_neg c_17_1, if_neg c_17_2, if_neg c_17_3, if_neg c_17_4, if_neg c_17_5, if_neg c_17_6, if_pos c_17_7]
        have hP9 := hP.sub (ws' := [(sH, .inr (3, [.ref qH, .ref oH, .int vS.1, .int vS.2.1, .int vS.2.2.1, .int vS.2.2.2.1, .int vS.2.2.2.2.1, .int vS.2.2.2.2.2.1, .int vS.2.2.2.2.2.2.1, .int vS.2.2.2.2.2.2.2])), (qH, .inr (1, [.ref qA, .int vQ.2.1, .int vQ.2.2.1, .int vQ.2.2.2])), (qA, .inl (cI, 16, .inl vQ.1))]) [0, 1, 2] rfl
        have hD9 := hD.sub (ws' := [(sH, .inr (3, [.ref qH, .ref oH, .int vS.1, .int vS.2.1, .int vS.2.2.1, .int vS.2.2.2.1, .int vS.2.2.2.2.1, .int vS.2.2.2.2.2.1, .int vS.2.2.2.2.2.2.1, .int vS.2.2.2.2.2.2.2])), (qH, .inr (1, [.ref qA, .int vQ.2.1, .int vQ.2.2.1, .int vQ.2.2.2])), (qA, .inl (cI, 16, .inl vQ.1))]) [0, 1, 2] (by decide) rfl
        exact W.iret (v := vS.2.2.2.1) hx hb hr (fun u hu hW => ⟨⟨vS.2.2.2.1, (), rfl, (congrArg Prod.fst hF).symm, by rw [hu, hF]; exact hP9, by rw [hF]; exact hD9⟩, hS.F hu⟩) hS.2.2 dX3_load_134
      refine lv_tableOut (tgt := 135) hx hb dX3_load_17 (by have z_0 := sw_ne (k := 0) c_17_0 rfl; have z_1 := sw_ne (k := 1) c_17_1 rfl; have z_2 := sw_ne (k := 2) c_17_2 rfl; have z_3 := sw_ne (k := 3) c_17_3 rfl; have z_4 := sw_ne (k := 4) c_17_4 rfl; have z_5 := sw_ne (k := 5) c_17_5 rfl; have z_6 := sw_ne (k := 6) c_17_6 rfl; have z_7 := sw_ne (k := 7) c_17_7 rfl; omega) (by decide) ?_
      refine lv_iconst (v := 0) hx hb dX3_load_135 (by decide) ?_
      have hF : (f_X3_load vS vQ p1 p2) = (0, vS, vQ) := by rw [f_X3_load, if_pos c_2, if_pos c_10, if_neg c_17_0, if_neg c_17_1, if_neg c_17_2, if_neg c_17_3, if_neg c_17_4, if_neg c_17_5, if_neg c_17_6, if_neg c_17_7]
      have hP9 := hP.sub (ws' := [(sH, .inr (3, [.ref qH, .ref oH, .int vS.1, .int vS.2.1, .int vS.2.2.1, .int vS.2.2.2.1, .int vS.2.2.2.2.1, .int vS.2.2.2.2.2.1, .int vS.2.2.2.2.2.2.1, .int vS.2.2.2.2.2.2.2])), (qH, .inr (1, [.ref qA, .int vQ.2.1, .int vQ.2.2.1, .int vQ.2.2.2])), (qA, .inl (cI, 16, .inl vQ.1))]) [0, 1, 2] rfl
      have hD9 := hD.sub (ws' := [(sH, .inr (3, [.ref qH, .ref oH, .int vS.1, .int vS.2.1, .int vS.2.2.1, .int vS.2.2.2.1, .int vS.2.2.2.2.1, .int vS.2.2.2.2.2.1, .int vS.2.2.2.2.2.2.1, .int vS.2.2.2.2.2.2.2])), (qH, .inr (1, [.ref qA, .int vQ.2.1, .int vQ.2.2.1, .int vQ.2.2.2])), (qA, .inl (cI, 16, .inl vQ.1))]) [0, 1, 2] (by decide) rfl
      exact W.iret (v := 0) hx hb hr (fun u hu hW => ⟨⟨0, (), rfl, (congrArg Prod.fst hF).symm, by rw [hu, hF]; exact hP9, by rw [hF]; exact hD9⟩, hS.F hu⟩) hS.2.2 dX3_load_136
    · refine lv_iconst (v := 0) hx hb dX3_load_13 (by decide) ?_
      have hF : (f_X3_load vS vQ p1 p2) = (0, vS, vQ) := by rw [f_X3_load, if_pos c_2, if_neg c_10]
      have hP9 := hP.sub (ws' := [(sH, .inr (3, [.ref qH, .ref oH, .int vS.1, .int vS.2.1, .int vS.2.2.1, .int vS.2.2.2.1, .int vS.2.2.2.2.1, .int vS.2.2.2.2.2.1, .int vS.2.2.2.2.2.2.1, .int vS.2.2.2.2.2.2.2])), (qH, .inr (1, [.ref qA, .int vQ.2.1, .int vQ.2.2.1, .int vQ.2.2.2])), (qA, .inl (cI, 16, .inl vQ.1))]) [0, 1, 2] rfl
      have hD9 := hD.sub (ws' := [(sH, .inr (3, [.ref qH, .ref oH, .int vS.1, .int vS.2.1, .int vS.2.2.1, .int vS.2.2.2.1, .int vS.2.2.2.2.1, .int vS.2.2.2.2.2.1, .int vS.2.2.2.2.2.2.1, .int vS.2.2.2.2.2.2.2])), (qH, .inr (1, [.ref qA, .int vQ.2.1, .int vQ.2.2.1, .int vQ.2.2.2])), (qA, .inl (cI, 16, .inl vQ.1))]) [0, 1, 2] (by decide) rfl
      exact W.iret (v := 0) hx hb hr (fun u hu hW => ⟨⟨0, (), rfl, (congrArg Prod.fst hF).symm, by rw [hu, hF]; exact hP9, by rw [hF]; exact hD9⟩, hS.F hu⟩) hS.2.2 dX3_load_14
def f_X3_store (vS : SS) (vQ : QS) (vO : OS) (p1 : Int64) (p2 : Int32) (p3 : Int32) : SS × QS × OS :=
  if p2 = 1 then if (lg_cmp p1 7) ≤ 0 then if (Int64.toInt32 p1) = 0 then ((f_X3_storeData vS vQ vO p3).1, (f_X3_storeData vS vQ vO p3).2.1, (f_X3_storeData vS vQ vO p3).2.2)
      else if (Int64.toInt32 p1) = 1 then ((f_X3_storeEnables vS p3), vQ, vO)
        else if (Int64.toInt32 p1) = 2 then if (p3 &&& 1) = 0 then if (p3 &&& 2) = 0 then (vS, (f_X1_configure vQ 0 0), vO)
              else (vS, (f_X1_configure vQ 0 1), vO)
            else if (p3 &&& 2) = 0 then (vS, (f_X1_configure vQ 1 0), vO)
              else (vS, (f_X1_configure vQ 1 1), vO)
          else if (Int64.toInt32 p1) = 3 then ((vS.1, p3, vS.2.2.1, vS.2.2.2.1, vS.2.2.2.2.1, vS.2.2.2.2.2.1, vS.2.2.2.2.2.2.1, vS.2.2.2.2.2.2.2), vQ, vO)
            else if (Int64.toInt32 p1) = 4 then ((vS.1, vS.2.1, (p3 &&& 31), vS.2.2.2.1, vS.2.2.2.2.1, vS.2.2.2.2.2.1, vS.2.2.2.2.2.2.1, vS.2.2.2.2.2.2.2), vQ, vO)
              else if (Int64.toInt32 p1) = 5 then (vS, vQ, vO)
                else if (Int64.toInt32 p1) = 6 then (vS, vQ, vO)
                  else if (Int64.toInt32 p1) = 7 then ((vS.1, vS.2.1, vS.2.2.1, p3, vS.2.2.2.2.1, vS.2.2.2.2.2.1, vS.2.2.2.2.2.2.1, vS.2.2.2.2.2.2.2), vQ, vO)
                    else (vS, vQ, vO)
    else (vS, vQ, vO)
  else (vS, vQ, vO)
set_option maxHeartbeats 4000000 in
set_option maxRecDepth 100000 in
theorem k_X3_store (l : Launch) (dC : Nat → ClassId) (dI : Nat → Nat → Nat) (cI cJ cB cZ : ClassId) (sH qH oH qA oA : Nat) (sz : Nat) (vS : SS) (vQ : QS) (vO : OS) (p1 : Int64) (p2 : Int32) (p3 : Int32)  : Met l yX3_store wsX3_store ({ frames := 4, cells := 0, slots := 0, locals := 84 }) (va_Pc [.ref sH, .long p1, .int p2, .int p3] (fun U => U.heap.size = sz ∧ va_P (dC, dI) vwCl [(sH, .inr (3, [.ref qH, .ref oH, .int vS.1, .int vS.2.1, .int vS.2.2.1, .int vS.2.2.2.1, .int vS.2.2.2.2.1, .int vS.2.2.2.2.2.1, .int vS.2.2.2.2.2.2.1, .int vS.2.2.2.2.2.2.2])), (qH, .inr (1, [.ref qA, .int vQ.2.1, .int vQ.2.2.1, .int vQ.2.2.2])), (qA, .inl (cI, 16, .inl vQ.1)), (oH, .inr (2, [.ref oA, .long vO.2])), (oA, .inl (cB, 4096, .inl vO.1))] U.heap ∧ va_K (dC, dI) vwCl [(cI, .int), (cJ, .long), (cB, .byte), (cZ, .boolean)] U ∧ va_D (fun _ => True) [(sH, .inr (3, [.ref qH, .ref oH, .int vS.1, .int vS.2.1, .int vS.2.2.1, .int vS.2.2.2.1, .int vS.2.2.2.2.1, .int vS.2.2.2.2.2.1, .int vS.2.2.2.2.2.2.1, .int vS.2.2.2.2.2.2.2])), (qH, .inr (1, [.ref qA, .int vQ.2.1, .int vQ.2.2.1, .int vQ.2.2.2])), (qA, .inl (cI, 16, .inl vQ.1)), (oH, .inr (2, [.ref oA, .long vO.2])), (oA, .inl (cB, 4096, .inl vO.1))] ∧ nw_ U)) (va_Qv (fun (_ : Unit) => True) (fun (_ : Unit) (w : State) => va_P (dC, dI) vwCl [(sH, .inr (3, [.ref qH, .ref oH, .int (f_X3_store vS vQ vO p1 p2 p3).1.1, .int (f_X3_store vS vQ vO p1 p2 p3).1.2.1, .int (f_X3_store vS vQ vO p1 p2 p3).1.2.2.1, .int (f_X3_store vS vQ vO p1 p2 p3).1.2.2.2.1, .int (f_X3_store vS vQ vO p1 p2 p3).1.2.2.2.2.1, .int (f_X3_store vS vQ vO p1 p2 p3).1.2.2.2.2.2.1, .int (f_X3_store vS vQ vO p1 p2 p3).1.2.2.2.2.2.2.1, .int (f_X3_store vS vQ vO p1 p2 p3).1.2.2.2.2.2.2.2])), (qH, .inr (1, [.ref qA, .int (f_X3_store vS vQ vO p1 p2 p3).2.1.2.1, .int (f_X3_store vS vQ vO p1 p2 p3).2.1.2.2.1, .int (f_X3_store vS vQ vO p1 p2 p3).2.1.2.2.2])), (qA, .inl (cI, 16, .inl (f_X3_store vS vQ vO p1 p2 p3).2.1.1)), (oH, .inr (2, [.ref oA, .long (f_X3_store vS vQ vO p1 p2 p3).2.2.2])), (oA, .inl (cB, 4096, .inl (f_X3_store vS vQ vO p1 p2 p3).2.2.1))] w.heap ∧ va_D (va_A [(sH, .inr (3, [.ref qH, .ref oH, .int vS.1, .int vS.2.1, .int vS.2.2.1, .int vS.2.2.2.1, .int vS.2.2.2.2.1, .int vS.2.2.2.2.2.1, .int vS.2.2.2.2.2.2.1, .int vS.2.2.2.2.2.2.2])), (qH, .inr (1, [.ref qA, .int vQ.2.1, .int vQ.2.2.1, .int vQ.2.2.2])), (qA, .inl (cI, 16, .inl vQ.1)), (oH, .inr (2, [.ref oA, .long vO.2])), (oA, .inl (cB, 4096, .inl vO.1))] sz) [(sH, .inr (3, [.ref qH, .ref oH, .int (f_X3_store vS vQ vO p1 p2 p3).1.1, .int (f_X3_store vS vQ vO p1 p2 p3).1.2.1, .int (f_X3_store vS vQ vO p1 p2 p3).1.2.2.1, .int (f_X3_store vS vQ vO p1 p2 p3).1.2.2.2.1, .int (f_X3_store vS vQ vO p1 p2 p3).1.2.2.2.2.1, .int (f_X3_store vS vQ vO p1 p2 p3).1.2.2.2.2.2.1, .int (f_X3_store vS vQ vO p1 p2 p3).1.2.2.2.2.2.2.1, .int (f_X3_store vS vQ vO p1 p2 p3).1.2.2.2.2.2.2.2])), (qH, .inr (1, [.ref qA, .int (f_X3_store vS vQ vO p1 p2 p3).2.1.2.1, .int (f_X3_store vS vQ vO p1 p2 p3).2.1.2.2.1, .int (f_X3_store vS vQ vO p1 p2 p3).2.1.2.2.2])), (qA, .inl (cI, 16, .inl (f_X3_store vS vQ vO p1 p2 p3).2.1.1)), (oH, .inr (2, [.ref oA, .long (f_X3_store vS vQ vO p1 p2 p3).2.2.2])), (oA, .inl (cB, 4096, .inl (f_X3_store vS vQ vO p1 p2 p3).2.2.1))]) (va_A [(sH, .inr (3, [.ref qH, .ref oH, .int vS.1, .int vS.2.1, .int vS.2.2.1, .int vS.2.2.2.1, .int vS.2.2.2.2.1, .int vS.2.2.2.2.2.1, .int vS.2.2.2.2.2.2.1, .int vS.2.2.2.2.2.2.2])), (qH, .inr (1, [.ref qA, .int vQ.2.1, .int vQ.2.2.1, .int vQ.2.2.2])), (qA, .inl (cI, 16, .inl vQ.1)), (oH, .inr (2, [.ref oA, .long vO.2])), (oA, .inl (cB, 4096, .inl vO.1))] sz)) 0 0 (va_A [(sH, .inr (3, [.ref qH, .ref oH, .int vS.1, .int vS.2.1, .int vS.2.2.1, .int vS.2.2.2.1, .int vS.2.2.2.2.1, .int vS.2.2.2.2.2.1, .int vS.2.2.2.2.2.2.1, .int vS.2.2.2.2.2.2.2])), (qH, .inr (1, [.ref qA, .int vQ.2.1, .int vQ.2.2.1, .int vQ.2.2.2])), (qA, .inl (cI, 16, .inl vQ.1)), (oH, .inr (2, [.ref oA, .long vO.2])), (oA, .inl (cB, 4096, .inl vO.1))] sz) := by
  refine Met.ofW (cc := prog_5_method_3_code) (maxL := 5) (ret := none) (by decide) rfl ?_
  intro p e s m args below meth c s₁ B hml hv
  obtain ⟨rfl, hsz, hP, hK, hD0, hN⟩ := hv
  have hx := B.exec
  have hb := B.bytes
  have hr := B.returns
  have hw := hw_of (atoms_spec (ws := wsX3_store) B.pre)
  have hown : s.vm.findClass RX3 = some m.cls := findClass_of_methodNamed B.named
  have hlocks := B.notSynchronized
  subst hsz
  have hD := hD0.self (sz := s.heap.size)
  generalize hAe : va_A [(sH, .inr (3, [.ref qH, .ref oH, .int vS.1, .int vS.2.1, .int vS.2.2.1, .int vS.2.2.2.1, .int vS.2.2.2.2.1, .int vS.2.2.2.2.2.1, .int vS.2.2.2.2.2.2.1, .int vS.2.2.2.2.2.2.2])), (qH, .inr (1, [.ref qA, .int vQ.2.1, .int vQ.2.2.1, .int vQ.2.2.2])), (qA, .inl (cI, 16, .inl vQ.1)), (oH, .inr (2, [.ref oA, .long vO.2])), (oA, .inl (cB, 4096, .inl vO.1))] s.heap.size = A at hD ⊢
  have hA : ∀ q : Nat, s.heap.size ≤ q → A q := fun q h => by rw [← hAe]; exact Or.inr h
  have hS : va_S A s.heap s.heap [] := va_S.rf
  have hP : va_P (dC, dI) vwCl [(sH, .inr (3, [.ref qH, .ref oH, .int vS.1, .int vS.2.1, .int vS.2.2.1, .int vS.2.2.2.1, .int vS.2.2.2.2.1, .int vS.2.2.2.2.2.1, .int vS.2.2.2.2.2.2.1, .int vS.2.2.2.2.2.2.2])), (qH, .inr (1, [.ref qA, .int vQ.2.1, .int vQ.2.2.1, .int vQ.2.2.2])), (qA, .inl (cI, 16, .inl vQ.1)), (oH, .inr (2, [.ref oA, .long vO.2])), (oA, .inl (cB, 4096, .inl vO.1))] s.heap := hP
  have hl := lv_entry ([.ref sH, .long p1, .int p2, .int p3]) (n := 5) (Nat.le_of_ble_eq_true rfl)
  rw [lg_entry_eq]
  generalize (lg_sl ([.ref sH, .long p1, .int p2, .int p3]) ++ List.replicate (5 - (lg_sl ([.ref sH, .long p1, .int p2, .int p3])).length) Slot.unset).toArray = ls at hl ⊢
  have hl : lv_has ls 5 [(0, .ref sH), (1, .long p1), (3, .int p2), (4, .int p3)] := hl
  refine lv_iload_n hx hb dX3_store_0 rfl (lv_at hl 2 rfl) ?_
  refine lv_iconst (v := 1) hx hb dX3_store_1 (by decide) ?_
  refine lv_icmp_ne (tgt := 13) hx hb dX3_store_2 (by decide) (fun c_2 => ?_) (fun c_2 => ?_)
  · have hF : (f_X3_store vS vQ vO p1 p2 p3) = (vS, vQ, vO) := by rw [f_X3_store, if_neg c_2]
    have hP9 := hP.sub (ws' := [(sH, .inr (3, [.ref qH, .ref oH, .int vS.1, .int vS.2.1, .int vS.2.2.1, .int vS.2.2.2.1, .int vS.2.2.2.2.1, .int vS.2.2.2.2.2.1, .int vS.2.2.2.2.2.2.1, .int vS.2.2.2.2.2.2.2])), (qH, .inr (1, [.ref qA, .int vQ.2.1, .int vQ.2.2.1, .int vQ.2.2.2])), (qA, .inl (cI, 16, .inl vQ.1)), (oH, .inr (2, [.ref oA, .long vO.2])), (oA, .inl (cB, 4096, .inl vO.1))]) [0, 1, 2, 3, 4] rfl
    have hD9 := hD.sub (ws' := [(sH, .inr (3, [.ref qH, .ref oH, .int vS.1, .int vS.2.1, .int vS.2.2.1, .int vS.2.2.2.1, .int vS.2.2.2.2.1, .int vS.2.2.2.2.2.1, .int vS.2.2.2.2.2.2.1, .int vS.2.2.2.2.2.2.2])), (qH, .inr (1, [.ref qA, .int vQ.2.1, .int vQ.2.2.1, .int vQ.2.2.2])), (qA, .inl (cI, 16, .inl vQ.1)), (oH, .inr (2, [.ref oA, .long vO.2])), (oA, .inl (cB, 4096, .inl vO.1))]) [0, 1, 2, 3, 4] (by decide) rfl
    exact W.vret hx hb hr (fun u hu hW => ⟨⟨(), rfl, trivial, by rw [hu, hF]; exact hP9, by rw [hF]; exact hD9⟩, hS.F hu⟩) hS.2.2 dX3_store_13
  · refine lv_lload_n hx hb dX3_store_5 rfl (lv_at hl 1 rfl) ?_
    refine lv_ldc2 (v := 7) hx hb hown (hw _ w_349) dX3_store_6 ?_
    refine W.lcmp hx hb dX3_store_9 ?_
    refine lv_if_le (tgt := 14) hx hb dX3_store_10 (by decide) (fun c_10 => ?_) (fun c_10 => ?_)
    · refine lv_lload_n hx hb dX3_store_14 rfl (lv_at hl 1 rfl) ?_
      refine lv_l2i hx hb dX3_store_15 rfl ?_
      by_cases c_16_0 : (Int64.toInt32 p1) = 0
      · refine lv_tableIn (tgt := 64) hx hb dX3_store_16 (by rw [c_16_0]; decide) (by rw [c_16_0]; decide) (by rw [c_16_0]; rfl) (by decide) ?_
        refine lv_aload_n hx hb dX3_store_64 rfl (lv_at hl 0 rfl) ?_
        refine lv_iload hx hb dX3_store_65 (lv_at hl 3 rfl) ?_
        have hPc := hP.sub (ws' := [(sH, .inr (3, [.ref qH, .ref oH, .int vS.1, .int vS.2.1, .int vS.2.2.1, .int vS.2.2.2.1, .int vS.2.2.2.2.1, .int vS.2.2.2.2.2.1, .int vS.2.2.2.2.2.2.1, .int vS.2.2.2.2.2.2.2])), (qH, .inr (1, [.ref qA, .int vQ.2.1, .int vQ.2.2.1, .int vQ.2.2.2])), (qA, .inl (cI, 16, .inl vQ.1)), (oH, .inr (2, [.ref oA, .long vO.2])), (oA, .inl (cB, 4096, .inl vO.1))]) [0, 1, 2, 3, 4] rfl
        have hDc := hD.sub (ws' := [(sH, .inr (3, [.ref qH, .ref oH, .int vS.1, .int vS.2.1, .int vS.2.2.1, .int vS.2.2.2.1, .int vS.2.2.2.2.1, .int vS.2.2.2.2.2.1, .int vS.2.2.2.2.2.2.1, .int vS.2.2.2.2.2.2.2])), (qH, .inr (1, [.ref qA, .int vQ.2.1, .int vQ.2.2.1, .int vQ.2.2.2])), (qA, .inl (cI, 16, .inl vQ.1)), (oH, .inr (2, [.ref oA, .long vO.2])), (oA, .inl (cB, 4096, .inl vO.1))]) [0, 1, 2, 3, 4] (by decide) rfl
        have hFc := va_free (wc := [(sH, .inr (3, [.ref qH, .ref oH, .int vS.1, .int vS.2.1, .int vS.2.2.1, .int vS.2.2.2.1, .int vS.2.2.2.2.1, .int vS.2.2.2.2.2.1, .int vS.2.2.2.2.2.2.1, .int vS.2.2.2.2.2.2.2])), (qH, .inr (1, [.ref qA, .int vQ.2.1, .int vQ.2.2.1, .int vQ.2.2.2])), (qA, .inl (cI, 16, .inl vQ.1)), (oH, .inr (2, [.ref oA, .long vO.2])), (oA, .inl (cB, 4096, .inl vO.1))]) hD hS hA [0, 1, 2, 3, 4] rfl
        refine va_callv (va_runV (As := [.int p3]) (rest := []) ⟨hx, hb, hml, hown, hw⟩ (k_X3_storeData l dC dI cI cJ cB cZ sH qH oH qA oA s.heap.size vS vQ vO p3) (cwV 1 hw (gV w_396 w_398 w_s12 w_5 w_399) rfl rfl rfl (by decide +kernel) ⟨Nat.le_of_ble_eq_true rfl, Nat.le_of_ble_eq_true rfl⟩) ⟨fun a U g mk q => by obtain ⟨q0, q1, qP, qK, qD, qN⟩ := q; exact ⟨q0, q1, qP, va_K.moved (u := U) (U := U.calling g mk a) (Vm.Alike.refl U.vm) qK, qD, nw_same (s := U) (U := U.calling g mk a) rfl qN⟩, va_recv hK hPc (ci := 3) (q0 := 0) rfl rfl, fun U hU hW => ⟨rfl, by rw [hU], by rw [hU]; exact hPc, va_K.moved hW.alike hK, hDc.weaken (fun _ _ _ _ => trivial), nw_warm hW hN⟩⟩ rfl rfl hl.1 rfl (lv_room (Nat.le_of_ble_eq_true rfl)) dX3_store_67 ⟨Nat.le_of_ble_eq_true rfl, Nat.le_of_ble_eq_true rfl⟩) hS (fun q _ h => hFc q h) hFc (fun u t9 H1 locs ht hvm hR hB hz1 hk1 hS => ?_)
        obtain ⟨hP1, hD1⟩ := hB
        rw [ht] at hP1
        obtain ⟨hP, hD⟩ := va_join (wr := []) (w1 := [(sH, .inr (3, [.ref qH, .ref oH, .int (f_X3_storeData vS vQ vO p3).1.1, .int (f_X3_storeData vS vQ vO p3).1.2.1, .int (f_X3_storeData vS vQ vO p3).1.2.2.1, .int (f_X3_storeData vS vQ vO p3).1.2.2.2.1, .int (f_X3_storeData vS vQ vO p3).1.2.2.2.2.1, .int (f_X3_storeData vS vQ vO p3).1.2.2.2.2.2.1, .int (f_X3_storeData vS vQ vO p3).1.2.2.2.2.2.2.1, .int (f_X3_storeData vS vQ vO p3).1.2.2.2.2.2.2.2])), (qH, .inr (1, [.ref qA, .int (f_X3_storeData vS vQ vO p3).2.1.2.1, .int (f_X3_storeData vS vQ vO p3).2.1.2.2.1, .int (f_X3_storeData vS vQ vO p3).2.1.2.2.2])), (qA, .inl (cI, 16, .inl (f_X3_storeData vS vQ vO p3).2.1.1)), (oH, .inr (2, [.ref oA, .long (f_X3_storeData vS vQ vO p3).2.2.2])), (oA, .inl (cB, 4096, .inl (f_X3_storeData vS vQ vO p3).2.2.1))]) hP hD [0, 1, 2, 3, 4] [] rfl rfl (by decide) (by decide) hk1 hFc hP1 hD1
        generalize H1 = H at hP hS ⊢
        have hP : va_P (dC, dI) vwCl [(sH, .inr (3, [.ref qH, .ref oH, .int (f_X3_storeData vS vQ vO p3).1.1, .int (f_X3_storeData vS vQ vO p3).1.2.1, .int (f_X3_storeData vS vQ vO p3).1.2.2.1, .int (f_X3_storeData vS vQ vO p3).1.2.2.2.1, .int (f_X3_storeData vS vQ vO p3).1.2.2.2.2.1, .int (f_X3_storeData vS vQ vO p3).1.2.2.2.2.2.1, .int (f_X3_storeData vS vQ vO p3).1.2.2.2.2.2.2.1, .int (f_X3_storeData vS vQ vO p3).1.2.2.2.2.2.2.2])), (qH, .inr (1, [.ref qA, .int (f_X3_storeData vS vQ vO p3).2.1.2.1, .int (f_X3_storeData vS vQ vO p3).2.1.2.2.1, .int (f_X3_storeData vS vQ vO p3).2.1.2.2.2])), (qA, .inl (cI, 16, .inl (f_X3_storeData vS vQ vO p3).2.1.1)), (oH, .inr (2, [.ref oA, .long (f_X3_storeData vS vQ vO p3).2.2.2])), (oA, .inl (cB, 4096, .inl (f_X3_storeData vS vQ vO p3).2.2.1))] H := hP
        have hD : va_D A [(sH, .inr (3, [.ref qH, .ref oH, .int (f_X3_storeData vS vQ vO p3).1.1, .int (f_X3_storeData vS vQ vO p3).1.2.1, .int (f_X3_storeData vS vQ vO p3).1.2.2.1, .int (f_X3_storeData vS vQ vO p3).1.2.2.2.1, .int (f_X3_storeData vS vQ vO p3).1.2.2.2.2.1, .int (f_X3_storeData vS vQ vO p3).1.2.2.2.2.2.1, .int (f_X3_storeData vS vQ vO p3).1.2.2.2.2.2.2.1, .int (f_X3_storeData vS vQ vO p3).1.2.2.2.2.2.2.2])), (qH, .inr (1, [.ref qA, .int (f_X3_storeData vS vQ vO p3).2.1.2.1, .int (f_X3_storeData vS vQ vO p3).2.1.2.2.1, .int (f_X3_storeData vS vQ vO p3).2.1.2.2.2])), (qA, .inl (cI, 16, .inl (f_X3_storeData vS vQ vO p3).2.1.1)), (oH, .inr (2, [.ref oA, .long (f_X3_storeData vS vQ vO p3).2.2.2])), (oA, .inl (cB, 4096, .inl (f_X3_storeData vS vQ vO p3).2.2.1))] := hD
        refine lv_goto (tgt := 146) hx hb dX3_store_70 (by decide) ?_
        have hF : (f_X3_store vS vQ vO p1 p2 p3) = ((f_X3_storeData vS vQ vO p3).1, (f_X3_storeData vS vQ vO p3).2.1, (f_X3_storeData vS vQ vO p3).2.2) := by rw [f_X3_store, if_pos c_2, if_pos c_10, if_pos c_16_0]
        have hP9 := hP.sub (ws' := [(sH, .inr (3, [.ref qH, .ref oH, .int (f_X3_storeData vS vQ vO p3).1.1, .int (f_X3_storeData vS vQ vO p3).1.2.1, .int (f_X3_storeData vS vQ vO p3).1.2.2.1, .int (f_X3_storeData vS vQ vO p3).1.2.2.2.1, .int (f_X3_storeData vS vQ vO p3).1.2.2.2.2.1, .int (f_X3_storeData vS vQ vO p3).1.2.2.2.2.2.1, .int (f_X3_storeData vS vQ vO p3).1.2.2.2.2.2.2.1, .int (f_X3_storeData vS vQ vO p3).1.2.2.2.2.2.2.2])), (qH, .inr (1, [.ref qA, .int (f_X3_storeData vS vQ vO p3).2.1.2.1, .int (f_X3_storeData vS vQ vO p3).2.1.2.2.1, .int (f_X3_storeData vS vQ vO p3).2.1.2.2.2])), (qA, .inl (cI, 16, .inl (f_X3_storeData vS vQ vO p3).2.1.1)), (oH, .inr (2, [.ref oA, .long (f_X3_storeData vS vQ vO p3).2.2.2])), (oA, .inl (cB, 4096, .inl (f_X3_storeData vS vQ vO p3).2.2.1))]) [0, 1, 2, 3, 4] rfl
        have hD9 := hD.sub (ws' := [(sH, .inr (3, [.ref qH, .ref oH, .int (f_X3_storeData vS vQ vO p3).1.1, .int (f_X3_storeData vS vQ vO p3).1.2.1, .int (f_X3_storeData vS vQ vO p3).1.2.2.1, .int (f_X3_storeData vS vQ vO p3).1.2.2.2.1, .int (f_X3_storeData vS vQ vO p3).1.2.2.2.2.1, .int (f_X3_storeData vS vQ vO p3).1.2.2.2.2.2.1, .int (f_X3_storeData vS vQ vO p3).1.2.2.2.2.2.2.1, .int (f_X3_storeData vS vQ vO p3).1.2.2.2.2.2.2.2])), (qH, .inr (1, [.ref qA, .int (f_X3_storeData vS vQ vO p3).2.1.2.1, .int (f_X3_storeData vS vQ vO p3).2.1.2.2.1, .int (f_X3_storeData vS vQ vO p3).2.1.2.2.2])), (qA, .inl (cI, 16, .inl (f_X3_storeData vS vQ vO p3).2.1.1)), (oH, .inr (2, [.ref oA, .long (f_X3_storeData vS vQ vO p3).2.2.2])), (oA, .inl (cB, 4096, .inl (f_X3_storeData vS vQ vO p3).2.2.1))]) [0, 1, 2, 3, 4] (by decide) rfl
        exact W.vret hx hb hr (fun u hu hW => ⟨⟨(), rfl, trivial, by rw [hu, hF]; exact hP9, by rw [hF]; exact hD9⟩, hS.F hu⟩) hS.2.2 dX3_store_146
      by_cases c_16_1 : (Int64.toInt32 p1) = 1
      · refine lv_tableIn (tgt := 73) hx hb dX3_store_16 (by rw [c_16_1]; decide) (by rw [c_16_1]; decide) (by rw [c_16_1]; rfl) (by decide) ?_
        refine lv_aload_n hx hb dX3_store_73 rfl (lv_at hl 0 rfl) ?_
        refine lv_iload hx hb dX3_store_74 (lv_at hl 3 rfl) ?_
        have hPc := hP.sub (ws' := [(sH, .inr (3, [.ref qH, .ref oH, .int vS.1, .int vS.2.1, .int vS.2.2.1, .int vS.2.2.2.1, .int vS.2.2.2.2.1, .int vS.2.2.2.2.2.1, .int vS.2.2.2.2.2.2.1, .int vS.2.2.2.2.2.2.2]))]) [0] rfl
        have hDc := hD.sub (ws' := [(sH, .inr (3, [.ref qH, .ref oH, .int vS.1, .int vS.2.1, .int vS.2.2.1, .int vS.2.2.2.1, .int vS.2.2.2.2.1, .int vS.2.2.2.2.2.1, .int vS.2.2.2.2.2.2.1, .int vS.2.2.2.2.2.2.2]))]) [0] (by decide) rfl
        have hFc := va_free (wc := [(sH, .inr (3, [.ref qH, .ref oH, .int vS.1, .int vS.2.1, .int vS.2.2.1, .int vS.2.2.2.1, .int vS.2.2.2.2.1, .int vS.2.2.2.2.2.1, .int vS.2.2.2.2.2.2.1, .int vS.2.2.2.2.2.2.2]))]) hD hS hA [0] rfl
        refine va_callv (va_runV (As := [.int p3]) (rest := []) ⟨hx, hb, hml, hown, hw⟩ (k_X3_storeEnables l dC dI cI cJ cB cZ sH qH oH s.heap.size vS p3) (cwV 1 hw (gV w_405 w_407 w_s13 w_5 w_408) rfl rfl rfl (by decide +kernel) ⟨Nat.le_of_ble_eq_true rfl, Nat.le_of_ble_eq_true rfl⟩) ⟨fun a U g mk q => by obtain ⟨q0, q1, qP, qK, qD, qN⟩ := q; exact ⟨q0, q1, qP, va_K.moved (u := U) (U := U.calling g mk a) (Vm.Alike.refl U.vm) qK, qD, nw_same (s := U) (U := U.calling g mk a) rfl qN⟩, va_recv hK hPc (ci := 3) (q0 := 0) rfl rfl, fun U hU hW => ⟨rfl, by rw [hU], by rw [hU]; exact hPc, va_K.moved hW.alike hK, hDc.weaken (fun _ _ _ _ => trivial), nw_warm hW hN⟩⟩ rfl rfl hl.1 rfl (lv_room (Nat.le_of_ble_eq_true rfl)) dX3_store_76 ⟨Nat.le_of_ble_eq_true rfl, Nat.le_of_ble_eq_true rfl⟩) hS (fun q _ h => hFc q h) hFc (fun u t9 H1 locs ht hvm hR hB hz1 hk1 hS => ?_)
        obtain ⟨hP1, hD1⟩ := hB
        rw [ht] at hP1
        obtain ⟨hP, hD⟩ := va_join (wr := [(qH, .inr (1, [.ref qA, .int vQ.2.1, .int vQ.2.2.1, .int vQ.2.2.2])), (qA, .inl (cI, 16, .inl vQ.1)), (oH, .inr (2, [.ref oA, .long vO.2])), (oA, .inl (cB, 4096, .inl vO.1))]) (w1 := [(sH, .inr (3, [.ref qH, .ref oH, .int (f_X3_storeEnables vS p3).1, .int (f_X3_storeEnables vS p3).2.1, .int (f_X3_storeEnables vS p3).2.2.1, .int (f_X3_storeEnables vS p3).2.2.2.1, .int (f_X3_storeEnables vS p3).2.2.2.2.1, .int (f_X3_storeEnables vS p3).2.2.2.2.2.1, .int (f_X3_storeEnables vS p3).2.2.2.2.2.2.1, .int (f_X3_storeEnables vS p3).2.2.2.2.2.2.2]))]) hP hD [0] [1, 2, 3, 4] rfl rfl (by decide) (by decide) hk1 hFc hP1 hD1
        generalize H1 = H at hP hS ⊢
        have hP : va_P (dC, dI) vwCl [(qH, .inr (1, [.ref qA, .int vQ.2.1, .int vQ.2.2.1, .int vQ.2.2.2])), (qA, .inl (cI, 16, .inl vQ.1)), (oH, .inr (2, [.ref oA, .long vO.2])), (oA, .inl (cB, 4096, .inl vO.1)), (sH, .inr (3, [.ref qH, .ref oH, .int (f_X3_storeEnables vS p3).1, .int (f_X3_storeEnables vS p3).2.1, .int (f_X3_storeEnables vS p3).2.2.1, .int (f_X3_storeEnables vS p3).2.2.2.1, .int (f_X3_storeEnables vS p3).2.2.2.2.1, .int (f_X3_storeEnables vS p3).2.2.2.2.2.1, .int (f_X3_storeEnables vS p3).2.2.2.2.2.2.1, .int (f_X3_storeEnables vS p3).2.2.2.2.2.2.2]))] H := hP
        have hD : va_D A [(qH, .inr (1, [.ref qA, .int vQ.2.1, .int vQ.2.2.1, .int vQ.2.2.2])), (qA, .inl (cI, 16, .inl vQ.1)), (oH, .inr (2, [.ref oA, .long vO.2])), (oA, .inl (cB, 4096, .inl vO.1)), (sH, .inr (3, [.ref qH, .ref oH, .int (f_X3_storeEnables vS p3).1, .int (f_X3_storeEnables vS p3).2.1, .int (f_X3_storeEnables vS p3).2.2.1, .int (f_X3_storeEnables vS p3).2.2.2.1, .int (f_X3_storeEnables vS p3).2.2.2.2.1, .int (f_X3_storeEnables vS p3).2.2.2.2.2.1, .int (f_X3_storeEnables vS p3).2.2.2.2.2.2.1, .int (f_X3_storeEnables vS p3).2.2.2.2.2.2.2]))] := hD
        refine lv_goto (tgt := 146) hx hb dX3_store_79 (by decide) ?_
        have hF : (f_X3_store vS vQ vO p1 p2 p3) = ((f_X3_storeEnables vS p3), vQ, vO) := by rw [f_X3_store, if_pos c_2, if_pos c_10, if_neg c_16_0, if_pos c_16_1]
        have hP9 := hP.sub (ws' := [(sH, .inr (3, [.ref qH, .ref oH, .int (f_X3_storeEnables vS p3).1, .int (f_X3_storeEnables vS p3).2.1, .int (f_X3_storeEnables vS p3).2.2.1, .int (f_X3_storeEnables vS p3).2.2.2.1, .int (f_X3_storeEnables vS p3).2.2.2.2.1, .int (f_X3_storeEnables vS p3).2.2.2.2.2.1, .int (f_X3_storeEnables vS p3).2.2.2.2.2.2.1, .int (f_X3_storeEnables vS p3).2.2.2.2.2.2.2])), (qH, .inr (1, [.ref qA, .int vQ.2.1, .int vQ.2.2.1, .int vQ.2.2.2])), (qA, .inl (cI, 16, .inl vQ.1)), (oH, .inr (2, [.ref oA, .long vO.2])), (oA, .inl (cB, 4096, .inl vO.1))]) [4, 0, 1, 2, 3] rfl
        have hD9 := hD.sub (ws' := [(sH, .inr (3, [.ref qH, .ref oH, .int (f_X3_storeEnables vS p3).1, .int (f_X3_storeEnables vS p3).2.1, .int (f_X3_storeEnables vS p3).2.2.1, .int (f_X3_storeEnables vS p3).2.2.2.1, .int (f_X3_storeEnables vS p3).2.2.2.2.1, .int (f_X3_storeEnables vS p3).2.2.2.2.2.1, .int (f_X3_storeEnables vS p3).2.2.2.2.2.2.1, .int (f_X3_storeEnables vS p3).2.2.2.2.2.2.2])), (qH, .inr (1, [.ref qA, .int vQ.2.1, .int vQ.2.2.1, .int vQ.2.2.2])), (qA, .inl (cI, 16, .inl vQ.1)), (oH, .inr (2, [.ref oA, .long vO.2])), (oA, .inl (cB, 4096, .inl vO.1))]) [4, 0, 1, 2, 3] (by decide) rfl
        exact W.vret hx hb hr (fun u hu hW => ⟨⟨(), rfl, trivial, by rw [hu, hF]; exact hP9, by rw [hF]; exact hD9⟩, hS.F hu⟩) hS.2.2 dX3_store_146
      by_cases c_16_2 : (Int64.toInt32 p1) = 2
      · refine lv_tableIn (tgt := 82) hx hb dX3_store_16 (by rw [c_16_2]; decide) (by rw [c_16_2]; decide) (by rw [c_16_2]; rfl) (by decide) ?_
        refine lv_aload_n hx hb dX3_store_82 rfl (lv_at hl 0 rfl) ?_
        refine va_get (D := (dC, dI)) (ci := 3) (v := .ref qH) (C := RX3) (T := TX3) (N := 10) hx hb hw inWX3 hown hK hP 0 rfl rfl 0 (by decide) (hw _ w_114) (fun _ h9 => h9) rfl dX3_store_83 ?_
        refine lv_iload hx hb dX3_store_86 (lv_at hl 3 rfl) ?_
        refine lv_iconst (v := 1) hx hb dX3_store_88 (by decide) ?_
        refine lv_iand hx hb dX3_store_89 ?_
        refine lv_if_eq (tgt := 97) hx hb dX3_store_90 (by decide) (fun c_90 => ?_) (fun c_90 => ?_)
        · refine lv_iconst (v := 0) hx hb dX3_store_97 (by decide) ?_
          refine lv_iload hx hb dX3_store_98 (lv_at hl 3 rfl) ?_
          refine lv_iconst (v := 2) hx hb dX3_store_100 (by decide) ?_
          refine lv_iand hx hb dX3_store_101 ?_
          refine lv_if_eq (tgt := 109) hx hb dX3_store_102 (by decide) (fun c_102 => ?_) (fun c_102 => ?_)
          · refine lv_iconst (v := 0) hx hb dX3_store_109 (by decide) ?_
            have hPc := hP.sub (ws' := [(qH, .inr (1, [.ref qA, .int vQ.2.1, .int vQ.2.2.1, .int vQ.2.2.2])), (qA, .inl (cI, 16, .inl vQ.1))]) [1, 2] rfl
            have hDc := hD.sub (ws' := [(qH, .inr (1, [.ref qA, .int vQ.2.1, .int vQ.2.2.1, .int vQ.2.2.2])), (qA, .inl (cI, 16, .inl vQ.1))]) [1, 2] (by decide) rfl
            have hFc := va_free (wc := [(qH, .inr (1, [.ref qA, .int vQ.2.1, .int vQ.2.2.1, .int vQ.2.2.2])), (qA, .inl (cI, 16, .inl vQ.1))]) hD hS hA [1, 2] rfl
            refine va_callv (va_runV (As := [.int 0, .int 0]) (rest := []) ⟨hx, hb, hml, hown, hw⟩ (k_X1_configure l dC dI cI cJ cB cZ qH qA s.heap.size vQ 0 0 (by decide)) (cwV 2 hw (gV w_409 w_410 w_411 w_6 w_412) rfl rfl rfl (by decide +kernel) ⟨Nat.le_of_ble_eq_true rfl, Nat.le_of_ble_eq_true rfl⟩) ⟨fun a U g mk q => by obtain ⟨q0, q1, qP, qK, qD, qN⟩ := q; exact ⟨q0, q1, qP, va_K.moved (u := U) (U := U.calling g mk a) (Vm.Alike.refl U.vm) qK, qD, nw_same (s := U) (U := U.calling g mk a) rfl qN⟩, va_recv hK hPc (ci := 1) (q0 := 0) rfl rfl, fun U hU hW => ⟨rfl, by rw [hU], by rw [hU]; exact hPc, va_K.moved hW.alike hK, hDc.weaken (fun _ _ _ _ => trivial), nw_warm hW hN⟩⟩ rfl rfl hl.1 rfl (lv_room (Nat.le_of_ble_eq_true rfl)) dX3_store_110 ⟨Nat.le_of_ble_eq_true rfl, Nat.le_of_ble_eq_true rfl⟩) hS (fun q _ h => hFc q h) hFc (fun u t9 H1 locs ht hvm hR hB hz1 hk1 hS => ?_)
            obtain ⟨hP1, hD1⟩ := hB
            rw [ht] at hP1
            obtain ⟨hP, hD⟩ := va_join (wr := [(sH, .inr (3, [.ref qH, .ref oH, .int vS.1, .int vS.2.1, .int vS.2.2.1, .int vS.2.2.2.1, .int vS.2.2.2.2.1, .int vS.2.2.2.2.2.1, .int vS.2.2.2.2.2.2.1, .int vS.2.2.2.2.2.2.2])), (oH, .inr (2, [.ref oA, .long vO.2])), (oA, .inl (cB, 4096, .inl vO.1))]) (w1 := [(qH, .inr (1, [.ref qA, .int (f_X1_configure vQ 0 0).2.1, .int (f_X1_configure vQ 0 0).2.2.1, .int (f_X1_configure vQ 0 0).2.2.2])), (qA, .inl (cI, 16, .inl (f_X1_configure vQ 0 0).1))]) hP hD [1, 2] [0, 3, 4] rfl rfl (by decide) (by decide) hk1 hFc hP1 hD1
            generalize H1 = H at hP hS ⊢
            have hP : va_P (dC, dI) vwCl [(sH, .inr (3, [.ref qH, .ref oH, .int vS.1, .int vS.2.1, .int vS.2.2.1, .int vS.2.2.2.1, .int vS.2.2.2.2.1, .int vS.2.2.2.2.2.1, .int vS.2.2.2.2.2.2.1, .int vS.2.2.2.2.2.2.2])), (oH, .inr (2, [.ref oA, .long vO.2])), (oA, .inl (cB, 4096, .inl vO.1)), (qH, .inr (1, [.ref qA, .int (f_X1_configure vQ 0 0).2.1, .int (f_X1_configure vQ 0 0).2.2.1, .int (f_X1_configure vQ 0 0).2.2.2])), (qA, .inl (cI, 16, .inl (f_X1_configure vQ 0 0).1))] H := hP
            have hD : va_D A [(sH, .inr (3, [.ref qH, .ref oH, .int vS.1, .int vS.2.1, .int vS.2.2.1, .int vS.2.2.2.1, .int vS.2.2.2.2.1, .int vS.2.2.2.2.2.1, .int vS.2.2.2.2.2.2.1, .int vS.2.2.2.2.2.2.2])), (oH, .inr (2, [.ref oA, .long vO.2])), (oA, .inl (cB, 4096, .inl vO.1)), (qH, .inr (1, [.ref qA, .int (f_X1_configure vQ 0 0).2.1, .int (f_X1_configure vQ 0 0).2.2.1, .int (f_X1_configure vQ 0 0).2.2.2])), (qA, .inl (cI, 16, .inl (f_X1_configure vQ 0 0).1))] := hD
            refine lv_goto (tgt := 146) hx hb dX3_store_113 (by decide) ?_
            have hF : (f_X3_store vS vQ vO p1 p2 p3) = (vS, (f_X1_configure vQ 0 0), vO) := by rw [f_X3_store, if_pos c_2, if_pos c_10, if_neg c_16_0, if_neg c_16_1, if_pos c_16_2, if_pos c_90, if_pos c_102]
            have hP9 := hP.sub (ws' := [(sH, .inr (3, [.ref qH, .ref oH, .int vS.1, .int vS.2.1, .int vS.2.2.1, .int vS.2.2.2.1, .int vS.2.2.2.2.1, .int vS.2.2.2.2.2.1, .int vS.2.2.2.2.2.2.1, .int vS.2.2.2.2.2.2.2])), (qH, .inr (1, [.ref qA, .int (f_X1_configure vQ 0 0).2.1, .int (f_X1_configure vQ 0 0).2.2.1, .int (f_X1_configure vQ 0 0).2.2.2])), (qA, .inl (cI, 16, .inl (f_X1_configure vQ 0 0).1)), (oH, .inr (2, [.ref oA, .long vO.2])), (oA, .inl (cB, 4096, .inl vO.1))]) [0, 3, 4, 1, 2] rfl
            have hD9 := hD.sub (ws' := [(sH, .inr (3, [.ref qH, .ref oH, .int vS.1, .int vS.2.1, .int vS.2.2.1, .int vS.2.2.2.1, .int vS.2.2.2.2.1, .int vS.2.2.2.2.2.1, .int vS.2.2.2.2.2.2.1, .int vS.2.2.2.2.2.2.2])), (qH, .inr (1, [.ref qA, .int (f_X1_configure vQ 0 0).2.1, .int (f_X1_configure vQ 0 0).2.2.1, .int (f_X1_configure vQ 0 0).2.2.2])), (qA, .inl (cI, 16, .inl (f_X1_configure vQ 0 0).1)), (oH, .inr (2, [.ref oA, .long vO.2])), (oA, .inl (cB, 4096, .inl vO.1))]) [0, 3, 4, 1, 2] (by decide) rfl
            exact W.vret hx hb hr (fun u hu hW => ⟨⟨(), rfl, trivial, by rw [hu, hF]; exact hP9, by rw [hF]; exact hD9⟩, hS.F hu⟩) hS.2.2 dX3_store_146
          · refine lv_iconst (v := 1) hx hb dX3_store_105 (by decide) ?_
            refine lv_goto (tgt := 110) hx hb dX3_store_106 (by decide) ?_
            have hPc := hP.sub (ws' := [(qH, .inr (1, [.ref qA, .int vQ.2.1, .int vQ.2.2.1, .int vQ.2.2.2])), (qA, .inl (cI, 16, .inl vQ.1))]) [1, 2] rfl
            have hDc := hD.sub (ws' := [(qH, .inr (1, [.ref qA, .int vQ.2.1, .int vQ.2.2.1, .int vQ.2.2.2])), (qA, .inl (cI, 16, .inl vQ.1))]) [1, 2] (by decide) rfl
            have hFc := va_free (wc := [(qH, .inr (1, [.ref qA, .int vQ.2.1, .int vQ.2.2.1, .int vQ.2.2.2])), (qA, .inl (cI, 16, .inl vQ.1))]) hD hS hA [1, 2] rfl
            refine va_callv (va_runV (As := [.int 0, .int 1]) (rest := []) ⟨hx, hb, hml, hown, hw⟩ (k_X1_configure l dC dI cI cJ cB cZ qH qA s.heap.size vQ 0 1 (by decide)) (cwV 2 hw (gV w_409 w_410 w_411 w_6 w_412) rfl rfl rfl (by decide +kernel) ⟨Nat.le_of_ble_eq_true rfl, Nat.le_of_ble_eq_true rfl⟩) ⟨fun a U g mk q => by obtain ⟨q0, q1, qP, qK, qD, qN⟩ := q; exact ⟨q0, q1, qP, va_K.moved (u := U) (U := U.calling g mk a) (Vm.Alike.refl U.vm) qK, qD, nw_same (s := U) (U := U.calling g mk a) rfl qN⟩, va_recv hK hPc (ci := 1) (q0 := 0) rfl rfl, fun U hU hW => ⟨rfl, by rw [hU], by rw [hU]; exact hPc, va_K.moved hW.alike hK, hDc.weaken (fun _ _ _ _ => trivial), nw_warm hW hN⟩⟩ rfl rfl hl.1 rfl (lv_room (Nat.le_of_ble_eq_true rfl)) dX3_store_110 ⟨Nat.le_of_ble_eq_true rfl, Nat.le_of_ble_eq_true rfl⟩) hS (fun q _ h => hFc q h) hFc (fun u t9 H1 locs ht hvm hR hB hz1 hk1 hS => ?_)
            obtain ⟨hP1, hD1⟩ := hB
            rw [ht] at hP1
            obtain ⟨hP, hD⟩ := va_join (wr := [(sH, .inr (3, [.ref qH, .ref oH, .int vS.1, .int vS.2.1, .int vS.2.2.1, .int vS.2.2.2.1, .int vS.2.2.2.2.1, .int vS.2.2.2.2.2.1, .int vS.2.2.2.2.2.2.1, .int vS.2.2.2.2.2.2.2])), (oH, .inr (2, [.ref oA, .long vO.2])), (oA, .inl (cB, 4096, .inl vO.1))]) (w1 := [(qH, .inr (1, [.ref qA, .int (f_X1_configure vQ 0 1).2.1, .int (f_X1_configure vQ 0 1).2.2.1, .int (f_X1_configure vQ 0 1).2.2.2])), (qA, .inl (cI, 16, .inl (f_X1_configure vQ 0 1).1))]) hP hD [1, 2] [0, 3, 4] rfl rfl (by decide) (by decide) hk1 hFc hP1 hD1
            generalize H1 = H at hP hS ⊢
            have hP : va_P (dC, dI) vwCl [(sH, .inr (3, [.ref qH, .ref oH, .int vS.1, .int vS.2.1, .int vS.2.2.1, .int vS.2.2.2.1, .int vS.2.2.2.2.1, .int vS.2.2.2.2.2.1, .int vS.2.2.2.2.2.2.1, .int vS.2.2.2.2.2.2.2])), (oH, .inr (2, [.ref oA, .long vO.2])), (oA, .inl (cB, 4096, .inl vO.1)), (qH, .inr (1, [.ref qA, .int (f_X1_configure vQ 0 1).2.1, .int (f_X1_configure vQ 0 1).2.2.1, .int (f_X1_configure vQ 0 1).2.2.2])), (qA, .inl (cI, 16, .inl (f_X1_configure vQ 0 1).1))] H := hP
            have hD : va_D A [(sH, .inr (3, [.ref qH, .ref oH, .int vS.1, .int vS.2.1, .int vS.2.2.1, .int vS.2.2.2.1, .int vS.2.2.2.2.1, .int vS.2.2.2.2.2.1, .int vS.2.2.2.2.2.2.1, .int vS.2.2.2.2.2.2.2])), (oH, .inr (2, [.ref oA, .long vO.2])), (oA, .inl (cB, 4096, .inl vO.1)), (qH, .inr (1, [.ref qA, .int (f_X1_configure vQ 0 1).2.1, .int (f_X1_configure vQ 0 1).2.2.1, .int (f_X1_configure vQ 0 1).2.2.2])), (qA, .inl (cI, 16, .inl (f_X1_configure vQ 0 1).1))] := hD
            refine lv_goto (tgt := 146) hx hb dX3_store_113 (by decide) ?_
            have hF : (f_X3_store vS vQ vO p1 p2 p3) = (vS, (f_X1_configure vQ 0 1), vO) := by rw [f_X3_store, if_pos c_2, if_pos c_10, if_neg c_16_0, if_neg c_16_1, if_pos c_16_2, if_pos c_90, if_neg c_102]
            have hP9 := hP.sub (ws' := [(sH, .inr (3, [.ref qH, .ref oH, .int vS.1, .int vS.2.1, .int vS.2.2.1, .int vS.2.2.2.1, .int vS.2.2.2.2.1, .int vS.2.2.2.2.2.1, .int vS.2.2.2.2.2.2.1, .int vS.2.2.2.2.2.2.2])), (qH, .inr (1, [.ref qA, .int (f_X1_configure vQ 0 1).2.1, .int (f_X1_configure vQ 0 1).2.2.1, .int (f_X1_configure vQ 0 1).2.2.2])), (qA, .inl (cI, 16, .inl (f_X1_configure vQ 0 1).1)), (oH, .inr (2, [.ref oA, .long vO.2])), (oA, .inl (cB, 4096, .inl vO.1))]) [0, 3, 4, 1, 2] rfl
            have hD9 := hD.sub (ws' := [(sH, .inr (3, [.ref qH, .ref oH, .int vS.1, .int vS.2.1, .int vS.2.2.1, .int vS.2.2.2.1, .int vS.2.2.2.2.1, .int vS.2.2.2.2.2.1, .int vS.2.2.2.2.2.2.1, .int vS.2.2.2.2.2.2.2])), (qH, .inr (1, [.ref qA, .int (f_X1_configure vQ 0 1).2.1, .int (f_X1_configure vQ 0 1).2.2.1, .int (f_X1_configure vQ 0 1).2.2.2])), (qA, .inl (cI, 16, .inl (f_X1_configure vQ 0 1).1)), (oH, .inr (2, [.ref oA, .long vO.2])), (oA, .inl (cB, 4096, .inl vO.1))]) [0, 3, 4, 1, 2] (by decide) rfl
            exact W.vret hx hb hr (fun u hu hW => ⟨⟨(), rfl, trivial, by rw [hu, hF]; exact hP9, by rw [hF]; exact hD9⟩, hS.F hu⟩) hS.2.2 dX3_store_146
        · refine lv_iconst (v := 1) hx hb dX3_store_93 (by decide) ?_
          refine lv_goto (tgt := 98) hx hb dX3_store_94 (by decide) ?_
          refine lv_iload hx hb dX3_store_98 (lv_at hl 3 rfl) ?_
          refine lv_iconst (v := 2) hx hb dX3_store_100 (by decide) ?_
          refine lv_iand hx hb dX3_store_101 ?_
          refine lv_if_eq (tgt := 109) hx hb dX3_store_102 (by decide) (fun c_102 => ?_) (fun c_102 => ?_)
          · refine lv_iconst (v := 0) hx hb dX3_store_109 (by decide) ?_
            have hPc := hP.sub (ws' := [(qH, .inr (1, [.ref qA, .int vQ.2.1, .int vQ.2.2.1, .int vQ.2.2.2])), (qA, .inl (cI, 16, .inl vQ.1))]) [1, 2] rfl
            have hDc := hD.sub (ws' := [(qH, .inr (1, [.ref qA, .int vQ.2.1, .int vQ.2.2.1, .int vQ.2.2.2])), (qA, .inl (cI, 16, .inl vQ.1))]) [1, 2] (by decide) rfl
            have hFc := va_free (wc := [(qH, .inr (1, [.ref qA, .int vQ.2.1, .int vQ.2.2.1, .int vQ.2.2.2])), (qA, .inl (cI, 16, .inl vQ.1))]) hD hS hA [1, 2] rfl
            refine va_callv (va_runV (As := [.int 1, .int 0]) (rest := []) ⟨hx, hb, hml, hown, hw⟩ (k_X1_configure l dC dI cI cJ cB cZ qH qA s.heap.size vQ 1 0 (by decide)) (cwV 2 hw (gV w_409 w_410 w_411 w_6 w_412) rfl rfl rfl (by decide +kernel) ⟨Nat.le_of_ble_eq_true rfl, Nat.le_of_ble_eq_true rfl⟩) ⟨fun a U g mk q => by obtain ⟨q0, q1, qP, qK, qD, qN⟩ := q; exact ⟨q0, q1, qP, va_K.moved (u := U) (U := U.calling g mk a) (Vm.Alike.refl U.vm) qK, qD, nw_same (s := U) (U := U.calling g mk a) rfl qN⟩, va_recv hK hPc (ci := 1) (q0 := 0) rfl rfl, fun U hU hW => ⟨rfl, by rw [hU], by rw [hU]; exact hPc, va_K.moved hW.alike hK, hDc.weaken (fun _ _ _ _ => trivial), nw_warm hW hN⟩⟩ rfl rfl hl.1 rfl (lv_room (Nat.le_of_ble_eq_true rfl)) dX3_store_110 ⟨Nat.le_of_ble_eq_true rfl, Nat.le_of_ble_eq_true rfl⟩) hS (fun q _ h => hFc q h) hFc (fun u t9 H1 locs ht hvm hR hB hz1 hk1 hS => ?_)
            obtain ⟨hP1, hD1⟩ := hB
            rw [ht] at hP1
            obtain ⟨hP, hD⟩ := va_join (wr := [(sH, .inr (3, [.ref qH, .ref oH, .int vS.1, .int vS.2.1, .int vS.2.2.1, .int vS.2.2.2.1, .int vS.2.2.2.2.1, .int vS.2.2.2.2.2.1, .int vS.2.2.2.2.2.2.1, .int vS.2.2.2.2.2.2.2])), (oH, .inr (2, [.ref oA, .long vO.2])), (oA, .inl (cB, 4096, .inl vO.1))]) (w1 := [(qH, .inr (1, [.ref qA, .int (f_X1_configure vQ 1 0).2.1, .int (f_X1_configure vQ 1 0).2.2.1, .int (f_X1_configure vQ 1 0).2.2.2])), (qA, .inl (cI, 16, .inl (f_X1_configure vQ 1 0).1))]) hP hD [1, 2] [0, 3, 4] rfl rfl (by decide) (by decide) hk1 hFc hP1 hD1
            generalize H1 = H at hP hS ⊢
            have hP : va_P (dC, dI) vwCl [(sH, .inr (3, [.ref qH, .ref oH, .int vS.1, .int vS.2.1, .int vS.2.2.1, .int vS.2.2.2.1, .int vS.2.2.2.2.1, .int vS.2.2.2.2.2.1, .int vS.2.2.2.2.2.2.1, .int vS.2.2.2.2.2.2.2])), (oH, .inr (2, [.ref oA, .long vO.2])), (oA, .inl (cB, 4096, .inl vO.1)), (qH, .inr (1, [.ref qA, .int (f_X1_configure vQ 1 0).2.1, .int (f_X1_configure vQ 1 0).2.2.1, .int (f_X1_configure vQ 1 0).2.2.2])), (qA, .inl (cI, 16, .inl (f_X1_configure vQ 1 0).1))] H := hP
            have hD : va_D A [(sH, .inr (3, [.ref qH, .ref oH, .int vS.1, .int vS.2.1, .int vS.2.2.1, .int vS.2.2.2.1, .int vS.2.2.2.2.1, .int vS.2.2.2.2.2.1, .int vS.2.2.2.2.2.2.1, .int vS.2.2.2.2.2.2.2])), (oH, .inr (2, [.ref oA, .long vO.2])), (oA, .inl (cB, 4096, .inl vO.1)), (qH, .inr (1, [.ref qA, .int (f_X1_configure vQ 1 0).2.1, .int (f_X1_configure vQ 1 0).2.2.1, .int (f_X1_configure vQ 1 0).2.2.2])), (qA, .inl (cI, 16, .inl (f_X1_configure vQ 1 0).1))] := hD
            refine lv_goto (tgt := 146) hx hb dX3_store_113 (by decide) ?_
            have hF : (f_X3_store vS vQ vO p1 p2 p3) = (vS, (f_X1_configure vQ 1 0), vO) := by rw [f_X3_store, if_pos c_2, if_pos c_10, if_neg c_16_0, if_neg c_16_1, if_pos c_16_2, if_neg c_90, if_pos c_102]
            have hP9 := hP.sub (ws' := [(sH, .inr (3, [.ref qH, .ref oH, .int vS.1, .int vS.2.1, .int vS.2.2.1, .int vS.2.2.2.1, .int vS.2.2.2.2.1, .int vS.2.2.2.2.2.1, .int vS.2.2.2.2.2.2.1, .int vS.2.2.2.2.2.2.2])), (qH, .inr (1, [.ref qA, .int (f_X1_configure vQ 1 0).2.1, .int (f_X1_configure vQ 1 0).2.2.1, .int (f_X1_configure vQ 1 0).2.2.2])), (qA, .inl (cI, 16, .inl (f_X1_configure vQ 1 0).1)), (oH, .inr (2, [.ref oA, .long vO.2])), (oA, .inl (cB, 4096, .inl vO.1))]) [0, 3, 4, 1, 2] rfl
            have hD9 := hD.sub (ws' := [(sH, .inr (3, [.ref qH, .ref oH, .int vS.1, .int vS.2.1, .int vS.2.2.1, .int vS.2.2.2.1, .int vS.2.2.2.2.1, .int vS.2.2.2.2.2.1, .int vS.2.2.2.2.2.2.1, .int vS.2.2.2.2.2.2.2])), (qH, .inr (1, [.ref qA, .int (f_X1_configure vQ 1 0).2.1, .int (f_X1_configure vQ 1 0).2.2.1, .int (f_X1_configure vQ 1 0).2.2.2])), (qA, .inl (cI, 16, .inl (f_X1_configure vQ 1 0).1)), (oH, .inr (2, [.ref oA, .long vO.2])), (oA, .inl (cB, 4096, .inl vO.1))]) [0, 3, 4, 1, 2] (by decide) rfl
            exact W.vret hx hb hr (fun u hu hW => ⟨⟨(), rfl, trivial, by rw [hu, hF]; exact hP9, by rw [hF]; exact hD9⟩, hS.F hu⟩) hS.2.2 dX3_store_146
          · refine lv_iconst (v := 1) hx hb dX3_store_105 (by decide) ?_
            refine lv_goto (tgt := 110) hx hb dX3_store_106 (by decide) ?_
            have hPc := hP.sub (ws' := [(qH, .inr (1, [.ref qA, .int vQ.2.1, .int vQ.2.2.1, .int vQ.2.2.2])), (qA, .inl (cI, 16, .inl vQ.1))]) [1, 2] rfl
            have hDc := hD.sub (ws' := [(qH, .inr (1, [.ref qA, .int vQ.2.1, .int vQ.2.2.1, .int vQ.2.2.2])), (qA, .inl (cI, 16, .inl vQ.1))]) [1, 2] (by decide) rfl
            have hFc := va_free (wc := [(qH, .inr (1, [.ref qA, .int vQ.2.1, .int vQ.2.2.1, .int vQ.2.2.2])), (qA, .inl (cI, 16, .inl vQ.1))]) hD hS hA [1, 2] rfl
            refine va_callv (va_runV (As := [.int 1, .int 1]) (rest := []) ⟨hx, hb, hml, hown, hw⟩ (k_X1_configure l dC dI cI cJ cB cZ qH qA s.heap.size vQ 1 1 (by decide)) (cwV 2 hw (gV w_409 w_410 w_411 w_6 w_412) rfl rfl rfl (by decide +kernel) ⟨Nat.le_of_ble_eq_true rfl, Nat.le_of_ble_eq_true rfl⟩) ⟨fun a U g mk q => by obtain ⟨q0, q1, qP, qK, qD, qN⟩ := q; exact ⟨q0, q1, qP, va_K.moved (u := U) (U := U.calling g mk a) (Vm.Alike.refl U.vm) qK, qD, nw_same (s := U) (U := U.calling g mk a) rfl qN⟩, va_recv hK hPc (ci := 1) (q0 := 0) rfl rfl, fun U hU hW => ⟨rfl, by rw [hU], by rw [hU]; exact hPc, va_K.moved hW.alike hK, hDc.weaken (fun _ _ _ _ => trivial), nw_warm hW hN⟩⟩ rfl rfl hl.1 rfl (lv_room (Nat.le_of_ble_eq_true rfl)) dX3_store_110 ⟨Nat.le_of_ble_eq_true rfl, Nat.le_of_ble_eq_true rfl⟩) hS (fun q _ h => hFc q h) hFc (fun u t9 H1 locs ht hvm hR hB hz1 hk1 hS => ?_)
            obtain ⟨hP1, hD1⟩ := hB
            rw [ht] at hP1
            obtain ⟨hP, hD⟩ := va_join (wr := [(sH, .inr (3, [.ref qH, .ref oH, .int vS.1, .int vS.2.1, .int vS.2.2.1, .int vS.2.2.2.1, .int vS.2.2.2.2.1, .int vS.2.2.2.2.2.1, .int vS.2.2.2.2.2.2.1, .int vS.2.2.2.2.2.2.2])), (oH, .inr (2, [.ref oA, .long vO.2])), (oA, .inl (cB, 4096, .inl vO.1))]) (w1 := [(qH, .inr (1, [.ref qA, .int (f_X1_configure vQ 1 1).2.1, .int (f_X1_configure vQ 1 1).2.2.1, .int (f_X1_configure vQ 1 1).2.2.2])), (qA, .inl (cI, 16, .inl (f_X1_configure vQ 1 1).1))]) hP hD [1, 2] [0, 3, 4] rfl rfl (by decide) (by decide) hk1 hFc hP1 hD1
            generalize H1 = H at hP hS ⊢
            have hP : va_P (dC, dI) vwCl [(sH, .inr (3, [.ref qH, .ref oH, .int vS.1, .int vS.2.1, .int vS.2.2.1, .int vS.2.2.2.1, .int vS.2.2.2.2.1, .int vS.2.2.2.2.2.1, .int vS.2.2.2.2.2.2.1, .int vS.2.2.2.2.2.2.2])), (oH, .inr (2, [.ref oA, .long vO.2])), (oA, .inl (cB, 4096, .inl vO.1)), (qH, .inr (1, [.ref qA, .int (f_X1_configure vQ 1 1).2.1, .int (f_X1_configure vQ 1 1).2.2.1, .int (f_X1_configure vQ 1 1).2.2.2])), (qA, .inl (cI, 16, .inl (f_X1_configure vQ 1 1).1))] H := hP
            have hD : va_D A [(sH, .inr (3, [.ref qH, .ref oH, .int vS.1, .int vS.2.1, .int vS.2.2.1, .int vS.2.2.2.1, .int vS.2.2.2.2.1, .int vS.2.2.2.2.2.1, .int vS.2.2.2.2.2.2.1, .int vS.2.2.2.2.2.2.2])), (oH, .inr (2, [.ref oA, .long vO.2])), (oA, .inl (cB, 4096, .inl vO.1)), (qH, .inr (1, [.ref qA, .int (f_X1_configure vQ 1 1).2.1, .int (f_X1_configure vQ 1 1).2.2.1, .int (f_X1_configure vQ 1 1).2.2.2])), (qA, .inl (cI, 16, .inl (f_X1_configure vQ 1 1).1))] := hD
            refine lv_goto (tgt := 146) hx hb dX3_store_113 (by decide) ?_
            have hF : (f_X3_store vS vQ vO p1 p2 p3) = (vS, (f_X1_configure vQ 1 1), vO) := by rw [f_X3_store, if_pos c_2, if_pos c_10, if_neg c_16_0, if_neg c_16_1, if_pos c_16_2, if_neg c_90, if_neg c_102]
            have hP9 := hP.sub (ws' := [(sH, .inr (3, [.ref qH, .ref oH, .int vS.1, .int vS.2.1, .int vS.2.2.1, .int vS.2.2.2.1, .int vS.2.2.2.2.1, .int vS.2.2.2.2.2.1, .int vS.2.2.2.2.2.2.1, .int vS.2.2.2.2.2.2.2])), (qH, .inr (1, [.ref qA, .int (f_X1_configure vQ 1 1).2.1, .int (f_X1_configure vQ 1 1).2.2.1, .int (f_X1_configure vQ 1 1).2.2.2])), (qA, .inl (cI, 16, .inl (f_X1_configure vQ 1 1).1)), (oH, .inr (2, [.ref oA, .long vO.2])), (oA, .inl (cB, 4096, .inl vO.1))]) [0, 3, 4, 1, 2] rfl
            have hD9 := hD.sub (ws' := [(sH, .inr (3, [.ref qH, .ref oH, .int vS.1, .int vS.2.1, .int vS.2.2.1, .int vS.2.2.2.1, .int vS.2.2.2.2.1, .int vS.2.2.2.2.2.1, .int vS.2.2.2.2.2.2.1, .int vS.2.2.2.2.2.2.2])), (qH, .inr (1, [.ref qA, .int (f_X1_configure vQ 1 1).2.1, .int (f_X1_configure vQ 1 1).2.2.1, .int (f_X1_configure vQ 1 1).2.2.2])), (qA, .inl (cI, 16, .inl (f_X1_configure vQ 1 1).1)), (oH, .inr (2, [.ref oA, .long vO.2])), (oA, .inl (cB, 4096, .inl vO.1))]) [0, 3, 4, 1, 2] (by decide) rfl
            exact W.vret hx hb hr (fun u hu hW => ⟨⟨(), rfl, trivial, by rw [hu, hF]; exact hP9, by rw [hF]; exact hD9⟩, hS.F hu⟩) hS.2.2 dX3_store_146
      by_cases c_16_3 : (Int64.toInt32 p1) = 3
      · refine lv_tableIn (tgt := 116) hx hb dX3_store_16 (by rw [c_16_3]; decide) (by rw [c_16_3]; decide) (by rw [c_16_3]; rfl) (by decide) ?_
        refine lv_aload_n hx hb dX3_store_116 rfl (lv_at hl 0 rfl) ?_
        refine lv_iload hx hb dX3_store_117 (lv_at hl 3 rfl) ?_
        refine va_put (D := (dC, dI)) (ci := 3) (v := .int p3) (ty := .int) (C := RX3) (T := TX3) (N := 10) hx hb hw inWX3 tyX3 tyX3_ok nmX3 hown hK hP hD hS 0 rfl rfl 3 (by decide) (hw _ w_119) (fun _ h9 => h9) rfl (by decide +kernel) rfl rfl (Nat.le_of_ble_eq_true rfl) dX3_store_119 (fun H locs hP hD hS => ?_)
        have hP : va_P (dC, dI) vwCl [(sH, .inr (3, [.ref qH, .ref oH, .int vS.1, .int p3, .int vS.2.2.1, .int vS.2.2.2.1, .int vS.2.2.2.2.1, .int vS.2.2.2.2.2.1, .int vS.2.2.2.2.2.2.1, .int vS.2.2.2.2.2.2.2])), (qH, .inr (1, [.ref qA, .int vQ.2.1, .int vQ.2.2.1, .int vQ.2.2.2])), (qA, .inl (cI, 16, .inl vQ.1)), (oH, .inr (2, [.ref oA, .long vO.2])), (oA, .inl (cB, 4096, .inl vO.1))] H := hP
        have hD : va_D A [(sH, .inr (3, [.ref qH, .ref oH, .int vS.1, .int p3, .int vS.2.2.1, .int vS.2.2.2.1, .int vS.2.2.2.2.1, .int vS.2.2.2.2.2.1, .int vS.2.2.2.2.2.2.1, .int vS.2.2.2.2.2.2.2])), (qH, .inr (1, [.ref qA, .int vQ.2.1, .int vQ.2.2.1, .int vQ.2.2.2])), (qA, .inl (cI, 16, .inl vQ.1)), (oH, .inr (2, [.ref oA, .long vO.2])), (oA, .inl (cB, 4096, .inl vO.1))] := hD
        refine lv_goto (tgt := 146) hx hb dX3_store_122 (by decide) ?_
        have hF : (f_X3_store vS vQ vO p1 p2 p3) = ((vS.1, p3, vS.2.2.1, vS.2.2.2.1, vS.2.2.2.2.1, vS.2.2.2.2.2.1, vS.2.2.2.2.2.2.1, vS.2.2.2.2.2.2.2), vQ, vO) := by rw [f_X3_store, if_pos c_2, if_pos c_10, if_neg c_16_0, if_neg c_16_1, if_neg c_16_2, if_pos c_16_3]
        have hP9 := hP.sub (ws' := [(sH, .inr (3, [.ref qH, .ref oH, .int vS.1, .int p3, .int vS.2.2.1, .int vS.2.2.2.1, .int vS.2.2.2.2.1, .int vS.2.2.2.2.2.1, .int vS.2.2.2.2.2.2.1, .int vS.2.2.2.2.2.2.2])), (qH, .inr (1, [.ref qA, .int vQ.2.1, .int vQ.2.2.1, .int vQ.2.2.2])), (qA, .inl (cI, 16, .inl vQ.1)), (oH, .inr (2, [.ref oA, .long vO.2])), (oA, .inl (cB, 4096, .inl vO.1))]) [0, 1, 2, 3, 4] rfl
        have hD9 := hD.sub (ws' := [(sH, .inr (3, [.ref qH, .ref oH, .int vS.1, .int p3, .int vS.2.2.1, .int vS.2.2.2.1, .int vS.2.2.2.2.1, .int vS.2.2.2.2.2.1, .int vS.2.2.2.2.2.2.1, .int vS.2.2.2.2.2.2.2])), (qH, .inr (1, [.ref qA, .int vQ.2.1, .int vQ.2.2.1, .int vQ.2.2.2])), (qA, .inl (cI, 16, .inl vQ.1)), (oH, .inr (2, [.ref oA, .long vO.2])), (oA, .inl (cB, 4096, .inl vO.1))]) [0, 1, 2, 3, 4] (by decide) rfl
        exact W.vret hx hb hr (fun u hu hW => ⟨⟨(), rfl, trivial, by rw [hu, hF]; exact hP9, by rw [hF]; exact hD9⟩, hS.F hu⟩) hS.2.2 dX3_store_146
      by_cases c_16_4 : (Int64.toInt32 p1) = 4
      · refine lv_tableIn (tgt := 125) hx hb dX3_store_16 (by rw [c_16_4]; decide) (by rw [c_16_4]; decide) (by rw [c_16_4]; rfl) (by decide) ?_
        refine lv_aload_n hx hb dX3_store_125 rfl (lv_at hl 0 rfl) ?_
        refine lv_iload hx hb dX3_store_126 (lv_at hl 3 rfl) ?_
        refine lv_bipush (v := 31) hx hb dX3_store_128 (by decide) ?_
        refine lv_iand hx hb dX3_store_130 ?_
        refine va_put (D := (dC, dI)) (ci := 3) (v := .int (p3 &&& 31)) (ty := .int) (C := RX3) (T := TX3) (N := 10) hx hb hw inWX3 tyX3 tyX3_ok nmX3 hown hK hP hD hS 0 rfl rfl 4 (by decide) (hw _ w_120) (fun _ h9 => h9) rfl (by decide +kernel) rfl rfl (Nat.le_of_ble_eq_true rfl) dX3_store_131 (fun H locs hP hD hS => ?_)
        have hP : va_P (dC, dI) vwCl [(sH, .inr (3, [.ref qH, .ref oH, .int vS.1, .int vS.2.1, .int (p3 &&& 31), .int vS.2.2.2.1, .int vS.2.2.2.2.1, .int vS.2.2.2.2.2.1, .int vS.2.2.2.2.2.2.1, .int vS.2.2.2.2.2.2.2])), (qH, .inr (1, [.ref qA, .int vQ.2.1, .int vQ.2.2.1, .int vQ.2.2.2])), (qA, .inl (cI, 16, .inl vQ.1)), (oH, .inr (2, [.ref oA, .long vO.2])), (oA, .inl (cB, 4096, .inl vO.1))] H := hP
        have hD : va_D A [(sH, .inr (3, [.ref qH, .ref oH, .int vS.1, .int vS.2.1, .int (p3 &&& 31), .int vS.2.2.2.1, .int vS.2.2.2.2.1, .int vS.2.2.2.2.2.1, .int vS.2.2.2.2.2.2.1, .int vS.2.2.2.2.2.2.2])), (qH, .inr (1, [.ref qA, .int vQ.2.1, .int vQ.2.2.1, .int vQ.2.2.2])), (qA, .inl (cI, 16, .inl vQ.1)), (oH, .inr (2, [.ref oA, .long vO.2])), (oA, .inl (cB, 4096, .inl vO.1))] := hD
        refine lv_goto (tgt := 146) hx hb dX3_store_134 (by decide) ?_
        have hF : (f_X3_store vS vQ vO p1 p2 p3) = ((vS.1, vS.2.1, (p3 &&& 31), vS.2.2.2.1, vS.2.2.2.2.1, vS.2.2.2.2.2.1, vS.2.2.2.2.2.2.1, vS.2.2.2.2.2.2.2), vQ, vO) := by rw [f_X3_store, if_pos c_2, if_pos c_10, if_neg c_16_0, if_neg c_16_1, if_neg c_16_2, if_neg c_16_3, if_pos c_16_4]
        have hP9 := hP.sub (ws' := [(sH, .inr (3, [.ref qH, .ref oH, .int vS.1, .int vS.2.1, .int (p3 &&& 31), .int vS.2.2.2.1, .int vS.2.2.2.2.1, .int vS.2.2.2.2.2.1, .int vS.2.2.2.2.2.2.1, .int vS.2.2.2.2.2.2.2])), (qH, .inr (1, [.ref qA, .int vQ.2.1, .int vQ.2.2.1, .int vQ.2.2.2])), (qA, .inl (cI, 16, .inl vQ.1)), (oH, .inr (2, [.ref oA, .long vO.2])), (oA, .inl (cB, 4096, .inl vO.1))]) [0, 1, 2, 3, 4] rfl
        have hD9 := hD.sub (ws' := [(sH, .inr (3, [.ref qH, .ref oH, .int vS.1, .int vS.2.1, .int (p3 &&& 31), .int vS.2.2.2.1, .int vS.2.2.2.2.1, .int vS.2.2.2.2.2.1, .int vS.2.2.2.2.2.2.1, .int vS.2.2.2.2.2.2.2])), (qH, .inr (1, [.ref qA, .int vQ.2.1, .int vQ.2.2.1, .int vQ.2.2.2])), (qA, .inl (cI, 16, .inl vQ.1)), (oH, .inr (2, [.ref oA, .long vO.2])), (oA, .inl (cB, 4096, .inl vO.1))]) [0, 1, 2, 3, 4] (by decide) rfl
        exact W.vret hx hb hr (fun u hu hW => ⟨⟨(), rfl, trivial, by rw [hu, hF]; exact hP9, by rw [hF]; exact hD9⟩, hS.F hu⟩) hS.2.2 dX3_store_146
      by_cases c_16_5 : (Int64.toInt32 p1) = 5
      · refine lv_tableIn (tgt := 146) hx hb dX3_store_16 (by rw [c_16_5]; decide) (by rw [c_16_5]; decide) (by rw [c_16_5]; rfl) (by decide) ?_
        have hF : (f_X3_store vS vQ vO p1 p2 p3) = (vS, vQ, vO) := by rw [f_X3_store, if_pos c_2, if_pos c_10, if_neg c_16_0, if_neg c_16_1, if_neg c_16_2, if_neg c_16_3, if_neg c_16_4, if_pos c_16_5]
        have hP9 := hP.sub (ws' := [(sH, .inr (3, [.ref qH, .ref oH, .int vS.1, .int vS.2.1, .int vS.2.2.1, .int vS.2.2.2.1, .int vS.2.2.2.2.1, .int vS.2.2.2.2.2.1, .int vS.2.2.2.2.2.2.1, .int vS.2.2.2.2.2.2.2])), (qH, .inr (1, [.ref qA, .int vQ.2.1, .int vQ.2.2.1, .int vQ.2.2.2])), (qA, .inl (cI, 16, .inl vQ.1)), (oH, .inr (2, [.ref oA, .long vO.2])), (oA, .inl (cB, 4096, .inl vO.1))]) [0, 1, 2, 3, 4] rfl
        have hD9 := hD.sub (ws' := [(sH, .inr (3, [.ref qH, .ref oH, .int vS.1, .int vS.2.1, .int vS.2.2.1, .int vS.2.2.2.1, .int vS.2.2.2.2.1, .int vS.2.2.2.2.2.1, .int vS.2.2.2.2.2.2.1, .int vS.2.2.2.2.2.2.2])), (qH, .inr (1, [.ref qA, .int vQ.2.1, .int vQ.2.2.1, .int vQ.2.2.2])), (qA, .inl (cI, 16, .inl vQ.1)), (oH, .inr (2, [.ref oA, .long vO.2])), (oA, .inl (cB, 4096, .inl vO.1))]) [0, 1, 2, 3, 4] (by decide) rfl
        exact W.vret hx hb hr (fun u hu hW => ⟨⟨(), rfl, trivial, by rw [hu, hF]; exact hP9, by rw [hF]; exact hD9⟩, hS.F hu⟩) hS.2.2 dX3_store_146
      by_cases c_16_6 : (Int64.toInt32 p1) = 6
      · refine lv_tableIn (tgt := 146) hx hb dX3_store_16 (by rw [c_16_6]; decide) (by rw [c_16_6]; decide) (by rw [c_16_6]; rfl) (by decide) ?_
        have hF : (f_X3_store vS vQ vO p1 p2 p3) = (vS, vQ, vO) := by rw [f_X3_store, if_pos c_2, if_pos c_10, if_neg c_16_0, if_neg c_16_1, if_neg c_16_2, if_neg c_16_3, if_neg c_16_4, if_neg c_16_5, if_pos c_16_6]
        have hP9 := hP.sub (ws' := [(sH, .inr (3, [.ref qH, .ref oH, .int vS.1, .int vS.2.1, .int vS.2.2.1, .int vS.2.2.2.1, .int vS.2.2.2.2.1, .int vS.2.2.2.2.2.1, .int vS.2.2.2.2.2.2.1, .int vS.2.2.2.2.2.2.2])), (qH, .inr (1, [.ref qA, .int vQ.2.1, .int vQ.2.2.1, .int vQ.2.2.2])), (qA, .inl (cI, 16, .inl vQ.1)), (oH, .inr (2, [.ref oA, .long vO.2])), (oA, .inl (cB, 4096, .inl vO.1))]) [0, 1, 2, 3, 4] rfl
        have hD9 := hD.sub (ws' := [(sH, .inr (3, [.ref qH, .ref oH, .int vS.1, .int vS.2.1, .int vS.2.2.1, .int vS.2.2.2.1, .int vS.2.2.2.2.1, .int vS.2.2.2.2.2.1, .int vS.2.2.2.2.2.2.1, .int vS.2.2.2.2.2.2.2])), (qH, .inr (1, [.ref qA, .int vQ.2.1, .int vQ.2.2.1, .int vQ.2.2.2])), (qA, .inl (cI, 16, .inl vQ.1)), (oH, .inr (2, [.ref oA, .long vO.2])), (oA, .inl (cB, 4096, .inl vO.1))]) [0, 1, 2, 3, 4] (by decide) rfl
        exact W.vret hx hb hr (fun u hu hW => ⟨⟨(), rfl, trivial, by rw [hu, hF]; exact hP9, by rw [hF]; exact hD9⟩, hS.F hu⟩) hS.2.2 dX3_store_146
      by_cases c_16_7 : (Int64.toInt32 p1) = 7
      · refine lv_tableIn (tgt := 137) hx hb dX3_store_16 (by rw [c_16_7]; decide) (by rw [c_16_7]; decide) (by rw [c_16_7]; rfl) (by decide) ?_
        refine lv_aload_n hx hb dX3_store_137 rfl (lv_at hl 0 rfl) ?_
        refine lv_iload hx hb dX3_store_138 (lv_at hl 3 rfl) ?_
        refine va_put (D := (dC, dI)) (ci := 3) (v := .int p3) (ty := .int) (C := RX3) (T := TX3) (N := 10) hx hb hw inWX3 tyX3 tyX3_ok nmX3 hown hK hP hD hS 0 rfl rfl 5 (by decide) (hw _ w_121) (fun _ h9 => h9) rfl (by decide +kernel) rfl rfl (Nat.le_of_ble_eq_true rfl) dX3_store_140 (fun H locs hP hD hS => ?_)
        have hP : va_P (dC, dI) vwCl [(sH, .inr (3, [.ref qH, .ref oH, .int vS.1, .int vS.2.1, .int vS.2.2.1, .int p3, .int vS.2.2.2.2.1, .int vS.2.2.2.2.2.1, .int vS.2.2.2.2.2.2.1, .int vS.2.2.2.2.2.2.2])), (qH, .inr (1, [.ref qA, .int vQ.2.1, .int vQ.2.2.1, .int vQ.2.2.2])), (qA, .inl (cI, 16, .inl vQ.1)), (oH, .inr (2, [.ref oA, .long vO.2])), (oA, .inl (cB, 4096, .inl vO.1))] H := hP
        have hD : va_D A [(sH, .inr (3, [.ref qH, .ref oH, .int vS.1, .int vS.2.1, .int vS.2.2.1, .int p3, .int vS.2.2.2.2.1, .int vS.2.2.2.2.2.1, .int vS.2.2.2.2.2.2.1, .int vS.2.2.2.2.2.2.2])), (qH, .inr (1, [.ref qA, .int vQ.2.1, .int vQ.2.2.1, .int vQ.2.2.2])), (qA, .inl (cI, 16, .inl vQ.1)), (oH, .inr (2, [.ref oA, .long vO.2])), (oA, .inl (cB, 4096, .inl vO.1))] := hD
        refine lv_goto (tgt := 146) hx hb dX3_store_143 (by decide) ?_
        have hF : (f_X3_store vS vQ vO p1 p2 p3) = ((vS.1, vS.2.1, vS.2.2.1, p3, vS.2.2.2.2.1, vS.2.2.2.2.2.1, vS.2.2.2.2.2.2.1, vS.2.2.2.2.2.2.2), vQ, vO) := by rw [f_X3_store, if_pos c_2, if_pos c_10, if_neg c_16_0, if_neg c_16_1, if_neg c_16_2, if_neg c_16_3, if_neg c_16_4, if_neg c_16_5, if_neg c_16_6, if_pos c_16_7]
        have hP9 := hP.sub (ws' := [(sH, .inr (3, [.ref qH, .ref oH, .int vS.1, .int vS.2.1, .int vS.2.2.1, .int p3, .int vS.2.2.2.2.1, .int vS.2.2.2.2.2.1, .int vS.2.2.2.2.2.2.1, .int vS.2.2.2.2.2.2.2])), (qH, .inr (1, [.ref qA, .int vQ.2.1, .int vQ.2.2.1, .int vQ.2.2.2])), (qA, .inl (cI, 16, .inl vQ.1)), (oH, .inr (2, [.ref oA, .long vO.2])), (oA, .inl (cB, 4096, .inl vO.1))]) [0, 1, 2, 3, 4] rfl
        have hD9 := hD.sub (ws' := [(sH, .inr (3, [.ref qH, .ref oH, .int vS.1, .int vS.2.1, .int vS.2.2.1, .int p3, .int vS.2.2.2.2.1, .int vS.2.2.2.2.2.1, .int vS.2.2.2.2.2.2.1, .int vS.2.2.2.2.2.2.2])), (qH, .inr (1, [.ref qA, .int vQ.2.1, .int vQ.2.2.1, .int vQ.2.2.2])), (qA, .inl (cI, 16, .inl vQ.1)), (oH, .inr (2, [.ref oA, .long vO.2])), (oA, .inl (cB, 4096, .inl vO.1))]) [0, 1, 2, 3, 4] (by decide) rfl
        exact W.vret hx hb hr (fun u hu hW => ⟨⟨(), rfl, trivial, by rw [hu, hF]; exact hP9, by rw [hF]; exact hD9⟩, hS.F hu⟩) hS.2.2 dX3_store_146
      refine lv_tableOut (tgt := 146) hx hb dX3_store_16 (by have z_0 := sw_ne (k := 0) c_16_0 rfl; have z_1 := sw_ne (k := 1) c_16_1 rfl; have z_2 := sw_ne (k := 2) c_16_2 rfl; have z_3 := sw_ne (k := 3) c_16_3 rfl; have z_4 := sw_ne (k := 4) c_16_4 rfl; have z_5 := sw_ne (k := 5) c_16_5 rfl; have z_6 := sw_ne (k := 6) c_16_6 rfl; have z_7 := sw_ne (k := 7) c_16_7 rfl; omega) (by decide) ?_
      have hF : (f_X3_store vS vQ vO p1 p2 p3) = (vS, vQ, vO) := by rw [f_X3_store, if_pos c_2, if_pos c_10, if_neg c_16_0, if_neg c_16_1, if_neg c_16_2, if_neg c_16_3, if_neg c_16_4, if_neg c_16_5, if_neg c_16_6, if_neg c_16_7]
      have hP9 := hP.sub (ws' := [(sH, .inr (3, [.ref qH, .ref oH, .int vS.1, .int vS.2.1, .int vS.2.2.1, .int vS.2.2.2.1, .int vS.2.2.2.2.1, .int vS.2.2.2.2.2.1, .int vS.2.2.2.2.2.2.1, .int vS.2.2.2.2.2.2.2])), (qH, .inr (1, [.ref qA, .int vQ.2.1, .int vQ.2.2.1, .int vQ.2.2.2])), (qA, .inl (cI, 16, .inl vQ.1)), (oH, .inr (2, [.ref oA, .long vO.2])), (oA, .inl (cB, 4096, .inl vO.1))]) [0, 1, 2, 3, 4] rfl
      have hD9 := hD.sub (ws' := [(sH, .inr (3, [.ref qH, .ref oH, .int vS.1, .int vS.2.1, .int vS.2.2.1, .int vS.2.2.2.1, .int vS.2.2.2.2.1, .int vS.2.2.2.2.2.1, .int vS.2.2.2.2.2.2.1, .int vS.2.2.2.2.2.2.2])), (qH, .inr (1, [.ref qA, .int vQ.2.1, .int vQ.2.2.1, .int vQ.2.2.2])), (qA, .inl (cI, 16, .inl vQ.1)), (oH, .inr (2, [.ref oA, .long vO.2])), (oA, .inl (cB, 4096, .inl vO.1))]) [0, 1, 2, 3, 4] (by decide) rfl
      exact W.vret hx hb hr (fun u hu hW => ⟨⟨(), rfl, trivial, by rw [hu, hF]; exact hP9, by rw [hF]; exact hD9⟩, hS.F hu⟩) hS.2.2 dX3_store_146
    · have hF : (f_X3_store vS vQ vO p1 p2 p3) = (vS, vQ, vO) := by rw [f_X3_store, if_pos c_2, if_neg c_10]
      have hP9 := hP.sub (ws' := [(sH, .inr (3, [.ref qH, .ref oH, .int vS.1, .int vS.2.1, .int vS.2.2.1, .int vS.2.2.2.1, .int vS.2.2.2.2.1, .int vS.2.2.2.2.2.1, .int vS.2.2.2.2.2.2.1, .int vS.2.2.2.2.2.2.2])), (qH, .inr (1, [.ref qA, .int vQ.2.1, .int vQ.2.2.1, .int vQ.2.2.2])), (qA, .inl (cI, 16, .inl vQ.1)), (oH, .inr (2, [.ref oA, .long vO.2])), (oA, .inl (cB, 4096, .inl vO.1))]) [0, 1, 2, 3, 4] rfl
      have hD9 := hD.sub (ws' := [(sH, .inr (3, [.ref qH, .ref oH, .int vS.1, .int vS.2.1, .int vS.2.2.1, .int vS.2.2.2.1, .int vS.2.2.2.2.1, .int vS.2.2.2.2.2.1, .int vS.2.2.2.2.2.2.1, .int vS.2.2.2.2.2.2.2])), (qH, .inr (1, [.ref qA, .int vQ.2.1, .int vQ.2.2.1, .int vQ.2.2.2])), (qA, .inl (cI, 16, .inl vQ.1)), (oH, .inr (2, [.ref oA, .long vO.2])), (oA, .inl (cB, 4096, .inl vO.1))]) [0, 1, 2, 3, 4] (by decide) rfl
      exact W.vret hx hb hr (fun u hu hW => ⟨⟨(), rfl, trivial, by rw [hu, hF]; exact hP9, by rw [hF]; exact hD9⟩, hS.F hu⟩) hS.2.2 dX3_store_13
