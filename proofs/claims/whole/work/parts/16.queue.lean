theorem in_4095 (x : Int64) : vp_in (Int64.toInt32 (x &&& 4095)) 4096 := by
  rw [Int64.toInt32_and]
  exact pk_andIn _ 12 rfl (by decide)

def f_X1_space (vQ : QS) : Int32 :=
  if vQ.2.2.2 = 0 then ((1 : Int32) - vQ.2.2.1)
  else ((16 : Int32) - vQ.2.2.1)
set_option maxHeartbeats 4000000 in
set_option maxRecDepth 100000 in
theorem k_X1_space (l : Launch) (dC : Nat → ClassId) (dI : Nat → Nat → Nat) (cI cJ cB cZ : ClassId) (qH qA : Nat) (sz : Nat) (vQ : QS)  : Met l yX1_space wsX1_space ({ frames := 0, cells := 0, slots := 0, locals := 0 }) (va_Pc [.ref qH] (fun U => U.heap.size = sz ∧ va_P (dC, dI) vwCl [(qH, .inr (1, [.ref qA, .int vQ.2.1, .int vQ.2.2.1, .int vQ.2.2.2])), (qA, .inl (cI, 16, .inl vQ.1))] U.heap ∧ va_K (dC, dI) vwCl [(cI, .int), (cJ, .long), (cB, .byte), (cZ, .boolean)] U ∧ va_D (fun _ => True) [(qH, .inr (1, [.ref qA, .int vQ.2.1, .int vQ.2.2.1, .int vQ.2.2.2])), (qA, .inl (cI, 16, .inl vQ.1))] ∧ nw_ U)) (va_Qi (fun (r : Int32) (_ : Unit) => r = (f_X1_space vQ)) (fun (_ : Unit) (w : State) => va_P (dC, dI) vwCl [(qH, .inr (1, [.ref qA, .int vQ.2.1, .int vQ.2.2.1, .int vQ.2.2.2])), (qA, .inl (cI, 16, .inl vQ.1))] w.heap ∧ va_D (va_A [(qH, .inr (1, [.ref qA, .int vQ.2.1, .int vQ.2.2.1, .int vQ.2.2.2])), (qA, .inl (cI, 16, .inl vQ.1))] sz) [(qH, .inr (1, [.ref qA, .int vQ.2.1, .int vQ.2.2.1, .int vQ.2.2.2])), (qA, .inl (cI, 16, .inl vQ.1))]) (va_A [(qH, .inr (1, [.ref qA, .int vQ.2.1, .int vQ.2.2.1, .int vQ.2.2.2])), (qA, .inl (cI, 16, .inl vQ.1))] sz)) 0 0 (va_A [(qH, .inr (1, [.ref qA, .int vQ.2.1, .int vQ.2.2.1, .int vQ.2.2.2])), (qA, .inl (cI, 16, .inl vQ.1))] sz) := by
  refine Met.ofW (cc := prog_3_method_2_code) (maxL := 1) (ret := (some .int)) (by decide) rfl ?_
  intro p e s m args below meth c s₁ B hml hv
  obtain ⟨rfl, hsz, hP, hK, hD0, hN⟩ := hv
  have hx := B.exec
  have hb := B.bytes
  have hr := B.returns
  have hw := hw_of (atoms_spec (ws := wsX1_space) B.pre)
  have hown : s.vm.findClass RX1 = some m.cls := findClass_of_methodNamed B.named
  have hlocks := B.notSynchronized
  subst hsz
  have hD := hD0.self (sz := s.heap.size)
  generalize hAe : va_A [(qH, .inr (1, [.ref qA, .int vQ.2.1, .int vQ.2.2.1, .int vQ.2.2.2])), (qA, .inl (cI, 16, .inl vQ.1))] s.heap.size = A at hD ⊢
  have hA : ∀ q : Nat, s.heap.size ≤ q → A q := fun q h => by rw [← hAe]; exact Or.inr h
  have hS : va_S A s.heap s.heap [] := va_S.rf
  have hP : va_P (dC, dI) vwCl [(qH, .inr (1, [.ref qA, .int vQ.2.1, .int vQ.2.2.1, .int vQ.2.2.2])), (qA, .inl (cI, 16, .inl vQ.1))] s.heap := hP
  have hl := lv_entry ([.ref qH]) (n := 1) (Nat.le_of_ble_eq_true rfl)
  rw [lg_entry_eq]
  generalize (lg_sl ([.ref qH]) ++ List.replicate (1 - (lg_sl ([.ref qH])).length) Slot.unset).toArray = ls at hl ⊢
  have hl : lv_has ls 1 [(0, .ref qH)] := hl
  refine lv_aload_n hx hb dX1_space_0 rfl (lv_at hl 0 rfl) ?_
  refine va_get (D := (dC, dI)) (ci := 1) (v := .int vQ.2.2.2) (C := RX1) (T := TX1) (N := 4) hx hb hw inWX1 hown hK hP 0 rfl rfl 3 (by decide) (hw _ w_88) (fun _ h9 => h9) rfl dX1_space_1 ?_
  refine lv_if_eq (tgt := 12) hx hb dX1_space_4 (by decide) (fun c_4 => ?_) (fun c_4 => ?_)
  · refine lv_iconst (v := 1) hx hb dX1_space_12 (by decide) ?_
    refine lv_aload_n hx hb dX1_space_13 rfl (lv_at hl 0 rfl) ?_
    refine va_get (D := (dC, dI)) (ci := 1) (v := .int vQ.2.2.1) (C := RX1) (T := TX1) (N := 4) hx hb hw inWX1 hown hK hP 0 rfl rfl 2 (by decide) (hw _ w_86) (fun _ h9 => h9) rfl dX1_space_14 ?_
    refine lv_isub hx hb dX1_space_17 ?_
    have hF : (f_X1_space vQ) = ((1 : Int32) - vQ.2.2.1) := by rw [f_X1_space, if_pos c_4]
    have hP9 := hP.sub (ws' := [(qH, .inr (1, [.ref qA, .int vQ.2.1, .int vQ.2.2.1, .int vQ.2.2.2])), (qA, .inl (cI, 16, .inl vQ.1))]) [0, 1] rfl
    have hD9 := hD.sub (ws' := [(qH, .inr (1, [.ref qA, .int vQ.2.1, .int vQ.2.2.1, .int vQ.2.2.2])), (qA, .inl (cI, 16, .inl vQ.1))]) [0, 1] (by decide) rfl
    exact W.iret (v := ((1 : Int32) - vQ.2.2.1)) hx hb hr (fun u hu hW => ⟨⟨((1 : Int32) - vQ.2.2.1), (), rfl, hF.symm, by rw [hu]; exact hP9, hD9⟩, hS.F hu⟩) hS.2.2 dX1_space_18
  · refine lv_bipush (v := 16) hx hb dX1_space_7 (by decide) ?_
    refine lv_goto (tgt := 13) hx hb dX1_space_9 (by decide) ?_
    refine lv_aload_n hx hb dX1_space_13 rfl (lv_at hl 0 rfl) ?_
    refine va_get (D := (dC, dI)) (ci := 1) (v := .int vQ.2.2.1) (C := RX1) (T := TX1) (N := 4) hx hb hw inWX1 hown hK hP 0 rfl rfl 2 (by decide) (hw _ w_86) (fun _ h9 => h9) rfl dX1_space_14 ?_
    refine lv_isub hx hb dX1_space_17 ?_
    have hF : (f_X1_space vQ) = ((16 : Int32) - vQ.2.2.1) := by rw [f_X1_space, if_neg c_4]
    have hP9 := hP.sub (ws' := [(qH, .inr (1, [.ref qA, .int vQ.2.1, .int vQ.2.2.1, .int vQ.2.2.2])), (qA, .inl (cI, 16, .inl vQ.1))]) [0, 1] rfl
    have hD9 := hD.sub (ws' := [(qH, .inr (1, [.ref qA, .int vQ.2.1, .int vQ.2.2.1, .int vQ.2.2.2])), (qA, .inl (cI, 16, .inl vQ.1))]) [0, 1] (by decide) rfl
    exact W.iret (v := ((16 : Int32) - vQ.2.2.1)) hx hb hr (fun u hu hW => ⟨⟨((16 : Int32) - vQ.2.2.1), (), rfl, hF.symm, by rw [hu]; exact hP9, hD9⟩, hS.F hu⟩) hS.2.2 dX1_space_18
def f_X1_put (vQ : QS) (p1 : Int32) : Int32 × QS :=
  if 0 < (f_X1_space vQ) then (1, ((upd vQ.1 (Int32.toNatClampNeg ((vQ.2.1 + vQ.2.2.1) &&& 15)) p1), vQ.2.1, (vQ.2.2.1 + 1), vQ.2.2.2))
  else (0, vQ)
set_option maxHeartbeats 4000000 in
set_option maxRecDepth 100000 in
theorem k_X1_put (l : Launch) (dC : Nat → ClassId) (dI : Nat → Nat → Nat) (cI cJ cB cZ : ClassId) (qH qA : Nat) (sz : Nat) (vQ : QS) (p1 : Int32)  : Met l yX1_put wsX1_put ({ frames := 1, cells := 0, slots := 0, locals := 20 }) (va_Pc [.ref qH, .int p1] (fun U => U.heap.size = sz ∧ va_P (dC, dI) vwCl [(qH, .inr (1, [.ref qA, .int vQ.2.1, .int vQ.2.2.1, .int vQ.2.2.2])), (qA, .inl (cI, 16, .inl vQ.1))] U.heap ∧ va_K (dC, dI) vwCl [(cI, .int), (cJ, .long), (cB, .byte), (cZ, .boolean)] U ∧ va_D (fun _ => True) [(qH, .inr (1, [.ref qA, .int vQ.2.1, .int vQ.2.2.1, .int vQ.2.2.2])), (qA, .inl (cI, 16, .inl vQ.1))] ∧ nw_ U)) (va_Qi (fun (r : Int32) (_ : Unit) => r = (f_X1_put vQ p1).1) (fun (_ : Unit) (w : State) => va_P (dC, dI) vwCl [(qH, .inr (1, [.ref qA, .int (f_X1_put vQ p1).2.2.1, .int (f_X1_put vQ p1).2.2.2.1, .int (f_X1_put vQ p1).2.2.2.2])), (qA, .inl (cI, 16, .inl (f_X1_put vQ p1).2.1))] w.heap ∧ va_D (va_A [(qH, .inr (1, [.ref qA, .int vQ.2.1, .int vQ.2.2.1, .int vQ.2.2.2])), (qA, .inl (cI, 16, .inl vQ.1))] sz) [(qH, .inr (1, [.ref qA, .int (f_X1_put vQ p1).2.2.1, .int (f_X1_put vQ p1).2.2.2.1, .int (f_X1_put vQ p1).2.2.2.2])), (qA, .inl (cI, 16, .inl (f_X1_put vQ p1).2.1))]) (va_A [(qH, .inr (1, [.ref qA, .int vQ.2.1, .int vQ.2.2.1, .int vQ.2.2.2])), (qA, .inl (cI, 16, .inl vQ.1))] sz)) 0 0 (va_A [(qH, .inr (1, [.ref qA, .int vQ.2.1, .int vQ.2.2.1, .int vQ.2.2.2])), (qA, .inl (cI, 16, .inl vQ.1))] sz) := by
  refine Met.ofW (cc := prog_3_method_3_code) (maxL := 2) (ret := (some .boolean)) (by decide) rfl ?_
  intro p e s m args below meth c s₁ B hml hv
  obtain ⟨rfl, hsz, hP, hK, hD0, hN⟩ := hv
  have hx := B.exec
  have hb := B.bytes
  have hr := B.returns
  have hw := hw_of (atoms_spec (ws := wsX1_put) B.pre)
  have hown : s.vm.findClass RX1 = some m.cls := findClass_of_methodNamed B.named
  have hlocks := B.notSynchronized
  subst hsz
  have hD := hD0.self (sz := s.heap.size)
  generalize hAe : va_A [(qH, .inr (1, [.ref qA, .int vQ.2.1, .int vQ.2.2.1, .int vQ.2.2.2])), (qA, .inl (cI, 16, .inl vQ.1))] s.heap.size = A at hD ⊢
  have hA : ∀ q : Nat, s.heap.size ≤ q → A q := fun q h => by rw [← hAe]; exact Or.inr h
  have hS : va_S A s.heap s.heap [] := va_S.rf
  have hP : va_P (dC, dI) vwCl [(qH, .inr (1, [.ref qA, .int vQ.2.1, .int vQ.2.2.1, .int vQ.2.2.2])), (qA, .inl (cI, 16, .inl vQ.1))] s.heap := hP
  have hl := lv_entry ([.ref qH, .int p1]) (n := 2) (Nat.le_of_ble_eq_true rfl)
  rw [lg_entry_eq]
  generalize (lg_sl ([.ref qH, .int p1]) ++ List.replicate (2 - (lg_sl ([.ref qH, .int p1])).length) Slot.unset).toArray = ls at hl ⊢
  have hl : lv_has ls 2 [(0, .ref qH), (1, .int p1)] := hl
  refine lv_aload_n hx hb dX1_put_0 rfl (lv_at hl 0 rfl) ?_
  have hPc := hP.sub (ws' := [(qH, .inr (1, [.ref qA, .int vQ.2.1, .int vQ.2.2.1, .int vQ.2.2.2])), (qA, .inl (cI, 16, .inl vQ.1))]) [0, 1] rfl
  have hDc := hD.sub (ws' := [(qH, .inr (1, [.ref qA, .int vQ.2.1, .int vQ.2.2.1, .int vQ.2.2.2])), (qA, .inl (cI, 16, .inl vQ.1))]) [0, 1] (by decide) rfl
  have hFc := va_free (wc := [(qH, .inr (1, [.ref qA, .int vQ.2.1, .int vQ.2.2.1, .int vQ.2.2.2])), (qA, .inl (cI, 16, .inl vQ.1))]) hD hS hA [0, 1] rfl
  refine va_calli (va_runV (As := []) (rest := []) ⟨hx, hb, hml, hown, hw⟩ (k_X1_space l dC dI cI cJ cB cZ qH qA s.heap.size vQ) (cwV 0 hw (gV w_176 w_177 w_178 w_6 w_179) rfl rfl rfl (by decide +kernel) ⟨Nat.le_of_ble_eq_true rfl, Nat.le_of_ble_eq_true rfl⟩) ⟨fun a U g mk q => by obtain ⟨q0, q1, qP, qK, qD, qN⟩ := q; exact ⟨q0, q1, qP, va_K.moved (u := U) (U := U.calling g mk a) (Vm.Alike.refl U.vm) qK, qD, nw_same (s := U) (U := U.calling g mk a) rfl qN⟩, va_recv hK hPc (ci := 1) (q0 := 0) rfl rfl, fun U hU hW => ⟨rfl, by rw [hU], by rw [hU]; exact hPc, va_K.moved hW.alike hK, hDc.weaken (fun _ _ _ _ => trivial), nw_warm hW hN⟩⟩ rfl rfl hl.1 rfl (lv_room (Nat.le_of_ble_eq_true rfl)) dX1_put_1 ⟨Nat.le_of_ble_eq_true rfl, Nat.le_of_ble_eq_true rfl⟩) hS (fun q _ h => hFc q h) hFc (fun r_1 u t9 H1 locs ht hvm hR hB hz1 hk1 hS => ?_)
  replace hR := Eq.symm hR
  subst hR
  obtain ⟨hP1, hD1⟩ := hB
  rw [ht] at hP1
  obtain ⟨hP, hD⟩ := va_join (wr := []) (w1 := [(qH, .inr (1, [.ref qA, .int vQ.2.1, .int vQ.2.2.1, .int vQ.2.2.2])), (qA, .inl (cI, 16, .inl vQ.1))]) hP hD [0, 1] [] rfl rfl (by decide) (by decide) hk1 hFc hP1 hD1
  generalize H1 = H at hP hS ⊢
  have hP : va_P (dC, dI) vwCl [(qH, .inr (1, [.ref qA, .int vQ.2.1, .int vQ.2.2.1, .int vQ.2.2.2])), (qA, .inl (cI, 16, .inl vQ.1))] H := hP
  have hD : va_D A [(qH, .inr (1, [.ref qA, .int vQ.2.1, .int vQ.2.2.1, .int vQ.2.2.2])), (qA, .inl (cI, 16, .inl vQ.1))] := hD
  refine lv_if_gt (tgt := 9) hx hb dX1_put_4 (by decide) (fun c_4 => ?_) (fun c_4 => ?_)
  · refine lv_aload_n hx hb dX1_put_9 rfl (lv_at hl 0 rfl) ?_
    refine va_get (D := (dC, dI)) (ci := 1) (v := .ref qA) (C := RX1) (T := TX1) (N := 4) hx hb hw inWX1 hown hK hP 0 rfl rfl 0 (by decide) (hw _ w_84) (fun _ h9 => h9) rfl dX1_put_10 ?_
    refine lv_aload_n hx hb dX1_put_13 rfl (lv_at hl 0 rfl) ?_
    refine va_get (D := (dC, dI)) (ci := 1) (v := .int vQ.2.1) (C := RX1) (T := TX1) (N := 4) hx hb hw inWX1 hown hK hP 0 rfl rfl 1 (by decide) (hw _ w_85) (fun _ h9 => h9) rfl dX1_put_14 ?_
    refine lv_aload_n hx hb dX1_put_17 rfl (lv_at hl 0 rfl) ?_
    refine va_get (D := (dC, dI)) (ci := 1) (v := .int vQ.2.2.1) (C := RX1) (T := TX1) (N := 4) hx hb hw inWX1 hown hK hP 0 rfl rfl 2 (by decide) (hw _ w_86) (fun _ h9 => h9) rfl dX1_put_18 ?_
    refine lv_iadd hx hb dX1_put_21 ?_
    refine lv_bipush (v := 15) hx hb dX1_put_22 (by decide) ?_
    refine lv_iand hx hb dX1_put_24 ?_
    refine lv_iload_n hx hb dX1_put_25 rfl (lv_at hl 1 rfl) ?_
    have h_26 : vp_in ((vQ.2.1 + vQ.2.2.1) &&& 15) 16 := (pk_andIn _ 4 rfl (by decide))
    refine va_iast hx hb hK hP hD hS 1 0 rfl rfl h_26 dX1_put_26 (fun H locs hP hD hS => ?_)
    have hP : va_P (dC, dI) vwCl [(qH, .inr (1, [.ref qA, .int vQ.2.1, .int vQ.2.2.1, .int vQ.2.2.2])), (qA, .inl (cI, 16, .inl (upd vQ.1 (Int32.toNatClampNeg ((vQ.2.1 + vQ.2.2.1) &&& 15)) p1)))] H := hP
    have hD : va_D A [(qH, .inr (1, [.ref qA, .int vQ.2.1, .int vQ.2.2.1, .int vQ.2.2.2])), (qA, .inl (cI, 16, .inl (upd vQ.1 (Int32.toNatClampNeg ((vQ.2.1 + vQ.2.2.1) &&& 15)) p1)))] := hD
    refine lv_aload_n hx hb dX1_put_27 rfl (lv_at hl 0 rfl) ?_
    refine lv_dup hx hb dX1_put_28 rfl ?_
    refine va_get (D := (dC, dI)) (ci := 1) (v := .int vQ.2.2.1) (C := RX1) (T := TX1) (N := 4) hx hb hw inWX1 hown hK hP 0 rfl rfl 2 (by decide) (hw _ w_86) (fun _ h9 => h9) rfl dX1_put_29 ?_
    refine lv_iconst (v := 1) hx hb dX1_put_32 (by decide) ?_
    refine lv_iadd hx hb dX1_put_33 ?_
    refine va_put (D := (dC, dI)) (ci := 1) (v := .int (vQ.2.2.1 + 1)) (ty := .int) (C := RX1) (T := TX1) (N := 4) hx hb hw inWX1 tyX1 tyX1_ok nmX1 hown hK hP hD hS 0 rfl rfl 2 (by decide) (hw _ w_86) (fun _ h9 => h9) rfl (by decide +kernel) rfl rfl (Nat.le_of_ble_eq_true rfl) dX1_put_34 (fun H locs hP hD hS => ?_)
    have hP : va_P (dC, dI) vwCl [(qH, .inr (1, [.ref qA, .int vQ.2.1, .int (vQ.2.2.1 + 1), .int vQ.2.2.2])), (qA, .inl (cI, 16, .inl (upd vQ.1 (Int32.toNatClampNeg ((vQ.2.1 + vQ.2.2.1) &&& 15)) p1)))] H := hP
    have hD : va_D A [(qH, .inr (1, [.ref qA, .int vQ.2.1, .int (vQ.2.2.1 + 1), .int vQ.2.2.2])), (qA, .inl (cI, 16, .inl (upd vQ.1 (Int32.toNatClampNeg ((vQ.2.1 + vQ.2.2.1) &&& 15)) p1)))] := hD
    refine lv_iconst (v := 1) hx hb dX1_put_37 (by decide) ?_
    have hF : (f_X1_put vQ p1) = (1, ((upd vQ.1 (Int32.toNatClampNeg ((vQ.2.1 + vQ.2.2.1) &&& 15)) p1), vQ.2.1, (vQ.2.2.1 + 1), vQ.2.2.2)) := by rw [f_X1_put, if_pos c_4]
    have hP9 := hP.sub (ws' := [(qH, .inr (1, [.ref qA, .int vQ.2.1, .int (vQ.2.2.1 + 1), .int vQ.2.2.2])), (qA, .inl (cI, 16, .inl (upd vQ.1 (Int32.toNatClampNeg ((vQ.2.1 + vQ.2.2.1) &&& 15)) p1)))]) [0, 1] rfl
    have hD9 := hD.sub (ws' := [(qH, .inr (1, [.ref qA, .int vQ.2.1, .int (vQ.2.2.1 + 1), .int vQ.2.2.2])), (qA, .inl (cI, 16, .inl (upd vQ.1 (Int32.toNatClampNeg ((vQ.2.1 + vQ.2.2.1) &&& 15)) p1)))]) [0, 1] (by decide) rfl
    exact W.zret (v := 1) hx hb hr rfl (fun u hu hW => ⟨⟨1, (), rfl, (congrArg Prod.fst hF).symm, by rw [hu, hF]; exact hP9, by rw [hF]; exact hD9⟩, hS.F hu⟩) hS.2.2 dX1_put_38
  · refine lv_iconst (v := 0) hx hb dX1_put_7 (by decide) ?_
    have hF : (f_X1_put vQ p1) = (0, vQ) := by rw [f_X1_put, if_neg c_4]
    have hP9 := hP.sub (ws' := [(qH, .inr (1, [.ref qA, .int vQ.2.1, .int vQ.2.2.1, .int vQ.2.2.2])), (qA, .inl (cI, 16, .inl vQ.1))]) [0, 1] rfl
    have hD9 := hD.sub (ws' := [(qH, .inr (1, [.ref qA, .int vQ.2.1, .int vQ.2.2.1, .int vQ.2.2.2])), (qA, .inl (cI, 16, .inl vQ.1))]) [0, 1] (by decide) rfl
    exact W.zret (v := 0) hx hb hr rfl (fun u hu hW => ⟨⟨0, (), rfl, (congrArg Prod.fst hF).symm, by rw [hu, hF]; exact hP9, by rw [hF]; exact hD9⟩, hS.F hu⟩) hS.2.2 dX1_put_8
def f_X1_take (vQ : QS) : Int32 × QS :=
  if vQ.2.2.1 = 0 then (0, vQ)
  else ((vQ.1 (Int32.toNatClampNeg vQ.2.1)), (vQ.1, ((vQ.2.1 + 1) &&& 15), (vQ.2.2.1 - 1), vQ.2.2.2))
set_option maxHeartbeats 4000000 in
set_option maxRecDepth 100000 in
theorem k_X1_take (l : Launch) (dC : Nat → ClassId) (dI : Nat → Nat → Nat) (cI cJ cB cZ : ClassId) (qH qA : Nat) (sz : Nat) (vQ : QS) (hq : vp_in vQ.2.1 16) : Met l yX1_take wsX1_take ({ frames := 0, cells := 0, slots := 0, locals := 0 }) (va_Pc [.ref qH] (fun U => U.heap.size = sz ∧ va_P (dC, dI) vwCl [(qH, .inr (1, [.ref qA, .int vQ.2.1, .int vQ.2.2.1, .int vQ.2.2.2])), (qA, .inl (cI, 16, .inl vQ.1))] U.heap ∧ va_K (dC, dI) vwCl [(cI, .int), (cJ, .long), (cB, .byte), (cZ, .boolean)] U ∧ va_D (fun _ => True) [(qH, .inr (1, [.ref qA, .int vQ.2.1, .int vQ.2.2.1, .int vQ.2.2.2])), (qA, .inl (cI, 16, .inl vQ.1))] ∧ nw_ U)) (va_Qi (fun (r : Int32) (_ : Unit) => r = (f_X1_take vQ).1) (fun (_ : Unit) (w : State) => va_P (dC, dI) vwCl [(qH, .inr (1, [.ref qA, .int (f_X1_take vQ).2.2.1, .int (f_X1_take vQ).2.2.2.1, .int (f_X1_take vQ).2.2.2.2])), (qA, .inl (cI, 16, .inl (f_X1_take vQ).2.1))] w.heap ∧ va_D (va_A [(qH, .inr (1, [.ref qA, .int vQ.2.1, .int vQ.2.2.1, .int vQ.2.2.2])), (qA, .inl (cI, 16, .inl vQ.1))] sz) [(qH, .inr (1, [.ref qA, .int (f_X1_take vQ).2.2.1, .int (f_X1_take vQ).2.2.2.1, .int (f_X1_take vQ).2.2.2.2])), (qA, .inl (cI, 16, .inl (f_X1_take vQ).2.1))]) (va_A [(qH, .inr (1, [.ref qA, .int vQ.2.1, .int vQ.2.2.1, .int vQ.2.2.2])), (qA, .inl (cI, 16, .inl vQ.1))] sz)) 0 0 (va_A [(qH, .inr (1, [.ref qA, .int vQ.2.1, .int vQ.2.2.1, .int vQ.2.2.2])), (qA, .inl (cI, 16, .inl vQ.1))] sz) := by
  refine Met.ofW (cc := prog_3_method_4_code) (maxL := 2) (ret := (some .int)) (by decide) rfl ?_
  intro p e s m args below meth c s₁ B hml hv
  obtain ⟨rfl, hsz, hP, hK, hD0, hN⟩ := hv
  have hx := B.exec
  have hb := B.bytes
  have hr := B.returns
  have hw := hw_of (atoms_spec (ws := wsX1_take) B.pre)
  have hown : s.vm.findClass RX1 = some m.cls := findClass_of_methodNamed B.named
  have hlocks := B.notSynchronized
  subst hsz
  have hD := hD0.self (sz := s.heap.size)
  generalize hAe : va_A [(qH, .inr (1, [.ref qA, .int vQ.2.1, .int vQ.2.2.1, .int vQ.2.2.2])), (qA, .inl (cI, 16, .inl vQ.1))] s.heap.size = A at hD ⊢
  have hA : ∀ q : Nat, s.heap.size ≤ q → A q := fun q h => by rw [← hAe]; exact Or.inr h
  have hS : va_S A s.heap s.heap [] := va_S.rf
  have hP : va_P (dC, dI) vwCl [(qH, .inr (1, [.ref qA, .int vQ.2.1, .int vQ.2.2.1, .int vQ.2.2.2])), (qA, .inl (cI, 16, .inl vQ.1))] s.heap := hP
  have hl := lv_entry ([.ref qH]) (n := 2) (Nat.le_of_ble_eq_true rfl)
  rw [lg_entry_eq]
  generalize (lg_sl ([.ref qH]) ++ List.replicate (2 - (lg_sl ([.ref qH])).length) Slot.unset).toArray = ls at hl ⊢
  have hl : lv_has ls 2 [(0, .ref qH)] := hl
  refine lv_aload_n hx hb dX1_take_0 rfl (lv_at hl 0 rfl) ?_
  refine va_get (D := (dC, dI)) (ci := 1) (v := .int vQ.2.2.1) (C := RX1) (T := TX1) (N := 4) hx hb hw inWX1 hown hK hP 0 rfl rfl 2 (by decide) (hw _ w_86) (fun _ h9 => h9) rfl dX1_take_1 ?_
  refine lv_if_ne (tgt := 9) hx hb dX1_take_4 (by decide) (fun c_4 => ?_) (fun c_4 => ?_)
  · refine lv_aload_n hx hb dX1_take_9 rfl (lv_at hl 0 rfl) ?_
    refine va_get (D := (dC, dI)) (ci := 1) (v := .ref qA) (C := RX1) (T := TX1) (N := 4) hx hb hw inWX1 hown hK hP 0 rfl rfl 0 (by decide) (hw _ w_84) (fun _ h9 => h9) rfl dX1_take_10 ?_
    refine lv_aload_n hx hb dX1_take_13 rfl (lv_at hl 0 rfl) ?_
    refine va_get (D := (dC, dI)) (ci := 1) (v := .int vQ.2.1) (C := RX1) (T := TX1) (N := 4) hx hb hw inWX1 hown hK hP 0 rfl rfl 1 (by decide) (hw _ w_85) (fun _ h9 => h9) rfl dX1_take_14 ?_
    have h_17 : vp_in vQ.2.1 16 := hq
    refine va_iald hx hb hK hP 1 0 rfl rfl h_17 dX1_take_17 ?_
    refine lv_istore_n (lv' := [(1, .int (vQ.1 (Int32.toNatClampNeg vQ.2.1))), (0, .ref qH)]) hx hb dX1_take_18 rfl hl (by decide) rfl (fun ls hl => ?_)
    refine lv_aload_n hx hb dX1_take_19 rfl (lv_at hl 1 rfl) ?_
    refine lv_aload_n hx hb dX1_take_20 rfl (lv_at hl 1 rfl) ?_
    refine va_get (D := (dC, dI)) (ci := 1) (v := .int vQ.2.1) (C := RX1) (T := TX1) (N := 4) hx hb hw inWX1 hown hK hP 0 rfl rfl 1 (by decide) (hw _ w_85) (fun _ h9 => h9) rfl dX1_take_21 ?_
    refine lv_iconst (v := 1) hx hb dX1_take_24 (by decide) ?_
    refine lv_iadd hx hb dX1_take_25 ?_
    refine lv_bipush (v := 15) hx hb dX1_take_26 (by decide) ?_
    refine lv_iand hx hb dX1_take_28 ?_
    refine va_put (D := (dC, dI)) (ci := 1) (v := .int ((vQ.2.1 + 1) &&& 15)) (ty := .int) (C := RX1) (T := TX1) (N := 4) hx hb hw inWX1 tyX1 tyX1_ok nmX1 hown hK hP hD hS 0 rfl rfl 1 (by decide) (hw _ w_85) (fun _ h9 => h9) rfl (by decide +kernel) rfl rfl (Nat.le_of_ble_eq_true rfl) dX1_take_29 (fun H locs hP hD hS => ?_)
    have hP : va_P (dC, dI) vwCl [(qH, .inr (1, [.ref qA, .int ((vQ.2.1 + 1) &&& 15), .int vQ.2.2.1, .int vQ.2.2.2])), (qA, .inl (cI, 16, .inl vQ.1))] H := hP
    have hD : va_D A [(qH, .inr (1, [.ref qA, .int ((vQ.2.1 + 1) &&& 15), .int vQ.2.2.1, .int vQ.2.2.2])), (qA, .inl (cI, 16, .inl vQ.1))] := hD
    refine lv_aload_n hx hb dX1_take_32 rfl (lv_at hl 1 rfl) ?_
    refine lv_dup hx hb dX1_take_33 rfl ?_
    refine va_get (D := (dC, dI)) (ci := 1) (v := .int vQ.2.2.1) (C := RX1) (T := TX1) (N := 4) hx hb hw inWX1 hown hK hP 0 rfl rfl 2 (by decide) (hw _ w_86) (fun _ h9 => h9) rfl dX1_take_34 ?_
    refine lv_iconst (v := 1) hx hb dX1_take_37 (by decide) ?_
    refine lv_isub hx hb dX1_take_38 ?_
    refine va_put (D := (dC, dI)) (ci := 1) (v := .int (vQ.2.2.1 - 1)) (ty := .int) (C := RX1) (T := TX1) (N := 4) hx hb hw inWX1 tyX1 tyX1_ok nmX1 hown hK hP hD hS 0 rfl rfl 2 (by decide) (hw _ w_86) (fun _ h9 => h9) rfl (by decide +kernel) rfl rfl (Nat.le_of_ble_eq_true rfl) dX1_take_39 (fun H locs hP hD hS => ?_)
    have hP : va_P (dC, dI) vwCl [(qH, .inr (1, [.ref qA, .int ((vQ.2.1 + 1) &&& 15), .int (vQ.2.2.1 - 1), .int vQ.2.2.2])), (qA, .inl (cI, 16, .inl vQ.1))] H := hP
    have hD : va_D A [(qH, .inr (1, [.ref qA, .int ((vQ.2.1 + 1) &&& 15), .int (vQ.2.2.1 - 1), .int vQ.2.2.2])), (qA, .inl (cI, 16, .inl vQ.1))] := hD
    refine lv_iload_n hx hb dX1_take_42 rfl (lv_at hl 0 rfl) ?_
    have hF : (f_X1_take vQ) = ((vQ.1 (Int32.toNatClampNeg vQ.2.1)), (vQ.1, ((vQ.2.1 + 1) &&& 15), (vQ.2.2.1 - 1), vQ.2.2.2)) := by rw [f_X1_take, if_neg c_4]
    have hP9 := hP.sub (ws' := [(qH, .inr (1, [.ref qA, .int ((vQ.2.1 + 1) &&& 15), .int (vQ.2.2.1 - 1), .int vQ.2.2.2])), (qA, .inl (cI, 16, .inl vQ.1))]) [0, 1] rfl
    have hD9 := hD.sub (ws' := [(qH, .inr (1, [.ref qA, .int ((vQ.2.1 + 1) &&& 15), .int (vQ.2.2.1 - 1), .int vQ.2.2.2])), (qA, .inl (cI, 16, .inl vQ.1))]) [0, 1] (by decide) rfl
    exact W.iret (v := (vQ.1 (Int32.toNatClampNeg vQ.2.1))) hx hb hr (fun u hu hW => ⟨⟨(vQ.1 (Int32.toNatClampNeg vQ.2.1)), (), rfl, (congrArg Prod.fst hF).symm, by rw [hu, hF]; exact hP9, by rw [hF]; exact hD9⟩, hS.F hu⟩) hS.2.2 dX1_take_43
  · refine lv_iconst (v := 0) hx hb dX1_take_7 (by decide) ?_
    have hF : (f_X1_take vQ) = (0, vQ) := by rw [f_X1_take, if_pos c_4]
    have hP9 := hP.sub (ws' := [(qH, .inr (1, [.ref qA, .int vQ.2.1, .int vQ.2.2.1, .int vQ.2.2.2])), (qA, .inl (cI, 16, .inl vQ.1))]) [0, 1] rfl
    have hD9 := hD.sub (ws' := [(qH, .inr (1, [.ref qA, .int vQ.2.1, .int vQ.2.2.1, .int vQ.2.2.2])), (qA, .inl (cI, 16, .inl vQ.1))]) [0, 1] (by decide) rfl
    exact W.iret (v := 0) hx hb hr (fun u hu hW => ⟨⟨0, (), rfl, (congrArg Prod.fst hF).symm, by rw [hu, hF]; exact hP9, by rw [hF]; exact hD9⟩, hS.F hu⟩) hS.2.2 dX1_take_8
def f_X1_configure (vQ : QS) (p1 : Int32) (p2 : Int32) : QS :=
  if p2 = 0 then if p1 = vQ.2.2.2 then (vQ.1, vQ.2.1, vQ.2.2.1, p1)
    else (vQ.1, vQ.2.1, 0, p1)
  else (vQ.1, vQ.2.1, 0, p1)
set_option maxHeartbeats 4000000 in
set_option maxRecDepth 100000 in
theorem k_X1_configure (l : Launch) (dC : Nat → ClassId) (dI : Nat → Nat → Nat) (cI cJ cB cZ : ClassId) (qH qA : Nat) (sz : Nat) (vQ : QS) (p1 : Int32) (p2 : Int32) (hz : p1 = 0 ∨ p1 = 1) : Met l yX1_configure wsX1_configure ({ frames := 0, cells := 0, slots := 0, locals := 0 }) (va_Pc [.ref qH, .int p1, .int p2] (fun U => U.heap.size = sz ∧ va_P (dC, dI) vwCl [(qH, .inr (1, [.ref qA, .int vQ.2.1, .int vQ.2.2.1, .int vQ.2.2.2])), (qA, .inl (cI, 16, .inl vQ.1))] U.heap ∧ va_K (dC, dI) vwCl [(cI, .int), (cJ, .long), (cB, .byte), (cZ, .boolean)] U ∧ va_D (fun _ => True) [(qH, .inr (1, [.ref qA, .int vQ.2.1, .int vQ.2.2.1, .int vQ.2.2.2])), (qA, .inl (cI, 16, .inl vQ.1))] ∧ nw_ U)) (va_Qv (fun (_ : Unit) => True) (fun (_ : Unit) (w : State) => va_P (dC, dI) vwCl [(qH, .inr (1, [.ref qA, .int (f_X1_configure vQ p1 p2).2.1, .int (f_X1_configure vQ p1 p2).2.2.1, .int (f_X1_configure vQ p1 p2).2.2.2])), (qA, .inl (cI, 16, .inl (f_X1_configure vQ p1 p2).1))] w.heap ∧ va_D (va_A [(qH, .inr (1, [.ref qA, .int vQ.2.1, .int vQ.2.2.1, .int vQ.2.2.2])), (qA, .inl (cI, 16, .inl vQ.1))] sz) [(qH, .inr (1, [.ref qA, .int (f_X1_configure vQ p1 p2).2.1, .int (f_X1_configure vQ p1 p2).2.2.1, .int (f_X1_configure vQ p1 p2).2.2.2])), (qA, .inl (cI, 16, .inl (f_X1_configure vQ p1 p2).1))]) (va_A [(qH, .inr (1, [.ref qA, .int vQ.2.1, .int vQ.2.2.1, .int vQ.2.2.2])), (qA, .inl (cI, 16, .inl vQ.1))] sz)) 0 0 (va_A [(qH, .inr (1, [.ref qA, .int vQ.2.1, .int vQ.2.2.1, .int vQ.2.2.2])), (qA, .inl (cI, 16, .inl vQ.1))] sz) := by
  refine Met.ofW (cc := prog_3_method_5_code) (maxL := 3) (ret := none) (by decide) rfl ?_
  intro p e s m args below meth c s₁ B hml hv
  obtain ⟨rfl, hsz, hP, hK, hD0, hN⟩ := hv
  have hx := B.exec
  have hb := B.bytes
  have hr := B.returns
  have hw := hw_of (atoms_spec (ws := wsX1_configure) B.pre)
  have hown : s.vm.findClass RX1 = some m.cls := findClass_of_methodNamed B.named
  have hlocks := B.notSynchronized
  subst hsz
  have hD := hD0.self (sz := s.heap.size)
  generalize hAe : va_A [(qH, .inr (1, [.ref qA, .int vQ.2.1, .int vQ.2.2.1, .int vQ.2.2.2])), (qA, .inl (cI, 16, .inl vQ.1))] s.heap.size = A at hD ⊢
  have hA : ∀ q : Nat, s.heap.size ≤ q → A q := fun q h => by rw [← hAe]; exact Or.inr h
  have hS : va_S A s.heap s.heap [] := va_S.rf
  have hP : va_P (dC, dI) vwCl [(qH, .inr (1, [.ref qA, .int vQ.2.1, .int vQ.2.2.1, .int vQ.2.2.2])), (qA, .inl (cI, 16, .inl vQ.1))] s.heap := hP
  have hl := lv_entry ([.ref qH, .int p1, .int p2]) (n := 3) (Nat.le_of_ble_eq_true rfl)
  rw [lg_entry_eq]
  generalize (lg_sl ([.ref qH, .int p1, .int p2]) ++ List.replicate (3 - (lg_sl ([.ref qH, .int p1, .int p2])).length) Slot.unset).toArray = ls at hl ⊢
  have hl : lv_has ls 3 [(0, .ref qH), (1, .int p1), (2, .int p2)] := hl
  refine lv_iload_n hx hb dX1_configure_0 rfl (lv_at hl 2 rfl) ?_
  refine lv_if_ne (tgt := 12) hx hb dX1_configure_1 (by decide) (fun c_1 => ?_) (fun c_1 => ?_)
  · refine lv_aload_n hx hb dX1_configure_12 rfl (lv_at hl 0 rfl) ?_
    refine lv_iconst (v := 0) hx hb dX1_configure_13 (by decide) ?_
    refine va_put (D := (dC, dI)) (ci := 1) (v := .int 0) (ty := .int) (C := RX1) (T := TX1) (N := 4) hx hb hw inWX1 tyX1 tyX1_ok nmX1 hown hK hP hD hS 0 rfl rfl 2 (by decide) (hw _ w_86) (fun _ h9 => h9) rfl (by decide +kernel) rfl rfl (Nat.le_of_ble_eq_true rfl) dX1_configure_14 (fun H locs hP hD hS => ?_)
    have hP : va_P (dC, dI) vwCl [(qH, .inr (1, [.ref qA, .int vQ.2.1, .int 0, .int vQ.2.2.2])), (qA, .inl (cI, 16, .inl vQ.1))] H := hP
    have hD : va_D A [(qH, .inr (1, [.ref qA, .int vQ.2.1, .int 0, .int vQ.2.2.2])), (qA, .inl (cI, 16, .inl vQ.1))] := hD
    refine lv_aload_n hx hb dX1_configure_17 rfl (lv_at hl 0 rfl) ?_
    refine lv_iload_n hx hb dX1_configure_18 rfl (lv_at hl 1 rfl) ?_
    refine va_put (D := (dC, dI)) (ci := 1) (v := .int p1) (ty := .boolean) (C := RX1) (T := TX1) (N := 4) hx hb hw inWX1 tyX1 tyX1_ok nmX1 hown hK hP hD hS 0 rfl rfl 3 (by decide) (hw _ w_88) (fun _ h9 => h9) rfl (by decide +kernel) (z_nar hz) (z_fit hz) (Nat.le_of_ble_eq_true rfl) dX1_configure_19 (fun H locs hP hD hS => ?_)
    have hP : va_P (dC, dI) vwCl [(qH, .inr (1, [.ref qA, .int vQ.2.1, .int 0, .int p1])), (qA, .inl (cI, 16, .inl vQ.1))] H := hP
    have hD : va_D A [(qH, .inr (1, [.ref qA, .int vQ.2.1, .int 0, .int p1])), (qA, .inl (cI, 16, .inl vQ.1))] := hD
    have hF : (f_X1_configure vQ p1 p2) = (vQ.1, vQ.2.1, 0, p1) := by rw [f_X1_configure, if_neg c_1]
    have hP9 := hP.sub (ws' := [(qH, .inr (1, [.ref qA, .int vQ.2.1, .int 0, .int p1])), (qA, .inl (cI, 16, .inl vQ.1))]) [0, 1] rfl
    have hD9 := hD.sub (ws' := [(qH, .inr (1, [.ref qA, .int vQ.2.1, .int 0, .int p1])), (qA, .inl (cI, 16, .inl vQ.1))]) [0, 1] (by decide) rfl
    exact W.vret hx hb hr (fun u hu hW => ⟨⟨(), rfl, trivial, by rw [hu, hF]; exact hP9, by rw [hF]; exact hD9⟩, hS.F hu⟩) hS.2.2 dX1_configure_22
  · refine lv_iload_n hx hb dX1_configure_4 rfl (lv_at hl 1 rfl) ?_
    refine lv_aload_n hx hb dX1_configure_5 rfl (lv_at hl 0 rfl) ?_
    refine va_get (D := (dC, dI)) (ci := 1) (v := .int vQ.2.2.2) (C := RX1) (T := TX1) (N := 4) hx hb hw inWX1 hown hK hP 0 rfl rfl 3 (by decide) (hw _ w_88) (fun _ h9 => h9) rfl dX1_configure_6 ?_
    refine lv_icmp_eq (tgt := 17) hx hb dX1_configure_9 (by decide) (fun c_9 => ?_) (fun c_9 => ?_)
    · refine lv_aload_n hx hb dX1_configure_17 rfl (lv_at hl 0 rfl) ?_
      refine lv_iload_n hx hb dX1_configure_18 rfl (lv_at hl 1 rfl) ?_
      refine va_put (D := (dC, dI)) (ci := 1) (v := .int p1) (ty := .boolean) (C := RX1) (T := TX1) (N := 4) hx hb hw inWX1 tyX1 tyX1_ok nmX1 hown hK hP hD hS 0 rfl rfl 3 (by decide) (hw _ w_88) (fun _ h9 => h9) rfl (by decide +kernel) (z_nar hz) (z_fit hz) (Nat.le_of_ble_eq_true rfl) dX1_configure_19 (fun H locs hP hD hS => ?_)
      have hP : va_P (dC, dI) vwCl [(qH, .inr (1, [.ref qA, .int vQ.2.1, .int vQ.2.2.1, .int p1])), (qA, .inl (cI, 16, .inl vQ.1))] H := hP
      have hD : va_D A [(qH, .inr (1, [.ref qA, .int vQ.2.1, .int vQ.2.2.1, .int p1])), (qA, .inl (cI, 16, .inl vQ.1))] := hD
      have hF : (f_X1_configure vQ p1 p2) = (vQ.1, vQ.2.1, vQ.2.2.1, p1) := by rw [f_X1_configure, if_pos c_1, if_pos c_9]
      have hP9 := hP.sub (ws' := [(qH, .inr (1, [.ref qA, .int vQ.2.1, .int vQ.2.2.1, .int p1])), (qA, .inl (cI, 16, .inl vQ.1))]) [0, 1] rfl
      have hD9 := hD.sub (ws' := [(qH, .inr (1, [.ref qA, .int vQ.2.1, .int vQ.2.2.1, .int p1])), (qA, .inl (cI, 16, .inl vQ.1))]) [0, 1] (by decide) rfl
      exact W.vret hx hb hr (fun u hu hW => ⟨⟨(), rfl, trivial, by rw [hu, hF]; exact hP9, by rw [hF]; exact hD9⟩, hS.F hu⟩) hS.2.2 dX1_configure_22
    · refine lv_aload_n hx hb dX1_configure_12 rfl (lv_at hl 0 rfl) ?_
      refine lv_iconst (v := 0) hx hb dX1_configure_13 (by decide) ?_
      refine va_put (D := (dC, dI)) (ci := 1) (v := .int 0) (ty := .int) (C := RX1) (T := TX1) (N := 4) hx hb hw inWX1 tyX1 tyX1_ok nmX1 hown hK hP hD hS 0 rfl rfl 2 (by decide) (hw _ w_86) (fun _ h9 => h9) rfl (by decide +kernel) rfl rfl (Nat.le_of_ble_eq_true rfl) dX1_configure_14 (fun H locs hP hD hS => ?_)
      have hP : va_P (dC, dI) vwCl [(qH, .inr (1, [.ref qA, .int vQ.2.1, .int 0, .int vQ.2.2.2])), (qA, .inl (cI, 16, .inl vQ.1))] H := hP
      have hD : va_D A [(qH, .inr (1, [.ref qA, .int vQ.2.1, .int 0, .int vQ.2.2.2])), (qA, .inl (cI, 16, .inl vQ.1))] := hD
      refine lv_aload_n hx hb dX1_configure_17 rfl (lv_at hl 0 rfl) ?_
      refine lv_iload_n hx hb dX1_configure_18 rfl (lv_at hl 1 rfl) ?_
      refine va_put (D := (dC, dI)) (ci := 1) (v := .int p1) (ty := .boolean) (C := RX1) (T := TX1) (N := 4) hx hb hw inWX1 tyX1 tyX1_ok nmX1 hown hK hP hD hS 0 rfl rfl 3 (by decide) (hw _ w_88) (fun _ h9 => h9) rfl (by decide +kernel) (z_nar hz) (z_fit hz) (Nat.le_of_ble_eq_true rfl) dX1_configure_19 (fun H locs hP hD hS => ?_)
      have hP : va_P (dC, dI) vwCl [(qH, .inr (1, [.ref qA, .int vQ.2.1, .int 0, .int p1])), (qA, .inl (cI, 16, .inl vQ.1))] H := hP
      have hD : va_D A [(qH, .inr (1, [.ref qA, .int vQ.2.1, .int 0, .int p1])), (qA, .inl (cI, 16, .inl vQ.1))] := hD
      have hF : (f_X1_configure vQ p1 p2) = (vQ.1, vQ.2.1, 0, p1) := by rw [f_X1_configure, if_pos c_1, if_neg c_9]
      have hP9 := hP.sub (ws' := [(qH, .inr (1, [.ref qA, .int vQ.2.1, .int 0, .int p1])), (qA, .inl (cI, 16, .inl vQ.1))]) [0, 1] rfl
      have hD9 := hD.sub (ws' := [(qH, .inr (1, [.ref qA, .int vQ.2.1, .int 0, .int p1])), (qA, .inl (cI, 16, .inl vQ.1))]) [0, 1] (by decide) rfl
      exact W.vret hx hb hr (fun u hu hW => ⟨⟨(), rfl, trivial, by rw [hu, hF]; exact hP9, by rw [hF]; exact hD9⟩, hS.F hu⟩) hS.2.2 dX1_configure_22
def f_X2_add (vO : OS) (p1 : Int32) : OS :=
  ((upd vO.1 (Int32.toNatClampNeg (Int64.toInt32 (vO.2 &&& 4095))) (vp_nar .byte (Int8.toInt32 (Int32.toInt8 p1)))), (vO.2 + 1))
set_option maxHeartbeats 4000000 in
set_option maxRecDepth 100000 in
theorem k_X2_add (l : Launch) (dC : Nat → ClassId) (dI : Nat → Nat → Nat) (cI cJ cB cZ : ClassId) (oH oA : Nat) (sz : Nat) (vO : OS) (p1 : Int32)  : Met l yX2_add wsX2_add ({ frames := 0, cells := 0, slots := 0, locals := 0 }) (va_Pc [.ref oH, .int p1] (fun U => U.heap.size = sz ∧ va_P (dC, dI) vwCl [(oH, .inr (2, [.ref oA, .long vO.2])), (oA, .inl (cB, 4096, .inl vO.1))] U.heap ∧ va_K (dC, dI) vwCl [(cI, .int), (cJ, .long), (cB, .byte), (cZ, .boolean)] U ∧ va_D (fun _ => True) [(oH, .inr (2, [.ref oA, .long vO.2])), (oA, .inl (cB, 4096, .inl vO.1))] ∧ nw_ U)) (va_Qv (fun (_ : Unit) => True) (fun (_ : Unit) (w : State) => va_P (dC, dI) vwCl [(oH, .inr (2, [.ref oA, .long (f_X2_add vO p1).2])), (oA, .inl (cB, 4096, .inl (f_X2_add vO p1).1))] w.heap ∧ va_D (va_A [(oH, .inr (2, [.ref oA, .long vO.2])), (oA, .inl (cB, 4096, .inl vO.1))] sz) [(oH, .inr (2, [.ref oA, .long (f_X2_add vO p1).2])), (oA, .inl (cB, 4096, .inl (f_X2_add vO p1).1))]) (va_A [(oH, .inr (2, [.ref oA, .long vO.2])), (oA, .inl (cB, 4096, .inl vO.1))] sz)) 0 0 (va_A [(oH, .inr (2, [.ref oA, .long vO.2])), (oA, .inl (cB, 4096, .inl vO.1))] sz) := by
  refine Met.ofW (cc := prog_4_method_2_code) (maxL := 2) (ret := none) (by decide) rfl ?_
  intro p e s m args below meth c s₁ B hml hv
  obtain ⟨rfl, hsz, hP, hK, hD0, hN⟩ := hv
  have hx := B.exec
  have hb := B.bytes
  have hr := B.returns
  have hw := hw_of (atoms_spec (ws := wsX2_add) B.pre)
  have hown : s.vm.findClass RX2 = some m.cls := findClass_of_methodNamed B.named
  have hlocks := B.notSynchronized
  subst hsz
  have hD := hD0.self (sz := s.heap.size)
  generalize hAe : va_A [(oH, .inr (2, [.ref oA, .long vO.2])), (oA, .inl (cB, 4096, .inl vO.1))] s.heap.size = A at hD ⊢
  have hA : ∀ q : Nat, s.heap.size ≤ q → A q := fun q h => by rw [← hAe]; exact Or.inr h
  have hS : va_S A s.heap s.heap [] := va_S.rf
  have hP : va_P (dC, dI) vwCl [(oH, .inr (2, [.ref oA, .long vO.2])), (oA, .inl (cB, 4096, .inl vO.1))] s.heap := hP
  have hl := lv_entry ([.ref oH, .int p1]) (n := 2) (Nat.le_of_ble_eq_true rfl)
  rw [lg_entry_eq]
  generalize (lg_sl ([.ref oH, .int p1]) ++ List.replicate (2 - (lg_sl ([.ref oH, .int p1])).length) Slot.unset).toArray = ls at hl ⊢
  have hl : lv_has ls 2 [(0, .ref oH), (1, .int p1)] := hl
  refine lv_aload_n hx hb dX2_add_0 rfl (lv_at hl 0 rfl) ?_
  refine va_get (D := (dC, dI)) (ci := 2) (v := .ref oA) (C := RX2) (T := TX2) (N := 2) hx hb hw inWX2 hown hK hP 0 rfl rfl 0 (by decide) (hw _ w_105) (fun _ h9 => h9) rfl dX2_add_1 ?_
  refine lv_aload_n hx hb dX2_add_4 rfl (lv_at hl 0 rfl) ?_
  refine va_get (D := (dC, dI)) (ci := 2) (v := .long vO.2) (C := RX2) (T := TX2) (N := 2) hx hb hw inWX2 hown hK hP 0 rfl rfl 1 (by decide) (hw _ w_106) (fun _ h9 => h9) rfl dX2_add_5 ?_
  refine lv_ldc2 (v := 4095) hx hb hown (hw _ w_222) dX2_add_8 ?_
  refine lv_land hx hb dX2_add_11 ?_
  refine lv_l2i hx hb dX2_add_12 rfl ?_
  refine lv_iload_n hx hb dX2_add_13 rfl (lv_at hl 1 rfl) ?_
  refine lv_i2b hx hb dX2_add_14 rfl ?_
  have h_15 : vp_in (Int64.toInt32 (vO.2 &&& 4095)) 4096 := (in_4095 _)
  refine va_bast hx hb hK hP hD hS 1 2 rfl rfl h_15 dX2_add_15 (fun H locs hP hD hS => ?_)
  have hP : va_P (dC, dI) vwCl [(oH, .inr (2, [.ref oA, .long vO.2])), (oA, .inl (cB, 4096, .inl (upd vO.1 (Int32.toNatClampNeg (Int64.toInt32 (vO.2 &&& 4095))) (vp_nar .byte (Int8.toInt32 (Int32.toInt8 p1))))))] H := hP
  have hD : va_D A [(oH, .inr (2, [.ref oA, .long vO.2])), (oA, .inl (cB, 4096, .inl (upd vO.1 (Int32.toNatClampNeg (Int64.toInt32 (vO.2 &&& 4095))) (vp_nar .byte (Int8.toInt32 (Int32.toInt8 p1))))))] := hD
  refine lv_aload_n hx hb dX2_add_16 rfl (lv_at hl 0 rfl) ?_
  refine lv_dup hx hb dX2_add_17 rfl ?_
  refine va_get (D := (dC, dI)) (ci := 2) (v := .long vO.2) (C := RX2) (T := TX2) (N := 2) hx hb hw inWX2 hown hK hP 0 rfl rfl 1 (by decide) (hw _ w_106) (fun _ h9 => h9) rfl dX2_add_18 ?_
  refine lv_lconst (v := 1) hx hb dX2_add_21 (by decide) ?_
  refine lv_ladd hx hb dX2_add_22 ?_
  refine va_put (D := (dC, dI)) (ci := 2) (v := .long (vO.2 + 1)) (ty := .long) (C := RX2) (T := TX2) (N := 2) hx hb hw inWX2 tyX2 tyX2_ok nmX2 hown hK hP hD hS 0 rfl rfl 1 (by decide) (hw _ w_106) (fun _ h9 => h9) rfl (by decide +kernel) rfl rfl (Nat.le_of_ble_eq_true rfl) dX2_add_23 (fun H locs hP hD hS => ?_)
  have hP : va_P (dC, dI) vwCl [(oH, .inr (2, [.ref oA, .long (vO.2 + 1)])), (oA, .inl (cB, 4096, .inl (upd vO.1 (Int32.toNatClampNeg (Int64.toInt32 (vO.2 &&& 4095))) (vp_nar .byte (Int8.toInt32 (Int32.toInt8 p1))))))] H := hP
  have hD : va_D A [(oH, .inr (2, [.ref oA, .long (vO.2 + 1)])), (oA, .inl (cB, 4096, .inl (upd vO.1 (Int32.toNatClampNeg (Int64.toInt32 (vO.2 &&& 4095))) (vp_nar .byte (Int8.toInt32 (Int32.toInt8 p1))))))] := hD
  have hF : (f_X2_add vO p1) = ((upd vO.1 (Int32.toNatClampNeg (Int64.toInt32 (vO.2 &&& 4095))) (vp_nar .byte (Int8.toInt32 (Int32.toInt8 p1)))), (vO.2 + 1)) := by rfl
  have hP9 := hP.sub (ws' := [(oH, .inr (2, [.ref oA, .long (vO.2 + 1)])), (oA, .inl (cB, 4096, .inl (upd vO.1 (Int32.toNatClampNeg (Int64.toInt32 (vO.2 &&& 4095))) (vp_nar .byte (Int8.toInt32 (Int32.toInt8 p1))))))]) [0, 1] rfl
  have hD9 := hD.sub (ws' := [(oH, .inr (2, [.ref oA, .long (vO.2 + 1)])), (oA, .inl (cB, 4096, .inl (upd vO.1 (Int32.toNatClampNeg (Int64.toInt32 (vO.2 &&& 4095))) (vp_nar .byte (Int8.toInt32 (Int32.toInt8 p1))))))]) [0, 1] (by decide) rfl
  exact W.vret hx hb hr (fun u hu hW => ⟨⟨(), rfl, trivial, by rw [hu, hF]; exact hP9, by rw [hF]; exact hD9⟩, hS.F hu⟩) hS.2.2 dX2_add_26
def f_X2_at (vO : OS) (p1 : Int64) : Int32 :=
  if (lg_cmp p1 0) < 0 then (-1)
  else if 0 ≤ (lg_cmp p1 vO.2) then (-1)
    else if (lg_cmp (vO.2 - p1) 4096) ≤ 0 then ((vO.1 (Int32.toNatClampNeg (Int64.toInt32 (p1 &&& 4095)))) &&& 255)
      else (-1)
set_option maxHeartbeats 4000000 in
set_option maxRecDepth 100000 in
theorem k_X2_at (l : Launch) (dC : Nat → ClassId) (dI : Nat → Nat → Nat) (cI cJ cB cZ : ClassId) (oH oA : Nat) (sz : Nat) (vO : OS) (p1 : Int64)  : Met l yX2_at wsX2_at ({ frames := 0, cells := 0, slots := 0, locals := 0 }) (va_Pc [.ref oH, .long p1] (fun U => U.heap.size = sz ∧ va_P (dC, dI) vwCl [(oH, .inr (2, [.ref oA, .long vO.2])), (oA, .inl (cB, 4096, .inl vO.1))] U.heap ∧ va_K (dC, dI) vwCl [(cI, .int), (cJ, .long), (cB, .byte), (cZ, .boolean)] U ∧ va_D (fun _ => True) [(oH, .inr (2, [.ref oA, .long vO.2])), (oA, .inl (cB, 4096, .inl vO.1))] ∧ nw_ U)) (va_Qi (fun (r : Int32) (_ : Unit) => r = (f_X2_at vO p1)) (fun (_ : Unit) (w : State) => va_P (dC, dI) vwCl [(oH, .inr (2, [.ref oA, .long vO.2])), (oA, .inl (cB, 4096, .inl vO.1))] w.heap ∧ va_D (va_A [(oH, .inr (2, [.ref oA, .long vO.2])), (oA, .inl (cB, 4096, .inl vO.1))] sz) [(oH, .inr (2, [.ref oA, .long vO.2])), (oA, .inl (cB, 4096, .inl vO.1))]) (va_A [(oH, .inr (2, [.ref oA, .long vO.2])), (oA, .inl (cB, 4096, .inl vO.1))] sz)) 0 0 (va_A [(oH, .inr (2, [.ref oA, .long vO.2])), (oA, .inl (cB, 4096, .inl vO.1))] sz) := by
  refine Met.ofW (cc := prog_4_method_3_code) (maxL := 3) (ret := (some .int)) (by decide) rfl ?_
  intro p e s m args below meth c s₁ B hml hv
  obtain ⟨rfl, hsz, hP, hK, hD0, hN⟩ := hv
  have hx := B.exec
  have hb := B.bytes
  have hr := B.returns
  have hw := hw_of (atoms_spec (ws := wsX2_at) B.pre)
  have hown : s.vm.findClass RX2 = some m.cls := findClass_of_methodNamed B.named
  have hlocks := B.notSynchronized
  subst hsz
  have hD := hD0.self (sz := s.heap.size)
  generalize hAe : va_A [(oH, .inr (2, [.ref oA, .long vO.2])), (oA, .inl (cB, 4096, .inl vO.1))] s.heap.size = A at hD ⊢
  have hA : ∀ q : Nat, s.heap.size ≤ q → A q := fun q h => by rw [← hAe]; exact Or.inr h
  have hS : va_S A s.heap s.heap [] := va_S.rf
  have hP : va_P (dC, dI) vwCl [(oH, .inr (2, [.ref oA, .long vO.2])), (oA, .inl (cB, 4096, .inl vO.1))] s.heap := hP
  have hl := lv_entry ([.ref oH, .long p1]) (n := 3) (Nat.le_of_ble_eq_true rfl)
  rw [lg_entry_eq]
  generalize (lg_sl ([.ref oH, .long p1]) ++ List.replicate (3 - (lg_sl ([.ref oH, .long p1])).length) Slot.unset).toArray = ls at hl ⊢
  have hl : lv_has ls 3 [(0, .ref oH), (1, .long p1)] := hl
  refine lv_lload_n hx hb dX2_at_0 rfl (lv_at hl 1 rfl) ?_
  refine lv_lconst (v := 0) hx hb dX2_at_1 (by decide) ?_
  refine W.lcmp hx hb dX2_at_2 ?_
  refine lv_if_lt (tgt := 28) hx hb dX2_at_3 (by decide) (fun c_3 => ?_) (fun c_3 => ?_)
  · refine lv_iconst (v := (-1)) hx hb dX2_at_28 (by decide) ?_
    have hF : (f_X2_at vO p1) = (-1) := by rw [f_X2_at, if_pos c_3]
    have hP9 := hP.sub (ws' := [(oH, .inr (2, [.ref oA, .long vO.2])), (oA, .inl (cB, 4096, .inl vO.1))]) [0, 1] rfl
    have hD9 := hD.sub (ws' := [(oH, .inr (2, [.ref oA, .long vO.2])), (oA, .inl (cB, 4096, .inl vO.1))]) [0, 1] (by decide) rfl
    exact W.iret (v := (-1)) hx hb hr (fun u hu hW => ⟨⟨(-1), (), rfl, hF.symm, by rw [hu]; exact hP9, hD9⟩, hS.F hu⟩) hS.2.2 dX2_at_29
  · refine lv_lload_n hx hb dX2_at_6 rfl (lv_at hl 1 rfl) ?_
    refine lv_aload_n hx hb dX2_at_7 rfl (lv_at hl 0 rfl) ?_
    refine va_get (D := (dC, dI)) (ci := 2) (v := .long vO.2) (C := RX2) (T := TX2) (N := 2) hx hb hw inWX2 hown hK hP 0 rfl rfl 1 (by decide) (hw _ w_106) (fun _ h9 => h9) rfl dX2_at_8 ?_
    refine W.lcmp hx hb dX2_at_11 ?_
    refine lv_if_ge (tgt := 28) hx hb dX2_at_12 (by decide) (fun c_12 => ?_) (fun c_12 => ?_)
    · refine lv_iconst (v := (-1)) hx hb dX2_at_28 (by decide) ?_
      have hF : (f_X2_at vO p1) = (-1) := by rw [f_X2_at, if_neg c_3, if_pos c_12]
      have hP9 := hP.sub (ws' := [(oH, .inr (2, [.ref oA, .long vO.2])), (oA, .inl (cB, 4096, .inl vO.1))]) [0, 1] rfl
      have hD9 := hD.sub (ws' := [(oH, .inr (2, [.ref oA, .long vO.2])), (oA, .inl (cB, 4096, .inl vO.1))]) [0, 1] (by decide) rfl
      exact W.iret (v := (-1)) hx hb hr (fun u hu hW => ⟨⟨(-1), (), rfl, hF.symm, by rw [hu]; exact hP9, hD9⟩, hS.F hu⟩) hS.2.2 dX2_at_29
    · refine lv_aload_n hx hb dX2_at_15 rfl (lv_at hl 0 rfl) ?_
      refine va_get (D := (dC, dI)) (ci := 2) (v := .long vO.2) (C := RX2) (T := TX2) (N := 2) hx hb hw inWX2 hown hK hP 0 rfl rfl 1 (by decide) (hw _ w_106) (fun _ h9 => h9) rfl dX2_at_16 ?_
      refine lv_lload_n hx hb dX2_at_19 rfl (lv_at hl 1 rfl) ?_
      refine lv_lsub hx hb dX2_at_20 ?_
      refine lv_ldc2 (v := 4096) hx hb hown (hw _ w_221) dX2_at_21 ?_
      refine W.lcmp hx hb dX2_at_24 ?_
      refine lv_if_le (tgt := 30) hx hb dX2_at_25 (by decide) (fun c_25 => ?_) (fun c_25 => ?_)
      · refine lv_aload_n hx hb dX2_at_30 rfl (lv_at hl 0 rfl) ?_
        refine va_get (D := (dC, dI)) (ci := 2) (v := .ref oA) (C := RX2) (T := TX2) (N := 2) hx hb hw inWX2 hown hK hP 0 rfl rfl 0 (by decide) (hw _ w_105) (fun _ h9 => h9) rfl dX2_at_31 ?_
        refine lv_lload_n hx hb dX2_at_34 rfl (lv_at hl 1 rfl) ?_
        refine lv_ldc2 (v := 4095) hx hb hown (hw _ w_222) dX2_at_35 ?_
        refine lv_land hx hb dX2_at_38 ?_
        refine lv_l2i hx hb dX2_at_39 rfl ?_
        have h_40 : vp_in (Int64.toInt32 (p1 &&& 4095)) 4096 := (in_4095 _)
        refine va_bald hx hb hK hP 1 2 rfl rfl h_40 dX2_at_40 ?_
        refine lv_sipush (v := 255) hx hb dX2_at_41 (by decide) ?_
        refine lv_iand hx hb dX2_at_44 ?_
        have hF : (f_X2_at vO p1) = ((vO.1 (Int32.toNatClampNeg (Int64.toInt32 (p1 &&& 4095)))) &&& 255) := by rw [f_X2_at, if_neg c_3, if_neg c_12, if_pos c_25]
        have hP9 := hP.sub (ws' := [(oH, .inr (2, [.ref oA, .long vO.2])), (oA, .inl (cB, 4096, .inl vO.1))]) [0, 1] rfl
        have hD9 := hD.sub (ws' := [(oH, .inr (2, [.ref oA, .long vO.2])), (oA, .inl (cB, 4096, .inl vO.1))]) [0, 1] (by decide) rfl
        exact W.iret (v := ((vO.1 (Int32.toNatClampNeg (Int64.toInt32 (p1 &&& 4095)))) &&& 255)) hx hb hr (fun u hu hW => ⟨⟨((vO.1 (Int32.toNatClampNeg (Int64.toInt32 (p1 &&& 4095)))) &&& 255), (), rfl, hF.symm, by rw [hu]; exact hP9, hD9⟩, hS.F hu⟩) hS.2.2 dX2_at_45
      · refine lv_iconst (v := (-1)) hx hb dX2_at_28 (by decide) ?_
        have hF : (f_X2_at vO p1) = (-1) := by rw [f_X2_at, if_neg c_3, if_neg c_12, if_neg c_25]
        have hP9 := hP.sub (ws' := [(oH, .inr (2, [.ref oA, .long vO.2])), (oA, .inl (cB, 4096, .inl vO.1))]) [0, 1] rfl
        have hD9 := hD.sub (ws' := [(oH, .inr (2, [.ref oA, .long vO.2])), (oA, .inl (cB, 4096, .inl vO.1))]) [0, 1] (by decide) rfl
        exact W.iret (v := (-1)) hx hb hr (fun u hu hW => ⟨⟨(-1), (), rfl, hF.symm, by rw [hu]; exact hP9, hD9⟩, hS.F hu⟩) hS.2.2 dX2_at_29
