def f_X5_processors (n : Nat) : Int32 :=
  (nI n)
set_option maxHeartbeats 4000000 in
set_option maxRecDepth 100000 in
theorem k_X5_processors (l : Launch) (dC : Nat → ClassId) (dI : Nat → Nat → Nat) (cI cJ cB cZ : ClassId) (bH tH kH sH : Nat) (sz : Nat) (n : Nat)  : Met l yX5_processors wsX5_processors ({ frames := 0, cells := 0, slots := 0, locals := 0 }) (va_Pc [.ref bH] (fun U => U.heap.size = sz ∧ va_P (dC, dI) vwCl [(bH, .inr (5, [.int (nI n), .ref tH, .ref kH, .ref sH]))] U.heap ∧ va_K (dC, dI) vwCl [(cI, .int), (cJ, .long), (cB, .byte), (cZ, .boolean)] U ∧ va_D (fun _ => True) [(bH, .inr (5, [.int (nI n), .ref tH, .ref kH, .ref sH]))] ∧ nw_ U)) (va_Qi (fun (r : Int32) (_ : Unit) => r = (f_X5_processors n)) (fun (_ : Unit) (w : State) => va_P (dC, dI) vwCl [(bH, .inr (5, [.int (nI n), .ref tH, .ref kH, .ref sH]))] w.heap ∧ va_D (va_A [(bH, .inr (5, [.int (nI n), .ref tH, .ref kH, .ref sH]))] sz) [(bH, .inr (5, [.int (nI n), .ref tH, .ref kH, .ref sH]))]) (va_A [(bH, .inr (5, [.int (nI n), .ref tH, .ref kH, .ref sH]))] sz)) 0 0 (va_A [(bH, .inr (5, [.int (nI n), .ref tH, .ref kH, .ref sH]))] sz) := by
  refine Met.ofW (cc := prog_1_method_2_code) (maxL := 1) (ret := (some .int)) (by decide) rfl ?_
  intro p e s m args below meth c s₁ B hml hv
  obtain ⟨rfl, hsz, hP, hK, hD0, hN⟩ := hv
  have hx := B.exec
  have hb := B.bytes
  have hr := B.returns
  have hw := hw_of (atoms_spec (ws := wsX5_processors) B.pre)
  have hown : s.vm.findClass RX5 = some m.cls := findClass_of_methodNamed B.named
  have hlocks := B.notSynchronized
  subst hsz
  have hD := hD0.self (sz := s.heap.size)
  generalize hAe : va_A [(bH, .inr (5, [.int (nI n), .ref tH, .ref kH, .ref sH]))] s.heap.size = A at hD ⊢
  have hA : ∀ q : Nat, s.heap.size ≤ q → A q := fun q h => by rw [← hAe]; exact Or.inr h
  have hS : va_S A s.heap s.heap [] := va_S.rf
  have hP : va_P (dC, dI) vwCl [(bH, .inr (5, [.int (nI n), .ref tH, .ref kH, .ref sH]))] s.heap := hP
  have hl := lv_entry ([.ref bH]) (n := 1) (Nat.le_of_ble_eq_true rfl)
  rw [lg_entry_eq]
  generalize (lg_sl ([.ref bH]) ++ List.replicate (1 - (lg_sl ([.ref bH])).length) Slot.unset).toArray = ls at hl ⊢
  have hl : lv_has ls 1 [(0, .ref bH)] := hl
  refine lv_aload_n hx hb dX5_processors_0 rfl (lv_at hl 0 rfl) ?_
  refine va_get (D := (dC, dI)) (ci := 5) (v := .int (nI n)) (C := RX5) (T := TX5) (N := 4) hx hb hw inWX5 hown hK hP 0 rfl rfl 0 (by decide) (hw _ w_147) (fun _ h9 => h9) rfl dX5_processors_1 ?_
  have hF : (f_X5_processors n) = (nI n) := by rfl
  have hP9 := hP.sub (ws' := [(bH, .inr (5, [.int (nI n), .ref tH, .ref kH, .ref sH]))]) [0] rfl
  have hD9 := hD.sub (ws' := [(bH, .inr (5, [.int (nI n), .ref tH, .ref kH, .ref sH]))]) [0] (by decide) rfl
  exact W.iret (v := (nI n)) hx hb hr (fun u hu hW => ⟨⟨(nI n), (), rfl, hF.symm, by rw [hu]; exact hP9, hD9⟩, hS.F hu⟩) hS.2.2 dX5_processors_4
def f_X5_room (vQ : QS) : Int32 :=
  (f_X1_space vQ)
set_option maxHeartbeats 4000000 in
set_option maxRecDepth 100000 in
theorem k_X5_room (l : Launch) (dC : Nat → ClassId) (dI : Nat → Nat → Nat) (cI cJ cB cZ : ClassId) (bH tH kH sH qH oH qA : Nat) (sz : Nat) (n : Nat) (vS : SS) (vQ : QS)  : Met l yX5_room wsX5_room ({ frames := 1, cells := 0, slots := 0, locals := 20 }) (va_Pc [.ref bH] (fun U => U.heap.size = sz ∧ va_P (dC, dI) vwCl [(bH, .inr (5, [.int (nI n), .ref tH, .ref kH, .ref sH])), (sH, .inr (3, [.ref qH, .ref oH, .int vS.1, .int vS.2.1, .int vS.2.2.1, .int vS.2.2.2.1, .int vS.2.2.2.2.1, .int vS.2.2.2.2.2.1, .int vS.2.2.2.2.2.2.1, .int vS.2.2.2.2.2.2.2])), (qH, .inr (1, [.ref qA, .int vQ.2.1, .int vQ.2.2.1, .int vQ.2.2.2])), (qA, .inl (cI, 16, .inl vQ.1))] U.heap ∧ va_K (dC, dI) vwCl [(cI, .int), (cJ, .long), (cB, .byte), (cZ, .boolean)] U ∧ va_D (fun _ => True) [(bH, .inr (5, [.int (nI n), .ref tH, .ref kH, .ref sH])), (sH, .inr (3, [.ref qH, .ref oH, .int vS.1, .int vS.2.1, .int vS.2.2.1, .int vS.2.2.2.1, .int vS.2.2.2.2.1, .int vS.2.2.2.2.2.1, .int vS.2.2.2.2.2.2.1, .int vS.2.2.2.2.2.2.2])), (qH, .inr (1, [.ref qA, .int vQ.2.1, .int vQ.2.2.1, .int vQ.2.2.2])), (qA, .inl (cI, 16, .inl vQ.1))] ∧ nw_ U)) (va_Qi (fun (r : Int32) (_ : Unit) => r = (f_X5_room vQ)) (fun (_ : Unit) (w : State) => va_P (dC, dI) vwCl [(bH, .inr (5, [.int (nI n), .ref tH, .ref kH, .ref sH])), (sH, .inr (3, [.ref qH, .ref oH, .int vS.1, .int vS.2.1, .int vS.2.2.1, .int vS.2.2.2.1, .int vS.2.2.2.2.1, .int vS.2.2.2.2.2.1, .int vS.2.2.2.2.2.2.1, .int vS.2.2.2.2.2.2.2])), (qH, .inr (1, [.ref qA, .int vQ.2.1, .int vQ.2.2.1, .int vQ.2.2.2])), (qA, .inl (cI, 16, .inl vQ.1))] w.heap ∧ va_D (va_A [(bH, .inr (5, [.int (nI n), .ref tH, .ref kH, .ref sH])), (sH, .inr (3, [.ref qH, .ref oH, .int vS.1, .int vS.2.1, .int vS.2.2.1, .int vS.2.2.2.1, .int vS.2.2.2.2.1, .int vS.2.2.2.2.2.1, .int vS.2.2.2.2.2.2.1, .int vS.2.2.2.2.2.2.2])), (qH, .inr (1, [.ref qA, .int vQ.2.1, .int vQ.2.2.1, .int vQ.2.2.2])), (qA, .inl (cI, 16, .inl vQ.1))] sz) [(bH, .inr (5, [.int (nI n), .ref tH, .ref kH, .ref sH])), (sH, .inr (3, [.ref qH, .ref oH, .int vS.1, .int vS.2.1, .int vS.2.2.1, .int vS.2.2.2.1, .int vS.2.2.2.2.1, .int vS.2.2.2.2.2.1, .int vS.2.2.2.2.2.2.1, .int vS.2.2.2.2.2.2.2])), (qH, .inr (1, [.ref qA, .int vQ.2.1, .int vQ.2.2.1, .int vQ.2.2.2])), (qA, .inl (cI, 16, .inl vQ.1))]) (va_A [(bH, .inr (5, [.int (nI n), .ref tH, .ref kH, .ref sH])), (sH, .inr (3, [.ref qH, .ref oH, .int vS.1, .int vS.2.1, .int vS.2.2.1, .int vS.2.2.2.1, .int vS.2.2.2.2.1, .int vS.2.2.2.2.2.1, .int vS.2.2.2.2.2.2.1, .int vS.2.2.2.2.2.2.2])), (qH, .inr (1, [.ref qA, .int vQ.2.1, .int vQ.2.2.1, .int vQ.2.2.2])), (qA, .inl (cI, 16, .inl vQ.1))] sz)) 0 0 (va_A [(bH, .inr (5, [.int (nI n), .ref tH, .ref kH, .ref sH])), (sH, .inr (3, [.ref qH, .ref oH, .int vS.1, .int vS.2.1, .int vS.2.2.1, .int vS.2.2.2.1, .int vS.2.2.2.2.1, .int vS.2.2.2.2.2.1, .int vS.2.2.2.2.2.2.1, .int vS.2.2.2.2.2.2.2])), (qH, .inr (1, [.ref qA, .int vQ.2.1, .int vQ.2.2.1, .int vQ.2.2.2])), (qA, .inl (cI, 16, .inl vQ.1))] sz) := by
  refine Met.ofW (cc := prog_1_method_7_code) (maxL := 1) (ret := (some .int)) (by decide) rfl ?_
  intro p e s m args below meth c s₁ B hml hv
  obtain ⟨rfl, hsz, hP, hK, hD0, hN⟩ := hv
  have hx := B.exec
  have hb := B.bytes
  have hr := B.returns
  have hw := hw_of (atoms_spec (ws := wsX5_room) B.pre)
  have hown : s.vm.findClass RX5 = some m.cls := findClass_of_methodNamed B.named
  have hlocks := B.notSynchronized
  subst hsz
  have hD := hD0.self (sz := s.heap.size)
  generalize hAe : va_A [(bH, .inr (5, [.int (nI n), .ref tH, .ref kH, .ref sH])), (sH, .inr (3, [.ref qH, .ref oH, .int vS.1, .int vS.2.1, .int vS.2.2.1, .int vS.2.2.2.1, .int vS.2.2.2.2.1, .int vS.2.2.2.2.2.1, .int vS.2.2.2.2.2.2.1, .int vS.2.2.2.2.2.2.2])), (qH, .inr (1, [.ref qA, .int vQ.2.1, .int vQ.2.2.1, .int vQ.2.2.2])), (qA, .inl (cI, 16, .inl vQ.1))] s.heap.size = A at hD ⊢
  have hA : ∀ q : Nat, s.heap.size ≤ q → A q := fun q h => by rw [← hAe]; exact Or.inr h
  have hS : va_S A s.heap s.heap [] := va_S.rf
  have hP : va_P (dC, dI) vwCl [(bH, .inr (5, [.int (nI n), .ref tH, .ref kH, .ref sH])), (sH, .inr (3, [.ref qH, .ref oH, .int vS.1, .int vS.2.1, .int vS.2.2.1, .int vS.2.2.2.1, .int vS.2.2.2.2.1, .int vS.2.2.2.2.2.1, .int vS.2.2.2.2.2.2.1, .int vS.2.2.2.2.2.2.2])), (qH, .inr (1, [.ref qA, .int vQ.2.1, .int vQ.2.2.1, .int vQ.2.2.2])), (qA, .inl (cI, 16, .inl vQ.1))] s.heap := hP
  have hl := lv_entry ([.ref bH]) (n := 1) (Nat.le_of_ble_eq_true rfl)
  rw [lg_entry_eq]
  generalize (lg_sl ([.ref bH]) ++ List.replicate (1 - (lg_sl ([.ref bH])).length) Slot.unset).toArray = ls at hl ⊢
  have hl : lv_has ls 1 [(0, .ref bH)] := hl
  refine lv_aload_n hx hb dX5_room_0 rfl (lv_at hl 0 rfl) ?_
  refine va_get (D := (dC, dI)) (ci := 5) (v := .ref sH) (C := RX5) (T := TX5) (N := 4) hx hb hw inWX5 hown hK hP 0 rfl rfl 3 (by decide) (hw _ w_150) (fun _ h9 => h9) rfl dX5_room_1 ?_
  refine va_getN (D := (dC, dI)) (ci := 3) (v := .ref qH) (C := RX3) (T := TX3) (N := 10) hx hb hw inWX3 hown hK hP 1 rfl rfl 0 (by decide) (va_Nw.use rfl (hN _ n_115)) (fun _ h9 => h9) rfl dX5_room_4 ?_
  have hPc := hP.sub (ws' := [(qH, .inr (1, [.ref qA, .int vQ.2.1, .int vQ.2.2.1, .int vQ.2.2.2])), (qA, .inl (cI, 16, .inl vQ.1))]) [2, 3] rfl
  have hDc := hD.sub (ws' := [(qH, .inr (1, [.ref qA, .int vQ.2.1, .int vQ.2.2.1, .int vQ.2.2.2])), (qA, .inl (cI, 16, .inl vQ.1))]) [2, 3] (by decide) rfl
  have hFc := va_free (wc := [(qH, .inr (1, [.ref qA, .int vQ.2.1, .int vQ.2.2.1, .int vQ.2.2.2])), (qA, .inl (cI, 16, .inl vQ.1))]) hD hS hA [2, 3] rfl
  refine va_calli (va_runV (As := []) (rest := []) ⟨hx, hb, hml, hown, hw⟩ (k_X1_space l dC dI cI cJ cB cZ qH qA s.heap.size vQ) (cwV 0 hw (gV w_200 w_177 w_178 w_6 w_179) rfl rfl rfl (by decide +kernel) ⟨Nat.le_of_ble_eq_true rfl, Nat.le_of_ble_eq_true rfl⟩) ⟨fun a U g mk q => by obtain ⟨q0, q1, qP, qK, qD, qN⟩ := q; exact ⟨q0, q1, qP, va_K.moved (u := U) (U := U.calling g mk a) (Vm.Alike.refl U.vm) qK, qD, nw_same (s := U) (U := U.calling g mk a) rfl qN⟩, va_recv hK hPc (ci := 1) (q0 := 0) rfl rfl, fun U hU hW => ⟨rfl, by rw [hU], by rw [hU]; exact hPc, va_K.moved hW.alike hK, hDc.weaken (fun _ _ _ _ => trivial), nw_warm hW hN⟩⟩ rfl rfl hl.1 rfl (lv_room (Nat.le_of_ble_eq_true rfl)) dX5_room_7 ⟨Nat.le_of_ble_eq_true rfl, Nat.le_of_ble_eq_true rfl⟩) hS (fun q _ h => hFc q h) hFc (fun r_7 u t9 H1 locs ht hvm hR hB hz1 hk1 hS => ?_)
  replace hR := Eq.symm hR
  subst hR
  obtain ⟨hP1, hD1⟩ := hB
  rw [ht] at hP1
  obtain ⟨hP, hD⟩ := va_join (wr := [(bH, .inr (5, [.int (nI n), .ref tH, .ref kH, .ref sH])), (sH, .inr (3, [.ref qH, .ref oH, .int vS.1, .int vS.2.1, .int vS.2.2.1, .int vS.2.2.2.1, .int vS.2.2.2.2.1, .int vS.2.2.2.2.2.1, .int vS.2.2.2.2.2.2.1, .int vS.2.2.2.2.2.2.2]))]) (w1 := [(qH, .inr (1, [.ref qA, .int vQ.2.1, .int vQ.2.2.1, .int vQ.2.2.2])), (qA, .inl (cI, 16, .inl vQ.1))]) hP hD [2, 3] [0, 1] rfl rfl (by decide) (by decide) hk1 hFc hP1 hD1
  generalize H1 = H at hP hS ⊢
  have hP : va_P (dC, dI) vwCl [(bH, .inr (5, [.int (nI n), .ref tH, .ref kH, .ref sH])), (sH, .inr (3, [.ref qH, .ref oH, .int vS.1, .int vS.2.1, .int vS.2.2.1, .int vS.2.2.2.1, .int vS.2.2.2.2.1, .int vS.2.2.2.2.2.1, .int vS.2.2.2.2.2.2.1, .int vS.2.2.2.2.2.2.2])), (qH, .inr (1, [.ref qA, .int vQ.2.1, .int vQ.2.2.1, .int vQ.2.2.2])), (qA, .inl (cI, 16, .inl vQ.1))] H := hP
  have hD : va_D A [(bH, .inr (5, [.int (nI n), .ref tH, .ref kH, .ref sH])), (sH, .inr (3, [.ref qH, .ref oH, .int vS.1, .int vS.2.1, .int vS.2.2.1, .int vS.2.2.2.1, .int vS.2.2.2.2.1, .int vS.2.2.2.2.2.1, .int vS.2.2.2.2.2.2.1, .int vS.2.2.2.2.2.2.2])), (qH, .inr (1, [.ref qA, .int vQ.2.1, .int vQ.2.2.1, .int vQ.2.2.2])), (qA, .inl (cI, 16, .inl vQ.1))] := hD
  have hF : (f_X5_room vQ) = (f_X1_space vQ) := by rfl
  have hP9 := hP.sub (ws' := [(bH, .inr (5, [.int (nI n), .ref tH, .ref kH, .ref sH])), (sH, .inr (3, [.ref qH, .ref oH, .int vS.1, .int vS.2.1, .int vS.2.2.1, .int vS.2.2.2.1, .int vS.2.2.2.2.1, .int vS.2.2.2.2.2.1, .int vS.2.2.2.2.2.2.1, .int vS.2.2.2.2.2.2.2])), (qH, .inr (1, [.ref qA, .int vQ.2.1, .int vQ.2.2.1, .int vQ.2.2.2])), (qA, .inl (cI, 16, .inl vQ.1))]) [0, 1, 2, 3] rfl
  have hD9 := hD.sub (ws' := [(bH, .inr (5, [.int (nI n), .ref tH, .ref kH, .ref sH])), (sH, .inr (3, [.ref qH, .ref oH, .int vS.1, .int vS.2.1, .int vS.2.2.1, .int vS.2.2.2.1, .int vS.2.2.2.2.1, .int vS.2.2.2.2.2.1, .int vS.2.2.2.2.2.2.1, .int vS.2.2.2.2.2.2.2])), (qH, .inr (1, [.ref qA, .int vQ.2.1, .int vQ.2.2.1, .int vQ.2.2.2])), (qA, .inl (cI, 16, .inl vQ.1))]) [0, 1, 2, 3] (by decide) rfl
  exact W.iret (v := (f_X1_space vQ)) hx hb hr (fun u hu hW => ⟨⟨(f_X1_space vQ), (), rfl, hF.symm, by rw [hu]; exact hP9, hD9⟩, hS.F hu⟩) hS.2.2 dX5_room_10
def f_X5_pass (n : Nat) (vT : TS) (p1 : Int64) : TS :=
  (f_X4_advance n vT p1)
set_option maxHeartbeats 4000000 in
set_option maxRecDepth 100000 in
theorem k_X5_pass (l : Launch) (dC : Nat → ClassId) (dI : Nat → Nat → Nat) (cI cJ cB cZ : ClassId) (bH tH kH sH tS tW : Nat) (sz : Nat) (n : Nat) (vT : TS) (p1 : Int64) (hn : n ≤ 4) : Met l yX5_pass wsX5_pass ({ frames := 1, cells := 0, slots := 0, locals := 22 }) (va_Pc [.ref bH, .long p1] (fun U => U.heap.size = sz ∧ va_P (dC, dI) vwCl [(bH, .inr (5, [.int (nI n), .ref tH, .ref kH, .ref sH])), (tH, .inr (4, [.ref tS, .ref tW, .int (nI n)])), (tS, .inl (cI, n, .inl vT.1)), (tW, .inl (cJ, (n + 1), .inr (.inl vT.2)))] U.heap ∧ va_K (dC, dI) vwCl [(cI, .int), (cJ, .long), (cB, .byte), (cZ, .boolean)] U ∧ va_D (fun _ => True) [(bH, .inr (5, [.int (nI n), .ref tH, .ref kH, .ref sH])), (tH, .inr (4, [.ref tS, .ref tW, .int (nI n)])), (tS, .inl (cI, n, .inl vT.1)), (tW, .inl (cJ, (n + 1), .inr (.inl vT.2)))] ∧ nw_ U)) (va_Qv (fun (_ : Unit) => True) (fun (_ : Unit) (w : State) => va_P (dC, dI) vwCl [(bH, .inr (5, [.int (nI n), .ref tH, .ref kH, .ref sH])), (tH, .inr (4, [.ref tS, .ref tW, .int (nI n)])), (tS, .inl (cI, n, .inl (f_X5_pass n vT p1).1)), (tW, .inl (cJ, (n + 1), .inr (.inl (f_X5_pass n vT p1).2)))] w.heap ∧ va_D (va_A [(bH, .inr (5, [.int (nI n), .ref tH, .ref kH, .ref sH])), (tH, .inr (4, [.ref tS, .ref tW, .int (nI n)])), (tS, .inl (cI, n, .inl vT.1)), (tW, .inl (cJ, (n + 1), .inr (.inl vT.2)))] sz) [(bH, .inr (5, [.int (nI n), .ref tH, .ref kH, .ref sH])), (tH, .inr (4, [.ref tS, .ref tW, .int (nI n)])), (tS, .inl (cI, n, .inl (f_X5_pass n vT p1).1)), (tW, .inl (cJ, (n + 1), .inr (.inl (f_X5_pass n vT p1).2)))]) (va_A [(bH, .inr (5, [.int (nI n), .ref tH, .ref kH, .ref sH])), (tH, .inr (4, [.ref tS, .ref tW, .int (nI n)])), (tS, .inl (cI, n, .inl vT.1)), (tW, .inl (cJ, (n + 1), .inr (.inl vT.2)))] sz)) 0 0 (va_A [(bH, .inr (5, [.int (nI n), .ref tH, .ref kH, .ref sH])), (tH, .inr (4, [.ref tS, .ref tW, .int (nI n)])), (tS, .inl (cI, n, .inl vT.1)), (tW, .inl (cJ, (n + 1), .inr (.inl vT.2)))] sz) := by
  refine Met.ofW (cc := prog_1_method_8_code) (maxL := 3) (ret := none) (by decide) rfl ?_
  intro p e s m args below meth c s₁ B hml hv
  obtain ⟨rfl, hsz, hP, hK, hD0, hN⟩ := hv
  have hx := B.exec
  have hb := B.bytes
  have hr := B.returns
  have hw := hw_of (atoms_spec (ws := wsX5_pass) B.pre)
  have hown : s.vm.findClass RX5 = some m.cls := findClass_of_methodNamed B.named
  have hlocks := B.notSynchronized
  subst hsz
  have hD := hD0.self (sz := s.heap.size)
  generalize hAe : va_A [(bH, .inr (5, [.int (nI n), .ref tH, .ref kH, .ref sH])), (tH, .inr (4, [.ref tS, .ref tW, .int (nI n)])), (tS, .inl (cI, n, .inl vT.1)), (tW, .inl (cJ, (n + 1), .inr (.inl vT.2)))] s.heap.size = A at hD ⊢
  have hA : ∀ q : Nat, s.heap.size ≤ q → A q := fun q h => by rw [← hAe]; exact Or.inr h
  have hS : va_S A s.heap s.heap [] := va_S.rf
  have hP : va_P (dC, dI) vwCl [(bH, .inr (5, [.int (nI n), .ref tH, .ref kH, .ref sH])), (tH, .inr (4, [.ref tS, .ref tW, .int (nI n)])), (tS, .inl (cI, n, .inl vT.1)), (tW, .inl (cJ, (n + 1), .inr (.inl vT.2)))] s.heap := hP
  have hl := lv_entry ([.ref bH, .long p1]) (n := 3) (Nat.le_of_ble_eq_true rfl)
  rw [lg_entry_eq]
  generalize (lg_sl ([.ref bH, .long p1]) ++ List.replicate (3 - (lg_sl ([.ref bH, .long p1])).length) Slot.unset).toArray = ls at hl ⊢
  have hl : lv_has ls 3 [(0, .ref bH), (1, .long p1)] := hl
  refine lv_aload_n hx hb dX5_pass_0 rfl (lv_at hl 0 rfl) ?_
  refine va_get (D := (dC, dI)) (ci := 5) (v := .ref tH) (C := RX5) (T := TX5) (N := 4) hx hb hw inWX5 hown hK hP 0 rfl rfl 1 (by decide) (hw _ w_148) (fun _ h9 => h9) rfl dX5_pass_1 ?_
  refine lv_lload_n hx hb dX5_pass_4 rfl (lv_at hl 1 rfl) ?_
  have hPc := hP.sub (ws' := [(tH, .inr (4, [.ref tS, .ref tW, .int (nI n)])), (tS, .inl (cI, n, .inl vT.1)), (tW, .inl (cJ, (n + 1), .inr (.inl vT.2)))]) [1, 2, 3] rfl
  have hDc := hD.sub (ws' := [(tH, .inr (4, [.ref tS, .ref tW, .int (nI n)])), (tS, .inl (cI, n, .inl vT.1)), (tW, .inl (cJ, (n + 1), .inr (.inl vT.2)))]) [1, 2, 3] (by decide) rfl
  have hFc := va_free (wc := [(tH, .inr (4, [.ref tS, .ref tW, .int (nI n)])), (tS, .inl (cI, n, .inl vT.1)), (tW, .inl (cJ, (n + 1), .inr (.inl vT.2)))]) hD hS hA [1, 2, 3] rfl
  refine va_callv (va_runV (As := [.long p1]) (rest := []) ⟨hx, hb, hml, hown, hw⟩ (k_X4_advance l dC dI cI cJ cB cZ tH tS tW s.heap.size n vT p1 hn) (cwV 1 hw (gV w_205 w_206 w_207 w_2 w_208) rfl rfl rfl (by decide +kernel) ⟨Nat.le_of_ble_eq_true rfl, Nat.le_of_ble_eq_true rfl⟩) ⟨fun a U g mk q => by obtain ⟨q0, q1, qP, qK, qD, qN⟩ := q; exact ⟨q0, q1, qP, va_K.moved (u := U) (U := U.calling g mk a) (Vm.Alike.refl U.vm) qK, qD, nw_same (s := U) (U := U.calling g mk a) rfl qN⟩, va_recv hK hPc (ci := 4) (q0 := 0) rfl rfl, fun U hU hW => ⟨rfl, by rw [hU], by rw [hU]; exact hPc, va_K.moved hW.alike hK, hDc.weaken (fun _ _ _ _ => trivial), nw_warm hW hN⟩⟩ rfl rfl hl.1 rfl (lv_room (Nat.le_of_ble_eq_true rfl)) dX5_pass_5 ⟨Nat.le_of_ble_eq_true rfl, Nat.le_of_ble_eq_true rfl⟩) hS (fun q _ h => hFc q h) hFc (fun u t9 H1 locs ht hvm hR hB hz1 hk1 hS => ?_)
  obtain ⟨hP1, hD1⟩ := hB
  rw [ht] at hP1
  obtain ⟨hP, hD⟩ := va_join (wr := [(bH, .inr (5, [.int (nI n), .ref tH, .ref kH, .ref sH]))]) (w1 := [(tH, .inr (4, [.ref tS, .ref tW, .int (nI n)])), (tS, .inl (cI, n, .inl (f_X4_advance n vT p1).1)), (tW, .inl (cJ, (n + 1), .inr (.inl (f_X4_advance n vT p1).2)))]) hP hD [1, 2, 3] [0] rfl rfl (by decide) (by decide) hk1 hFc hP1 hD1
  generalize H1 = H at hP hS ⊢
  have hP : va_P (dC, dI) vwCl [(bH, .inr (5, [.int (nI n), .ref tH, .ref kH, .ref sH])), (tH, .inr (4, [.ref tS, .ref tW, .int (nI n)])), (tS, .inl (cI, n, .inl (f_X4_advance n vT p1).1)), (tW, .inl (cJ, (n + 1), .inr (.inl (f_X4_advance n vT p1).2)))] H := hP
  have hD : va_D A [(bH, .inr (5, [.int (nI n), .ref tH, .ref kH, .ref sH])), (tH, .inr (4, [.ref tS, .ref tW, .int (nI n)])), (tS, .inl (cI, n, .inl (f_X4_advance n vT p1).1)), (tW, .inl (cJ, (n + 1), .inr (.inl (f_X4_advance n vT p1).2)))] := hD
  have hF : (f_X5_pass n vT p1) = (f_X4_advance n vT p1) := by rfl
  have hP9 := hP.sub (ws' := [(bH, .inr (5, [.int (nI n), .ref tH, .ref kH, .ref sH])), (tH, .inr (4, [.ref tS, .ref tW, .int (nI n)])), (tS, .inl (cI, n, .inl (f_X4_advance n vT p1).1)), (tW, .inl (cJ, (n + 1), .inr (.inl (f_X4_advance n vT p1).2)))]) [0, 1, 2, 3] rfl
  have hD9 := hD.sub (ws' := [(bH, .inr (5, [.int (nI n), .ref tH, .ref kH, .ref sH])), (tH, .inr (4, [.ref tS, .ref tW, .int (nI n)])), (tS, .inl (cI, n, .inl (f_X4_advance n vT p1).1)), (tW, .inl (cJ, (n + 1), .inr (.inl (f_X4_advance n vT p1).2)))]) [0, 1, 2, 3] (by decide) rfl
  exact W.vret hx hb hr (fun u hu hW => ⟨⟨(), rfl, trivial, by rw [hu, hF]; exact hP9, by rw [hF]; exact hD9⟩, hS.F hu⟩) hS.2.2 dX5_pass_8
def f_X5_sent (vO : OS) : Int64 :=
  vO.2
set_option maxHeartbeats 4000000 in
set_option maxRecDepth 100000 in
theorem k_X5_sent (l : Launch) (dC : Nat → ClassId) (dI : Nat → Nat → Nat) (cI cJ cB cZ : ClassId) (bH tH kH sH qH oH oA : Nat) (sz : Nat) (n : Nat) (vS : SS) (vO : OS)  : Met l yX5_sent wsX5_sent ({ frames := 0, cells := 0, slots := 0, locals := 0 }) (va_Pc [.ref bH] (fun U => U.heap.size = sz ∧ va_P (dC, dI) vwCl [(bH, .inr (5, [.int (nI n), .ref tH, .ref kH, .ref sH])), (sH, .inr (3, [.ref qH, .ref oH, .int vS.1, .int vS.2.1, .int vS.2.2.1, .int vS.2.2.2.1, .int vS.2.2.2.2.1, .int vS.2.2.2.2.2.1, .int vS.2.2.2.2.2.2.1, .int vS.2.2.2.2.2.2.2])), (oH, .inr (2, [.ref oA, .long vO.2])), (oA, .inl (cB, 4096, .inl vO.1))] U.heap ∧ va_K (dC, dI) vwCl [(cI, .int), (cJ, .long), (cB, .byte), (cZ, .boolean)] U ∧ va_D (fun _ => True) [(bH, .inr (5, [.int (nI n), .ref tH, .ref kH, .ref sH])), (sH, .inr (3, [.ref qH, .ref oH, .int vS.1, .int vS.2.1, .int vS.2.2.1, .int vS.2.2.2.1, .int vS.2.2.2.2.1, .int vS.2.2.2.2.2.1, .int vS.2.2.2.2.2.2.1, .int vS.2.2.2.2.2.2.2])), (oH, .inr (2, [.ref oA, .long vO.2])), (oA, .inl (cB, 4096, .inl vO.1))] ∧ nw_ U)) (va_Ql (fun (r : Int64) (_ : Unit) => r = (f_X5_sent vO)) (fun (_ : Unit) (w : State) => va_P (dC, dI) vwCl [(bH, .inr (5, [.int (nI n), .ref tH, .ref kH, .ref sH])), (sH, .inr (3, [.ref qH, .ref oH, .int vS.1, .int vS.2.1, .int vS.2.2.1, .int vS.2.2.2.1, .int vS.2.2.2.2.1, .int vS.2.2.2.2.2.1, .int vS.2.2.2.2.2.2.1, .int vS.2.2.2.2.2.2.2])), (oH, .inr (2, [.ref oA, .long vO.2])), (oA, .inl (cB, 4096, .inl vO.1))] w.heap ∧ va_D (va_A [(bH, .inr (5, [.int (nI n), .ref tH, .ref kH, .ref sH])), (sH, .inr (3, [.ref qH, .ref oH, .int vS.1, .int vS.2.1, .int vS.2.2.1, .int vS.2.2.2.1, .int vS.2.2.2.2.1, .int vS.2.2.2.2.2.1, .int vS.2.2.2.2.2.2.1, .int vS.2.2.2.2.2.2.2])), (oH, .inr (2, [.ref oA, .long vO.2])), (oA, .inl (cB, 4096, .inl vO.1))] sz) [(bH, .inr (5, [.int (nI n), .ref tH, .ref kH, .ref sH])), (sH, .inr (3, [.ref qH, .ref oH, .int vS.1, .int vS.2.1, .int vS.2.2.1, .int vS.2.2.2.1, .int vS.2.2.2.2.1, .int vS.2.2.2.2.2.1, .int vS.2.2.2.2.2.2.1, .int vS.2.2.2.2.2.2.2])), (oH, .inr (2, [.ref oA, .long vO.2])), (oA, .inl (cB, 4096, .inl vO.1))]) (va_A [(bH, .inr (5, [.int (nI n), .ref tH, .ref kH, .ref sH])), (sH, .inr (3, [.ref qH, .ref oH, .int vS.1, .int vS.2.1, .int vS.2.2.1, .int vS.2.2.2.1, .int vS.2.2.2.2.1, .int vS.2.2.2.2.2.1, .int vS.2.2.2.2.2.2.1, .int vS.2.2.2.2.2.2.2])), (oH, .inr (2, [.ref oA, .long vO.2])), (oA, .inl (cB, 4096, .inl vO.1))] sz)) 0 0 (va_A [(bH, .inr (5, [.int (nI n), .ref tH, .ref kH, .ref sH])), (sH, .inr (3, [.ref qH, .ref oH, .int vS.1, .int vS.2.1, .int vS.2.2.1, .int vS.2.2.2.1, .int vS.2.2.2.2.1, .int vS.2.2.2.2.2.1, .int vS.2.2.2.2.2.2.1, .int vS.2.2.2.2.2.2.2])), (oH, .inr (2, [.ref oA, .long vO.2])), (oA, .inl (cB, 4096, .inl vO.1))] sz) := by
  refine Met.ofW (cc := prog_1_method_10_code) (maxL := 1) (ret := (some .long)) (by decide) rfl ?_
  intro p e s m args below meth c s₁ B hml hv
  obtain ⟨rfl, hsz, hP, hK, hD0, hN⟩ := hv
  have hx := B.exec
  have hb := B.bytes
  have hr := B.returns
  have hw := hw_of (atoms_spec (ws := wsX5_sent) B.pre)
  have hown : s.vm.findClass RX5 = some m.cls := findClass_of_methodNamed B.named
  have hlocks := B.notSynchronized
  subst hsz
  have hD := hD0.self (sz := s.heap.size)
  generalize hAe : va_A [(bH, .inr (5, [.int (nI n), .ref tH, .ref kH, .ref sH])), (sH, .inr (3, [.ref qH, .ref oH, .int vS.1, .int vS.2.1, .int vS.2.2.1, .int vS.2.2.2.1, .int vS.2.2.2.2.1, .int vS.2.2.2.2.2.1, .int vS.2.2.2.2.2.2.1, .int vS.2.2.2.2.2.2.2])), (oH, .inr (2, [.ref oA, .long vO.2])), (oA, .inl (cB, 4096, .inl vO.1))] s.heap.size = A at hD ⊢
  have hA : ∀ q : Nat, s.heap.size ≤ q → A q := fun q h => by rw [← hAe]; exact Or.inr h
  have hS : va_S A s.heap s.heap [] := va_S.rf
  have hP : va_P (dC, dI) vwCl [(bH, .inr (5, [.int (nI n), .ref tH, .ref kH, .ref sH])), (sH, .inr (3, [.ref qH, .ref oH, .int vS.1, .int vS.2.1, .int vS.2.2.1, .int vS.2.2.2.1, .int vS.2.2.2.2.1, .int vS.2.2.2.2.2.1, .int vS.2.2.2.2.2.2.1, .int vS.2.2.2.2.2.2.2])), (oH, .inr (2, [.ref oA, .long vO.2])), (oA, .inl (cB, 4096, .inl vO.1))] s.heap := hP
  have hl := lv_entry ([.ref bH]) (n := 1) (Nat.le_of_ble_eq_true rfl)
  rw [lg_entry_eq]
  generalize (lg_sl ([.ref bH]) ++ List.replicate (1 - (lg_sl ([.ref bH])).length) Slot.unset).toArray = ls at hl ⊢
  have hl : lv_has ls 1 [(0, .ref bH)] := hl
  refine lv_aload_n hx hb dX5_sent_0 rfl (lv_at hl 0 rfl) ?_
  refine va_get (D := (dC, dI)) (ci := 5) (v := .ref sH) (C := RX5) (T := TX5) (N := 4) hx hb hw inWX5 hown hK hP 0 rfl rfl 3 (by decide) (hw _ w_150) (fun _ h9 => h9) rfl dX5_sent_1 ?_
  refine va_getN (D := (dC, dI)) (ci := 3) (v := .ref oH) (C := RX3) (T := TX3) (N := 10) hx hb hw inWX3 hown hK hP 1 rfl rfl 1 (by decide) (va_Nw.use rfl (hN _ n_117)) (fun _ h9 => h9) rfl dX5_sent_4 ?_
  refine va_getN (D := (dC, dI)) (ci := 2) (v := .long vO.2) (C := RX2) (T := TX2) (N := 2) hx hb hw inWX2 hown hK hP 2 rfl rfl 1 (by decide) (va_Nw.use rfl (hN _ n_107)) (fun _ h9 => h9) rfl dX5_sent_7 ?_
  have hF : (f_X5_sent vO) = vO.2 := by rfl
  have hP9 := hP.sub (ws' := [(bH, .inr (5, [.int (nI n), .ref tH, .ref kH, .ref sH])), (sH, .inr (3, [.ref qH, .ref oH, .int vS.1, .int vS.2.1, .int vS.2.2.1, .int vS.2.2.2.1, .int vS.2.2.2.2.1, .int vS.2.2.2.2.2.1, .int vS.2.2.2.2.2.2.1, .int vS.2.2.2.2.2.2.2])), (oH, .inr (2, [.ref oA, .long vO.2])), (oA, .inl (cB, 4096, .inl vO.1))]) [0, 1, 2, 3] rfl
  have hD9 := hD.sub (ws' := [(bH, .inr (5, [.int (nI n), .ref tH, .ref kH, .ref sH])), (sH, .inr (3, [.ref qH, .ref oH, .int vS.1, .int vS.2.1, .int vS.2.2.1, .int vS.2.2.2.1, .int vS.2.2.2.2.1, .int vS.2.2.2.2.2.1, .int vS.2.2.2.2.2.2.1, .int vS.2.2.2.2.2.2.2])), (oH, .inr (2, [.ref oA, .long vO.2])), (oA, .inl (cB, 4096, .inl vO.1))]) [0, 1, 2, 3] (by decide) rfl
  exact W.lret (v := vO.2) hx hb hr (fun u hu hW => ⟨⟨vO.2, (), rfl, hF.symm, by rw [hu]; exact hP9, hD9⟩, hS.F hu⟩) hS.2.2 dX5_sent_10
def f_X5_out (vO : OS) (p1 : Int64) : Int32 :=
  (f_X2_at vO p1)
set_option maxHeartbeats 4000000 in
set_option maxRecDepth 100000 in
theorem k_X5_out (l : Launch) (dC : Nat → ClassId) (dI : Nat → Nat → Nat) (cI cJ cB cZ : ClassId) (bH tH kH sH qH oH oA : Nat) (sz : Nat) (n : Nat) (vS : SS) (vO : OS) (p1 : Int64)  : Met l yX5_out wsX5_out ({ frames := 1, cells := 0, slots := 0, locals := 22 }) (va_Pc [.ref bH, .long p1] (fun U => U.heap.size = sz ∧ va_P (dC, dI) vwCl [(bH, .inr (5, [.int (nI n), .ref tH, .ref kH, .ref sH])), (sH, .inr (3, [.ref qH, .ref oH, .int vS.1, .int vS.2.1, .int vS.2.2.1, .int vS.2.2.2.1, .int vS.2.2.2.2.1, .int vS.2.2.2.2.2.1, .int vS.2.2.2.2.2.2.1, .int vS.2.2.2.2.2.2.2])), (oH, .inr (2, [.ref oA, .long vO.2])), (oA, .inl (cB, 4096, .inl vO.1))] U.heap ∧ va_K (dC, dI) vwCl [(cI, .int), (cJ, .long), (cB, .byte), (cZ, .boolean)] U ∧ va_D (fun _ => True) [(bH, .inr (5, [.int (nI n), .ref tH, .ref kH, .ref sH])), (sH, .inr (3, [.ref qH, .ref oH, .int vS.1, .int vS.2.1, .int vS.2.2.1, .int vS.2.2.2.1, .int vS.2.2.2.2.1, .int vS.2.2.2.2.2.1, .int vS.2.2.2.2.2.2.1, .int vS.2.2.2.2.2.2.2])), (oH, .inr (2, [.ref oA, .long vO.2])), (oA, .inl (cB, 4096, .inl vO.1))] ∧ nw_ U)) (va_Qi (fun (r : Int32) (_ : Unit) => r = (f_X5_out vO p1)) (fun (_ : Unit) (w : State) => va_P (dC, dI) vwCl [(bH, .inr (5, [.int (nI n), .ref tH, .ref kH, .ref sH])), (sH, .inr (3, [.ref qH, .ref oH, .int vS.1, .int vS.2.1, .int vS.2.2.1, .int vS.2.2.2.1, .int vS.2.2.2.2.1, .int vS.2.2.2.2.2.1, .int vS.2.2.2.2.2.2.1, .int vS.2.2.2.2.2.2.2])), (oH, .inr (2, [.ref oA, .long vO.2])), (oA, .inl (cB, 4096, .inl vO.1))] w.heap ∧ va_D (va_A [(bH, .inr (5, [.int (nI n), .ref tH, .ref kH, .ref sH])), (sH, .inr (3, [.ref qH, .ref oH, .int vS.1, .int vS.2.1, .int vS.2.2.1, .int vS.2.2.2.1, .int vS.2.2.2.2.1, .int vS.2.2.2.2.2.1, .int vS.2.2.2.2.2.2.1, .int vS.2.2.2.2.2.2.2])), (oH, .inr (2, [.ref oA, .long vO.2])), (oA, .inl (cB, 4096, .inl vO.1))] sz) [(bH, .inr (5, [.int (nI n), .ref tH, .ref kH, .ref sH])), (sH, .inr (3, [.ref qH, .ref oH, .int vS.1, .int vS.2.1, .int vS.2.2.1, .int vS.2.2.2.1, .int vS.2.2.2.2.1, .int vS.2.2.2.2.2.1, .int vS.2.2.2.2.2.2.1, .int vS.2.2.2.2.2.2.2])), (oH, .inr (2, [.ref oA, .long vO.2])), (oA, .inl (cB, 4096, .inl vO.1))]) (va_A [(bH, .inr (5, [.int (nI n), .ref tH, .ref kH, .ref sH])), (sH, .inr (3, [.ref qH, .ref oH, .int vS.1, .int vS.2.1, .int vS.2.2.1, .int vS.2.2.2.1, .int vS.2.2.2.2.1, .int vS.2.2.2.2.2.1, .int vS.2.2.2.2.2.2.1, .int vS.2.2.2.2.2.2.2])), (oH, .inr (2, [.ref oA, .long vO.2])), (oA, .inl (cB, 4096, .inl vO.1))] sz)) 0 0 (va_A [(bH, .inr (5, [.int (nI n), .ref tH, .ref kH, .ref sH])), (sH, .inr (3, [.ref qH, .ref oH, .int vS.1, .int vS.2.1, .int vS.2.2.1, .int vS.2.2.2.1, .int vS.2.2.2.2.1, .int vS.2.2.2.2.2.1, .int vS.2.2.2.2.2.2.1, .int vS.2.2.2.2.2.2.2])), (oH, .inr (2, [.ref oA, .long vO.2])), (oA, .inl (cB, 4096, .inl vO.1))] sz) := by
  refine Met.ofW (cc := prog_1_method_11_code) (maxL := 3) (ret := (some .int)) (by decide) rfl ?_
  intro p e s m args below meth c s₁ B hml hv
  obtain ⟨rfl, hsz, hP, hK, hD0, hN⟩ := hv
  have hx := B.exec
  have hb := B.bytes
  have hr := B.returns
  have hw := hw_of (atoms_spec (ws := wsX5_out) B.pre)
  have hown : s.vm.findClass RX5 = some m.cls := findClass_of_methodNamed B.named
  have hlocks := B.notSynchronized
  subst hsz
  have hD := hD0.self (sz := s.heap.size)
  generalize hAe : va_A [(bH, .inr (5, [.int (nI n), .ref tH, .ref kH, .ref sH])), (sH, .inr (3, [.ref qH, .ref oH, .int vS.1, .int vS.2.1, .int vS.2.2.1, .int vS.2.2.2.1, .int vS.2.2.2.2.1, .int vS.2.2.2.2.2.1, .int vS.2.2.2.2.2.2.1, .int vS.2.2.2.2.2.2.2])), (oH, .inr (2, [.ref oA, .long vO.2])), (oA, .inl (cB, 4096, .inl vO.1))] s.heap.size = A at hD ⊢
  have hA : ∀ q : Nat, s.heap.size ≤ q → A q := fun q h => by rw [← hAe]; exact Or.inr h
  have hS : va_S A s.heap s.heap [] := va_S.rf
  have hP : va_P (dC, dI) vwCl [(bH, .inr (5, [.int (nI n), .ref tH, .ref kH, .ref sH])), (sH, .inr (3, [.ref qH, .ref oH, .int vS.1, .int vS.2.1, .int vS.2.2.1, .int vS.2.2.2.1, .int vS.2.2.2.2.1, .int vS.2.2.2.2.2.1, .int vS.2.2.2.2.2.2.1, .int vS.2.2.2.2.2.2.2])), (oH, .inr (2, [.ref oA, .long vO.2])), (oA, .inl (cB, 4096, .inl vO.1))] s.heap := hP
  have hl := lv_entry ([.ref bH, .long p1]) (n := 3) (Nat.le_of_ble_eq_true rfl)
  rw [lg_entry_eq]
  generalize (lg_sl ([.ref bH, .long p1]) ++ List.replicate (3 - (lg_sl ([.ref bH, .long p1])).length) Slot.unset).toArray = ls at hl ⊢
  have hl : lv_has ls 3 [(0, .ref bH), (1, .long p1)] := hl
  refine lv_aload_n hx hb dX5_out_0 rfl (lv_at hl 0 rfl) ?_
  refine va_get (D := (dC, dI)) (ci := 5) (v := .ref sH) (C := RX5) (T := TX5) (N := 4) hx hb hw inWX5 hown hK hP 0 rfl rfl 3 (by decide) (hw _ w_150) (fun _ h9 => h9) rfl dX5_out_1 ?_
  refine va_getN (D := (dC, dI)) (ci := 3) (v := .ref oH) (C := RX3) (T := TX3) (N := 10) hx hb hw inWX3 hown hK hP 1 rfl rfl 1 (by decide) (va_Nw.use rfl (hN _ n_117)) (fun _ h9 => h9) rfl dX5_out_4 ?_
  refine lv_lload_n hx hb dX5_out_7 rfl (lv_at hl 1 rfl) ?_
  have hPc := hP.sub (ws' := [(oH, .inr (2, [.ref oA, .long vO.2])), (oA, .inl (cB, 4096, .inl vO.1))]) [2, 3] rfl
  have hDc := hD.sub (ws' := [(oH, .inr (2, [.ref oA, .long vO.2])), (oA, .inl (cB, 4096, .inl vO.1))]) [2, 3] (by decide) rfl
  have hFc := va_free (wc := [(oH, .inr (2, [.ref oA, .long vO.2])), (oA, .inl (cB, 4096, .inl vO.1))]) hD hS hA [2, 3] rfl
  refine va_calli (va_runV (As := [.long p1]) (rest := []) ⟨hx, hb, hml, hown, hw⟩ (k_X2_at l dC dI cI cJ cB cZ oH oA s.heap.size vO p1) (cwV 1 hw (gV w_217 w_218 w_219 w_7 w_220) rfl rfl rfl (by decide +kernel) ⟨Nat.le_of_ble_eq_true rfl, Nat.le_of_ble_eq_true rfl⟩) ⟨fun a U g mk q => by obtain ⟨q0, q1, qP, qK, qD, qN⟩ := q; exact ⟨q0, q1, qP, va_K.moved (u := U) (U := U.calling g mk a) (Vm.Alike.refl U.vm) qK, qD, nw_same (s := U) (U := U.calling g mk a) rfl qN⟩, va_recv hK hPc (ci := 2) (q0 := 0) rfl rfl, fun U hU hW => ⟨rfl, by rw [hU], by rw [hU]; exact hPc, va_K.moved hW.alike hK, hDc.weaken (fun _ _ _ _ => trivial), nw_warm hW hN⟩⟩ rfl rfl hl.1 rfl (lv_room (Nat.le_of_ble_eq_true rfl)) dX5_out_8 ⟨Nat.le_of_ble_eq_true rfl, Nat.le_of_ble_eq_true rfl⟩) hS (fun q _ h => hFc q h) hFc (fun r_8 u t9 H1 locs ht hvm hR hB hz1 hk1 hS => ?_)
  replace hR := Eq.symm hR
  subst hR
  obtain ⟨hP1, hD1⟩ := hB
  rw [ht] at hP1
  obtain ⟨hP, hD⟩ := va_join (wr := [(bH, .inr (5, [.int (nI n), .ref tH, .ref kH, .ref sH])), (sH, .inr (3, [.ref qH, .ref oH, .int vS.1, .int vS.2.1, .int vS.2.2.1, .int vS.2.2.2.1, .int vS.2.2.2.2.1, .int vS.2.2.2.2.2.1, .int vS.2.2.2.2.2.2.1, .int vS.2.2.2.2.2.2.2]))]) (w1 := [(oH, .inr (2, [.ref oA, .long vO.2])), (oA, .inl (cB, 4096, .inl vO.1))]) hP hD [2, 3] [0, 1] rfl rfl (by decide) (by decide) hk1 hFc hP1 hD1
  generalize H1 = H at hP hS ⊢
  have hP : va_P (dC, dI) vwCl [(bH, .inr (5, [.int (nI n), .ref tH, .ref kH, .ref sH])), (sH, .inr (3, [.ref qH, .ref oH, .int vS.1, .int vS.2.1, .int vS.2.2.1, .int vS.2.2.2.1, .int vS.2.2.2.2.1, .int vS.2.2.2.2.2.1, .int vS.2.2.2.2.2.2.1, .int vS.2.2.2.2.2.2.2])), (oH, .inr (2, [.ref oA, .long vO.2])), (oA, .inl (cB, 4096, .inl vO.1))] H := hP
  have hD : va_D A [(bH, .inr (5, [.int (nI n), .ref tH, .ref kH, .ref sH])), (sH, .inr (3, [.ref qH, .ref oH, .int vS.1, .int vS.2.1, .int vS.2.2.1, .int vS.2.2.2.1, .int vS.2.2.2.2.1, .int vS.2.2.2.2.2.1, .int vS.2.2.2.2.2.2.1, .int vS.2.2.2.2.2.2.2])), (oH, .inr (2, [.ref oA, .long vO.2])), (oA, .inl (cB, 4096, .inl vO.1))] := hD
  have hF : (f_X5_out vO p1) = (f_X2_at vO p1) := by rfl
  have hP9 := hP.sub (ws' := [(bH, .inr (5, [.int (nI n), .ref tH, .ref kH, .ref sH])), (sH, .inr (3, [.ref qH, .ref oH, .int vS.1, .int vS.2.1, .int vS.2.2.1, .int vS.2.2.2.1, .int vS.2.2.2.2.1, .int vS.2.2.2.2.2.1, .int vS.2.2.2.2.2.2.1, .int vS.2.2.2.2.2.2.2])), (oH, .inr (2, [.ref oA, .long vO.2])), (oA, .inl (cB, 4096, .inl vO.1))]) [0, 1, 2, 3] rfl
  have hD9 := hD.sub (ws' := [(bH, .inr (5, [.int (nI n), .ref tH, .ref kH, .ref sH])), (sH, .inr (3, [.ref qH, .ref oH, .int vS.1, .int vS.2.1, .int vS.2.2.1, .int vS.2.2.2.1, .int vS.2.2.2.2.1, .int vS.2.2.2.2.2.1, .int vS.2.2.2.2.2.2.1, .int vS.2.2.2.2.2.2.2])), (oH, .inr (2, [.ref oA, .long vO.2])), (oA, .inl (cB, 4096, .inl vO.1))]) [0, 1, 2, 3] (by decide) rfl
  exact W.iret (v := (f_X2_at vO p1)) hx hb hr (fun u hu hW => ⟨⟨(f_X2_at vO p1), (), rfl, hF.symm, by rw [hu]; exact hP9, hD9⟩, hS.F hu⟩) hS.2.2 dX5_out_11
