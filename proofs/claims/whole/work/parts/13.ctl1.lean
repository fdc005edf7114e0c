def mu_go (O : Int32) (f : Nat → Int32) : Nat → Nat → Nat → Nat
  | 0, _, b => b
  | k + 1, i, b => mu_go O f k (i + 1) (if (O &&& ((1 : Int32) <<< ((nI i) &&& 31))) = 0 then b else if f i ≤ f b then b else i)

def f_X0_letWait (vC : CS) : CS :=
  (vC.1, (vC.2.1 ||| (vC.1 &&& (vC.2.2.1 ^^^ (-1)))), vC.2.2.1, vC.2.2.2.1, vC.2.2.2.2.1, vC.2.2.2.2.2)
set_option maxHeartbeats 4000000 in
set_option maxRecDepth 100000 in
theorem k_X0_letWait (l : Launch) (dC : Nat → ClassId) (dI : Nat → Nat → Nat) (cI cJ cB cZ : ClassId) (kH kP kE kT : Nat) (sz : Nat) (n : Nat) (vC : CS)  : Met l yX0_letWait wsX0_letWait ({ frames := 0, cells := 0, slots := 0, locals := 0 }) (va_Pc [.ref kH] (fun U => U.heap.size = sz ∧ va_P (dC, dI) vwCl [(kH, .inr (0, [.int vC.1, .int vC.2.1, .int vC.2.2.1, .ref kP, .ref kE, .ref kT, .int (nI (2 * n))])), (kP, .inl (cI, 32, .inl vC.2.2.2.1)), (kE, .inl (cI, (2 * n), .inl vC.2.2.2.2.1)), (kT, .inl (cI, (2 * n), .inl vC.2.2.2.2.2))] U.heap ∧ va_K (dC, dI) vwCl [(cI, .int), (cJ, .long), (cB, .byte), (cZ, .boolean)] U ∧ va_D (fun _ => True) [(kH, .inr (0, [.int vC.1, .int vC.2.1, .int vC.2.2.1, .ref kP, .ref kE, .ref kT, .int (nI (2 * n))])), (kP, .inl (cI, 32, .inl vC.2.2.2.1)), (kE, .inl (cI, (2 * n), .inl vC.2.2.2.2.1)), (kT, .inl (cI, (2 * n), .inl vC.2.2.2.2.2))] ∧ nw_ U)) (va_Qv (fun (_ : Unit) => True) (fun (_ : Unit) (w : State) => va_P (dC, dI) vwCl [(kH, .inr (0, [.int (f_X0_letWait vC).1, .int (f_X0_letWait vC).2.1, .int (f_X0_letWait vC).2.2.1, .ref kP, .ref kE, .ref kT, .int (nI (2 * n))])), (kP, .inl (cI, 32, .inl (f_X0_letWait vC).2.2.2.1)), (kE, .inl (cI, (2 * n), .inl (f_X0_letWait vC).2.2.2.2.1)), (kT, .inl (cI, (2 * n), .inl (f_X0_letWait vC).2.2.2.2.2))] w.heap ∧ va_D (va_A [(kH, .inr (0, [.int vC.1, .int vC.2.1, .int vC.2.2.1, .ref kP, .ref kE, .ref kT, .int (nI (2 * n))])), (kP, .inl (cI, 32, .inl vC.2.2.2.1)), (kE, .inl (cI, (2 * n), .inl vC.2.2.2.2.1)), (kT, .inl (cI, (2 * n), .inl vC.2.2.2.2.2))] sz) [(kH, .inr (0, [.int (f_X0_letWait vC).1, .int (f_X0_letWait vC).2.1, .int (f_X0_letWait vC).2.2.1, .ref kP, .ref kE, .ref kT, .int (nI (2 * n))])), (kP, .inl (cI, 32, .inl (f_X0_letWait vC).2.2.2.1)), (kE, .inl (cI, (2 * n), .inl (f_X0_letWait vC).2.2.2.2.1)), (kT, .inl (cI, (2 * n), .inl (f_X0_letWait vC).2.2.2.2.2))]) (va_A [(kH, .inr (0, [.int vC.1, .int vC.2.1, .int vC.2.2.1, .ref kP, .ref kE, .ref kT, .int (nI (2 * n))])), (kP, .inl (cI, 32, .inl vC.2.2.2.1)), (kE, .inl (cI, (2 * n), .inl vC.2.2.2.2.1)), (kT, .inl (cI, (2 * n), .inl vC.2.2.2.2.2))] sz)) 0 0 (va_A [(kH, .inr (0, [.int vC.1, .int vC.2.1, .int vC.2.2.1, .ref kP, .ref kE, .ref kT, .int (nI (2 * n))])), (kP, .inl (cI, 32, .inl vC.2.2.2.1)), (kE, .inl (cI, (2 * n), .inl vC.2.2.2.2.1)), (kT, .inl (cI, (2 * n), .inl vC.2.2.2.2.2))] sz) := by
  refine Met.ofW (cc := prog_2_method_8_code) (maxL := 1) (ret := none) (by decide) rfl ?_
  intro p e s m args below meth c s₁ B hml hv
  obtain ⟨rfl, hsz, hP, hK, hD0, hN⟩ := hv
  have hx := B.exec
  have hb := B.bytes
  have hr := B.returns
  have hw := hw_of (atoms_spec (ws := wsX0_letWait) B.pre)
  have hown : s.vm.findClass RX0 = some m.cls := findClass_of_methodNamed B.named
  have hlocks := B.notSynchronized
  subst hsz
  have hD := hD0.self (sz := s.heap.size)
  generalize hAe : va_A [(kH, .inr (0, [.int vC.1, .int vC.2.1, .int vC.2.2.1, .ref kP, .ref kE, .ref kT, .int (nI (2 * n))])), (kP, .inl (cI, 32, .inl vC.2.2.2.1)), (kE, .inl (cI, (2 * n), .inl vC.2.2.2.2.1)), (kT, .inl (cI, (2 * n), .inl vC.2.2.2.2.2))] s.heap.size = A at hD ⊢
  have hA : ∀ q : Nat, s.heap.size ≤ q → A q := fun q h => by rw [← hAe]; exact Or.inr h
  have hS : va_S A s.heap s.heap [] := va_S.rf
  have hP : va_P (dC, dI) vwCl [(kH, .inr (0, [.int vC.1, .int vC.2.1, .int vC.2.2.1, .ref kP, .ref kE, .ref kT, .int (nI (2 * n))])), (kP, .inl (cI, 32, .inl vC.2.2.2.1)), (kE, .inl (cI, (2 * n), .inl vC.2.2.2.2.1)), (kT, .inl (cI, (2 * n), .inl vC.2.2.2.2.2))] s.heap := hP
  have hl := lv_entry ([.ref kH]) (n := 1) (Nat.le_of_ble_eq_true rfl)
  rw [lg_entry_eq]
  generalize (lg_sl ([.ref kH]) ++ List.replicate (1 - (lg_sl ([.ref kH])).length) Slot.unset).toArray = ls at hl ⊢
  have hl : lv_has ls 1 [(0, .ref kH)] := hl
  refine lv_aload_n hx hb dX0_letWait_0 rfl (lv_at hl 0 rfl) ?_
  refine lv_dup hx hb dX0_letWait_1 rfl ?_
  refine va_get (D := (dC, dI)) (ci := 0) (v := .int vC.2.1) (C := RX0) (T := TX0) (N := 7) hx hb hw inWX0 hown hK hP 0 rfl rfl 1 (by decide) (hw _ w_51) (fun _ h9 => h9) rfl dX0_letWait_2 ?_
  refine lv_aload_n hx hb dX0_letWait_5 rfl (lv_at hl 0 rfl) ?_
  refine va_get (D := (dC, dI)) (ci := 0) (v := .int vC.1) (C := RX0) (T := TX0) (N := 7) hx hb hw inWX0 hown hK hP 0 rfl rfl 0 (by decide) (hw _ w_50) (fun _ h9 => h9) rfl dX0_letWait_6 ?_
  refine lv_aload_n hx hb dX0_letWait_9 rfl (lv_at hl 0 rfl) ?_
  refine va_get (D := (dC, dI)) (ci := 0) (v := .int vC.2.2.1) (C := RX0) (T := TX0) (N := 7) hx hb hw inWX0 hown hK hP 0 rfl rfl 2 (by decide) (hw _ w_52) (fun _ h9 => h9) rfl dX0_letWait_10 ?_
  refine lv_iconst (v := (-1)) hx hb dX0_letWait_13 (by decide) ?_
  refine lv_ixor hx hb dX0_letWait_14 ?_
  refine lv_iand hx hb dX0_letWait_15 ?_
  refine lv_ior hx hb dX0_letWait_16 ?_
  refine va_put (D := (dC, dI)) (ci := 0) (v := .int (vC.2.1 ||| (vC.1 &&& (vC.2.2.1 ^^^ (-1))))) (ty := .int) (C := RX0) (T := TX0) (N := 7) hx hb hw inWX0 tyX0 tyX0_ok nmX0 hown hK hP hD hS 0 rfl rfl 1 (by decide) (hw _ w_51) (fun _ h9 => h9) rfl (by decide +kernel) rfl rfl (Nat.le_of_ble_eq_true rfl) dX0_letWait_17 (fun H locs hP hD hS => ?_)
  have hP : va_P (dC, dI) vwCl [(kH, .inr (0, [.int vC.1, .int (vC.2.1 ||| (vC.1 &&& (vC.2.2.1 ^^^ (-1)))), .int vC.2.2.1, .ref kP, .ref kE, .ref kT, .int (nI (2 * n))])), (kP, .inl (cI, 32, .inl vC.2.2.2.1)), (kE, .inl (cI, (2 * n), .inl vC.2.2.2.2.1)), (kT, .inl (cI, (2 * n), .inl vC.2.2.2.2.2))] H := hP
  have hD : va_D A [(kH, .inr (0, [.int vC.1, .int (vC.2.1 ||| (vC.1 &&& (vC.2.2.1 ^^^ (-1)))), .int vC.2.2.1, .ref kP, .ref kE, .ref kT, .int (nI (2 * n))])), (kP, .inl (cI, 32, .inl vC.2.2.2.1)), (kE, .inl (cI, (2 * n), .inl vC.2.2.2.2.1)), (kT, .inl (cI, (2 * n), .inl vC.2.2.2.2.2))] := hD
  have hF : (f_X0_letWait vC) = (vC.1, (vC.2.1 ||| (vC.1 &&& (vC.2.2.1 ^^^ (-1)))), vC.2.2.1, vC.2.2.2.1, vC.2.2.2.2.1, vC.2.2.2.2.2) := by rfl
  have hP9 := hP.sub (ws' := [(kH, .inr (0, [.int vC.1, .int (vC.2.1 ||| (vC.1 &&& (vC.2.2.1 ^^^ (-1)))), .int vC.2.2.1, .ref kP, .ref kE, .ref kT, .int (nI (2 * n))])), (kP, .inl (cI, 32, .inl vC.2.2.2.1)), (kE, .inl (cI, (2 * n), .inl vC.2.2.2.2.1)), (kT, .inl (cI, (2 * n), .inl vC.2.2.2.2.2))]) [0, 1, 2, 3] rfl
  have hD9 := hD.sub (ws' := [(kH, .inr (0, [.int vC.1, .int (vC.2.1 ||| (vC.1 &&& (vC.2.2.1 ^^^ (-1)))), .int vC.2.2.1, .ref kP, .ref kE, .ref kT, .int (nI (2 * n))])), (kP, .inl (cI, 32, .inl vC.2.2.2.1)), (kE, .inl (cI, (2 * n), .inl vC.2.2.2.2.1)), (kT, .inl (cI, (2 * n), .inl vC.2.2.2.2.2))]) [0, 1, 2, 3] (by decide) rfl
  exact W.vret hx hb hr (fun u hu hW => ⟨⟨(), rfl, trivial, by rw [hu, hF]; exact hP9, by rw [hF]; exact hD9⟩, hS.F hu⟩) hS.2.2 dX0_letWait_20
def f_X0_drive (vC : CS) (p1 : Int32) (p2 : Int32) : CS :=
  if p2 = 0 then (f_X0_letWait ((vC.1 &&& (((1 : Int32) <<< (p1 &&& 31)) ^^^ (-1))), vC.2.1, vC.2.2.1, vC.2.2.2.1, vC.2.2.2.2.1, vC.2.2.2.2.2))
  else (f_X0_letWait ((vC.1 ||| ((1 : Int32) <<< (p1 &&& 31))), vC.2.1, vC.2.2.1, vC.2.2.2.1, vC.2.2.2.2.1, vC.2.2.2.2.2))
set_option maxHeartbeats 4000000 in
set_option maxRecDepth 100000 in
theorem k_X0_drive (l : Launch) (dC : Nat → ClassId) (dI : Nat → Nat → Nat) (cI cJ cB cZ : ClassId) (kH kP kE kT : Nat) (sz : Nat) (n : Nat) (vC : CS) (p1 : Int32) (p2 : Int32)  : Met l yX0_drive wsX0_drive ({ frames := 1, cells := 0, slots := 0, locals := 20 }) (va_Pc [.ref kH, .int p1, .int p2] (fun U => U.heap.size = sz ∧ va_P (dC, dI) vwCl [(kH, .inr (0, [.int vC.1, .int vC.2.1, .int vC.2.2.1, .ref kP, .ref kE, .ref kT, .int (nI (2 * n))])), (kP, .inl (cI, 32, .inl vC.2.2.2.1)), (kE, .inl (cI, (2 * n), .inl vC.2.2.2.2.1)), (kT, .inl (cI, (2 * n), .inl vC.2.2.2.2.2))] U.heap ∧ va_K (dC, dI) vwCl [(cI, .int), (cJ, .long), (cB, .byte), (cZ, .boolean)] U ∧ va_D (fun _ => True) [(kH, .inr (0, [.int vC.1, .int vC.2.1, .int vC.2.2.1, .ref kP, .ref kE, .ref kT, .int (nI (2 * n))])), (kP, .inl (cI, 32, .inl vC.2.2.2.1)), (kE, .inl (cI, (2 * n), .inl vC.2.2.2.2.1)), (kT, .inl (cI, (2 * n), .inl vC.2.2.2.2.2))] ∧ nw_ U)) (va_Qv (fun (_ : Unit) => True) (fun (_ : Unit) (w : State) => va_P (dC, dI) vwCl [(kH, .inr (0, [.int (f_X0_drive vC p1 p2).1, .int (f_X0_drive vC p1 p2).2.1, .int (f_X0_drive vC p1 p2).2.2.1, .ref kP, .ref kE, .ref kT, .int (nI (2 * n))])), (kP, .inl (cI, 32, .inl (f_X0_drive vC p1 p2).2.2.2.1)), (kE, .inl (cI, (2 * n), .inl (f_X0_drive vC p1 p2).2.2.2.2.1)), (kT, .inl (cI, (2 * n), .inl (f_X0_drive vC p1 p2).2.2.2.2.2))] w.heap ∧ va_D (va_A [(kH, .inr (0, [.int vC.1, .int vC.2.1, .int vC.2.2.1, .ref kP, .ref kE, .ref kT, .int (nI (2 * n))])), (kP, .inl (cI, 32, .inl vC.2.2.2.1)), (kE, .inl (cI, (2 * n), .inl vC.2.2.2.2.1)), (kT, .inl (cI, (2 * n), .inl vC.2.2.2.2.2))] sz) [(kH, .inr (0, [.int (f_X0_drive vC p1 p2).1, .int (f_X0_drive vC p1 p2).2.1, .int (f_X0_drive vC p1 p2).2.2.1, .ref kP, .ref kE, .ref kT, .int (nI (2 * n))])), (kP, .inl (cI, 32, .inl (f_X0_drive vC p1 p2).2.2.2.1)), (kE, .inl (cI, (2 * n), .inl (f_X0_drive vC p1 p2).2.2.2.2.1)), (kT, .inl (cI, (2 * n), .inl (f_X0_drive vC p1 p2).2.2.2.2.2))]) (va_A [(kH, .inr (0, [.int vC.1, .int vC.2.1, .int vC.2.2.1, .ref kP, .ref kE, .ref kT, .int (nI (2 * n))])), (kP, .inl (cI, 32, .inl vC.2.2.2.1)), (kE, .inl (cI, (2 * n), .inl vC.2.2.2.2.1)), (kT, .inl (cI, (2 * n), .inl vC.2.2.2.2.2))] sz)) 0 0 (va_A [(kH, .inr (0, [.int vC.1, .int vC.2.1, .int vC.2.2.1, .ref kP, .ref kE, .ref kT, .int (nI (2 * n))])), (kP, .inl (cI, 32, .inl vC.2.2.2.1)), (kE, .inl (cI, (2 * n), .inl vC.2.2.2.2.1)), (kT, .inl (cI, (2 * n), .inl vC.2.2.2.2.2))] sz) := by
  refine Met.ofW (cc := prog_2_method_4_code) (maxL := 4) (ret := none) (by decide) rfl ?_
  intro p e s m args below meth c s₁ B hml hv
  obtain ⟨rfl, hsz, hP, hK, hD0, hN⟩ := hv
  have hx := B.exec
  have hb := B.bytes
  have hr := B.returns
  have hw := hw_of (atoms_spec (ws := wsX0_drive) B.pre)
  have hown : s.vm.findClass RX0 = some m.cls := findClass_of_methodNamed B.named
  have hlocks := B.notSynchronized
  subst hsz
  have hD := hD0.self (sz := s.heap.size)
  generalize hAe : va_A [(kH, .inr (0, [.int vC.1, .int vC.2.1, .int vC.2.2.1, .ref kP, .ref kE, .ref kT, .int (nI (2 * n))])), (kP, .inl (cI, 32, .inl vC.2.2.2.1)), (kE, .inl (cI, (2 * n), .inl vC.2.2.2.2.1)), (kT, .inl (cI, (2 * n), .inl vC.2.2.2.2.2))] s.heap.size = A at hD ⊢
  have hA : ∀ q : Nat, s.heap.size ≤ q → A q := fun q h => by rw [← hAe]; exact Or.inr h
  have hS : va_S A s.heap s.heap [] := va_S.rf
  have hP : va_P (dC, dI) vwCl [(kH, .inr (0, [.int vC.1, .int vC.2.1, .int vC.2.2.1, .ref kP, .ref kE, .ref kT, .int (nI (2 * n))])), (kP, .inl (cI, 32, .inl vC.2.2.2.1)), (kE, .inl (cI, (2 * n), .inl vC.2.2.2.2.1)), (kT, .inl (cI, (2 * n), .inl vC.2.2.2.2.2))] s.heap := hP
  have hl := lv_entry ([.ref kH, .int p1, .int p2]) (n := 4) (Nat.le_of_ble_eq_true rfl)
  rw [lg_entry_eq]
  generalize (lg_sl ([.ref kH, .int p1, .int p2]) ++ List.replicate (4 - (lg_sl ([.ref kH, .int p1, .int p2])).length) Slot.unset).toArray = ls at hl ⊢
  have hl : lv_has ls 4 [(0, .ref kH), (1, .int p1), (2, .int p2)] := hl
  refine lv_iconst (v := 1) hx hb dX0_drive_0 (by decide) ?_
  refine lv_iload_n hx hb dX0_drive_1 rfl (lv_at hl 1 rfl) ?_
  refine lv_ishl hx hb dX0_drive_2 ?_
  refine lv_istore_n (lv' := [(3, .int ((1 : Int32) <<< (p1 &&& 31))), (0, .ref kH), (1, .int p1), (2, .int p2)]) hx hb dX0_drive_3 rfl hl (by decide) rfl (fun ls hl => ?_)
  refine lv_aload_n hx hb dX0_drive_4 rfl (lv_at hl 1 rfl) ?_
  refine lv_iload_n hx hb dX0_drive_5 rfl (lv_at hl 3 rfl) ?_
  refine lv_if_eq (tgt := 18) hx hb dX0_drive_6 (by decide) (fun c_6 => ?_) (fun c_6 => ?_)
  · refine lv_aload_n hx hb dX0_drive_18 rfl (lv_at hl 1 rfl) ?_
    refine va_get (D := (dC, dI)) (ci := 0) (v := .int vC.1) (C := RX0) (T := TX0) (N := 7) hx hb hw inWX0 hown hK hP 0 rfl rfl 0 (by decide) (hw _ w_50) (fun _ h9 => h9) rfl dX0_drive_19 ?_
    refine lv_iload_n hx hb dX0_drive_22 rfl (lv_at hl 0 rfl) ?_
    refine lv_iconst (v := (-1)) hx hb dX0_drive_23 (by decide) ?_
    refine lv_ixor hx hb dX0_drive_24 ?_
    refine lv_iand hx hb dX0_drive_25 ?_
    refine va_put (D := (dC, dI)) (ci := 0) (v := .int (vC.1 &&& (((1 : Int32) <<< (p1 &&& 31)) ^^^ (-1)))) (ty := .int) (C := RX0) (T := TX0) (N := 7) hx hb hw inWX0 tyX0 tyX0_ok nmX0 hown hK hP hD hS 0 rfl rfl 0 (by decide) (hw _ w_50) (fun _ h9 => h9) rfl (by decide +kernel) rfl rfl (Nat.le_of_ble_eq_true rfl) dX0_drive_26 (fun H locs hP hD hS => ?_)
    have hP : va_P (dC, dI) vwCl [(kH, .inr (0, [.int (vC.1 &&& (((1 : Int32) <<< (p1 &&& 31)) ^^^ (-1))), .int vC.2.1, .int vC.2.2.1, .ref kP, .ref kE, .ref kT, .int (nI (2 * n))])), (kP, .inl (cI, 32, .inl vC.2.2.2.1)), (kE, .inl (cI, (2 * n), .inl vC.2.2.2.2.1)), (kT, .inl (cI, (2 * n), .inl vC.2.2.2.2.2))] H := hP
    have hD : va_D A [(kH, .inr (0, [.int (vC.1 &&& (((1 : Int32) <<< (p1 &&& 31)) ^^^ (-1))), .int vC.2.1, .int vC.2.2.1, .ref kP, .ref kE, .ref kT, .int (nI (2 * n))])), (kP, .inl (cI, 32, .inl vC.2.2.2.1)), (kE, .inl (cI, (2 * n), .inl vC.2.2.2.2.1)), (kT, .inl (cI, (2 * n), .inl vC.2.2.2.2.2))] := hD
    refine lv_aload_n hx hb dX0_drive_29 rfl (lv_at hl 1 rfl) ?_
    have hPc := hP.sub (ws' := [(kH, .inr (0, [.int (vC.1 &&& (((1 : Int32) <<< (p1 &&& 31)) ^^^ (-1))), .int vC.2.1, .int vC.2.2.1, .ref kP, .ref kE, .ref kT, .int (nI (2 * n))])), (kP, .inl (cI, 32, .inl vC.2.2.2.1)), (kE, .inl (cI, (2 * n), .inl vC.2.2.2.2.1)), (kT, .inl (cI, (2 * n), .inl vC.2.2.2.2.2))]) [0, 1, 2, 3] rfl
    have hDc := hD.sub (ws' := [(kH, .inr (0, [.int (vC.1 &&& (((1 : Int32) <<< (p1 &&& 31)) ^^^ (-1))), .int vC.2.1, .int vC.2.2.1, .ref kP, .ref kE, .ref kT, .int (nI (2 * n))])), (kP, .inl (cI, 32, .inl vC.2.2.2.1)), (kE, .inl (cI, (2 * n), .inl vC.2.2.2.2.1)), (kT, .inl (cI, (2 * n), .inl vC.2.2.2.2.2))]) [0, 1, 2, 3] (by decide) rfl
    have hFc := va_free (wc := [(kH, .inr (0, [.int (vC.1 &&& (((1 : Int32) <<< (p1 &&& 31)) ^^^ (-1))), .int vC.2.1, .int vC.2.2.1, .ref kP, .ref kE, .ref kT, .int (nI (2 * n))])), (kP, .inl (cI, 32, .inl vC.2.2.2.1)), (kE, .inl (cI, (2 * n), .inl vC.2.2.2.2.1)), (kT, .inl (cI, (2 * n), .inl vC.2.2.2.2.2))]) hD hS hA [0, 1, 2, 3] rfl
    refine va_callv (va_runV (As := []) (rest := []) ⟨hx, hb, hml, hown, hw⟩ (k_X0_letWait l dC dI cI cJ cB cZ kH kP kE kT H.size n ((vC.1 &&& (((1 : Int32) <<< (p1 &&& 31)) ^^^ (-1))), vC.2.1, vC.2.2.1, vC.2.2.2.1, vC.2.2.2.2.1, vC.2.2.2.2.2)) (cwV 0 hw (gV w_192 w_194 w_s1 w_4 w_195) rfl rfl rfl (by decide +kernel) ⟨Nat.le_of_ble_eq_true rfl, Nat.le_of_ble_eq_true rfl⟩) ⟨fun a U g mk q => by obtain ⟨q0, q1, qP, qK, qD, qN⟩ := q; exact ⟨q0, q1, qP, va_K.moved (u := U) (U := U.calling g mk a) (Vm.Alike.refl U.vm) qK, qD, nw_same (s := U) (U := U.calling g mk a) rfl qN⟩, va_recv hK hPc (ci := 0) (q0 := 0) rfl rfl, fun U hU hW => ⟨rfl, by rw [hU], by rw [hU]; exact hPc, va_K.moved hW.alike hK, hDc.weaken (fun _ _ _ _ => trivial), nw_warm hW hN⟩⟩ rfl rfl hl.1 rfl (lv_room (Nat.le_of_ble_eq_true rfl)) dX0_drive_30 ⟨Nat.le_of_ble_eq_true rfl, Nat.le_of_ble_eq_true rfl⟩) hS (fun q _ h => hFc q h) hFc (fun u t9 H1 locs ht hvm hR hB hz1 hk1 hS => ?_)
    obtain ⟨hP1, hD1⟩ := hB
    rw [ht] at hP1
    obtain ⟨hP, hD⟩ := va_join (wr := []) (w1 := [(kH, .inr (0, [.int (f_X0_letWait ((vC.1 &&& (((1 : Int32) <<< (p1 &&& 31)) ^^^ (-1))), vC.2.1, vC.2.2.1, vC.2.2.2.1, vC.2.2.2.2.1, vC.2.2.2.2.2)).1, .int (f_X0_letWait ((vC.1 &&& (((1 : Int32) <<< (p1 &&& 31)) ^^^ (-1))), vC.2.1, vC.2.2.1, vC.2.2.2.1, vC.2.2.2.2.1, vC.2.2.2.2.2)).2.1, .int (f_X0_letWait ((vC.1 &&& (((1 : Int32) <<< (p1 &&& 31)) ^^^ (-1))), vC.2.1, vC.2.2.1, vC.2.2.2.1, vC.2.2.2.2.1, vC.2.2.2.2.2)).2.2.1, .ref kP, .ref kE, .ref kT, .int (nI (2 * n))])), (kP, .inl (cI, 32, .inl (f_X0_letWait ((vC.1 &&& (((1 : Int32) <<< (p1 &&& 31)) ^^^ (-1))), vC.2.1, vC.2.2.1, vC.2.2.2.1, vC.2.2.2.2.1, vC.2.2.2.2.2)).2.2.2.1)), (kE, .inl (cI, (2 * n), .inl (f_X0_letWait ((vC.1 &&& (((1 : Int32) <<< (p1 &&& 31)) ^^^ (-1))), vC.2.1, vC.2.2.1, vC.2.2.2.1, vC.2.2.2.2.1, vC.2.2.2.2.2)).2.2.2.2.1)), (kT, .inl (cI, (2 * n), .inl (f_X0_letWait ((vC.1 &&& (((1 : Int32) <<< (p1 &&& 31)) ^^^ (-1))), vC.2.1, vC.2.2.1, vC.2.2.2.1, vC.2.2.2.2.1, vC.2.2.2.2.2)).2.2.2.2.2))]) hP hD [0, 1, 2, 3] [] rfl rfl (by decide) (by decide) hk1 hFc hP1 hD1
    generalize H1 = H at hP hS ⊢
    have hP : va_P (dC, dI) vwCl [(kH, .inr (0, [.int (f_X0_letWait ((vC.1 &&& (((1 : Int32) <<< (p1 &&& 31)) ^^^ (-1))), vC.2.1, vC.2.2.1, vC.2.2.2.1, vC.2.2.2.2.1, vC.2.2.2.2.2)).1, .int (f_X0_letWait ((vC.1 &&& (((1 : Int32) <<< (p1 &&& 31)) ^^^ (-1))), vC.2.1, vC.2.2.1, vC.2.2.2.1, vC.2.2.2.2.1, vC.2.2.2.2.2)).2.1, .int (f_X0_letWait ((vC.1 &&& (((1 : Int32) <<< (p1 &&& 31)) ^^^ (-1))), vC.2.1, vC.2.2.1, vC.2.2.2.1, vC.2.2.2.2.1, vC.2.2.2.2.2)).2.2.1, .ref kP, .ref kE, .ref kT, .int (nI (2 * n))])), (kP, .inl (cI, 32, .inl (f_X0_letWait ((vC.1 &&& (((1 : Int32) <<< (p1 &&& 31)) ^^^ (-1))), vC.2.1, vC.2.2.1, vC.2.2.2.1, vC.2.2.2.2.1, vC.2.2.2.2.2)).2.2.2.1)), (kE, .inl (cI, (2 * n), .inl (f_X0_letWait ((vC.1 &&& (((1 : Int32) <<< (p1 &&& 31)) ^^^ (-1))), vC.2.1, vC.2.2.1, vC.2.2.2.1, vC.2.2.2.2.1, vC.2.2.2.2.2)).2.2.2.2.1)), (kT, .inl (cI, (2 * n), .inl (f_X0_letWait ((vC.1 &&& (((1 : Int32) <<< (p1 &&& 31)) ^^^ (-1))), vC.2.1, vC.2.2.1, vC.2.2.2.1, vC.2.2.2.2.1, vC.2.2.2.2.2)).2.2.2.2.2))] H := hP
    have hD : va_D A [(kH, .inr (0, [.int (f_X0_letWait ((vC.1 &&& (((1 : Int32) <<< (p1 &&& 31)) ^^^ (-1))), vC.2.1, vC.2.2.1, vC.2.2.2.1, vC.2.2.2.2.1, vC.2.2.2.2.2)).1, .int (f_X0_letWait ((vC.1 &&& (((1 : Int32) <<< (p1 &&& 31)) ^^^ (-1))), vC.2.1, vC.2.2.1, vC.2.2.2.1, vC.2.2.2.2.1, vC.2.2.2.2.2)).2.1, .int (f_X0_letWait ((vC.1 &&& (((1 : Int32) <<< (p1 &&& 31)) ^^^ (-1))), vC.2.1, vC.2.2.1, vC.2.2.2.1, vC.2.2.2.2.1, vC.2.2.2.2.2)).2.2.1, .ref kP, .ref kE, .ref kT, .int (nI (2 * n))])), (kP, .inl (cI, 32, .inl (f_X0_letWait ((vC.1 &&& (((1 : Int32) <<< (p1 &&& 31)) ^^^ (-1))), vC.2.1, vC.2.2.1, vC.2.2.2.1, vC.2.2.2.2.1, vC.2.2.2.2.2)).2.2.2.1)), (kE, .inl (cI, (2 * n), .inl (f_X0_letWait ((vC.1 &&& (((1 : Int32) <<< (p1 &&& 31)) ^^^ (-1))), vC.2.1, vC.2.2.1, vC.2.2.2.1, vC.2.2.2.2.1, vC.2.2.2.2.2)).2.2.2.2.1)), (kT, .inl (cI, (2 * n), .inl (f_X0_letWait ((vC.1 &&& (((1 : Int32) <<< (p1 &&& 31)) ^^^ (-1))), vC.2.1, vC.2.2.1, vC.2.2.2.1, vC.2.2.2.2.1, vC.2.2.2.2.2)).2.2.2.2.2))] := hD
    have hF : (f_X0_drive vC p1 p2) = (f_X0_letWait ((vC.1 &&& (((1 : Int32) <<< (p1 &&& 31)) ^^^ (-1))), vC.2.1, vC.2.2.1, vC.2.2.2.1, vC.2.2.2.2.1, vC.2.2.2.2.2)) := by rw [f_X0_drive, if_pos c_6]
    have hP9 := hP.sub (ws' := [(kH, .inr (0, [.int (f_X0_letWait ((vC.1 &&& (((1 : Int32) <<< (p1 &&& 31)) ^^^ (-1))), vC.2.1, vC.2.2.1, vC.2.2.2.1, vC.2.2.2.2.1, vC.2.2.2.2.2)).1, .int (f_X0_letWait ((vC.1 &&& (((1 : Int32) <<< (p1 &&& 31)) ^^^ (-1))), vC.2.1, vC.2.2.1, vC.2.2.2.1, vC.2.2.2.2.1, vC.2.2.2.2.2)).2.1, .int (f_X0_letWait ((vC.1 &&& (((1 : Int32) <<< (p1 &&& 31)) ^^^ (-1))), vC.2.1, vC.2.2.1, vC.2.2.2.1, vC.2.2.2.2.1, vC.2.2.2.2.2)).2.2.1, .ref kP, .ref kE, .ref kT, .int (nI (2 * n))])), (kP, .inl (cI, 32, .inl (f_X0_letWait ((vC.1 &&& (((1 : Int32) <<< (p1 &&& 31)) ^^^ (-1))), vC.2.1, vC.2.2.1, vC.2.2.2.1, vC.2.2.2.2.1, vC.2.2.2.2.2)).2.2.2.1)), (kE, .inl (cI, (2 * n), .inl (f_X0_letWait ((vC.1 &&& (((1 : Int32) <<< (p1 &&& 31)) ^^^ (-1))), vC.2.1, vC.2.2.1, vC.2.2.2.1, vC.2.2.2.2.1, vC.2.2.2.2.2)).2.2.2.2.1)), (kT, .inl (cI, (2 * n), .inl (f_X0_letWait ((vC.1 &&& (((1 : Int32) <<< (p1 &&& 31)) ^^^ (-1))), vC.2.1, vC.2.2.1, vC.2.2.2.1, vC.2.2.2.2.1, vC.2.2.2.2.2)).2.2.2.2.2))]) [0, 1, 2, 3] rfl
    have hD9 := hD.sub (ws' := [(kH, .inr (0, [.int (f_X0_letWait ((vC.1 &&& (((1 : Int32) <<< (p1 &&& 31)) ^^^ (-1))), vC.2.1, vC.2.2.1, vC.2.2.2.1, vC.2.2.2.2.1, vC.2.2.2.2.2)).1, .int (f_X0_letWait ((vC.1 &&& (((1 : Int32) <<< (p1 &&& 31)) ^^^ (-1))), vC.2.1, vC.2.2.1, vC.2.2.2.1, vC.2.2.2.2.1, vC.2.2.2.2.2)).2.1, .int (f_X0_letWait ((vC.1 &&& (((1 : Int32) <<< (p1 &&& 31)) ^^^ (-1))), vC.2.1, vC.2.2.1, vC.2.2.2.1, vC.2.2.2.2.1, vC.2.2.2.2.2)).2.2.1, .ref kP, .ref kE, .ref kT, .int (nI (2 * n))])), (kP, .inl (cI, 32, .inl (f_X0_letWait ((vC.1 &&& (((1 : Int32) <<< (p1 &&& 31)) ^^^ (-1))), vC.2.1, vC.2.2.1, vC.2.2.2.1, vC.2.2.2.2.1, vC.2.2.2.2.2)).2.2.2.1)), (kE, .inl (cI, (2 * n), .inl (f_X0_letWait ((vC.1 &&& (((1 : Int32) <<< (p1 &&& 31)) ^^^ (-1))), vC.2.1, vC.2.2.1, vC.2.2.2.1, vC.2.2.2.2.1, vC.2.2.2.2.2)).2.2.2.2.1)), (kT, .inl (cI, (2 * n), .inl (f_X0_letWait ((vC.1 &&& (((1 : Int32) <<< (p1 &&& 31)) ^^^ (-1))), vC.2.1, vC.2.2.1, vC.2.2.2.1, vC.2.2.2.2.1, vC.2.2.2.2.2)).2.2.2.2.2))]) [0, 1, 2, 3] (by decide) rfl
    exact W.vret hx hb hr (fun u hu hW => ⟨⟨(), rfl, trivial, by rw [hu, hF]; exact hP9, by rw [hF]; exact hD9⟩, hS.F hu⟩) hS.2.2 dX0_drive_33
  · refine lv_aload_n hx hb dX0_drive_9 rfl (lv_at hl 1 rfl) ?_
    refine va_get (D := (dC, dI)) (ci := 0) (v := .int vC.1) (C := RX0) (T := TX0) (N := 7) hx hb hw inWX0 hown hK hP 0 rfl rfl 0 (by decide) (hw _ w_50) (fun _ h9 => h9) rfl dX0_drive_10 ?_
    refine lv_iload_n hx hb dX0_drive_13 rfl (lv_at hl 0 rfl) ?_
    refine lv_ior hx hb dX0_drive_14 ?_
    refine lv_goto (tgt := 26) hx hb dX0_drive_15 (by decide) ?_
    refine va_put (D := (dC, dI)) (ci := 0) (v := .int (vC.1 ||| ((1 : Int32) <<< (p1 &&& 31)))) (ty := .int) (C := RX0) (T := TX0) (N := 7) hx hb hw inWX0 tyX0 tyX0_ok nmX0 hown hK hP hD hS 0 rfl rfl 0 (by decide) (hw _ w_50) (fun _ h9 => h9) rfl (by decide +kernel) rfl rfl (Nat.le_of_ble_eq_true rfl) dX0_drive_26 (fun H locs hP hD hS => ?_)
    have hP : va_P (dC, dI) vwCl [(kH, .inr (0, [.int (vC.1 ||| ((1 : Int32) <<< (p1 &&& 31))), .int vC.2.1, .int vC.2.2.1, .ref kP, .ref kE, .ref kT, .int (nI (2 * n))])), (kP, .inl (cI, 32, .inl vC.2.2.2.1)), (kE, .inl (cI, (2 * n), .inl vC.2.2.2.2.1)), (kT, .inl (cI, (2 * n), .inl vC.2.2.2.2.2))] H := hP
    have hD : va_D A [(kH, .inr (0, [.int (vC.1 ||| ((1 : Int32) <<< (p1 &&& 31))), .int vC.2.1, .int vC.2.2.1, .ref kP, .ref kE, .ref kT, .int (nI (2 * n))])), (kP, .inl (cI, 32, .inl vC.2.2.2.1)), (kE, .inl (cI, (2 * n), .inl vC.2.2.2.2.1)), (kT, .inl (cI, (2 * n), .inl vC.2.2.2.2.2))] := hD
    refine lv_aload_n hx hb dX0_drive_29 rfl (lv_at hl 1 rfl) ?_
    have hPc := hP.sub (ws' := [(kH, .inr (0, [.int (vC.1 ||| ((1 : Int32) <<< (p1 &&& 31))), .int vC.2.1, .int vC.2.2.1, .ref kP, .ref kE, .ref kT, .int (nI (2 * n))])), (kP, .inl (cI, 32, .inl vC.2.2.2.1)), (kE, .inl (cI, (2 * n), .inl vC.2.2.2.2.1)), (kT, .inl (cI, (2 * n), .inl vC.2.2.2.2.2))]) [0, 1, 2, 3] rfl
    have hDc := hD.sub (ws' := [(kH, .inr (0, [.int (vC.1 ||| ((1 : Int32) <<< (p1 &&& 31))), .int vC.2.1, .int vC.2.2.1, .ref kP, .ref kE, .ref kT, .int (nI (2 * n))])), (kP, .inl (cI, 32, .inl vC.2.2.2.1)), (kE, .inl (cI, (2 * n), .inl vC.2.2.2.2.1)), (kT, .inl (cI, (2 * n), .inl vC.2.2.2.2.2))]) [0, 1, 2, 3] (by decide) rfl
    have hFc := va_free (wc := [(kH, .inr (0, [.int (vC.1 ||| ((1 : Int32) <<< (p1 &&& 31))), .int vC.2.1, .int vC.2.2.1, .ref kP, .ref kE, .ref kT, .int (nI (2 * n))])), (kP, .inl (cI, 32, .inl vC.2.2.2.1)), (kE, .inl (cI, (2 * n), .inl vC.2.2.2.2.1)), (kT, .inl (cI, (2 * n), .inl vC.2.2.2.2.2))]) hD hS hA [0, 1, 2, 3] rfl
    refine va_callv (va_runV (As := []) (rest := []) ⟨hx, hb, hml, hown, hw⟩ (k_X0_letWait l dC dI cI cJ cB cZ kH kP kE kT H.size n ((vC.1 ||| ((1 : Int32) <<< (p1 &&& 31))), vC.2.1, vC.2.2.1, vC.2.2.2.1, vC.2.2.2.2.1, vC.2.2.2.2.2)) (cwV 0 hw (gV w_192 w_194 w_s1 w_4 w_195) rfl rfl rfl (by decide +kernel) ⟨Nat.le_of_ble_eq_true rfl, Nat.le_of_ble_eq_true rfl⟩) ⟨fun a U g mk q => by obtain ⟨q0, q1, qP, qK, qD, qN⟩ := q; exact ⟨q0, q1, qP, va_K.moved (u := U) (U := U.calling g mk a) (Vm.Alike.refl U.vm) qK, qD, nw_same (s := U) (U := U.calling g mk a) rfl qN⟩, va_recv hK hPc (ci := 0) (q0 := 0) rfl rfl, fun U hU hW => ⟨rfl, by rw [hU], by rw [hU]; exact hPc, va_K.moved hW.alike hK, hDc.weaken (fun _ _ _ _ => trivial), nw_warm hW hN⟩⟩ rfl rfl hl.1 rfl (lv_room (Nat.le_of_ble_eq_true rfl)) dX0_drive_30 ⟨Nat.le_of_ble_eq_true rfl, Nat.le_of_ble_eq_true rfl⟩) hS (fun q _ h => hFc q h) hFc (fun u t9 H1 locs ht hvm hR hB hz1 hk1 hS => ?_)
    obtain ⟨hP1, hD1⟩ := hB
    rw [ht] at hP1
    obtain ⟨hP, hD⟩ := va_join (wr := []) (w1 := [(kH, .inr (0, [.int (f_X0_letWait ((vC.1 ||| ((1 : Int32) <<< (p1 &&& 31))), vC.2.1, vC.2.2.1, vC.2.2.2.1, vC.2.2.2.2.1, vC.2.2.2.2.2)).1, .int (f_X0_letWait ((vC.1 ||| ((1 : Int32) <<< (p1 &&& 31))), vC.2.1, vC.2.2.1, vC.2.2.2.1, vC.2.2.2.2.1, vC.2.2.2.2.2)).2.1, .int (f_X0_letWait ((vC.1 ||| ((1 : Int32) <<< (p1 &&& 31))), vC.2.1, vC.2.2.1, vC.2.2.2.1, vC.2.2.2.2.1, vC.2.2.2.2.2)).2.2.1, .ref kP, .ref kE, .ref kT, .int (nI (2 * n))])), (kP, .inl (cI, 32, .inl (f_X0_letWait ((vC.1 ||| ((1 : Int32) <<< (p1 &&& 31))), vC.2.1, vC.2.2.1, vC.2.2.2.1, vC.2.2.2.2.1, vC.2.2.2.2.2)).2.2.2.1)), (kE, .inl (cI, (2 * n), .inl (f_X0_letWait ((vC.1 ||| ((1 : Int32) <<< (p1 &&& 31))), vC.2.1, vC.2.2.1, vC.2.2.2.1, vC.2.2.2.2.1, vC.2.2.2.2.2)).2.2.2.2.1)), (kT, .inl (cI, (2 * n), .inl (f_X0_letWait ((vC.1 ||| ((1 : Int32) <<< (p1 &&& 31))), vC.2.1, vC.2.2.1, vC.2.2.2.1, vC.2.2.2.2.1, vC.2.2.2.2.2)).2.2.2.2.2))]) hP hD [0, 1, 2, 3] [] rfl rfl (by decide) (by decide) hk1 hFc hP1 hD1
    generalize H1 = H at hP hS ⊢
    have hP : va_P (dC, dI) vwCl [(kH, .inr (0, [.int (f_X0_letWait ((vC.1 ||| ((1 : Int32) <<< (p1 &&& 31))), vC.2.1, vC.2.2.1, vC.2.2.2.1, vC.2.2.2.2.1, vC.2.2.2.2.2)).1, .int (f_X0_letWait ((vC.1 ||| ((1 : Int32) <<< (p1 &&& 31))), vC.2.1, vC.2.2.1, vC.2.2.2.1, vC.2.2.2.2.1, vC.2.2.2.2.2)).2.1, .int (f_X0_letWait ((vC.1 ||| ((1 : Int32) <<< (p1 &&& 31))), vC.2.1, vC.2.2.1, vC.2.2.2.1, vC.2.2.2.2.1, vC.2.2.2.2.2)).2.2.1, .ref kP, .ref kE, .ref kT, .int (nI (2 * n))])), (kP, .inl (cI, 32, .inl (f_X0_letWait ((vC.1 ||| ((1 : Int32) <<< (p1 &&& 31))), vC.2.1, vC.2.2.1, vC.2.2.2.1, vC.2.2.2.2.1, vC.2.2.2.2.2)).2.2.2.1)), (kE, .inl (cI, (2 * n), .inl (f_X0_letWait ((vC.1 ||| ((1 : Int32) <<< (p1 &&& 31))), vC.2.1, vC.2.2.1, vC.2.2.2.1, vC.2.2.2.2.1, vC.2.2.2.2.2)).2.2.2.2.1)), (kT, .inl (cI, (2 * n), .inl (f_X0_letWait ((vC.1 ||| ((1 : Int32) <<< (p1 &&& 31))), vC.2.1, vC.2.2.1, vC.2.2.2.1, vC.2.2.2.2.1, vC.2.2.2.2.2)).2.2.2.2.2))] H := hP
    have hD : va_D A [(kH, .inr (0, [.int (f_X0_letWait ((vC.1 ||| ((1 : Int32) <<< (p1 &&& 31))), vC.2.1, vC.2.2.1, vC.2.2.2.1, vC.2.2.2.2.1, vC.2.2.2.2.2)).1, .int (f_X0_letWait ((vC.1 ||| ((1 : Int32) <<< (p1 &&& 31))), vC.2.1, vC.2.2.1, vC.2.2.2.1, vC.2.2.2.2.1, vC.2.2.2.2.2)).2.1, .int (f_X0_letWait ((vC.1 ||| ((1 : Int32) <<< (p1 &&& 31))), vC.2.1, vC.2.2.1, vC.2.2.2.1, vC.2.2.2.2.1, vC.2.2.2.2.2)).2.2.1, .ref kP, .ref kE, .ref kT, .int (nI (2 * n))])), (kP, .inl (cI, 32, .inl (f_X0_letWait ((vC.1 ||| ((1 : Int32) <<< (p1 &&& 31))), vC.2.1, vC.2.2.1, vC.2.2.2.1, vC.2.2.2.2.1, vC.2.2.2.2.2)).2.2.2.1)), (kE, .inl (cI, (2 * n), .inl (f_X0_letWait ((vC.1 ||| ((1 : Int32) <<< (p1 &&& 31))), vC.2.1, vC.2.2.1, vC.2.2.2.1, vC.2.2.2.2.1, vC.2.2.2.2.2)).2.2.2.2.1)), (kT, .inl (cI, (2 * n), .inl (f_X0_letWait ((vC.1 ||| ((1 : Int32) <<< (p1 &&& 31))), vC.2.1, vC.2.2.1, vC.2.2.2.1, vC.2.2.2.2.1, vC.2.2.2.2.2)).2.2.2.2.2))] := hD
    have hF : (f_X0_drive vC p1 p2) = (f_X0_letWait ((vC.1 ||| ((1 : Int32) <<< (p1 &&& 31))), vC.2.1, vC.2.2.1, vC.2.2.2.1, vC.2.2.2.2.1, vC.2.2.2.2.2)) := by rw [f_X0_drive, if_neg c_6]
    have hP9 := hP.sub (ws' := [(kH, .inr (0, [.int (f_X0_letWait ((vC.1 ||| ((1 : Int32) <<< (p1 &&& 31))), vC.2.1, vC.2.2.1, vC.2.2.2.1, vC.2.2.2.2.1, vC.2.2.2.2.2)).1, .int (f_X0_letWait ((vC.1 ||| ((1 : Int32) <<< (p1 &&& 31))), vC.2.1, vC.2.2.1, vC.2.2.2.1, vC.2.2.2.2.1, vC.2.2.2.2.2)).2.1, .int (f_X0_letWait ((vC.1 ||| ((1 : Int32) <<< (p1 &&& 31))), vC.2.1, vC.2.2.1, vC.2.2.2.1, vC.2.2.2.2.1, vC.2.2.2.2.2)).2.2.1, .ref kP, .ref kE, .ref kT, .int (nI (2 * n))])), (kP, .inl (cI, 32, .inl (f_X0_letWait ((vC.1 ||| ((1 : Int32) <<< (p1 &&& 31))), vC.2.1, vC.2.2.1, vC.2.2.2.1, vC.2.2.2.2.1, vC.2.2.2.2.2)).2.2.2.1)), (kE, .inl (cI, (2 * n), .inl (f_X0_letWait ((vC.1 ||| ((1 : Int32) <<< (p1 &&& 31))), vC.2.1, vC.2.2.1, vC.2.2.2.1, vC.2.2.2.2.1, vC.2.2.2.2.2)).2.2.2.2.1)), (kT, .inl (cI, (2 * n), .inl (f_X0_letWait ((vC.1 ||| ((1 : Int32) <<< (p1 &&& 31))), vC.2.1, vC.2.2.1, vC.2.2.2.1, vC.2.2.2.2.1, vC.2.2.2.2.2)).2.2.2.2.2))]) [0, 1, 2, 3] rfl
    have hD9 := hD.sub (ws' := [(kH, .inr (0, [.int (f_X0_letWait ((vC.1 ||| ((1 : Int32) <<< (p1 &&& 31))), vC.2.1, vC.2.2.1, vC.2.2.2.1, vC.2.2.2.2.1, vC.2.2.2.2.2)).1, .int (f_X0_letWait ((vC.1 ||| ((1 : Int32) <<< (p1 &&& 31))), vC.2.1, vC.2.2.1, vC.2.2.2.1, vC.2.2.2.2.1, vC.2.2.2.2.2)).2.1, .int (f_X0_letWait ((vC.1 ||| ((1 : Int32) <<< (p1 &&& 31))), vC.2.1, vC.2.2.1, vC.2.2.2.1, vC.2.2.2.2.1, vC.2.2.2.2.2)).2.2.1, .ref kP, .ref kE, .ref kT, .int (nI (2 * n))])), (kP, .inl (cI, 32, .inl (f_X0_letWait ((vC.1 ||| ((1 : Int32) <<< (p1 &&& 31))), vC.2.1, vC.2.2.1, vC.2.2.2.1, vC.2.2.2.2.1, vC.2.2.2.2.2)).2.2.2.1)), (kE, .inl (cI, (2 * n), .inl (f_X0_letWait ((vC.1 ||| ((1 : Int32) <<< (p1 &&& 31))), vC.2.1, vC.2.2.1, vC.2.2.2.1, vC.2.2.2.2.1, vC.2.2.2.2.2)).2.2.2.2.1)), (kT, .inl (cI, (2 * n), .inl (f_X0_letWait ((vC.1 ||| ((1 : Int32) <<< (p1 &&& 31))), vC.2.1, vC.2.2.1, vC.2.2.2.1, vC.2.2.2.2.1, vC.2.2.2.2.2)).2.2.2.2.2))]) [0, 1, 2, 3] (by decide) rfl
    exact W.vret hx hb hr (fun u hu hW => ⟨⟨(), rfl, trivial, by rw [hu, hF]; exact hP9, by rw [hF]; exact hD9⟩, hS.F hu⟩) hS.2.2 dX0_drive_33
def f_X0_complete (vC : CS) (p1 : Int32) (p2 : Int32) : CS :=
  if p2 ≤ 0 then vC
  else if 32 ≤ p2 then vC
    else (f_X0_letWait (vC.1, vC.2.1, (vC.2.2.1 &&& (((vC.2.2.2.2.1 (Int32.toNatClampNeg p1)) &&& ((1 : Int32) <<< (p2 &&& 31))) ^^^ (-1))), vC.2.2.2.1, vC.2.2.2.2.1, vC.2.2.2.2.2))
set_option maxHeartbeats 4000000 in
set_option maxRecDepth 100000 in
theorem k_X0_complete (l : Launch) (dC : Nat → ClassId) (dI : Nat → Nat → Nat) (cI cJ cB cZ : ClassId) (kH kP kE kT : Nat) (sz : Nat) (n : Nat) (vC : CS) (p1 : Int32) (p2 : Int32) (hc : vp_in p1 (2 * n)) : Met l yX0_complete wsX0_complete ({ frames := 1, cells := 0, slots := 0, locals := 20 }) (va_Pc [.ref kH, .int p1, .int p2] (fun U => U.heap.size = sz ∧ va_P (dC, dI) vwCl [(kH, .inr (0, [.int vC.1, .int vC.2.1, .int vC.2.2.1, .ref kP, .ref kE, .ref kT, .int (nI (2 * n))])), (kP, .inl (cI, 32, .inl vC.2.2.2.1)), (kE, .inl (cI, (2 * n), .inl vC.2.2.2.2.1)), (kT, .inl (cI, (2 * n), .inl vC.2.2.2.2.2))] U.heap ∧ va_K (dC, dI) vwCl [(cI, .int), (cJ, .long), (cB, .byte), (cZ, .boolean)] U ∧ va_D (fun _ => True) [(kH, .inr (0, [.int vC.1, .int vC.2.1, .int vC.2.2.1, .ref kP, .ref kE, .ref kT, .int (nI (2 * n))])), (kP, .inl (cI, 32, .inl vC.2.2.2.1)), (kE, .inl (cI, (2 * n), .inl vC.2.2.2.2.1)), (kT, .inl (cI, (2 * n), .inl vC.2.2.2.2.2))] ∧ nw_ U)) (va_Qv (fun (_ : Unit) => True) (fun (_ : Unit) (w : State) => va_P (dC, dI) vwCl [(kH, .inr (0, [.int (f_X0_complete vC p1 p2).1, .int (f_X0_complete vC p1 p2).2.1, .int (f_X0_complete vC p1 p2).2.2.1, .ref kP, .ref kE, .ref kT, .int (nI (2 * n))])), (kP, .inl (cI, 32, .inl (f_X0_complete vC p1 p2).2.2.2.1)), (kE, .inl (cI, (2 * n), .inl (f_X0_complete vC p1 p2).2.2.2.2.1)), (kT, .inl (cI, (2 * n), .inl (f_X0_complete vC p1 p2).2.2.2.2.2))] w.heap ∧ va_D (va_A [(kH, .inr (0, [.int vC.1, .int vC.2.1, .int vC.2.2.1, .ref kP, .ref kE, .ref kT, .int (nI (2 * n))])), (kP, .inl (cI, 32, .inl vC.2.2.2.1)), (kE, .inl (cI, (2 * n), .inl vC.2.2.2.2.1)), (kT, .inl (cI, (2 * n), .inl vC.2.2.2.2.2))] sz) [(kH, .inr (0, [.int (f_X0_complete vC p1 p2).1, .int (f_X0_complete vC p1 p2).2.1, .int (f_X0_complete vC p1 p2).2.2.1, .ref kP, .ref kE, .ref kT, .int (nI (2 * n))])), (kP, .inl (cI, 32, .inl (f_X0_complete vC p1 p2).2.2.2.1)), (kE, .inl (cI, (2 * n), .inl (f_X0_complete vC p1 p2).2.2.2.2.1)), (kT, .inl (cI, (2 * n), .inl (f_X0_complete vC p1 p2).2.2.2.2.2))]) (va_A [(kH, .inr (0, [.int vC.1, .int vC.2.1, .int vC.2.2.1, .ref kP, .ref kE, .ref kT, .int (nI (2 * n))])), (kP, .inl (cI, 32, .inl vC.2.2.2.1)), (kE, .inl (cI, (2 * n), .inl vC.2.2.2.2.1)), (kT, .inl (cI, (2 * n), .inl vC.2.2.2.2.2))] sz)) 0 0 (va_A [(kH, .inr (0, [.int vC.1, .int vC.2.1, .int vC.2.2.1, .ref kP, .ref kE, .ref kT, .int (nI (2 * n))])), (kP, .inl (cI, 32, .inl vC.2.2.2.1)), (kE, .inl (cI, (2 * n), .inl vC.2.2.2.2.1)), (kT, .inl (cI, (2 * n), .inl vC.2.2.2.2.2))] sz) := by
  refine Met.ofW (cc := prog_2_method_7_code) (maxL := 3) (ret := none) (by decide) rfl ?_
  intro p e s m args below meth c s₁ B hml hv
  obtain ⟨rfl, hsz, hP, hK, hD0, hN⟩ := hv
  have hx := B.exec
  have hb := B.bytes
  have hr := B.returns
  have hw := hw_of (atoms_spec (ws := wsX0_complete) B.pre)
  have hown : s.vm.findClass RX0 = some m.cls := findClass_of_methodNamed B.named
  have hlocks := B.notSynchronized
  subst hsz
  have hD := hD0.self (sz := s.heap.size)
  generalize hAe : va_A [(kH, .inr (0, [.int vC.1, .int vC.2.1, .int vC.2.2.1, .ref kP, .ref kE, .ref kT, .int (nI (2 * n))])), (kP, .inl (cI, 32, .inl vC.2.2.2.1)), (kE, .inl (cI, (2 * n), .inl vC.2.2.2.2.1)), (kT, .inl (cI, (2 * n), .inl vC.2.2.2.2.2))] s.heap.size = A at hD ⊢
  have hA : ∀ q : Nat, s.heap.size ≤ q → A q := fun q h => by rw [← hAe]; exact Or.inr h
  have hS : va_S A s.heap s.heap [] := va_S.rf
  have hP : va_P (dC, dI) vwCl [(kH, .inr (0, [.int vC.1, .int vC.2.1, .int vC.2.2.1, .ref kP, .ref kE, .ref kT, .int (nI (2 * n))])), (kP, .inl (cI, 32, .inl vC.2.2.2.1)), (kE, .inl (cI, (2 * n), .inl vC.2.2.2.2.1)), (kT, .inl (cI, (2 * n), .inl vC.2.2.2.2.2))] s.heap := hP
  have hl := lv_entry ([.ref kH, .int p1, .int p2]) (n := 3) (Nat.le_of_ble_eq_true rfl)
  rw [lg_entry_eq]
  generalize (lg_sl ([.ref kH, .int p1, .int p2]) ++ List.replicate (3 - (lg_sl ([.ref kH, .int p1, .int p2])).length) Slot.unset).toArray = ls at hl ⊢
  have hl : lv_has ls 3 [(0, .ref kH), (1, .int p1), (2, .int p2)] := hl
  refine lv_iload_n hx hb dX0_complete_0 rfl (lv_at hl 2 rfl) ?_
  refine lv_if_le (tgt := 35) hx hb dX0_complete_1 (by decide) (fun c_1 => ?_) (fun c_1 => ?_)
  · have hF : (f_X0_complete vC p1 p2) = vC := by rw [f_X0_complete, if_pos c_1]
    have hP9 := hP.sub (ws' := [(kH, .inr (0, [.int vC.1, .int vC.2.1, .int vC.2.2.1, .ref kP, .ref kE, .ref kT, .int (nI (2 * n))])), (kP, .inl (cI, 32, .inl vC.2.2.2.1)), (kE, .inl (cI, (2 * n), .inl vC.2.2.2.2.1)), (kT, .inl (cI, (2 * n), .inl vC.2.2.2.2.2))]) [0, 1, 2, 3] rfl
    have hD9 := hD.sub (ws' := [(kH, .inr (0, [.int vC.1, .int vC.2.1, .int vC.2.2.1, .ref kP, .ref kE, .ref kT, .int (nI (2 * n))])), (kP, .inl (cI, 32, .inl vC.2.2.2.1)), (kE, .inl (cI, (2 * n), .inl vC.2.2.2.2.1)), (kT, .inl (cI, (2 * n), .inl vC.2.2.2.2.2))]) [0, 1, 2, 3] (by decide) rfl
    exact W.vret hx hb hr (fun u hu hW => ⟨⟨(), rfl, trivial, by rw [hu, hF]; exact hP9, by rw [hF]; exact hD9⟩, hS.F hu⟩) hS.2.2 dX0_complete_35
  · refine lv_iload_n hx hb dX0_complete_4 rfl (lv_at hl 2 rfl) ?_
    refine lv_bipush (v := 32) hx hb dX0_complete_5 (by decide) ?_
    refine lv_icmp_ge (tgt := 35) hx hb dX0_complete_7 (by decide) (fun c_7 => ?_) (fun c_7 => ?_)
    · have hF : (f_X0_complete vC p1 p2) = vC := by rw [f_X0_complete, if_neg c_1, if_pos c_7]
      have hP9 := hP.sub (ws' := [(kH, .inr (0, [.int vC.1, .int vC.2.1, .int vC.2.2.1, .ref kP, .ref kE, .ref kT, .int (nI (2 * n))])), (kP, .inl (cI, 32, .inl vC.2.2.2.1)), (kE, .inl (cI, (2 * n), .inl vC.2.2.2.2.1)), (kT, .inl (cI, (2 * n), .inl vC.2.2.2.2.2))]) [0, 1, 2, 3] rfl
      have hD9 := hD.sub (ws' := [(kH, .inr (0, [.int vC.1, .int vC.2.1, .int vC.2.2.1, .ref kP, .ref kE, .ref kT, .int (nI (2 * n))])), (kP, .inl (cI, 32, .inl vC.2.2.2.1)), (kE, .inl (cI, (2 * n), .inl vC.2.2.2.2.1)), (kT, .inl (cI, (2 * n), .inl vC.2.2.2.2.2))]) [0, 1, 2, 3] (by decide) rfl
      exact W.vret hx hb hr (fun u hu hW => ⟨⟨(), rfl, trivial, by rw [hu, hF]; exact hP9, by rw [hF]; exact hD9⟩, hS.F hu⟩) hS.2.2 dX0_complete_35
    · refine lv_aload_n hx hb dX0_complete_10 rfl (lv_at hl 0 rfl) ?_
      refine lv_dup hx hb dX0_complete_11 rfl ?_
      refine va_get (D := (dC, dI)) (ci := 0) (v := .int vC.2.2.1) (C := RX0) (T := TX0) (N := 7) hx hb hw inWX0 hown hK hP 0 rfl rfl 2 (by decide) (hw _ w_52) (fun _ h9 => h9) rfl dX0_complete_12 ?_
      refine lv_aload_n hx hb dX0_complete_15 rfl (lv_at hl 0 rfl) ?_
      refine va_get (D := (dC, dI)) (ci := 0) (v := .ref kE) (C := RX0) (T := TX0) (N := 7) hx hb hw inWX0 hown hK hP 0 rfl rfl 4 (by decide) (hw _ w_54) (fun _ h9 => h9) rfl dX0_complete_16 ?_
      refine lv_iload_n hx hb dX0_complete_19 rfl (lv_at hl 1 rfl) ?_
      have h_20 : vp_in p1 (2 * n) := hc
      refine va_iald hx hb hK hP 2 0 rfl rfl h_20 dX0_complete_20 ?_
      refine lv_iconst (v := 1) hx hb dX0_complete_21 (by decide) ?_
      refine lv_iload_n hx hb dX0_complete_22 rfl (lv_at hl 2 rfl) ?_
      refine lv_ishl hx hb dX0_complete_23 ?_
      refine lv_iand hx hb dX0_complete_24 ?_
      refine lv_iconst (v := (-1)) hx hb dX0_complete_25 (by decide) ?_
      refine lv_ixor hx hb dX0_complete_26 ?_
      refine lv_iand hx hb dX0_complete_27 ?_
      refine va_put (D := (dC, dI)) (ci := 0) (v := .int (vC.2.2.1 &&& (((vC.2.2.2.2.1 (Int32.toNatClampNeg p1)) &&& ((1 : Int32) <<< (p2 &&& 31))) ^^^ (-1)))) (ty := .int) (C := RX0) (T := TX0) (N := 7) hx hb hw inWX0 tyX0 tyX0_ok nmX0 hown hK hP hD hS 0 rfl rfl 2 (by decide) (hw _ w_52) (fun _ h9 => h9) rfl (by decide +kernel) rfl rfl (Nat.le_of_ble_eq_true rfl) dX0_complete_28 (fun H locs hP hD hS => ?_)
      have hP : va_P (dC, dI) vwCl [(kH, .inr (0, [.int vC.1, .int vC.2.1, .int (vC.2.2.1 &&& (((vC.2.2.2.2.1 (Int32.toNatClampNeg p1)) &&& ((1 : Int32) <<< (p2 &&& 31))) ^^^ (-1))), .ref kP, .ref kE, .ref kT, .int (nI (2 * n))])), (kP, .inl (cI, 32, .inl vC.2.2.2.1)), (kE, .inl (cI, (2 * n), .inl vC.2.2.2.2.1)), (kT, .inl (cI, (2 * n), .inl vC.2.2.2.2.2))] H := hP
      have hD : va_D A [(kH, .inr (0, [.int vC.1, .int vC.2.1, .int (vC.2.2.1 &&& (((vC.2.2.2.2.1 (Int32.toNatClampNeg p1)) &&& ((1 : Int32) <<< (p2 &&& 31))) ^^^ (-1))), .ref kP, .ref kE, .ref kT, .int (nI (2 * n))])), (kP, .inl (cI, 32, .inl vC.2.2.2.1)), (kE, .inl (cI, (2 * n), .inl vC.2.2.2.2.1)), (kT, .inl (cI, (2 * n), .inl vC.2.2.2.2.2))] := hD
      refine lv_aload_n hx hb dX0_complete_31 rfl (lv_at hl 0 rfl) ?_
      have hPc := hP.sub (ws' := [(kH, .inr (0, [.int vC.1, .int vC.2.1, .int (vC.2.2.1 &&& (((vC.2.2.2.2.1 (Int32.toNatClampNeg p1)) &&& ((1 : Int32) <<< (p2 &&& 31))) ^^^ (-1))), .ref kP, .ref kE, .ref kT, .int (nI (2 * n))])), (kP, .inl (cI, 32, .inl vC.2.2.2.1)), (kE, .inl (cI, (2 * n), .inl vC.2.2.2.2.1)), (kT, .inl (cI, (2 * n), .inl vC.2.2.2.2.2))]) [0, 1, 2, 3] rfl
      have hDc := hD.sub (ws' := [(kH, .inr (0, [.int vC.1, .int vC.2.1, .int (vC.2.2.1 &&& (((vC.2.2.2.2.1 (Int32.toNatClampNeg p1)) &&& ((1 : Int32) <<< (p2 &&& 31))) ^^^ (-1))), .ref kP, .ref kE, .ref kT, .int (nI (2 * n))])), (kP, .inl (cI, 32, .inl vC.2.2.2.1)), (kE, .inl (cI, (2 * n), .inl vC.2.2.2.2.1)), (kT, .inl (cI, (2 * n), .inl vC.2.2.2.2.2))]) [0, 1, 2, 3] (by decide) rfl
      have hFc := va_free (wc := [(kH, .inr (0, [.int vC.1, .int vC.2.1, .int (vC.2.2.1 &&& (((vC.2.2.2.2.1 (Int32.toNatClampNeg p1)) &&& ((1 : Int32) <<< (p2 &&& 31))) ^^^ (-1))), .ref kP, .ref kE, .ref kT, .int (nI (2 * n))])), (kP, .inl (cI, 32, .inl vC.2.2.2.1)), (kE, .inl (cI, (2 * n), .inl vC.2.2.2.2.1)), (kT, .inl (cI, (2 * n), .inl vC.2.2.2.2.2))]) hD hS hA [0, 1, 2, 3] rfl
      refine va_callv (va_runV (As := []) (rest := []) ⟨hx, hb, hml, hown, hw⟩ (k_X0_letWait l dC dI cI cJ cB cZ kH kP kE kT H.size n (vC.1, vC.2.1, (vC.2.2.1 &&& (((vC.2.2.2.2.1 (Int32.toNatClampNeg p1)) &&& ((1 : Int32) <<< (p2 &&& 31))) ^^^ (-1))), vC.2.2.2.1, vC.2.2.2.2.1, vC.2.2.2.2.2)) (cwV 0 hw (gV w_192 w_194 w_s1 w_4 w_195) rfl rfl rfl (by decide +kernel) ⟨Nat.le_of_ble_eq_true rfl, Nat.le_of_ble_eq_true rfl⟩) ⟨fun a U g mk q => by obtain ⟨q0, q1, qP, qK, qD, qN⟩ := q; exact ⟨q0, q1, qP, va_K.moved (u := U) (U := U.calling g mk a) (Vm.Alike.refl U.vm) qK, qD, nw_same (s := U) (U := U.calling g mk a) rfl qN⟩, va_recv hK hPc (ci := 0) (q0 := 0) rfl rfl, fun U hU hW => ⟨rfl, by rw [hU], by rw [hU]; exact hPc, va_K.moved hW.alike hK, hDc.weaken (fun _ _ _ _ => trivial), nw_warm hW hN⟩⟩ rfl rfl hl.1 rfl (lv_room (Nat.le_of_ble_eq_true rfl)) dX0_complete_32 ⟨Nat.le_of_ble_eq_true rfl, Nat.le_of_ble_eq_true rfl⟩) hS (fun q _ h => hFc q h) hFc (fun u t9 H1 locs ht hvm hR hB hz1 hk1 hS => ?_)
      obtain ⟨hP1, hD1⟩ := hB
      rw [ht] at hP1
      obtain ⟨hP, hD⟩ := va_join (wr := []) (w1 := [(kH, .inr (0, [.int (f_X0_letWait (vC.1, vC.2.1, (vC.2.2.1 &&& (((vC.2.2.2.2.1 (Int32.toNatClampNeg p1)) &&& ((1 : Int32) <<< (p2 &&& 31))) ^^^ (-1))), vC.2.2.2.1, vC.2.2.2.2.1, vC.2.2.2.2.2)).1, .int (f_X0_letWait (vC.1, vC.2.1, (vC.2.2.1 &&& (((vC.2.2.2.2.1 (Int32.toNatClampNeg p1)) &&& ((1 : Int32) <<< (p2 &&& 31))) ^^^ (-1))), vC.2.2.2.1, vC.2.2.2.2.1, vC.2.2.2.2.2)).2.1, .int (f_X0_letWait (vC.1, vC.2.1, (vC.2.2.1 &&& (((vC.2.2.2.2.1 (Int32.toNatClampNeg p1)) &&& ((1 : Int32) <<< (p2 &&& 31))) ^^^ (-1))), vC.2.2.2.1, vC.2.2.2.2.1, vC.2.2.2.2.2)).2.2.1, .ref kP, .ref kE, .ref kT, .int (nI (2 * n))])), (kP, .inl (cI, 32, .inl (f_X0_letWait (vC.1, vC.2.1, (vC.2.2.1 &&& (((vC.2.2.2.2.1 (Int32.toNatClampNeg p1)) &&& ((1 : Int32) <<< (p2 &&& 31))) ^^^ (-1))), vC.2.2.2.1, vC.2.2.2.2.1, vC.2.2.2.2.2)).2.2.2.1)), (kE, .inl (cI, (2 * n), .inl (f_X0_letWait (vC.1, vC.2.1, (vC.2.2.1 &&& (((vC.2.2.2.2.1 (Int32.toNatClampNeg p1)) &&& ((1 : Int32) <<< (p2 &&& 31))) ^^^ (-1))), vC.2.2.2.1, vC.2.2.2.2.1, vC.2.2.2.2.2)).2.2.2.2.1)), (kT, .inl (cI, (2 * n), .inl (f_X0_letWait (vC.1, vC.2.1, (vC.2.2.1 &&& (((vC.2.2.2.2.1 (Int32.toNatClampNeg p1)) &&& ((1 : Int32) <<< (p2 &&& 31))) ^^^ (-1))), vC.2.2.2.1, vC.2.2.2.2.1, vC.2.2.2.2.2)).2.2.2.2.2))]) hP hD [0, 1, 2, 3] [] rfl rfl (by decide) (by decide) hk1 hFc hP1 hD1
      generalize H1 = H at hP hS ⊢
      have hP : va_P (dC, dI) vwCl [(kH, .inr (0, [.int (f_X0_letWait (vC.1, vC.2.1, (vC.2.2.1 &&& (((vC.2.2.2.2.1 (Int32.toNatClampNeg p1)) &&& ((1 : Int32) <<< (p2 &&& 31))) ^^^ (-1))), vC.2.2.2.1, vC.2.2.2.2.1, vC.2.2.2.2.2)).1, .int (f_X0_letWait (vC.1, vC.2.1, (vC.2.2.1 &&& (((vC.2.2.2.2.1 (Int32.toNatClampNeg p1)) &&& ((1 : Int32) <<< (p2 &&& 31))) ^^^ (-1))), vC.2.2.2.1, vC.2.2.2.2.1, vC.2.2.2.2.2)).2.1, .int (f_X0_letWait (vC.1, vC.2.1, (vC.2.2.1 &&& (((vC.2.2.2.2.1 (Int32.toNatClampNeg p1)) &&& ((1 : Int32) <<< (p2 &&& 31))) ^^^ (-1))), vC.2.2.2.1, vC.2.2.2.2.1, vC.2.2.2.2.2)).2.2.1, .ref kP, .ref kE, .ref kT, .int (nI (2 * n))])), (kP, .inl (cI, 32, .inl (f_X0_letWait (vC.1, vC.2.1, (vC.2.2.1 &&& (((vC.2.2.2.2.1 (Int32.toNatClampNeg p1)) &&& ((1 : Int32) <<< (p2 &&& 31))) ^^^ (-1))), vC.2.2.2.1, vC.2.2.2.2.1, vC.2.2.2.2.2)).2.2.2.1)), (kE, .inl (cI, (2 * n), .inl (f_X0_letWait (vC.1, vC.2.1, (vC.2.2.1 &&& (((vC.2.2.2.2.1 (Int32.toNatClampNeg p1)) &&& ((1 : Int32) <<< (p2 &&& 31))) ^^^ (-1))), vC.2.2.2.1, vC.2.2.2.2.1, vC.2.2.2.2.2)).2.2.2.2.1)), (kT, .inl (cI, (2 * n), .inl (f_X0_letWait (vC.1, vC.2.1, (vC.2.2.1 &&& (((vC.2.2.2.2.1 (Int32.toNatClampNeg p1)) &&& ((1 : Int32) <<< (p2 &&& 31))) ^^^ (-1))), vC.2.2.2.1, vC.2.2.2.2.1, vC.2.2.2.2.2)).2.2.2.2.2))] H := hP
      have hD : va_D A [(kH, .inr (0, [.int (f_X0_letWait (vC.1, vC.2.1, (vC.2.2.1 &&& (((vC.2.2.2.2.1 (Int32.toNatClampNeg p1)) &&& ((1 : Int32) <<< (p2 &&& 31))) ^^^ (-1))), vC.2.2.2.1, vC.2.2.2.2.1, vC.2.2.2.2.2)).1, .int (f_X0_letWait (vC.1, vC.2.1, (vC.2.2.1 &&& (((vC.2.2.2.2.1 (Int32.toNatClampNeg p1)) &&& ((1 : Int32) <<< (p2 &&& 31))) ^^^ (-1))), vC.2.2.2.1, vC.2.2.2.2.1, vC.2.2.2.2.2)).2.1, .int (f_X0_letWait (vC.1, vC.2.1, (vC.2.2.1 &&& (((vC.2.2.2.2.1 (Int32.toNatClampNeg p1)) &&& ((1 : Int32) <<< (p2 &&& 31))) ^^^ (-1))), vC.2.2.2.1, vC.2.2.2.2.1, vC.2.2.2.2.2)).2.2.1, .ref kP, .ref kE, .ref kT, .int (nI (2 * n))])), (kP, .inl (cI, 32, .inl (f_X0_letWait (vC.1, vC.2.1, (vC.2.2.1 &&& (((vC.2.2.2.2.1 (Int32.toNatClampNeg p1)) &&& ((1 : Int32) <<< (p2 &&& 31))) ^^^ (-1))), vC.2.2.2.1, vC.2.2.2.2.1, vC.2.2.2.2.2)).2.2.2.1)), (kE, .inl (cI, (2 * n), .inl (f_X0_letWait (vC.1, vC.2.1, (vC.2.2.1 &&& (((vC.2.2.2.2.1 (Int32.toNatClampNeg p1)) &&& ((1 : Int32) <<< (p2 &&& 31))) ^^^ (-1))), vC.2.2.2.1, vC.2.2.2.2.1, vC.2.2.2.2.2)).2.2.2.2.1)), (kT, .inl (cI, (2 * n), .inl (f_X0_letWait (vC.1, vC.2.1, (vC.2.2.1 &&& (((vC.2.2.2.2.1 (Int32.toNatClampNeg p1)) &&& ((1 : Int32) <<< (p2 &&& 31))) ^^^ (-1))), vC.2.2.2.1, vC.2.2.2.2.1, vC.2.2.2.2.2)).2.2.2.2.2))] := hD
      have hF : (f_X0_complete vC p1 p2) = (f_X0_letWait (vC.1, vC.2.1, (vC.2.2.1 &&& (((vC.2.2.2.2.1 (Int32.toNatClampNeg p1)) &&& ((1 : Int32) <<< (p2 &&& 31))) ^^^ (-1))), vC.2.2.2.1, vC.2.2.2.2.1, vC.2.2.2.2.2)) := by rw [f_X0_complete, if_neg c_1, if_neg c_7]
      have hP9 := hP.sub (ws' := [(kH, .inr (0, [.int (f_X0_letWait (vC.1, vC.2.1, (vC.2.2.1 &&& (((vC.2.2.2.2.1 (Int32.toNatClampNeg p1)) &&& ((1 : Int32) <<< (p2 &&& 31))) ^^^ (-1))), vC.2.2.2.1, vC.2.2.2.2.1, vC.2.2.2.2.2)).1, .int (f_X0_letWait (vC.1, vC.2.1, (vC.2.2.1 &&& (((vC.2.2.2.2.1 (Int32.toNatClampNeg p1)) &&& ((1 : Int32) <<< (p2 &&& 31))) ^^^ (-1))), vC.2.2.2.1, vC.2.2.2.2.1, vC.2.2.2.2.2)).2.1, .int (f_X0_letWait (vC.1, vC.2.1, (vC.2.2.1 &&& (((vC.2.2.2.2.1 (Int32.toNatClampNeg p1)) &&& ((1 : Int32) <<< (p2 &&& 31))) ^^^ (-1))), vC.2.2.2.1, vC.2.2.2.2.1, vC.2.2.2.2.2)).2.2.1, .ref kP, .ref kE, .ref kT, .int (nI (2 * n))])), (kP, .inl (cI, 32, .inl (f_X0_letWait (vC.1, vC.2.1, (vC.2.2.1 &&& (((vC.2.2.2.2.1 (Int32.toNatClampNeg p1)) &&& ((1 : Int32) <<< (p2 &&& 31))) ^^^ (-1))), vC.2.2.2.1, vC.2.2.2.2.1, vC.2.2.2.2.2)).2.2.2.1)), (kE, .inl (cI, (2 * n), .inl (f_X0_letWait (vC.1, vC.2.1, (vC.2.2.1 &&& (((vC.2.2.2.2.1 (Int32.toNatClampNeg p1)) &&& ((1 : Int32) <<< (p2 &&& 31))) ^^^ (-1))), vC.2.2.2.1, vC.2.2.2.2.1, vC.2.2.2.2.2)).2.2.2.2.1)), (kT, .inl (cI, (2 * n), .inl (f_X0_letWait (vC.1, vC.2.1, (vC.2.2.1 &&& (((vC.2.2.2.2.1 (Int32.toNatClampNeg p1)) &&& ((1 : Int32) <<< (p2 &&& 31))) ^^^ (-1))), vC.2.2.2.1, vC.2.2.2.2.1, vC.2.2.2.2.2)).2.2.2.2.2))]) [0, 1, 2, 3] rfl
      have hD9 := hD.sub (ws' := [(kH, .inr (0, [.int (f_X0_letWait (vC.1, vC.2.1, (vC.2.2.1 &&& (((vC.2.2.2.2.1 (Int32.toNatClampNeg p1)) &&& ((1 : Int32) <<< (p2 &&& 31))) ^^^ (-1))), vC.2.2.2.1, vC.2.2.2.2.1, vC.2.2.2.2.2)).1, .int (f_X0_letWait (vC.1, vC.2.1, (vC.2.2.1 &&& (((vC.2.2.2.2.1 (Int32.toNatClampNeg p1)) &&& ((1 : Int32) <<< (p2 &&& 31))) ^^^ (-1))), vC.2.2.2.1, vC.2.2.2.2.1, vC.2.2.2.2.2)).2.1, .int (f_X0_letWait (vC.1, vC.2.1, (vC.2.2.1 &&& (((vC.2.2.2.2.1 (Int32.toNatClampNeg p1)) &&& ((1 : Int32) <<< (p2 &&& 31))) ^^^ (-1))), vC.2.2.2.1, vC.2.2.2.2.1, vC.2.2.2.2.2)).2.2.1, .ref kP, .ref kE, .ref kT, .int (nI (2 * n))])), (kP, .inl (cI, 32, .inl (f_X0_letWait (vC.1, vC.2.1, (vC.2.2.1 &&& (((vC.2.2.2.2.1 (Int32.toNatClampNeg p1)) &&& ((1 : Int32) <<< (p2 &&& 31))) ^^^ (-1))), vC.2.2.2.1, vC.2.2.2.2.1, vC.2.2.2.2.2)).2.2.2.1)), (kE, .inl (cI, (2 * n), .inl (f_X0_letWait (vC.1, vC.2.1, (vC.2.2.1 &&& (((vC.2.2.2.2.1 (Int32.toNatClampNeg p1)) &&& ((1 : Int32) <<< (p2 &&& 31))) ^^^ (-1))), vC.2.2.2.1, vC.2.2.2.2.1, vC.2.2.2.2.2)).2.2.2.2.1)), (kT, .inl (cI, (2 * n), .inl (f_X0_letWait (vC.1, vC.2.1, (vC.2.2.1 &&& (((vC.2.2.2.2.1 (Int32.toNatClampNeg p1)) &&& ((1 : Int32) <<< (p2 &&& 31))) ^^^ (-1))), vC.2.2.2.1, vC.2.2.2.2.1, vC.2.2.2.2.2)).2.2.2.2.2))]) [0, 1, 2, 3] (by decide) rfl
      exact W.vret hx hb hr (fun u hu hW => ⟨⟨(), rfl, trivial, by rw [hu, hF]; exact hP9, by rw [hF]; exact hD9⟩, hS.F hu⟩) hS.2.2 dX0_complete_35
def f_X0_mostUrgent (vC : CS) (p1 : Int32) : Int32 :=
  nI (mu_go (vC.2.1 &&& (vC.2.2.2.2.1 (Int32.toNatClampNeg p1))) vC.2.2.2.1 31 1 0)
set_option maxHeartbeats 4000000 in
set_option maxRecDepth 100000 in
theorem k_X0_mostUrgent (l : Launch) (dC : Nat → ClassId) (dI : Nat → Nat → Nat) (cI cJ cB cZ : ClassId) (kH kP kE kT : Nat) (sz : Nat) (n : Nat) (vC : CS) (p1 : Int32) (hc : vp_in p1 (2 * n)) : Met l yX0_mostUrgent wsX0_mostUrgent ({ frames := 0, cells := 0, slots := 0, locals := 0 }) (va_Pc [.ref kH, .int p1] (fun U => U.heap.size = sz ∧ va_P (dC, dI) vwCl [(kH, .inr (0, [.int vC.1, .int vC.2.1, .int vC.2.2.1, .ref kP, .ref kE, .ref kT, .int (nI (2 * n))])), (kP, .inl (cI, 32, .inl vC.2.2.2.1)), (kE, .inl (cI, (2 * n), .inl vC.2.2.2.2.1)), (kT, .inl (cI, (2 * n), .inl vC.2.2.2.2.2))] U.heap ∧ va_K (dC, dI) vwCl [(cI, .int), (cJ, .long), (cB, .byte), (cZ, .boolean)] U ∧ va_D (fun _ => True) [(kH, .inr (0, [.int vC.1, .int vC.2.1, .int vC.2.2.1, .ref kP, .ref kE, .ref kT, .int (nI (2 * n))])), (kP, .inl (cI, 32, .inl vC.2.2.2.1)), (kE, .inl (cI, (2 * n), .inl vC.2.2.2.2.1)), (kT, .inl (cI, (2 * n), .inl vC.2.2.2.2.2))] ∧ nw_ U)) (va_Qi (fun (r : Int32) (_ : Unit) => r = (f_X0_mostUrgent vC p1)) (fun (_ : Unit) (w : State) => va_P (dC, dI) vwCl [(kH, .inr (0, [.int vC.1, .int vC.2.1, .int vC.2.2.1, .ref kP, .ref kE, .ref kT, .int (nI (2 * n))])), (kP, .inl (cI, 32, .inl vC.2.2.2.1)), (kE, .inl (cI, (2 * n), .inl vC.2.2.2.2.1)), (kT, .inl (cI, (2 * n), .inl vC.2.2.2.2.2))] w.heap ∧ va_D (va_A [(kH, .inr (0, [.int vC.1, .int vC.2.1, .int vC.2.2.1, .ref kP, .ref kE, .ref kT, .int (nI (2 * n))])), (kP, .inl (cI, 32, .inl vC.2.2.2.1)), (kE, .inl (cI, (2 * n), .inl vC.2.2.2.2.1)), (kT, .inl (cI, (2 * n), .inl vC.2.2.2.2.2))] sz) [(kH, .inr (0, [.int vC.1, .int vC.2.1, .int vC.2.2.1, .ref kP, .ref kE, .ref kT, .int (nI (2 * n))])), (kP, .inl (cI, 32, .inl vC.2.2.2.1)), (kE, .inl (cI, (2 * n), .inl vC.2.2.2.2.1)), (kT, .inl (cI, (2 * n), .inl vC.2.2.2.2.2))]) (va_A [(kH, .inr (0, [.int vC.1, .int vC.2.1, .int vC.2.2.1, .ref kP, .ref kE, .ref kT, .int (nI (2 * n))])), (kP, .inl (cI, 32, .inl vC.2.2.2.1)), (kE, .inl (cI, (2 * n), .inl vC.2.2.2.2.1)), (kT, .inl (cI, (2 * n), .inl vC.2.2.2.2.2))] sz)) 0 0 (va_A [(kH, .inr (0, [.int vC.1, .int vC.2.1, .int vC.2.2.1, .ref kP, .ref kE, .ref kT, .int (nI (2 * n))])), (kP, .inl (cI, 32, .inl vC.2.2.2.1)), (kE, .inl (cI, (2 * n), .inl vC.2.2.2.2.1)), (kT, .inl (cI, (2 * n), .inl vC.2.2.2.2.2))] sz) := by
  refine Met.ofW (cc := prog_2_method_9_code) (maxL := 5) (ret := (some .int)) (by decide) rfl ?_
  intro p e s m args below meth c s₁ B hml hv
  obtain ⟨rfl, hsz, hP, hK, hD0, hN⟩ := hv
  have hx := B.exec
  have hb := B.bytes
  have hr := B.returns
  have hw := hw_of (atoms_spec (ws := wsX0_mostUrgent) B.pre)
  have hown : s.vm.findClass RX0 = some m.cls := findClass_of_methodNamed B.named
  have hlocks := B.notSynchronized
  subst hsz
  have hD := hD0.self (sz := s.heap.size)
  generalize hAe : va_A [(kH, .inr (0, [.int vC.1, .int vC.2.1, .int vC.2.2.1, .ref kP, .ref kE, .ref kT, .int (nI (2 * n))])), (kP, .inl (cI, 32, .inl vC.2.2.2.1)), (kE, .inl (cI, (2 * n), .inl vC.2.2.2.2.1)), (kT, .inl (cI, (2 * n), .inl vC.2.2.2.2.2))] s.heap.size = A at hD ⊢
  have hA : ∀ q : Nat, s.heap.size ≤ q → A q := fun q h => by rw [← hAe]; exact Or.inr h
  have hS : va_S A s.heap s.heap [] := va_S.rf
  have hP : va_P (dC, dI) vwCl [(kH, .inr (0, [.int vC.1, .int vC.2.1, .int vC.2.2.1, .ref kP, .ref kE, .ref kT, .int (nI (2 * n))])), (kP, .inl (cI, 32, .inl vC.2.2.2.1)), (kE, .inl (cI, (2 * n), .inl vC.2.2.2.2.1)), (kT, .inl (cI, (2 * n), .inl vC.2.2.2.2.2))] s.heap := hP
  have hl := lv_entry ([.ref kH, .int p1]) (n := 5) (Nat.le_of_ble_eq_true rfl)
  rw [lg_entry_eq]
  generalize (lg_sl ([.ref kH, .int p1]) ++ List.replicate (5 - (lg_sl ([.ref kH, .int p1])).length) Slot.unset).toArray = ls at hl ⊢
  have hl : lv_has ls 5 [(0, .ref kH), (1, .int p1)] := hl
  refine lv_aload_n hx hb dX0_mostUrgent_0 rfl (lv_at hl 0 rfl) ?_
  refine va_get (D := (dC, dI)) (ci := 0) (v := .int vC.2.1) (C := RX0) (T := TX0) (N := 7) hx hb hw inWX0 hown hK hP 0 rfl rfl 1 (by decide) (hw _ w_51) (fun _ h9 => h9) rfl dX0_mostUrgent_1 ?_
  refine lv_aload_n hx hb dX0_mostUrgent_4 rfl (lv_at hl 0 rfl) ?_
  refine va_get (D := (dC, dI)) (ci := 0) (v := .ref kE) (C := RX0) (T := TX0) (N := 7) hx hb hw inWX0 hown hK hP 0 rfl rfl 4 (by decide) (hw _ w_54) (fun _ h9 => h9) rfl dX0_mostUrgent_5 ?_
  refine lv_iload_n hx hb dX0_mostUrgent_8 rfl (lv_at hl 1 rfl) ?_
  have h_9 : vp_in p1 (2 * n) := hc
  refine va_iald hx hb hK hP 2 0 rfl rfl h_9 dX0_mostUrgent_9 ?_
  refine lv_iand hx hb dX0_mostUrgent_10 ?_
  refine lv_istore_n (lv' := [(2, .int (vC.2.1 &&& (vC.2.2.2.2.1 (Int32.toNatClampNeg p1)))), (0, .ref kH), (1, .int p1)]) hx hb dX0_mostUrgent_11 rfl hl (by decide) rfl (fun ls hl => ?_)
  refine lv_iconst (v := 0) hx hb dX0_mostUrgent_12 (by decide) ?_
  refine lv_istore_n (lv' := [(3, .int 0), (2, .int (vC.2.1 &&& (vC.2.2.2.2.1 (Int32.toNatClampNeg p1)))), (0, .ref kH), (1, .int p1)]) hx hb dX0_mostUrgent_13 rfl hl (by decide) rfl (fun ls hl => ?_)
  refine lv_iconst (v := 1) hx hb dX0_mostUrgent_14 (by decide) ?_
  refine lv_istore (lv' := [(4, .int 1), (3, .int 0), (2, .int (vC.2.1 &&& (vC.2.2.2.2.1 (Int32.toNatClampNeg p1)))), (0, .ref kH), (1, .int p1)]) hx hb dX0_mostUrgent_15 hl (by decide) rfl (fun ls hl => ?_)
  refine lv_iload hx hb dX0_mostUrgent_17 (lv_at hl 0 rfl) ?_
  refine lv_bipush (v := 32) hx hb dX0_mostUrgent_19 (by decide) ?_
  refine lv_icmp_ge (tgt := 58) hx hb dX0_mostUrgent_21 (by decide) (fun c_21 => ?_) (fun c_21 => ?_)
  · exact absurd c_21 (by decide)
  · refine lv_iload_n hx hb dX0_mostUrgent_24 rfl (lv_at hl 2 rfl) ?_
    refine lv_iconst (v := 1) hx hb dX0_mostUrgent_25 (by decide) ?_
    refine lv_iload hx hb dX0_mostUrgent_26 (lv_at hl 0 rfl) ?_
    refine lv_ishl hx hb dX0_mostUrgent_28 ?_
    refine lv_iand hx hb dX0_mostUrgent_29 ?_
    refine lv_if_eq (tgt := 52) hx hb dX0_mostUrgent_30 (by decide) (fun c_30 => ?_) (fun c_30 => ?_)
    · refine lv_iinc (v := 2) (lv' := [(4, .int 2), (3, .int 0), (2, .int (vC.2.1 &&& (vC.2.2.2.2.1 (Int32.toNatClampNeg p1)))), (0, .ref kH), (1, .int p1)]) hx hb dX0_mostUrgent_52 hl (k := 0) rfl (by first | rfl | decide) (by decide) rfl (fun ls hl => ?_)
      refine lv_goto (tgt := 17) hx hb dX0_mostUrgent_55 (by decide) ?_
      obtain ⟨k, hk⟩ : ∃ k : Nat, 1 + k = 32 := ⟨31, rfl⟩
      obtain ⟨i, hi⟩ : ∃ i : Nat, i = 1 := ⟨1, rfl⟩
      obtain ⟨b, hb0⟩ : ∃ b : Nat, b = 0 := ⟨0, rfl⟩
      have hE : (f_X0_mostUrgent vC p1) = nI (mu_go (vC.2.1 &&& (vC.2.2.2.2.1 (Int32.toNatClampNeg p1))) vC.2.2.2.1 k i b) := by obtain rfl : k = 31 := (by omega); subst hi; subst hb0; rfl
      have hbb : b < 32 := by omega
      have hk : i + k = 32 := by omega
      have hl : lv_has ls 5 [(4, .int (nI i)), (3, .int (nI b)), (2, .int (vC.2.1 &&& (vC.2.2.2.2.1 (Int32.toNatClampNeg p1)))), (0, .ref kH), (1, .int p1)] := by subst hi; subst hb0; exact hl
      clear hi hb0
      induction k generalizing i b ls with
      | zero =>
        refine lv_iload hx hb dX0_mostUrgent_17 (lv_at hl 0 rfl) ?_
        refine lv_bipush (v := 32) hx hb dX0_mostUrgent_19 (by decide) ?_
        refine lv_icmp_ge (tgt := 58) hx hb dX0_mostUrgent_21 (by decide) (fun c_21 => ?_) (fun c_21 => ?_)
        · refine lv_iload_n hx hb dX0_mostUrgent_58 rfl (lv_at hl 1 rfl) ?_
          have hF : (f_X0_mostUrgent vC p1) = (nI b) := by exact hE
          have hP9 := hP.sub (ws' := [(kH, .inr (0, [.int vC.1, .int vC.2.1, .int vC.2.2.1, .ref kP, .ref kE, .ref kT, .int (nI (2 * n))])), (kP, .inl (cI, 32, .inl vC.2.2.2.1)), (kE, .inl (cI, (2 * n), .inl vC.2.2.2.2.1)), (kT, .inl (cI, (2 * n), .inl vC.2.2.2.2.2))]) [0, 1, 2, 3] rfl
          have hD9 := hD.sub (ws' := [(kH, .inr (0, [.int vC.1, .int vC.2.1, .int vC.2.2.1, .ref kP, .ref kE, .ref kT, .int (nI (2 * n))])), (kP, .inl (cI, 32, .inl vC.2.2.2.1)), (kE, .inl (cI, (2 * n), .inl vC.2.2.2.2.1)), (kT, .inl (cI, (2 * n), .inl vC.2.2.2.2.2))]) [0, 1, 2, 3] (by decide) rfl
          exact W.iret (v := (nI b)) hx hb hr (fun u hu hW => ⟨⟨(nI b), (), rfl, hF.symm, by rw [hu]; exact hP9, hD9⟩, hS.F hu⟩) hS.2.2 dX0_mostUrgent_59
        · exact absurd (by obtain rfl : i = 32 := (by omega); decide) c_21
      | succ k ih =>
        refine lv_iload hx hb dX0_mostUrgent_17 (lv_at hl 0 rfl) ?_
        refine lv_bipush (v := 32) hx hb dX0_mostUrgent_19 (by decide) ?_
        refine lv_icmp_ge (tgt := 58) hx hb dX0_mostUrgent_21 (by decide) (fun c_21 => ?_) (fun c_21 => ?_)
        · exact absurd c_21 (nI_ge (a := i) (b := 32) (by omega) (by omega))
        · refine lv_iload_n hx hb dX0_mostUrgent_24 rfl (lv_at hl 2 rfl) ?_
          refine lv_iconst (v := 1) hx hb dX0_mostUrgent_25 (by decide) ?_
          refine lv_iload hx hb dX0_mostUrgent_26 (lv_at hl 0 rfl) ?_
          refine lv_ishl hx hb dX0_mostUrgent_28 ?_
          refine lv_iand hx hb dX0_mostUrgent_29 ?_
          refine lv_if_eq (tgt := 52) hx hb dX0_mostUrgent_30 (by decide) (fun c_30 => ?_) (fun c_30 => ?_)
          · refine lv_iinc (v := ((nI i) + 1)) (lv' := [(4, .int ((nI i) + 1)), (3, .int (nI b)), (2, .int (vC.2.1 &&& (vC.2.2.2.2.1 (Int32.toNatClampNeg p1)))), (0, .ref kH), (1, .int p1)]) hx hb dX0_mostUrgent_52 hl (k := 0) rfl (by first | rfl | decide) (by decide) rfl (fun ls hl => ?_)
            refine lv_goto (tgt := 17) hx hb dX0_mostUrgent_55 (by decide) ?_
            rw [nI_1 i] at hl
            exact ih (i + 1) b ls (hE.trans (by rw [mu_go, if_pos c_30, if_pos c_30])) (by omega) (by omega) (lv_sub hl [0, 1, 2, 3, 4] rfl)
          · refine lv_aload_n hx hb dX0_mostUrgent_33 rfl (lv_at hl 3 rfl) ?_
            refine va_get (D := (dC, dI)) (ci := 0) (v := .ref kP) (C := RX0) (T := TX0) (N := 7) hx hb hw inWX0 hown hK hP 0 rfl rfl 3 (by decide) (hw _ w_53) (fun _ h9 => h9) rfl dX0_mostUrgent_34 ?_
            refine lv_iload hx hb dX0_mostUrgent_37 (lv_at hl 0 rfl) ?_
            have h_39 : vp_in (nI i) 32 := (vp_in_nI (by omega) (by omega))
            refine va_iald hx hb hK hP 1 0 rfl rfl h_39 dX0_mostUrgent_39 ?_
            refine lv_aload_n hx hb dX0_mostUrgent_40 rfl (lv_at hl 3 rfl) ?_
            refine va_get (D := (dC, dI)) (ci := 0) (v := .ref kP) (C := RX0) (T := TX0) (N := 7) hx hb hw inWX0 hown hK hP 0 rfl rfl 3 (by decide) (hw _ w_53) (fun _ h9 => h9) rfl dX0_mostUrgent_41 ?_
            refine lv_iload_n hx hb dX0_mostUrgent_44 rfl (lv_at hl 1 rfl) ?_
            have h_45 : vp_in (nI b) 32 := (vp_in_nI (by omega) (by omega))
            refine va_iald hx hb hK hP 1 0 rfl rfl h_45 dX0_mostUrgent_45 ?_
            refine lv_icmp_le (tgt := 52) hx hb dX0_mostUrgent_46 (by decide) (fun c_46 => ?_) (fun c_46 => ?_)
            · refine lv_iinc (v := ((nI i) + 1)) (lv' := [(4, .int ((nI i) + 1)), (3, .int (nI b)), (2, .int (vC.2.1 &&& (vC.2.2.2.2.1 (Int32.toNatClampNeg p1)))), (0, .ref kH), (1, .int p1)]) hx hb dX0_mostUrgent_52 hl (k := 0) rfl (by first | rfl | decide) (by decide) rfl (fun ls hl => ?_)
              refine lv_goto (tgt := 17) hx hb dX0_mostUrgent_55 (by decide) ?_
              rw [nI_1 i] at hl
              rw [nI_clamp (by omega), nI_clamp (by omega)] at c_46
              exact ih (i + 1) b ls (hE.trans (by rw [mu_go, if_pos c_30, if_neg c_30, if_pos c_46])) (by omega) (by omega) (lv_sub hl [0, 1, 2, 3, 4] rfl)
            · refine lv_iload hx hb dX0_mostUrgent_49 (lv_at hl 0 rfl) ?_
              refine lv_istore_n (lv' := [(3, .int (nI i)), (4, .int (nI i)), (2, .int (vC.2.1 &&& (vC.2.2.2.2.1 (Int32.toNatClampNeg p1)))), (0, .ref kH), (1, .int p1)]) hx hb dX0_mostUrgent_51 rfl hl (by decide) rfl (fun ls hl => ?_)
              refine lv_iinc (v := ((nI i) + 1)) (lv' := [(4, .int ((nI i) + 1)), (3, .int (nI i)), (2, .int (vC.2.1 &&& (vC.2.2.2.2.1 (Int32.toNatClampNeg p1)))), (0, .ref kH), (1, .int p1)]) hx hb dX0_mostUrgent_52 hl (k := 1) rfl (by first | rfl | decide) (by decide) rfl (fun ls hl => ?_)
              refine lv_goto (tgt := 17) hx hb dX0_mostUrgent_55 (by decide) ?_
              rw [nI_1 i] at hl
              rw [nI_clamp (by omega), nI_clamp (by omega)] at c_46
              exact ih (i + 1) i ls (hE.trans (by rw [mu_go, if_pos c_30, if_neg c_30, if_neg c_46])) (by omega) (by omega) (lv_sub hl [0, 1, 2, 3, 4] rfl)
    · refine lv_aload_n hx hb dX0_mostUrgent_33 rfl (lv_at hl 3 rfl) ?_
      refine va_get (D := (dC, dI)) (ci := 0) (v := .ref kP) (C := RX0) (T := TX0) (N := 7) hx hb hw inWX0 hown hK hP 0 rfl rfl 3 (by decide) (hw _ w_53) (fun _ h9 => h9) rfl dX0_mostUrgent_34 ?_
      refine lv_iload hx hb dX0_mostUrgent_37 (lv_at hl 0 rfl) ?_
      have h_39 : vp_in (1 : Int32) 32 := (vp_in_nI (by omega) (by omega))
      refine va_iald hx hb hK hP 1 0 rfl rfl h_39 dX0_mostUrgent_39 ?_
      refine lv_aload_n hx hb dX0_mostUrgent_40 rfl (lv_at hl 3 rfl) ?_
      refine va_get (D := (dC, dI)) (ci := 0) (v := .ref kP) (C := RX0) (T := TX0) (N := 7) hx hb hw inWX0 hown hK hP 0 rfl rfl 3 (by decide) (hw _ w_53) (fun _ h9 => h9) rfl dX0_mostUrgent_41 ?_
      refine lv_iload_n hx hb dX0_mostUrgent_44 rfl (lv_at hl 1 rfl) ?_
      have h_45 : vp_in (0 : Int32) 32 := (vp_in_nI (by omega) (by omega))
      refine va_iald hx hb hK hP 1 0 rfl rfl h_45 dX0_mostUrgent_45 ?_
      refine lv_icmp_le (tgt := 52) hx hb dX0_mostUrgent_46 (by decide) (fun c_46 => ?_) (fun c_46 => ?_)
      · refine lv_iinc (v := 2) (lv' := [(4, .int 2), (3, .int 0), (2, .int (vC.2.1 &&& (vC.2.2.2.2.1 (Int32.toNatClampNeg p1)))), (0, .ref kH), (1, .int p1)]) hx hb dX0_mostUrgent_52 hl (k := 0) rfl (by first | rfl | decide) (by decide) rfl (fun ls hl => ?_)
        refine lv_goto (tgt := 17) hx hb dX0_mostUrgent_55 (by decide) ?_
        obtain ⟨k, hk⟩ : ∃ k : Nat, 1 + k = 32 := ⟨31, rfl⟩
        obtain ⟨i, hi⟩ : ∃ i : Nat, i = 1 := ⟨1, rfl⟩
        obtain ⟨b, hb0⟩ : ∃ b : Nat, b = 0 := ⟨0, rfl⟩
        have hE : (f_X0_mostUrgent vC p1) = nI (mu_go (vC.2.1 &&& (vC.2.2.2.2.1 (Int32.toNatClampNeg p1))) vC.2.2.2.1 k i b) := by obtain rfl : k = 31 := (by omega); subst hi; subst hb0; rfl
        have hbb : b < 32 := by omega
        have hk : i + k = 32 := by omega
        have hl : lv_has ls 5 [(4, .int (nI i)), (3, .int (nI b)), (2, .int (vC.2.1 &&& (vC.2.2.2.2.1 (Int32.toNatClampNeg p1)))), (0, .ref kH), (1, .int p1)] := by subst hi; subst hb0; exact hl
        clear hi hb0
        induction k generalizing i b ls with
        | zero =>
          refine lv_iload hx hb dX0_mostUrgent_17 (lv_at hl 0 rfl) ?_
          refine lv_bipush (v := 32) hx hb dX0_mostUrgent_19 (by decide) ?_
          refine lv_icmp_ge (tgt := 58) hx hb dX0_mostUrgent_21 (by decide) (fun c_21 => ?_) (fun c_21 => ?_)
          · refine lv_iload_n hx hb dX0_mostUrgent_58 rfl (lv_at hl 1 rfl) ?_
            have hF : (f_X0_mostUrgent vC p1) = (nI b) := by exact hE
            have hP9 := hP.sub (ws' := [(kH, .inr (0, [.int vC.1, .int vC.2.1, .int vC.2.2.1, .ref kP, .ref kE, .ref kT, .int (nI (2 * n))])), (kP, .inl (cI, 32, .inl vC.2.2.2.1)), (kE, .inl (cI, (2 * n), .inl vC.2.2.2.2.1)), (kT, .inl (cI, (2 * n), .inl vC.2.2.2.2.2))]) [0, 1, 2, 3] rfl
            have hD9 := hD.sub (ws' := [(kH, .inr (0, [.int vC.1, .int vC.2.1, .int vC.2.2.1, .ref kP, .ref kE, .ref kT, .int (nI (2 * n))])), (kP, .inl (cI, 32, .inl vC.2.2.2.1)), (kE, .inl (cI, (2 * n), .inl vC.2.2.2.2.1)), (kT, .inl (cI, (2 * n), .inl vC.2.2.2.2.2))]) [0, 1, 2, 3] (by decide) rfl
            exact W.iret (v := (nI b)) hx hb hr (fun u hu hW => ⟨⟨(nI b), (), rfl, hF.symm, by rw [hu]; exact hP9, hD9⟩, hS.F hu⟩) hS.2.2 dX0_mostUrgent_59
          · exact absurd (by obtain rfl : i = 32 := (by omega); decide) c_21
        | succ k ih =>
          refine lv_iload hx hb dX0_mostUrgent_17 (lv_at hl 0 rfl) ?_
          refine lv_bipush (v := 32) hx hb dX0_mostUrgent_19 (by decide) ?_
          refine lv_icmp_ge (tgt := 58) hx hb dX0_mostUrgent_21 (by decide) (fun c_21 => ?_) (fun c_21 => ?_)
          · exact absurd c_21 (nI_ge (a := i) (b := 32) (by omega) (by omega))
          · refine lv_iload_n hx hb dX0_mostUrgent_24 rfl (lv_at hl 2 rfl) ?_
            refine lv_iconst (v := 1) hx hb dX0_mostUrgent_25 (by decide) ?_
            refine lv_iload hx hb dX0_mostUrgent_26 (lv_at hl 0 rfl) ?_
            refine lv_ishl hx hb dX0_mostUrgent_28 ?_
            refine lv_iand hx hb dX0_mostUrgent_29 ?_
            refine lv_if_eq (tgt := 52) hx hb dX0_mostUrgent_30 (by decide) (fun c_30 => ?_) (fun c_30 => ?_)
            · refine lv_iinc (v := ((nI i) + 1)) (lv' := [(4, .int ((nI i) + 1)), (3, .int (nI b)), (2, .int (vC.2.1 &&& (vC.2.2.2.2.1 (Int32.toNatClampNeg p1)))), (0, .ref kH), (1, .int p1)]) hx hb dX0_mostUrgent_52 hl (k := 0) rfl (by first | rfl | decide) (by decide) rfl (fun ls hl => ?_)
              refine lv_goto (tgt := 17) hx hb dX0_mostUrgent_55 (by decide) ?_
              rw [nI_1 i] at hl
              rw [nI_clamp (by omega), nI_clamp (by omega)] at c_46
              exact ih (i + 1) b ls (hE.trans (by rw [mu_go, if_neg c_30, if_pos c_46, if_pos c_30])) (by omega) (by omega) (lv_sub hl [0, 1, 2, 3, 4] rfl)
            · refine lv_aload_n hx hb dX0_mostUrgent_33 rfl (lv_at hl 3 rfl) ?_
              refine va_get (D := (dC, dI)) (ci := 0) (v := .ref kP) (C := RX0) (T := TX0) (N := 7) hx hb hw inWX0 hown hK hP 0 rfl rfl 3 (by decide) (hw _ w_53) (fun _ h9 => h9) rfl dX0_mostUrgent_34 ?_
              refine lv_iload hx hb dX0_mostUrgent_37 (lv_at hl 0 rfl) ?_
              have h_39 : vp_in (nI i) 32 := (vp_in_nI (by omega) (by omega))
              refine va_iald hx hb hK hP 1 0 rfl rfl h_39 dX0_mostUrgent_39 ?_
              refine lv_aload_n hx hb dX0_mostUrgent_40 rfl (lv_at hl 3 rfl) ?_
              refine va_get (D := (dC, dI)) (ci := 0) (v := .ref kP) (C := RX0) (T := TX0) (N := 7) hx hb hw inWX0 hown hK hP 0 rfl rfl 3 (by decide) (hw _ w_53) (fun _ h9 => h9) rfl dX0_mostUrgent_41 ?_
              refine lv_iload_n hx hb dX0_mostUrgent_44 rfl (lv_at hl 1 rfl) ?_
              have h_45 : vp_in (nI b) 32 := (vp_in_nI (by omega) (by omega))
              refine va_iald hx hb hK hP 1 0 rfl rfl h_45 dX0_mostUrgent_45 ?_
              refine lv_icmp_le (tgt := 52) hx hb dX0_mostUrgent_46 (by decide) (fun c_46 => ?_) (fun c_46 => ?_)
              · refine lv_iinc (v := ((nI i) + 1)) (lv' := [(4, .int ((nI i) + 1)), (3, .int (nI b)), (2, .int (vC.2.1 &&& (vC.2.2.2.2.1 (Int32.toNatClampNeg p1)))), (0, .ref kH), (1, .int p1)]) hx hb dX0_mostUrgent_52 hl (k := 0) rfl (by first | rfl | decide) (by decide) rfl (fun ls hl => ?_)
                refine lv_goto (tgt := 17) hx hb dX0_mostUrgent_55 (by decide) ?_
                rw [nI_1 i] at hl
                rw [nI_clamp (by omega), nI_clamp (by omega)] at c_46
                rw [nI_clamp (by omega), nI_clamp (by omega)] at c_46
                exact ih (i + 1) b ls (hE.trans (by rw [mu_go, if_neg c_30, if_pos c_46, if_neg c_30, if_pos c_46])) (by omega) (by omega) (lv_sub hl [0, 1, 2, 3, 4] rfl)
              · refine lv_iload hx hb dX0_mostUrgent_49 (lv_at hl 0 rfl) ?_
                refine lv_istore_n (lv' := [(3, .int (nI i)), (4, .int (nI i)), (2, .int (vC.2.1 &&& (vC.2.2.2.2.1 (Int32.toNatClampNeg p1)))), (0, .ref kH), (1, .int p1)]) hx hb dX0_mostUrgent_51 rfl hl (by decide) rfl (fun ls hl => ?_)
                refine lv_iinc (v := ((nI i) + 1)) (lv' := [(4, .int ((nI i) + 1)), (3, .int (nI i)), (2, .int (vC.2.1 &&& (vC.2.2.2.2.1 (Int32.toNatClampNeg p1)))), (0, .ref kH), (1, .int p1)]) hx hb dX0_mostUrgent_52 hl (k := 1) rfl (by first | rfl | decide) (by decide) rfl (fun ls hl => ?_)
                refine lv_goto (tgt := 17) hx hb dX0_mostUrgent_55 (by decide) ?_
                rw [nI_1 i] at hl
                rw [nI_clamp (by omega), nI_clamp (by omega)] at c_46
                rw [nI_clamp (by omega), nI_clamp (by omega)] at c_46
                exact ih (i + 1) i ls (hE.trans (by rw [mu_go, if_neg c_30, if_pos c_46, if_neg c_30, if_neg c_46])) (by omega) (by omega) (lv_sub hl [0, 1, 2, 3, 4] rfl)
      · refine lv_iload hx hb dX0_mostUrgent_49 (lv_at hl 0 rfl) ?_
        refine lv_istore_n (lv' := [(3, .int 1), (4, .int 1), (2, .int (vC.2.1 &&& (vC.2.2.2.2.1 (Int32.toNatClampNeg p1)))), (0, .ref kH), (1, .int p1)]) hx hb dX0_mostUrgent_51 rfl hl (by decide) rfl (fun ls hl => ?_)
        refine lv_iinc (v := 2) (lv' := [(4, .int 2), (3, .int 1), (2, .int (vC.2.1 &&& (vC.2.2.2.2.1 (Int32.toNatClampNeg p1)))), (0, .ref kH), (1, .int p1)]) hx hb dX0_mostUrgent_52 hl (k := 1) rfl (by first | rfl | decide) (by decide) rfl (fun ls hl => ?_)
        refine lv_goto (tgt := 17) hx hb dX0_mostUrgent_55 (by decide) ?_
        obtain ⟨k, hk⟩ : ∃ k : Nat, 1 + k = 32 := ⟨31, rfl⟩
        obtain ⟨i, hi⟩ : ∃ i : Nat, i = 1 := ⟨1, rfl⟩
        obtain ⟨b, hb0⟩ : ∃ b : Nat, b = 0 := ⟨0, rfl⟩
        have hE : (f_X0_mostUrgent vC p1) = nI (mu_go (vC.2.1 &&& (vC.2.2.2.2.1 (Int32.toNatClampNeg p1))) vC.2.2.2.1 k i b) := by obtain rfl : k = 31 := (by omega); subst hi; subst hb0; rfl
        have hbb : b < 32 := by omega
        have hk : i + k = 32 := by omega
        have hl : lv_has ls 5 [(4, .int (nI i)), (3, .int (nI b)), (2, .int (vC.2.1 &&& (vC.2.2.2.2.1 (Int32.toNatClampNeg p1)))), (0, .ref kH), (1, .int p1)] := by subst hi; subst hb0; exact hl
        clear hi hb0
        induction k generalizing i b ls with
        | zero =>
          refine lv_iload hx hb dX0_mostUrgent_17 (lv_at hl 0 rfl) ?_
          refine lv_bipush (v := 32) hx hb dX0_mostUrgent_19 (by decide) ?_
          refine lv_icmp_ge (tgt := 58) hx hb dX0_mostUrgent_21 (by decide) (fun c_21 => ?_) (fun c_21 => ?_)
          · refine lv_iload_n hx hb dX0_mostUrgent_58 rfl (lv_at hl 1 rfl) ?_
            have hF : (f_X0_mostUrgent vC p1) = (nI b) := by exact hE
            have hP9 := hP.sub (ws' := [(kH, .inr (0, [.int vC.1, .int vC.2.1, .int vC.2.2.1, .ref kP, .ref kE, .ref kT, .int (nI (2 * n))])), (kP, .inl (cI, 32, .inl vC.2.2.2.1)), (kE, .inl (cI, (2 * n), .inl vC.2.2.2.2.1)), (kT, .inl (cI, (2 * n), .inl vC.2.2.2.2.2))]) [0, 1, 2, 3] rfl
            have hD9 := hD.sub (ws' := [(kH, .inr (0, [.int vC.1, .int vC.2.1, .int vC.2.2.1, .ref kP, .ref kE, .ref kT, .int (nI (2 * n))])), (kP, .inl (cI, 32, .inl vC.2.2.2.1)), (kE, .inl (cI, (2 * n), .inl vC.2.2.2.2.1)), (kT, .inl (cI, (2 * n), .inl vC.2.2.2.2.2))]) [0, 1, 2, 3] (by decide) rfl
            exact W.iret (v := (nI b)) hx hb hr (fun u hu hW => ⟨⟨(nI b), (), rfl, hF.symm, by rw [hu]; exact hP9, hD9⟩, hS.F hu⟩) hS.2.2 dX0_mostUrgent_59
          · exact absurd (by obtain rfl : i = 32 := (by omega); decide) c_21
        | succ k ih =>
          refine lv_iload hx hb dX0_mostUrgent_17 (lv_at hl 0 rfl) ?_
          refine lv_bipush (v := 32) hx hb dX0_mostUrgent_19 (by decide) ?_
          refine lv_icmp_ge (tgt := 58) hx hb dX0_mostUrgent_21 (by decide) (fun c_21 => ?_) (fun c_21 => ?_)
          · exact absurd c_21 (nI_ge (a := i) (b := 32) (by omega) (by omega))
          · refine lv_iload_n hx hb dX0_mostUrgent_24 rfl (lv_at hl 2 rfl) ?_
            refine lv_iconst (v := 1) hx hb dX0_mostUrgent_25 (by decide) ?_
            refine lv_iload hx hb dX0_mostUrgent_26 (lv_at hl 0 rfl) ?_
            refine lv_ishl hx hb dX0_mostUrgent_28 ?_
            refine lv_iand hx hb dX0_mostUrgent_29 ?_
            refine lv_if_eq (tgt := 52) hx hb dX0_mostUrgent_30 (by decide) (fun c_30 => ?_) (fun c_30 => ?_)
            · refine lv_iinc (v := ((nI i) + 1)) (lv' := [(4, .int ((nI i) + 1)), (3, .int (nI b)), (2, .int (vC.2.1 &&& (vC.2.2.2.2.1 (Int32.toNatClampNeg p1)))), (0, .ref kH), (1, .int p1)]) hx hb dX0_mostUrgent_52 hl (k := 0) rfl (by first | rfl | decide) (by decide) rfl (fun ls hl => ?_)
              refine lv_goto (tgt := 17) hx hb dX0_mostUrgent_55 (by decide) ?_
              rw [nI_1 i] at hl
              rw [nI_clamp (by omega), nI_clamp (by omega)] at c_46
              exact ih (i + 1) b ls (hE.trans (by rw [mu_go, if_neg c_30, if_neg c_46, if_pos c_30])) (by omega) (by omega) (lv_sub hl [0, 1, 2, 3, 4] rfl)
            · refine lv_aload_n hx hb dX0_mostUrgent_33 rfl (lv_at hl 3 rfl) ?_
              refine va_get (D := (dC, dI)) (ci := 0) (v := .ref kP) (C := RX0) (T := TX0) (N := 7) hx hb hw inWX0 hown hK hP 0 rfl rfl 3 (by decide) (hw _ w_53) (fun _ h9 => h9) rfl dX0_mostUrgent_34 ?_
              refine lv_iload hx hb dX0_mostUrgent_37 (lv_at hl 0 rfl) ?_
              have h_39 : vp_in (nI i) 32 := (vp_in_nI (by omega) (by omega))
              refine va_iald hx hb hK hP 1 0 rfl rfl h_39 dX0_mostUrgent_39 ?_
              refine lv_aload_n hx hb dX0_mostUrgent_40 rfl (lv_at hl 3 rfl) ?_
              refine va_get (D := (dC, dI)) (ci := 0) (v := .ref kP) (C := RX0) (T := TX0) (N := 7) hx hb hw inWX0 hown hK hP 0 rfl rfl 3 (by decide) (hw _ w_53) (fun _ h9 => h9) rfl dX0_mostUrgent_41 ?_
              refine lv_iload_n hx hb dX0_mostUrgent_44 rfl (lv_at hl 1 rfl) ?_
              have h_45 : vp_in (nI b) 32 := (vp_in_nI (by omega) (by omega))
              refine va_iald hx hb hK hP 1 0 rfl rfl h_45 dX0_mostUrgent_45 ?_
              refine lv_icmp_le (tgt := 52) hx hb dX0_mostUrgent_46 (by decide) (fun c_46 => ?_) (fun c_46 => ?_)
              · refine lv_iinc (v := ((nI i) + 1)) (lv' := [(4, .int ((nI i) + 1)), (3, .int (nI b)), (2, .int (vC.2.1 &&& (vC.2.2.2.2.1 (Int32.toNatClampNeg p1)))), (0, .ref kH), (1, .int p1)]) hx hb dX0_mostUrgent_52 hl (k := 0) rfl (by first | rfl | decide) (by decide) rfl (fun ls hl => ?_)
                refine lv_goto (tgt := 17) hx hb dX0_mostUrgent_55 (by decide) ?_
                rw [nI_1 i] at hl
                rw [nI_clamp (by omega), nI_clamp (by omega)] at c_46
                rw [nI_clamp (by omega), nI_clamp (by omega)] at c_46
                exact ih (i + 1) b ls (hE.trans (by rw [mu_go, if_neg c_30, if_neg c_46, if_neg c_30, if_pos c_46])) (by omega) (by omega) (lv_sub hl [0, 1, 2, 3, 4] rfl)
              · refine lv_iload hx hb dX0_mostUrgent_49 (lv_at hl 0 rfl) ?_
                refine lv_istore_n (lv' := [(3, .int (nI i)), (4, .int (nI i)), (2, .int (vC.2.1 &&& (vC.2.2.2.2.1 (Int32.toNatClampNeg p1)))), (0, .ref kH), (1, .int p1)]) hx hb dX0_mostUrgent_51 rfl hl (by decide) rfl (fun ls hl => ?_)
                refine lv_iinc (v := ((nI i) + 1)) (lv' := [(4, .int ((nI i) + 1)), (3, .int (nI i)), (2, .int (vC.2.1 &&& (vC.2.2.2.2.1 (Int32.toNatClampNeg p1)))), (0, .ref kH), (1, .int p1)]) hx hb dX0_mostUrgent_52 hl (k := 1) rfl (by first | rfl | decide) (by decide) rfl (fun ls hl => ?_)
                refine lv_goto (tgt := 17) hx hb dX0_mostUrgent_55 (by decide) ?_
                rw [nI_1 i] at hl
                rw [nI_clamp (by omega), nI_clamp (by omega)] at c_46
                rw [nI_clamp (by omega), nI_clamp (by omega)] at c_46
                exact ih (i + 1) i ls (hE.trans (by rw [mu_go, if_neg c_30, if_neg c_46, if_neg c_30, if_neg c_46])) (by omega) (by omega) (lv_sub hl [0, 1, 2, 3, 4] rfl)
