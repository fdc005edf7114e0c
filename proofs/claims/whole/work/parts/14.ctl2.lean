theorem in_slot32 {a b : Int64} {c : Int32} (h : ¬ f_X5_slotAt a b c 32 < 0) : vp_in (f_X5_slotAt a b c 32) 32 := slot_in (N := 32) (by decide) h
theorem in_slot32p {a b : Int64} {c : Int32} (h : ¬ f_X5_slotAt a b c 32 ≤ 0) : vp_in (f_X5_slotAt a b c 32) 32 := in_slot32 (fun q => h (Int32.le_of_lt q))
theorem in_slotK {n : Nat} {a b : Int64} {c : Int32} (hn : n ≤ 4) (h : ¬ f_X5_slotAt a b c (nI (2 * n)) < 0) : vp_in (f_X5_slotAt a b c (nI (2 * n))) (2 * n) := slot_in (by omega) h
theorem mu_lt (O : Int32) (f : Nat → Int32) : ∀ (k i b : Nat), i + k ≤ 32 → b < 32 → mu_go O f k i b < 32 := by
  intro k
  induction k with
  | zero => intro i b _ h; exact h
  | succ k ih =>
    intro i b h hb
    rw [mu_go]
    refine ih _ _ (by omega) ?_
    split
    · exact hb
    · split
      · exact hb
      · omega
theorem in_mostUrgent (v : CS) (p : Int32) : vp_in (f_X0_mostUrgent v p) 32 := vp_in_nI (mu_lt _ _ 31 1 0 (by omega) (by omega)) (by omega)

def f_X0_claim (vC : CS) (p1 : Int32) : Int32 × CS :=
  if (f_X0_mostUrgent vC p1) ≤ 0 then ((f_X0_mostUrgent vC p1), vC)
  else ((f_X0_mostUrgent vC p1), (vC.1, (vC.2.1 &&& (((1 : Int32) <<< ((f_X0_mostUrgent vC p1) &&& 31)) ^^^ (-1))), (vC.2.2.1 ||| ((1 : Int32) <<< ((f_X0_mostUrgent vC p1) &&& 31))), vC.2.2.2.1, vC.2.2.2.2.1, vC.2.2.2.2.2))
set_option maxHeartbeats 4000000 in
set_option maxRecDepth 100000 in
theorem k_X0_claim (l : Launch) (dC : Nat → ClassId) (dI : Nat → Nat → Nat) (cI cJ cB cZ : ClassId) (kH kP kE kT : Nat) (sz : Nat) (n : Nat) (vC : CS) (p1 : Int32) (hc : vp_in p1 (2 * n)) : Met l yX0_claim wsX0_claim ({ frames := 1, cells := 0, slots := 0, locals := 24 }) (va_Pc [.ref kH, .int p1] (fun U => U.heap.size = sz ∧ va_P (dC, dI) vwCl [(kH, .inr (0, [.int vC.1, .int vC.2.1, .int vC.2.2.1, .ref kP, .ref kE, .ref kT, .int (nI (2 * n))])), (kP, .inl (cI, 32, .inl vC.2.2.2.1)), (kE, .inl (cI, (2 * n), .inl vC.2.2.2.2.1)), (kT, .inl (cI, (2 * n), .inl vC.2.2.2.2.2))] U.heap ∧ va_K (dC, dI) vwCl [(cI, .int), (cJ, .long), (cB, .byte), (cZ, .boolean)] U ∧ va_D (fun _ => True) [(kH, .inr (0, [.int vC.1, .int vC.2.1, .int vC.2.2.1, .ref kP, .ref kE, .ref kT, .int (nI (2 * n))])), (kP, .inl (cI, 32, .inl vC.2.2.2.1)), (kE, .inl (cI, (2 * n), .inl vC.2.2.2.2.1)), (kT, .inl (cI, (2 * n), .inl vC.2.2.2.2.2))] ∧ nw_ U)) (va_Qi (fun (r : Int32) (_ : Unit) => r = (f_X0_claim vC p1).1) (fun (_ : Unit) (w : State) => va_P (dC, dI) vwCl [(kH, .inr (0, [.int (f_X0_claim vC p1).2.1, .int (f_X0_claim vC p1).2.2.1, .int (f_X0_claim vC p1).2.2.2.1, .ref kP, .ref kE, .ref kT, .int (nI (2 * n))])), (kP, .inl (cI, 32, .inl (f_X0_claim vC p1).2.2.2.2.1)), (kE, .inl (cI, (2 * n), .inl (f_X0_claim vC p1).2.2.2.2.2.1)), (kT, .inl (cI, (2 * n), .inl (f_X0_claim vC p1).2.2.2.2.2.2))] w.heap ∧ va_D (va_A [(kH, .inr (0, [.int vC.1, .int vC.2.1, .int vC.2.2.1, .ref kP, .ref kE, .ref kT, .int (nI (2 * n))])), (kP, .inl (cI, 32, .inl vC.2.2.2.1)), (kE, .inl (cI, (2 * n), .inl vC.2.2.2.2.1)), (kT, .inl (cI, (2 * n), .inl vC.2.2.2.2.2))] sz) [(kH, .inr (0, [.int (f_X0_claim vC p1).2.1, .int (f_X0_claim vC p1).2.2.1, .int (f_X0_claim vC p1).2.2.2.1, .ref kP, .ref kE, .ref kT, .int (nI (2 * n))])), (kP, .inl (cI, 32, .inl (f_X0_claim vC p1).2.2.2.2.1)), (kE, .inl (cI, (2 * n), .inl (f_X0_claim vC p1).2.2.2.2.2.1)), (kT, .inl (cI, (2 * n), .inl (f_X0_claim vC p1).2.2.2.2.2.2))]) (va_A [(kH, .inr (0, [.int vC.1, .int vC.2.1, .int vC.2.2.1, .ref kP, .ref kE, .ref kT, .int (nI (2 * n))])), (kP, .inl (cI, 32, .inl vC.2.2.2.1)), (kE, .inl (cI, (2 * n), .inl vC.2.2.2.2.1)), (kT, .inl (cI, (2 * n), .inl vC.2.2.2.2.2))] sz)) 0 0 (va_A [(kH, .inr (0, [.int vC.1, .int vC.2.1, .int vC.2.2.1, .ref kP, .ref kE, .ref kT, .int (nI (2 * n))])), (kP, .inl (cI, 32, .inl vC.2.2.2.1)), (kE, .inl (cI, (2 * n), .inl vC.2.2.2.2.1)), (kT, .inl (cI, (2 * n), .inl vC.2.2.2.2.2))] sz) := by
  refine Met.ofW (cc := prog_2_method_6_code) (maxL := 3) (ret := (some .int)) (by decide) rfl ?_
  intro p e s m args below meth c s₁ B hml hv
  obtain ⟨rfl, hsz, hP, hK, hD0, hN⟩ := hv
  have hx := B.exec
  have hb := B.bytes
  have hr := B.returns
  have hw := hw_of (atoms_spec (ws := wsX0_claim) B.pre)
  have hown : s.vm.findClass RX0 = some m.cls := findClass_of_methodNamed B.named
  have hlocks := B.notSynchronized
  subst hsz
  have hD := hD0.self (sz := s.heap.size)
  generalize hAe : va_A [(kH, .inr (0, [.int vC.1, .int vC.2.1, .int vC.2.2.1, .ref kP, .ref kE, .ref kT, .int (nI (2 * n))])), (kP, .inl (cI, 32, .inl vC.2.2.2.1)), (kE, .inl (cI, (2 * n), .inl vC.2.2.2.2.1)), (kT, .inl (cI, (2 * n), .inl vC.2.2.2.2.2))] s.heap.size = A at hD ⊢
  have hA : ∀ q : Nat, s.heap.size ≤ q → A q := fun q h => by rw [← hAe]; exact Or.inr h
  have hS : va_S A s.heap s.heap [] := va_S.rf
  have hP : va_P (dC, dI) vwCl [(kH, .inr (0, [.int vC.1, .int vC.2.1, .int vC.2.2.1, .ref kP, .ref kE, .ref kT, .int (nI (2 * n))])), (kP, .inl (cI, 32, .inl vC.2.2.2.1)), (kE, .inl (cI, (2 * n), .inl vC.2.2.2.2.1)), (kT, .inl (cI, (2 * n), .inl vC.2.2.2.2.2))] s.heap := hP
  have hl := lv_entry ([.ref kH, .int p1]) (n := 3) (Nat.le_of_ble_eq_true rfl)
  rw [lg_entry_eq]
  generalize (lg_sl ([.ref kH, .int p1]) ++ List.replicate (3 - (lg_sl ([.ref kH, .int p1])).length) Slot.unset).toArray = ls at hl ⊢
  have hl : lv_has ls 3 [(0, .ref kH), (1, .int p1)] := hl
  refine lv_aload_n hx hb dX0_claim_0 rfl (lv_at hl 0 rfl) ?_
  refine lv_iload_n hx hb dX0_claim_1 rfl (lv_at hl 1 rfl) ?_
  have hPc := hP.sub (ws' := [(kH, .inr (0, [.int vC.1, .int vC.2.1, .int vC.2.2.1, .ref kP, .ref kE, .ref kT, .int (nI (2 * n))])), (kP, .inl (cI, 32, .inl vC.2.2.2.1)), (kE, .inl (cI, (2 * n), .inl vC.2.2.2.2.1)), (kT, .inl (cI, (2 * n), .inl vC.2.2.2.2.2))]) [0, 1, 2, 3] rfl
  have hDc := hD.sub (ws' := [(kH, .inr (0, [.int vC.1, .int vC.2.1, .int vC.2.2.1, .ref kP, .ref kE, .ref kT, .int (nI (2 * n))])), (kP, .inl (cI, 32, .inl vC.2.2.2.1)), (kE, .inl (cI, (2 * n), .inl vC.2.2.2.2.1)), (kT, .inl (cI, (2 * n), .inl vC.2.2.2.2.2))]) [0, 1, 2, 3] (by decide) rfl
  have hFc := va_free (wc := [(kH, .inr (0, [.int vC.1, .int vC.2.1, .int vC.2.2.1, .ref kP, .ref kE, .ref kT, .int (nI (2 * n))])), (kP, .inl (cI, 32, .inl vC.2.2.2.1)), (kE, .inl (cI, (2 * n), .inl vC.2.2.2.2.1)), (kT, .inl (cI, (2 * n), .inl vC.2.2.2.2.2))]) hD hS hA [0, 1, 2, 3] rfl
  refine va_calli (va_runV (As := [.int p1]) (rest := []) ⟨hx, hb, hml, hown, hw⟩ (k_X0_mostUrgent l dC dI cI cJ cB cZ kH kP kE kT s.heap.size n vC p1 hc) (cwV 1 hw (gV w_341 w_343 w_s6 w_4 w_344) rfl rfl rfl (by decide +kernel) ⟨Nat.le_of_ble_eq_true rfl, Nat.le_of_ble_eq_true rfl⟩) ⟨fun a U g mk q => by obtain ⟨q0, q1, qP, qK, qD, qN⟩ := q; exact ⟨q0, q1, qP, va_K.moved (u := U) (U := U.calling g mk a) (Vm.Alike.refl U.vm) qK, qD, nw_same (s := U) (U := U.calling g mk a) rfl qN⟩, va_recv hK hPc (ci := 0) (q0 := 0) rfl rfl, fun U hU hW => ⟨rfl, by rw [hU], by rw [hU]; exact hPc, va_K.moved hW.alike hK, hDc.weaken (fun _ _ _ _ => trivial), nw_warm hW hN⟩⟩ rfl rfl hl.1 rfl (lv_room (Nat.le_of_ble_eq_true rfl)) dX0_claim_2 ⟨Nat.le_of_ble_eq_true rfl, Nat.le_of_ble_eq_true rfl⟩) hS (fun q _ h => hFc q h) hFc (fun r_2 u t9 H1 locs ht hvm hR hB hz1 hk1 hS => ?_)
  replace hR := Eq.symm hR
  subst hR
  obtain ⟨hP1, hD1⟩ := hB
  rw [ht] at hP1
  obtain ⟨hP, hD⟩ := va_join (wr := []) (w1 := [(kH, .inr (0, [.int vC.1, .int vC.2.1, .int vC.2.2.1, .ref kP, .ref kE, .ref kT, .int (nI (2 * n))])), (kP, .inl (cI, 32, .inl vC.2.2.2.1)), (kE, .inl (cI, (2 * n), .inl vC.2.2.2.2.1)), (kT, .inl (cI, (2 * n), .inl vC.2.2.2.2.2))]) hP hD [0, 1, 2, 3] [] rfl rfl (by decide) (by decide) hk1 hFc hP1 hD1
  generalize H1 = H at hP hS ⊢
  have hP : va_P (dC, dI) vwCl [(kH, .inr (0, [.int vC.1, .int vC.2.1, .int vC.2.2.1, .ref kP, .ref kE, .ref kT, .int (nI (2 * n))])), (kP, .inl (cI, 32, .inl vC.2.2.2.1)), (kE, .inl (cI, (2 * n), .inl vC.2.2.2.2.1)), (kT, .inl (cI, (2 * n), .inl vC.2.2.2.2.2))] H := hP
  have hD : va_D A [(kH, .inr (0, [.int vC.1, .int vC.2.1, .int vC.2.2.1, .ref kP, .ref kE, .ref kT, .int (nI (2 * n))])), (kP, .inl (cI, 32, .inl vC.2.2.2.1)), (kE, .inl (cI, (2 * n), .inl vC.2.2.2.2.1)), (kT, .inl (cI, (2 * n), .inl vC.2.2.2.2.2))] := hD
  refine lv_istore_n (lv' := [(2, .int (f_X0_mostUrgent vC p1)), (0, .ref kH), (1, .int p1)]) hx hb dX0_claim_5 rfl hl (by decide) rfl (fun ls hl => ?_)
  refine lv_iload_n hx hb dX0_claim_6 rfl (lv_at hl 0 rfl) ?_
  refine lv_if_le (tgt := 36) hx hb dX0_claim_7 (by decide) (fun c_7 => ?_) (fun c_7 => ?_)
  · refine lv_iload_n hx hb dX0_claim_36 rfl (lv_at hl 0 rfl) ?_
    have hF : (f_X0_claim vC p1) = ((f_X0_mostUrgent vC p1), vC) := by rw [f_X0_claim, if_pos c_7]
    have hP9 := hP.sub (ws' := [(kH, .inr (0, [.int vC.1, .int vC.2.1, .int vC.2.2.1, .ref kP, .ref kE, .ref kT, .int (nI (2 * n))])), (kP, .inl (cI, 32, .inl vC.2.2.2.1)), (kE, .inl (cI, (2 * n), .inl vC.2.2.2.2.1)), (kT, .inl (cI, (2 * n), .inl vC.2.2.2.2.2))]) [0, 1, 2, 3] rfl
    have hD9 := hD.sub (ws' := [(kH, .inr (0, [.int vC.1, .int vC.2.1, .int vC.2.2.1, .ref kP, .ref kE, .ref kT, .int (nI (2 * n))])), (kP, .inl (cI, 32, .inl vC.2.2.2.1)), (kE, .inl (cI, (2 * n), .inl vC.2.2.2.2.1)), (kT, .inl (cI, (2 * n), .inl vC.2.2.2.2.2))]) [0, 1, 2, 3] (by decide) rfl
    exact W.iret (v := (f_X0_mostUrgent vC p1)) hx hb hr (fun u hu hW => ⟨⟨(f_X0_mostUrgent vC p1), (), rfl, (congrArg Prod.fst hF).symm, by rw [hu, hF]; exact hP9, by rw [hF]; exact hD9⟩, hS.F hu⟩) hS.2.2 dX0_claim_37
  · refine lv_aload_n hx hb dX0_claim_10 rfl (lv_at hl 1 rfl) ?_
    refine lv_dup hx hb dX0_claim_11 rfl ?_
    refine va_get (D := (dC, dI)) (ci := 0) (v := .int vC.2.1) (C := RX0) (T := TX0) (N := 7) hx hb hw inWX0 hown hK hP 0 rfl rfl 1 (by decide) (hw _ w_51) (fun _ h9 => h9) rfl dX0_claim_12 ?_
    refine lv_iconst (v := 1) hx hb dX0_claim_15 (by decide) ?_
    refine lv_iload_n hx hb dX0_claim_16 rfl (lv_at hl 0 rfl) ?_
    refine lv_ishl hx hb dX0_claim_17 ?_
    refine lv_iconst (v := (-1)) hx hb dX0_claim_18 (by decide) ?_
    refine lv_ixor hx hb dX0_claim_19 ?_
    refine lv_iand hx hb dX0_claim_20 ?_
    refine va_put (D := (dC, dI)) (ci := 0) (v := .int (vC.2.1 &&& (((1 : Int32) <<< ((f_X0_mostUrgent vC p1) &&& 31)) ^^^ (-1)))) (ty := .int) (C := RX0) (T := TX0) (N := 7) hx hb hw inWX0 tyX0 tyX0_ok nmX0 hown hK hP hD hS 0 rfl rfl 1 (by decide) (hw _ w_51) (fun _ h9 => h9) rfl (by decide +kernel) rfl rfl (Nat.le_of_ble_eq_true rfl) dX0_claim_21 (fun H locs hP hD hS => ?_)
    have hP : va_P (dC, dI) vwCl [(kH, .inr (0, [.int vC.1, .int (vC.2.1 &&& (((1 : Int32) <<< ((f_X0_mostUrgent vC p1) &&& 31)) ^^^ (-1))), .int vC.2.2.1, .ref kP, .ref kE, .ref kT, .int (nI (2 * n))])), (kP, .inl (cI, 32, .inl vC.2.2.2.1)), (kE, .inl (cI, (2 * n), .inl vC.2.2.2.2.1)), (kT, .inl (cI, (2 * n), .inl vC.2.2.2.2.2))] H := hP
    have hD : va_D A [(kH, .inr (0, [.int vC.1, .int (vC.2.1 &&& (((1 : Int32) <<< ((f_X0_mostUrgent vC p1) &&& 31)) ^^^ (-1))), .int vC.2.2.1, .ref kP, .ref kE, .ref kT, .int (nI (2 * n))])), (kP, .inl (cI, 32, .inl vC.2.2.2.1)), (kE, .inl (cI, (2 * n), .inl vC.2.2.2.2.1)), (kT, .inl (cI, (2 * n), .inl vC.2.2.2.2.2))] := hD
    refine lv_aload_n hx hb dX0_claim_24 rfl (lv_at hl 1 rfl) ?_
    refine lv_dup hx hb dX0_claim_25 rfl ?_
    refine va_get (D := (dC, dI)) (ci := 0) (v := .int vC.2.2.1) (C := RX0) (T := TX0) (N := 7) hx hb hw inWX0 hown hK hP 0 rfl rfl 2 (by decide) (hw _ w_52) (fun _ h9 => h9) rfl dX0_claim_26 ?_
    refine lv_iconst (v := 1) hx hb dX0_claim_29 (by decide) ?_
    refine lv_iload_n hx hb dX0_claim_30 rfl (lv_at hl 0 rfl) ?_
    refine lv_ishl hx hb dX0_claim_31 ?_
    refine lv_ior hx hb dX0_claim_32 ?_
    refine va_put (D := (dC, dI)) (ci := 0) (v := .int (vC.2.2.1 ||| ((1 : Int32) <<< ((f_X0_mostUrgent vC p1) &&& 31)))) (ty := .int) (C := RX0) (T := TX0) (N := 7) hx hb hw inWX0 tyX0 tyX0_ok nmX0 hown hK hP hD hS 0 rfl rfl 2 (by decide) (hw _ w_52) (fun _ h9 => h9) rfl (by decide +kernel) rfl rfl (Nat.le_of_ble_eq_true rfl) dX0_claim_33 (fun H locs hP hD hS => ?_)
    have hP : va_P (dC, dI) vwCl [(kH, .inr (0, [.int vC.1, .int (vC.2.1 &&& (((1 : Int32) <<< ((f_X0_mostUrgent vC p1) &&& 31)) ^^^ (-1))), .int (vC.2.2.1 ||| ((1 : Int32) <<< ((f_X0_mostUrgent vC p1) &&& 31))), .ref kP, .ref kE, .ref kT, .int (nI (2 * n))])), (kP, .inl (cI, 32, .inl vC.2.2.2.1)), (kE, .inl (cI, (2 * n), .inl vC.2.2.2.2.1)), (kT, .inl (cI, (2 * n), .inl vC.2.2.2.2.2))] H := hP
    have hD : va_D A [(kH, .inr (0, [.int vC.1, .int (vC.2.1 &&& (((1 : Int32) <<< ((f_X0_mostUrgent vC p1) &&& 31)) ^^^ (-1))), .int (vC.2.2.1 ||| ((1 : Int32) <<< ((f_X0_mostUrgent vC p1) &&& 31))), .ref kP, .ref kE, .ref kT, .int (nI (2 * n))])), (kP, .inl (cI, 32, .inl vC.2.2.2.1)), (kE, .inl (cI, (2 * n), .inl vC.2.2.2.2.1)), (kT, .inl (cI, (2 * n), .inl vC.2.2.2.2.2))] := hD
    refine lv_iload_n hx hb dX0_claim_36 rfl (lv_at hl 0 rfl) ?_
    have hF : (f_X0_claim vC p1) = ((f_X0_mostUrgent vC p1), (vC.1, (vC.2.1 &&& (((1 : Int32) <<< ((f_X0_mostUrgent vC p1) &&& 31)) ^^^ (-1))), (vC.2.2.1 ||| ((1 : Int32) <<< ((f_X0_mostUrgent vC p1) &&& 31))), vC.2.2.2.1, vC.2.2.2.2.1, vC.2.2.2.2.2)) := by rw [f_X0_claim, if_neg c_7]
    have hP9 := hP.sub (ws' := [(kH, .inr (0, [.int vC.1, .int (vC.2.1 &&& (((1 : Int32) <<< ((f_X0_mostUrgent vC p1) &&& 31)) ^^^ (-1))), .int (vC.2.2.1 ||| ((1 : Int32) <<< ((f_X0_mostUrgent vC p1) &&& 31))), .ref kP, .ref kE, .ref kT, .int (nI (2 * n))])), (kP, .inl (cI, 32, .inl vC.2.2.2.1)), (kE, .inl (cI, (2 * n), .inl vC.2.2.2.2.1)), (kT, .inl (cI, (2 * n), .inl vC.2.2.2.2.2))]) [0, 1, 2, 3] rfl
    have hD9 := hD.sub (ws' := [(kH, .inr (0, [.int vC.1, .int (vC.2.1 &&& (((1 : Int32) <<< ((f_X0_mostUrgent vC p1) &&& 31)) ^^^ (-1))), .int (vC.2.2.1 ||| ((1 : Int32) <<< ((f_X0_mostUrgent vC p1) &&& 31))), .ref kP, .ref kE, .ref kT, .int (nI (2 * n))])), (kP, .inl (cI, 32, .inl vC.2.2.2.1)), (kE, .inl (cI, (2 * n), .inl vC.2.2.2.2.1)), (kT, .inl (cI, (2 * n), .inl vC.2.2.2.2.2))]) [0, 1, 2, 3] (by decide) rfl
    exact W.iret (v := (f_X0_mostUrgent vC p1)) hx hb hr (fun u hu hW => ⟨⟨(f_X0_mostUrgent vC p1), (), rfl, (congrArg Prod.fst hF).symm, by rw [hu, hF]; exact hP9, by rw [hF]; exact hD9⟩, hS.F hu⟩) hS.2.2 dX0_claim_37
def f_X0_calls (n : Nat) (vC : CS) (p1 : Int32) : Int32 :=
  if p1 < 0 then 0
  else if (nI (2 * n)) ≤ p1 then 0
    else if (vC.2.2.2.1 (Int32.toNatClampNeg (f_X0_mostUrgent vC p1))) ≤ (vC.2.2.2.2.2 (Int32.toNatClampNeg p1)) then 0
      else 1
set_option maxHeartbeats 4000000 in
set_option maxRecDepth 100000 in
theorem k_X0_calls (l : Launch) (dC : Nat → ClassId) (dI : Nat → Nat → Nat) (cI cJ cB cZ : ClassId) (kH kP kE kT : Nat) (sz : Nat) (n : Nat) (vC : CS) (p1 : Int32) (hn : n ≤ 4) : Met l yX0_calls wsX0_calls ({ frames := 1, cells := 0, slots := 0, locals := 24 }) (va_Pc [.ref kH, .int p1] (fun U => U.heap.size = sz ∧ va_P (dC, dI) vwCl [(kH, .inr (0, [.int vC.1, .int vC.2.1, .int vC.2.2.1, .ref kP, .ref kE, .ref kT, .int (nI (2 * n))])), (kP, .inl (cI, 32, .inl vC.2.2.2.1)), (kE, .inl (cI, (2 * n), .inl vC.2.2.2.2.1)), (kT, .inl (cI, (2 * n), .inl vC.2.2.2.2.2))] U.heap ∧ va_K (dC, dI) vwCl [(cI, .int), (cJ, .long), (cB, .byte), (cZ, .boolean)] U ∧ va_D (fun _ => True) [(kH, .inr (0, [.int vC.1, .int vC.2.1, .int vC.2.2.1, .ref kP, .ref kE, .ref kT, .int (nI (2 * n))])), (kP, .inl (cI, 32, .inl vC.2.2.2.1)), (kE, .inl (cI, (2 * n), .inl vC.2.2.2.2.1)), (kT, .inl (cI, (2 * n), .inl vC.2.2.2.2.2))] ∧ nw_ U)) (va_Qi (fun (r : Int32) (_ : Unit) => r = (f_X0_calls n vC p1)) (fun (_ : Unit) (w : State) => va_P (dC, dI) vwCl [(kH, .inr (0, [.int vC.1, .int vC.2.1, .int vC.2.2.1, .ref kP, .ref kE, .ref kT, .int (nI (2 * n))])), (kP, .inl (cI, 32, .inl vC.2.2.2.1)), (kE, .inl (cI, (2 * n), .inl vC.2.2.2.2.1)), (kT, .inl (cI, (2 * n), .inl vC.2.2.2.2.2))] w.heap ∧ va_D (va_A [(kH, .inr (0, [.int vC.1, .int vC.2.1, .int vC.2.2.1, .ref kP, .ref kE, .ref kT, .int (nI (2 * n))])), (kP, .inl (cI, 32, .inl vC.2.2.2.1)), (kE, .inl (cI, (2 * n), .inl vC.2.2.2.2.1)), (kT, .inl (cI, (2 * n), .inl vC.2.2.2.2.2))] sz) [(kH, .inr (0, [.int vC.1, .int vC.2.1, .int vC.2.2.1, .ref kP, .ref kE, .ref kT, .int (nI (2 * n))])), (kP, .inl (cI, 32, .inl vC.2.2.2.1)), (kE, .inl (cI, (2 * n), .inl vC.2.2.2.2.1)), (kT, .inl (cI, (2 * n), .inl vC.2.2.2.2.2))]) (va_A [(kH, .inr (0, [.int vC.1, .int vC.2.1, .int vC.2.2.1, .ref kP, .ref kE, .ref kT, .int (nI (2 * n))])), (kP, .inl (cI, 32, .inl vC.2.2.2.1)), (kE, .inl (cI, (2 * n), .inl vC.2.2.2.2.1)), (kT, .inl (cI, (2 * n), .inl vC.2.2.2.2.2))] sz)) 0 0 (va_A [(kH, .inr (0, [.int vC.1, .int vC.2.1, .int vC.2.2.1, .ref kP, .ref kE, .ref kT, .int (nI (2 * n))])), (kP, .inl (cI, 32, .inl vC.2.2.2.1)), (kE, .inl (cI, (2 * n), .inl vC.2.2.2.2.1)), (kT, .inl (cI, (2 * n), .inl vC.2.2.2.2.2))] sz) := by
  refine Met.ofW (cc := prog_2_method_5_code) (maxL := 2) (ret := (some .boolean)) (by decide) rfl ?_
  intro p e s m args below meth c s₁ B hml hv
  obtain ⟨rfl, hsz, hP, hK, hD0, hN⟩ := hv
  have hx := B.exec
  have hb := B.bytes
  have hr := B.returns
  have hw := hw_of (atoms_spec (ws := wsX0_calls) B.pre)
  have hown : s.vm.findClass RX0 = some m.cls := findClass_of_methodNamed B.named
  have hlocks := B.notSynchronized
  subst hsz
  have hD := hD0.self (sz := s.heap.size)
  generalize hAe : va_A [(kH, .inr (0, [.int vC.1, .int vC.2.1, .int vC.2.2.1, .ref kP, .ref kE, .ref kT, .int (nI (2 * n))])), (kP, .inl (cI, 32, .inl vC.2.2.2.1)), (kE, .inl (cI, (2 * n), .inl vC.2.2.2.2.1)), (kT, .inl (cI, (2 * n), .inl vC.2.2.2.2.2))] s.heap.size = A at hD ⊢
  have hA : ∀ q : Nat, s.heap.size ≤ q → A q := fun q h => by rw [← hAe]; exact Or.inr h
  have hS : va_S A s.heap s.heap [] := va_S.rf
  have hP : va_P (dC, dI) vwCl [(kH, .inr (0, [.int vC.1, .int vC.2.1, .int vC.2.2.1, .ref kP, .ref kE, .ref kT, .int (nI (2 * n))])), (kP, .inl (cI, 32, .inl vC.2.2.2.1)), (kE, .inl (cI, (2 * n), .inl vC.2.2.2.2.1)), (kT, .inl (cI, (2 * n), .inl vC.2.2.2.2.2))] s.heap := hP
  have hl := lv_entry ([.ref kH, .int p1]) (n := 2) (Nat.le_of_ble_eq_true rfl)
  rw [lg_entry_eq]
  generalize (lg_sl ([.ref kH, .int p1]) ++ List.replicate (2 - (lg_sl ([.ref kH, .int p1])).length) Slot.unset).toArray = ls at hl ⊢
  have hl : lv_has ls 2 [(0, .ref kH), (1, .int p1)] := hl
  refine lv_iload_n hx hb dX0_calls_0 rfl (lv_at hl 1 rfl) ?_
  refine lv_if_lt (tgt := 35) hx hb dX0_calls_1 (by decide) (fun c_1 => ?_) (fun c_1 => ?_)
  · refine lv_iconst (v := 0) hx hb dX0_calls_35 (by decide) ?_
    have hF : (f_X0_calls n vC p1) = 0 := by rw [f_X0_calls, if_pos c_1]
    have hP9 := hP.sub (ws' := [(kH, .inr (0, [.int vC.1, .int vC.2.1, .int vC.2.2.1, .ref kP, .ref kE, .ref kT, .int (nI (2 * n))])), (kP, .inl (cI, 32, .inl vC.2.2.2.1)), (kE, .inl (cI, (2 * n), .inl vC.2.2.2.2.1)), (kT, .inl (cI, (2 * n), .inl vC.2.2.2.2.2))]) [0, 1, 2, 3] rfl
    have hD9 := hD.sub (ws' := [(kH, .inr (0, [.int vC.1, .int vC.2.1, .int vC.2.2.1, .ref kP, .ref kE, .ref kT, .int (nI (2 * n))])), (kP, .inl (cI, 32, .inl vC.2.2.2.1)), (kE, .inl (cI, (2 * n), .inl vC.2.2.2.2.1)), (kT, .inl (cI, (2 * n), .inl vC.2.2.2.2.2))]) [0, 1, 2, 3] (by decide) rfl
    exact W.zret (v := 0) hx hb hr rfl (fun u hu hW => ⟨⟨0, (), rfl, hF.symm, by rw [hu]; exact hP9, hD9⟩, hS.F hu⟩) hS.2.2 dX0_calls_36
  · refine lv_iload_n hx hb dX0_calls_4 rfl (lv_at hl 1 rfl) ?_
    refine lv_aload_n hx hb dX0_calls_5 rfl (lv_at hl 0 rfl) ?_
    refine va_get (D := (dC, dI)) (ci := 0) (v := .int (nI (2 * n))) (C := RX0) (T := TX0) (N := 7) hx hb hw inWX0 hown hK hP 0 rfl rfl 6 (by decide) (hw _ w_56) (fun _ h9 => h9) rfl dX0_calls_6 ?_
    refine lv_icmp_ge (tgt := 35) hx hb dX0_calls_9 (by decide) (fun c_9 => ?_) (fun c_9 => ?_)
    · refine lv_iconst (v := 0) hx hb dX0_calls_35 (by decide) ?_
      have hF : (f_X0_calls n vC p1) = 0 := by rw [f_X0_calls, if_neg c_1, if_pos c_9]
      have hP9 := hP.sub (ws' := [(kH, .inr (0, [.int vC.1, .int vC.2.1, .int vC.2.2.1, .ref kP, .ref kE, .ref kT, .int (nI (2 * n))])), (kP, .inl (cI, 32, .inl vC.2.2.2.1)), (kE, .inl (cI, (2 * n), .inl vC.2.2.2.2.1)), (kT, .inl (cI, (2 * n), .inl vC.2.2.2.2.2))]) [0, 1, 2, 3] rfl
      have hD9 := hD.sub (ws' := [(kH, .inr (0, [.int vC.1, .int vC.2.1, .int vC.2.2.1, .ref kP, .ref kE, .ref kT, .int (nI (2 * n))])), (kP, .inl (cI, 32, .inl vC.2.2.2.1)), (kE, .inl (cI, (2 * n), .inl vC.2.2.2.2.1)), (kT, .inl (cI, (2 * n), .inl vC.2.2.2.2.2))]) [0, 1, 2, 3] (by decide) rfl
      exact W.zret (v := 0) hx hb hr rfl (fun u hu hW => ⟨⟨0, (), rfl, hF.symm, by rw [hu]; exact hP9, hD9⟩, hS.F hu⟩) hS.2.2 dX0_calls_36
    · refine lv_aload_n hx hb dX0_calls_12 rfl (lv_at hl 0 rfl) ?_
      refine va_get (D := (dC, dI)) (ci := 0) (v := .ref kP) (C := RX0) (T := TX0) (N := 7) hx hb hw inWX0 hown hK hP 0 rfl rfl 3 (by decide) (hw _ w_53) (fun _ h9 => h9) rfl dX0_calls_13 ?_
      refine lv_aload_n hx hb dX0_calls_16 rfl (lv_at hl 0 rfl) ?_
      refine lv_iload_n hx hb dX0_calls_17 rfl (lv_at hl 1 rfl) ?_
      have hPc := hP.sub (ws' := [(kH, .inr (0, [.int vC.1, .int vC.2.1, .int vC.2.2.1, .ref kP, .ref kE, .ref kT, .int (nI (2 * n))])), (kP, .inl (cI, 32, .inl vC.2.2.2.1)), (kE, .inl (cI, (2 * n), .inl vC.2.2.2.2.1)), (kT, .inl (cI, (2 * n), .inl vC.2.2.2.2.2))]) [0, 1, 2, 3] rfl
      have hDc := hD.sub (ws' := [(kH, .inr (0, [.int vC.1, .int vC.2.1, .int vC.2.2.1, .ref kP, .ref kE, .ref kT, .int (nI (2 * n))])), (kP, .inl (cI, 32, .inl vC.2.2.2.1)), (kE, .inl (cI, (2 * n), .inl vC.2.2.2.2.1)), (kT, .inl (cI, (2 * n), .inl vC.2.2.2.2.2))]) [0, 1, 2, 3] (by decide) rfl
      have hFc := va_free (wc := [(kH, .inr (0, [.int vC.1, .int vC.2.1, .int vC.2.2.1, .ref kP, .ref kE, .ref kT, .int (nI (2 * n))])), (kP, .inl (cI, 32, .inl vC.2.2.2.1)), (kE, .inl (cI, (2 * n), .inl vC.2.2.2.2.1)), (kT, .inl (cI, (2 * n), .inl vC.2.2.2.2.2))]) hD hS hA [0, 1, 2, 3] rfl
      refine va_calli (va_runV (As := [.int p1]) (rest := [.ref kP]) ⟨hx, hb, hml, hown, hw⟩ (k_X0_mostUrgent l dC dI cI cJ cB cZ kH kP kE kT s.heap.size n vC p1 (in_lt2 hn c_1 c_9)) (cwV 1 hw (gV w_341 w_343 w_s6 w_4 w_344) rfl rfl rfl (by decide +kernel) ⟨Nat.le_of_ble_eq_true rfl, Nat.le_of_ble_eq_true rfl⟩) ⟨fun a U g mk q => by obtain ⟨q0, q1, qP, qK, qD, qN⟩ := q; exact ⟨q0, q1, qP, va_K.moved (u := U) (U := U.calling g mk a) (Vm.Alike.refl U.vm) qK, qD, nw_same (s := U) (U := U.calling g mk a) rfl qN⟩, va_recv hK hPc (ci := 0) (q0 := 0) rfl rfl, fun U hU hW => ⟨rfl, by rw [hU], by rw [hU]; exact hPc, va_K.moved hW.alike hK, hDc.weaken (fun _ _ _ _ => trivial), nw_warm hW hN⟩⟩ rfl rfl hl.1 rfl (lv_room (Nat.le_of_ble_eq_true rfl)) dX0_calls_18 ⟨Nat.le_of_ble_eq_true rfl, Nat.le_of_ble_eq_true rfl⟩) hS (fun q _ h => hFc q h) hFc (fun r_18 u t9 H1 locs ht hvm hR hB hz1 hk1 hS => ?_)
      replace hR := Eq.symm hR
      subst hR
      obtain ⟨hP1, hD1⟩ := hB
      rw [ht] at hP1
      obtain ⟨hP, hD⟩ := va_join (wr := []) (w1 := [(kH, .inr (0, [.int vC.1, .int vC.2.1, .int vC.2.2.1, .ref kP, .ref kE, .ref kT, .int (nI (2 * n))])), (kP, .inl (cI, 32, .inl vC.2.2.2.1)), (kE, .inl (cI, (2 * n), .inl vC.2.2.2.2.1)), (kT, .inl (cI, (2 * n), .inl vC.2.2.2.2.2))]) hP hD [0, 1, 2, 3] [] rfl rfl (by decide) (by decide) hk1 hFc hP1 hD1
      generalize H1 = H at hP hS ⊢
      have hP : va_P (dC, dI) vwCl [(kH, .inr (0, [.int vC.1, .int vC.2.1, .int vC.2.2.1, .ref kP, .ref kE, .ref kT, .int (nI (2 * n))])), (kP, .inl (cI, 32, .inl vC.2.2.2.1)), (kE, .inl (cI, (2 * n), .inl vC.2.2.2.2.1)), (kT, .inl (cI, (2 * n), .inl vC.2.2.2.2.2))] H := hP
      have hD : va_D A [(kH, .inr (0, [.int vC.1, .int vC.2.1, .int vC.2.2.1, .ref kP, .ref kE, .ref kT, .int (nI (2 * n))])), (kP, .inl (cI, 32, .inl vC.2.2.2.1)), (kE, .inl (cI, (2 * n), .inl vC.2.2.2.2.1)), (kT, .inl (cI, (2 * n), .inl vC.2.2.2.2.2))] := hD
      have h_21 : vp_in (f_X0_mostUrgent vC p1) 32 := (in_mostUrgent _ _)
      refine va_iald hx hb hK hP 1 0 rfl rfl h_21 dX0_calls_21 ?_
      refine lv_aload_n hx hb dX0_calls_22 rfl (lv_at hl 0 rfl) ?_
      refine va_get (D := (dC, dI)) (ci := 0) (v := .ref kT) (C := RX0) (T := TX0) (N := 7) hx hb hw inWX0 hown hK hP 0 rfl rfl 5 (by decide) (hw _ w_55) (fun _ h9 => h9) rfl dX0_calls_23 ?_
      refine lv_iload_n hx hb dX0_calls_26 rfl (lv_at hl 1 rfl) ?_
      have h_27 : vp_in p1 (2 * n) := (in_lt2 hn c_1 c_9)
      refine va_iald hx hb hK hP 3 0 rfl rfl h_27 dX0_calls_27 ?_
      refine lv_icmp_le (tgt := 35) hx hb dX0_calls_28 (by decide) (fun c_28 => ?_) (fun c_28 => ?_)
      · refine lv_iconst (v := 0) hx hb dX0_calls_35 (by decide) ?_
        have hF : (f_X0_calls n vC p1) = 0 := by rw [f_X0_calls, if_neg c_1, if_neg c_9, if_pos c_28]
        have hP9 := hP.sub (ws' := [(kH, .inr (0, [.int vC.1, .int vC.2.1, .int vC.2.2.1, .ref kP, .ref kE, .ref kT, .int (nI (2 * n))])), (kP, .inl (cI, 32, .inl vC.2.2.2.1)), (kE, .inl (cI, (2 * n), .inl vC.2.2.2.2.1)), (kT, .inl (cI, (2 * n), .inl vC.2.2.2.2.2))]) [0, 1, 2, 3] rfl
        have hD9 := hD.sub (ws' := [(kH, .inr (0, [.int vC.1, .int vC.2.1, .int vC.2.2.1, .ref kP, .ref kE, .ref kT, .int (nI (2 * n))])), (kP, .inl (cI, 32, .inl vC.2.2.2.1)), (kE, .inl (cI, (2 * n), .inl vC.2.2.2.2.1)), (kT, .inl (cI, (2 * n), .inl vC.2.2.2.2.2))]) [0, 1, 2, 3] (by decide) rfl
        exact W.zret (v := 0) hx hb hr rfl (fun u hu hW => ⟨⟨0, (), rfl, hF.symm, by rw [hu]; exact hP9, hD9⟩, hS.F hu⟩) hS.2.2 dX0_calls_36
      · refine lv_iconst (v := 1) hx hb dX0_calls_31 (by decide) ?_
        refine lv_goto (tgt := 36) hx hb dX0_calls_32 (by decide) ?_
        have hF : (f_X0_calls n vC p1) = 1 := by rw [f_X0_calls, if_neg c_1, if_neg c_9, if_neg c_28]
        have hP9 := hP.sub (ws' := [(kH, .inr (0, [.int vC.1, .int vC.2.1, .int vC.2.2.1, .ref kP, .ref kE, .ref kT, .int (nI (2 * n))])), (kP, .inl (cI, 32, .inl vC.2.2.2.1)), (kE, .inl (cI, (2 * n), .inl vC.2.2.2.2.1)), (kT, .inl (cI, (2 * n), .inl vC.2.2.2.2.2))]) [0, 1, 2, 3] rfl
        have hD9 := hD.sub (ws' := [(kH, .inr (0, [.int vC.1, .int vC.2.1, .int vC.2.2.1, .ref kP, .ref kE, .ref kT, .int (nI (2 * n))])), (kP, .inl (cI, 32, .inl vC.2.2.2.1)), (kE, .inl (cI, (2 * n), .inl vC.2.2.2.2.1)), (kT, .inl (cI, (2 * n), .inl vC.2.2.2.2.2))]) [0, 1, 2, 3] (by decide) rfl
        exact W.zret (v := 1) hx hb hr rfl (fun u hu hW => ⟨⟨1, (), rfl, hF.symm, by rw [hu]; exact hP9, hD9⟩, hS.F hu⟩) hS.2.2 dX0_calls_36
def f_X0_load (n : Nat) (vC : CS) (p1 : Int64) (p2 : Int32) : Int64 × CS :=
  if p2 = 4 then if (lg_cmp p1 4096) = 0 then (((Int32.toInt64 vC.2.1) &&& 4294967295), vC)
    else if (f_X5_slotAt p1 0 2 32) < 0 then if (f_X5_slotAt p1 8192 7 (nI (2 * n))) < 0 then if (f_X5_slotAt p1 2097152 12 (nI (2 * n))) < 0 then if (f_X5_slotAt p1 2097156 12 (nI (2 * n))) < 0 then (0, vC)
            else ((Int32.toInt64 (f_X0_claim vC (f_X5_slotAt p1 2097156 12 (nI (2 * n)))).1), (f_X0_claim vC (f_X5_slotAt p1 2097156 12 (nI (2 * n)))).2)
          else ((Int32.toInt64 (vC.2.2.2.2.2 (Int32.toNatClampNeg (f_X5_slotAt p1 2097152 12 (nI (2 * n)))))), vC)
        else (((Int32.toInt64 (vC.2.2.2.2.1 (Int32.toNatClampNeg (f_X5_slotAt p1 8192 7 (nI (2 * n)))))) &&& 4294967295), vC)
      else ((Int32.toInt64 (vC.2.2.2.1 (Int32.toNatClampNeg (f_X5_slotAt p1 0 2 32)))), vC)
  else (0, vC)
set_option maxHeartbeats 4000000 in
set_option maxRecDepth 100000 in
theorem k_X0_load (l : Launch) (dC : Nat → ClassId) (dI : Nat → Nat → Nat) (cI cJ cB cZ : ClassId) (kH kP kE kT : Nat) (sz : Nat) (n : Nat) (vC : CS) (p1 : Int64) (p2 : Int32) (hn : n ≤ 4) : Met l yX0_load wsX0_load ({ frames := 2, cells := 0, slots := 0, locals := 46 }) (va_Pc [.ref kH, .long p1, .int p2] (fun U => U.heap.size = sz ∧ va_P (dC, dI) vwCl [(kH, .inr (0, [.int vC.1, .int vC.2.1, .int vC.2.2.1, .ref kP, .ref kE, .ref kT, .int (nI (2 * n))])), (kP, .inl (cI, 32, .inl vC.2.2.2.1)), (kE, .inl (cI, (2 * n), .inl vC.2.2.2.2.1)), (kT, .inl (cI, (2 * n), .inl vC.2.2.2.2.2))] U.heap ∧ va_K (dC, dI) vwCl [(cI, .int), (cJ, .long), (cB, .byte), (cZ, .boolean)] U ∧ va_D (fun _ => True) [(kH, .inr (0, [.int vC.1, .int vC.2.1, .int vC.2.2.1, .ref kP, .ref kE, .ref kT, .int (nI (2 * n))])), (kP, .inl (cI, 32, .inl vC.2.2.2.1)), (kE, .inl (cI, (2 * n), .inl vC.2.2.2.2.1)), (kT, .inl (cI, (2 * n), .inl vC.2.2.2.2.2))] ∧ nw_ U)) (va_Ql (fun (r : Int64) (_ : Unit) => r = (f_X0_load n vC p1 p2).1) (fun (_ : Unit) (w : State) => va_P (dC, dI) vwCl [(kH, .inr (0, [.int (f_X0_load n vC p1 p2).2.1, .int (f_X0_load n vC p1 p2).2.2.1, .int (f_X0_load n vC p1 p2).2.2.2.1, .ref kP, .ref kE, .ref kT, .int (nI (2 * n))])), (kP, .inl (cI, 32, .inl (f_X0_load n vC p1 p2).2.2.2.2.1)), (kE, .inl (cI, (2 * n), .inl (f_X0_load n vC p1 p2).2.2.2.2.2.1)), (kT, .inl (cI, (2 * n), .inl (f_X0_load n vC p1 p2).2.2.2.2.2.2))] w.heap ∧ va_D (va_A [(kH, .inr (0, [.int vC.1, .int vC.2.1, .int vC.2.2.1, .ref kP, .ref kE, .ref kT, .int (nI (2 * n))])), (kP, .inl (cI, 32, .inl vC.2.2.2.1)), (kE, .inl (cI, (2 * n), .inl vC.2.2.2.2.1)), (kT, .inl (cI, (2 * n), .inl vC.2.2.2.2.2))] sz) [(kH, .inr (0, [.int (f_X0_load n vC p1 p2).2.1, .int (f_X0_load n vC p1 p2).2.2.1, .int (f_X0_load n vC p1 p2).2.2.2.1, .ref kP, .ref kE, .ref kT, .int (nI (2 * n))])), (kP, .inl (cI, 32, .inl (f_X0_load n vC p1 p2).2.2.2.2.1)), (kE, .inl (cI, (2 * n), .inl (f_X0_load n vC p1 p2).2.2.2.2.2.1)), (kT, .inl (cI, (2 * n), .inl (f_X0_load n vC p1 p2).2.2.2.2.2.2))]) (va_A [(kH, .inr (0, [.int vC.1, .int vC.2.1, .int vC.2.2.1, .ref kP, .ref kE, .ref kT, .int (nI (2 * n))])), (kP, .inl (cI, 32, .inl vC.2.2.2.1)), (kE, .inl (cI, (2 * n), .inl vC.2.2.2.2.1)), (kT, .inl (cI, (2 * n), .inl vC.2.2.2.2.2))] sz)) 0 0 (va_A [(kH, .inr (0, [.int vC.1, .int vC.2.1, .int vC.2.2.1, .ref kP, .ref kE, .ref kT, .int (nI (2 * n))])), (kP, .inl (cI, 32, .inl vC.2.2.2.1)), (kE, .inl (cI, (2 * n), .inl vC.2.2.2.2.1)), (kT, .inl (cI, (2 * n), .inl vC.2.2.2.2.2))] sz) := by
  refine Met.ofW (cc := prog_2_method_2_code) (maxL := 6) (ret := (some .long)) (by decide) rfl ?_
  intro p e s m args below meth c s₁ B hml hv
  obtain ⟨rfl, hsz, hP, hK, hD0, hN⟩ := hv
  have hx := B.exec
  have hb := B.bytes
  have hr := B.returns
  have hw := hw_of (atoms_spec (ws := wsX0_load) B.pre)
  have hown : s.vm.findClass RX0 = some m.cls := findClass_of_methodNamed B.named
  have hlocks := B.notSynchronized
  subst hsz
  have hD := hD0.self (sz := s.heap.size)
  generalize hAe : va_A [(kH, .inr (0, [.int vC.1, .int vC.2.1, .int vC.2.2.1, .ref kP, .ref kE, .ref kT, .int (nI (2 * n))])), (kP, .inl (cI, 32, .inl vC.2.2.2.1)), (kE, .inl (cI, (2 * n), .inl vC.2.2.2.2.1)), (kT, .inl (cI, (2 * n), .inl vC.2.2.2.2.2))] s.heap.size = A at hD ⊢
  have hA : ∀ q : Nat, s.heap.size ≤ q → A q := fun q h => by rw [← hAe]; exact Or.inr h
  have hS : va_S A s.heap s.heap [] := va_S.rf
  have hP : va_P (dC, dI) vwCl [(kH, .inr (0, [.int vC.1, .int vC.2.1, .int vC.2.2.1, .ref kP, .ref kE, .ref kT, .int (nI (2 * n))])), (kP, .inl (cI, 32, .inl vC.2.2.2.1)), (kE, .inl (cI, (2 * n), .inl vC.2.2.2.2.1)), (kT, .inl (cI, (2 * n), .inl vC.2.2.2.2.2))] s.heap := hP
  have hl := lv_entry ([.ref kH, .long p1, .int p2]) (n := 6) (Nat.le_of_ble_eq_true rfl)
  rw [lg_entry_eq]
  generalize (lg_sl ([.ref kH, .long p1, .int p2]) ++ List.replicate (6 - (lg_sl ([.ref kH, .long p1, .int p2])).length) Slot.unset).toArray = ls at hl ⊢
  have hl : lv_has ls 6 [(0, .ref kH), (1, .long p1), (3, .int p2)] := hl
  refine lv_iload_n hx hb dX0_load_0 rfl (lv_at hl 2 rfl) ?_
  refine lv_iconst (v := 4) hx hb dX0_load_1 (by decide) ?_
  refine lv_icmp_eq (tgt := 7) hx hb dX0_load_2 (by decide) (fun c_2 => ?_) (fun c_2 => ?_)
  · refine lv_lload_n hx hb dX0_load_7 rfl (lv_at hl 1 rfl) ?_
    refine lv_ldc2 (v := 4096) hx hb hown (hw _ w_331) dX0_load_8 ?_
    refine W.lcmp hx hb dX0_load_11 ?_
    refine lv_if_ne (tgt := 25) hx hb dX0_load_12 (by decide) (fun c_12 => ?_) (fun c_12 => ?_)
    · refine lv_lload_n hx hb dX0_load_25 rfl (lv_at hl 1 rfl) ?_
      refine lv_lconst (v := 0) hx hb dX0_load_26 (by decide) ?_
      refine lv_iconst (v := 2) hx hb dX0_load_27 (by decide) ?_
      refine lv_bipush (v := 32) hx hb dX0_load_28 (by decide) ?_
      have hPc := hP.sub (ws' := []) [] rfl
      have hDc := hD.sub (ws' := []) [] (by decide) rfl
      have hFc := va_free (wc := []) hD hS hA [] rfl
      refine va_calli (va_runSN (As := [.long p1, .long 0, .int 2, .int 32]) (rest := []) ⟨hx, hb, hml, hown, hw⟩ (k_X5_slotAt l dC dI cI cJ cB cZ s.heap.size p1 0 2 32) ⟨va_cnB 4 hw (gI w_312) rfl rfl rfl (hN _ n_333) (hw _ w_1) (by decide +kernel) ⟨Nat.le_of_ble_eq_true rfl, Nat.le_of_ble_eq_true rfl⟩, hw _ w_311, trivial⟩ ⟨fun a U g mk q => by obtain ⟨q0, q1, qP, qK, qD, qN⟩ := q; exact ⟨q0, q1, qP, va_K.moved (u := U) (U := U.calling g mk a) (Vm.Alike.refl U.vm) qK, qD, nw_same (s := U) (U := U.calling g mk a) rfl qN⟩, fun U hU hW => ⟨rfl, by rw [hU], by rw [hU]; exact hPc, va_K.moved hW.alike hK, hDc.weaken (fun _ _ _ _ => trivial), nw_warm hW hN⟩⟩ rfl rfl hl.1 rfl (lv_room (Nat.le_of_ble_eq_true rfl)) dX0_load_30 ⟨Nat.le_of_ble_eq_true rfl, Nat.le_of_ble_eq_true rfl⟩) hS (fun q _ h => hFc q h) hFc (fun r_30 u t9 H1 locs ht hvm hR hB hz1 hk1 hS => ?_)
      replace hR := Eq.symm hR
      subst hR
      obtain ⟨hP1, hD1⟩ := hB
      rw [ht] at hP1
      obtain ⟨hP, hD⟩ := va_join (wr := [(kH, .inr (0, [.int vC.1, .int vC.2.1, .int vC.2.2.1, .ref kP, .ref kE, .ref kT, .int (nI (2 * n))])), (kP, .inl (cI, 32, .inl vC.2.2.2.1)), (kE, .inl (cI, (2 * n), .inl vC.2.2.2.2.1)), (kT, .inl (cI, (2 * n), .inl vC.2.2.2.2.2))]) (w1 := []) hP hD [] [0, 1, 2, 3] rfl rfl (by decide) (by decide) hk1 hFc hP1 hD1
      generalize H1 = H at hP hS ⊢
      have hP : va_P (dC, dI) vwCl [(kH, .inr (0, [.int vC.1, .int vC.2.1, .int vC.2.2.1, .ref kP, .ref kE, .ref kT, .int (nI (2 * n))])), (kP, .inl (cI, 32, .inl vC.2.2.2.1)), (kE, .inl (cI, (2 * n), .inl vC.2.2.2.2.1)), (kT, .inl (cI, (2 * n), .inl vC.2.2.2.2.2))] H := hP
      have hD : va_D A [(kH, .inr (0, [.int vC.1, .int vC.2.1, .int vC.2.2.1, .ref kP, .ref kE, .ref kT, .int (nI (2 * n))])), (kP, .inl (cI, 32, .inl vC.2.2.2.1)), (kE, .inl (cI, (2 * n), .inl vC.2.2.2.2.1)), (kT, .inl (cI, (2 * n), .inl vC.2.2.2.2.2))] := hD
      refine lv_istore (lv' := [(4, .int (f_X5_slotAt p1 0 2 32)), (0, .ref kH), (1, .long p1), (3, .int p2)]) hx hb dX0_load_33 hl (by decide) rfl (fun ls hl => ?_)
      refine lv_iload hx hb dX0_load_35 (lv_at hl 0 rfl) ?_
      refine lv_if_lt (tgt := 49) hx hb dX0_load_37 (by decide) (fun c_37 => ?_) (fun c_37 => ?_)
      · refine lv_lload_n hx hb dX0_load_49 rfl (lv_at hl 2 rfl) ?_
        refine lv_ldc2 (v := 8192) hx hb hown (hw _ w_334) dX0_load_50 ?_
        refine lv_bipush (v := 7) hx hb dX0_load_53 (by decide) ?_
        refine lv_aload_n hx hb dX0_load_55 rfl (lv_at hl 1 rfl) ?_
        refine va_get (D := (dC, dI)) (ci := 0) (v := .int (nI (2 * n))) (C := RX0) (T := TX0) (N := 7) hx hb hw inWX0 hown hK hP 0 rfl rfl 6 (by decide) (hw _ w_56) (fun _ h9 => h9) rfl dX0_load_56 ?_
        have hPc := hP.sub (ws' := []) [] rfl
        have hDc := hD.sub (ws' := []) [] (by decide) rfl
        have hFc := va_free (wc := []) hD hS hA [] rfl
        refine va_calli (va_runSN (As := [.long p1, .long 8192, .int 7, .int (nI (2 * n))]) (rest := []) ⟨hx, hb, hml, hown, hw⟩ (k_X5_slotAt l dC dI cI cJ cB cZ H.size p1 8192 7 (nI (2 * n))) ⟨va_cnB 4 hw (gI w_312) rfl rfl rfl (hN _ n_333) (hw _ w_1) (by decide +kernel) ⟨Nat.le_of_ble_eq_true rfl, Nat.le_of_ble_eq_true rfl⟩, hw _ w_311, trivial⟩ ⟨fun a U g mk q => by obtain ⟨q0, q1, qP, qK, qD, qN⟩ := q; exact ⟨q0, q1, qP, va_K.moved (u := U) (U := U.calling g mk a) (Vm.Alike.refl U.vm) qK, qD, nw_same (s := U) (U := U.calling g mk a) rfl qN⟩, fun U hU hW => ⟨rfl, by rw [hU], by rw [hU]; exact hPc, va_K.moved hW.alike hK, hDc.weaken (fun _ _ _ _ => trivial), nw_warm hW hN⟩⟩ rfl rfl hl.1 rfl (lv_room (Nat.le_of_ble_eq_true rfl)) dX0_load_59 ⟨Nat.le_of_ble_eq_true rfl, Nat.le_of_ble_eq_true rfl⟩) hS (fun q _ h => hFc q h) hFc (fun r_59 u t9 H1 locs ht hvm hR hB hz1 hk1 hS => ?_)
        replace hR := Eq.symm hR
        subst hR
        obtain ⟨hP1, hD1⟩ := hB
        rw [ht] at hP1
        obtain ⟨hP, hD⟩ := va_join (wr := [(kH, .inr (0, [.int vC.1, .int vC.2.1, .int vC.2.2.1, .ref kP, .ref kE, .ref kT, .int (nI (2 * n))])), (kP, .inl (cI, 32, .inl vC.2.2.2.1)), (kE, .inl (cI, (2 * n), .inl vC.2.2.2.2.1)), (kT, .inl (cI, (2 * n), .inl vC.2.2.2.2.2))]) (w1 := []) hP hD [] [0, 1, 2, 3] rfl rfl (by decide) (by decide) hk1 hFc hP1 hD1
        generalize H1 = H at hP hS ⊢
        have hP : va_P (dC, dI) vwCl [(kH, .inr (0, [.int vC.1, .int vC.2.1, .int vC.2.2.1, .ref kP, .ref kE, .ref kT, .int (nI (2 * n))])), (kP, .inl (cI, 32, .inl vC.2.2.2.1)), (kE, .inl (cI, (2 * n), .inl vC.2.2.2.2.1)), (kT, .inl (cI, (2 * n), .inl vC.2.2.2.2.2))] H := hP
        have hD : va_D A [(kH, .inr (0, [.int vC.1, .int vC.2.1, .int vC.2.2.1, .ref kP, .ref kE, .ref kT, .int (nI (2 * n))])), (kP, .inl (cI, 32, .inl vC.2.2.2.1)), (kE, .inl (cI, (2 * n), .inl vC.2.2.2.2.1)), (kT, .inl (cI, (2 * n), .inl vC.2.2.2.2.2))] := hD
        refine lv_istore (lv' := [(5, .int (f_X5_slotAt p1 8192 7 (nI (2 * n)))), (4, .int (f_X5_slotAt p1 0 2 32)), (0, .ref kH), (1, .long p1), (3, .int p2)]) hx hb dX0_load_62 hl (by decide) rfl (fun ls hl => ?_)
        refine lv_iload hx hb dX0_load_64 (lv_at hl 0 rfl) ?_
        refine lv_if_lt (tgt := 82) hx hb dX0_load_66 (by decide) (fun c_66 => ?_) (fun c_66 => ?_)
        · refine lv_lload_n hx hb dX0_load_82 rfl (lv_at hl 3 rfl) ?_
          refine lv_ldc2 (v := 2097152) hx hb hown (hw _ w_335) dX0_load_83 ?_
          refine lv_bipush (v := 12) hx hb dX0_load_86 (by decide) ?_
          refine lv_aload_n hx hb dX0_load_88 rfl (lv_at hl 2 rfl) ?_
          refine va_get (D := (dC, dI)) (ci := 0) (v := .int (nI (2 * n))) (C := RX0) (T := TX0) (N := 7) hx hb hw inWX0 hown hK hP 0 rfl rfl 6 (by decide) (hw _ w_56) (fun _ h9 => h9) rfl dX0_load_89 ?_
          have hPc := hP.sub (ws' := []) [] rfl
          have hDc := hD.sub (ws' := []) [] (by decide) rfl
          have hFc := va_free (wc := []) hD hS hA [] rfl
          refine va_calli (va_runSN (As := [.long p1, .long 2097152, .int 12, .int (nI (2 * n))]) (rest := []) ⟨hx, hb, hml, hown, hw⟩ (k_X5_slotAt l dC dI cI cJ cB cZ H.size p1 2097152 12 (nI (2 * n))) ⟨va_cnB 4 hw (gI w_312) rfl rfl rfl (hN _ n_333) (hw _ w_1) (by decide +kernel) ⟨Nat.le_of_ble_eq_true rfl, Nat.le_of_ble_eq_true rfl⟩, hw _ w_311, trivial⟩ ⟨fun a U g mk q => by obtain ⟨q0, q1, qP, qK, qD, qN⟩ := q; exact ⟨q0, q1, qP, va_K.moved (u := U) (U := U.calling g mk a) (Vm.Alike.refl U.vm) qK, qD, nw_same (s := U) (U := U.calling g mk a) rfl qN⟩, fun U hU hW => ⟨rfl, by rw [hU], by rw [hU]; exact hPc, va_K.moved hW.alike hK, hDc.weaken (fun _ _ _ _ => trivial), nw_warm hW hN⟩⟩ rfl rfl hl.1 rfl (lv_room (Nat.le_of_ble_eq_true rfl)) dX0_load_92 ⟨Nat.le_of_ble_eq_true rfl, Nat.le_of_ble_eq_true rfl⟩) hS (fun q _ h => hFc q h) hFc (fun r_92 u t9 H1 locs ht hvm hR hB hz1 hk1 hS => ?_)
          replace hR := Eq.symm hR
          subst hR
          obtain ⟨hP1, hD1⟩ := hB
          rw [ht] at hP1
          obtain ⟨hP, hD⟩ := va_join (wr := [(kH, .inr (0, [.int vC.1, .int vC.2.1, .int vC.2.2.1, .ref kP, .ref kE, .ref kT, .int (nI (2 * n))])), (kP, .inl (cI, 32, .inl vC.2.2.2.1)), (kE, .inl (cI, (2 * n), .inl vC.2.2.2.2.1)), (kT, .inl (cI, (2 * n), .inl vC.2.2.2.2.2))]) (w1 := []) hP hD [] [0, 1, 2, 3] rfl rfl (by decide) (by decide) hk1 hFc hP1 hD1
          generalize H1 = H at hP hS ⊢
          have hP : va_P (dC, dI) vwCl [(kH, .inr (0, [.int vC.1, .int vC.2.1, .int vC.2.2.1, .ref kP, .ref kE, .ref kT, .int (nI (2 * n))])), (kP, .inl (cI, 32, .inl vC.2.2.2.1)), (kE, .inl (cI, (2 * n), .inl vC.2.2.2.2.1)), (kT, .inl (cI, (2 * n), .inl vC.2.2.2.2.2))] H := hP
          have hD : va_D A [(kH, .inr (0, [.int vC.1, .int vC.2.1, .int vC.2.2.1, .ref kP, .ref kE, .ref kT, .int (nI (2 * n))])), (kP, .inl (cI, 32, .inl vC.2.2.2.1)), (kE, .inl (cI, (2 * n), .inl vC.2.2.2.2.1)), (kT, .inl (cI, (2 * n), .inl vC.2.2.2.2.2))] := hD
          refine lv_istore (lv' := [(5, .int (f_X5_slotAt p1 2097152 12 (nI (2 * n)))), (4, .int (f_X5_slotAt p1 0 2 32)), (0, .ref kH), (1, .long p1), (3, .int p2)]) hx hb dX0_load_95 hl (by decide) rfl (fun ls hl => ?_)
          refine lv_iload hx hb dX0_load_97 (lv_at hl 0 rfl) ?_
          refine lv_if_lt (tgt := 111) hx hb dX0_load_99 (by decide) (fun c_99 => ?_) (fun c_99 => ?_)
          · refine lv_lload_n hx hb dX0_load_111 rfl (lv_at hl 3 rfl) ?_
            refine lv_ldc2 (v := 2097156) hx hb hown (hw _ w_336) dX0_load_112 ?_
            refine lv_bipush (v := 12) hx hb dX0_load_115 (by decide) ?_
            refine lv_aload_n hx hb dX0_load_117 rfl (lv_at hl 2 rfl) ?_
            refine va_get (D := (dC, dI)) (ci := 0) (v := .int (nI (2 * n))) (C := RX0) (T := TX0) (N := 7) hx hb hw inWX0 hown hK hP 0 rfl rfl 6 (by decide) (hw _ w_56) (fun _ h9 => h9) rfl dX0_load_118 ?_
            have hPc := hP.sub (ws' := []) [] rfl
            have hDc := hD.sub (ws' := []) [] (by decide) rfl
            have hFc := va_free (wc := []) hD hS hA [] rfl
            refine va_calli (va_runSN (As := [.long p1, .long 2097156, .int 12, .int (nI (2 * n))]) (rest := []) ⟨hx, hb, hml, hown, hw⟩ (k_X5_slotAt l dC dI cI cJ cB cZ H.size p1 2097156 12 (nI (2 * n))) ⟨va_cnB 4 hw (gI w_312) rfl rfl rfl (hN _ n_333) (hw _ w_1) (by decide +kernel) ⟨Nat.le_of_ble_eq_true rfl, Nat.le_of_ble_eq_true rfl⟩, hw _ w_311, trivial⟩ ⟨fun a U g mk q => by obtain ⟨q0, q1, qP, qK, qD, qN⟩ := q; exact ⟨q0, q1, qP, va_K.moved (u := U) (U := U.calling g mk a) (Vm.Alike.refl U.vm) qK, qD, nw_same (s := U) (U := U.calling g mk a) rfl qN⟩, fun U hU hW => ⟨rfl, by rw [hU], by rw [hU]; exact hPc, va_K.moved hW.alike hK, hDc.weaken (fun _ _ _ _ => trivial), nw_warm hW hN⟩⟩ rfl rfl hl.1 rfl (lv_room (Nat.le_of_ble_eq_true rfl)) dX0_load_121 ⟨Nat.le_of_ble_eq_true rfl, Nat.le_of_ble_eq_true rfl⟩) hS (fun q _ h => hFc q h) hFc (fun r_121 u t9 H1 locs ht hvm hR hB hz1 hk1 hS => ?_)
            replace hR := Eq.symm hR
            subst hR
            obtain ⟨hP1, hD1⟩ := hB
            rw [ht] at hP1
            obtain ⟨hP, hD⟩ := va_join (wr := [(kH, .inr (0, [.int vC.1, .int vC.2.1, .int vC.2.2.1, .ref kP, .ref kE, .ref kT, .int (nI (2 * n))])), (kP, .inl (cI, 32, .inl vC.2.2.2.1)), (kE, .inl (cI, (2 * n), .inl vC.2.2.2.2.1)), (kT, .inl (cI, (2 * n), .inl vC.2.2.2.2.2))]) (w1 := []) hP hD [] [0, 1, 2, 3] rfl rfl (by decide) (by decide) hk1 hFc hP1 hD1
            generalize H1 = H at hP hS ⊢
            have hP : va_P (dC, dI) vwCl [(kH, .inr (0, [.int vC.1, .int vC.2.1, .int vC.2.2.1, .ref kP, .ref kE, .ref kT, .int (nI (2 * n))])), (kP, .inl (cI, 32, .inl vC.2.2.2.1)), (kE, .inl (cI, (2 * n), .inl vC.2.2.2.2.1)), (kT, .inl (cI, (2 * n), .inl vC.2.2.2.2.2))] H := hP
            have hD : va_D A [(kH, .inr (0, [.int vC.1, .int vC.2.1, .int vC.2.2.1, .ref kP, .ref kE, .ref kT, .int (nI (2 * n))])), (kP, .inl (cI, 32, .inl vC.2.2.2.1)), (kE, .inl (cI, (2 * n), .inl vC.2.2.2.2.1)), (kT, .inl (cI, (2 * n), .inl vC.2.2.2.2.2))] := hD
            refine lv_istore (lv' := [(5, .int (f_X5_slotAt p1 2097156 12 (nI (2 * n)))), (4, .int (f_X5_slotAt p1 0 2 32)), (0, .ref kH), (1, .long p1), (3, .int p2)]) hx hb dX0_load_124 hl (by decide) rfl (fun ls hl => ?_)
            refine lv_iload hx hb dX0_load_126 (lv_at hl 0 rfl) ?_
            refine lv_if_lt (tgt := 141) hx hb dX0_load_128 (by decide) (fun c_128 => ?_) (fun c_128 => ?_)
            · refine lv_lconst (v := 0) hx hb dX0_load_141 (by decide) ?_
              have hF : (f_X0_load n vC p1 p2) = (0, vC) := by rw [f_X0_load, if_pos c_2, if_neg c_12, if_pos c_37, if_pos c_66, if_pos c_99, if_pos c_128]
              have hP9 := hP.sub (ws' := [(kH, .inr (0, [.int vC.1, .int vC.2.1, .int vC.2.2.1, .ref kP, .ref kE, .ref kT, .int (nI (2 * n))])), (kP, .inl (cI, 32, .inl vC.2.2.2.1)), (kE, .inl (cI, (2 * n), .inl vC.2.2.2.2.1)), (kT, .inl (cI, (2 * n), .inl vC.2.2.2.2.2))]) [0, 1, 2, 3] rfl
              have hD9 := hD.sub (ws' := [(kH, .inr (0, [.int vC.1, .int vC.2.1, .int vC.2.2.1, .ref kP, .ref kE, .ref kT, .int (nI (2 * n))])), (kP, .inl (cI, 32, .inl vC.2.2.2.1)), (kE, .inl (cI, (2 * n), .inl vC.2.2.2.2.1)), (kT, .inl (cI, (2 * n), .inl vC.2.2.2.2.2))]) [0, 1, 2, 3] (by decide) rfl
              exact W.lret (v := 0) hx hb hr (fun u hu hW => ⟨⟨0, (), rfl, (congrArg Prod.fst hF).symm, by rw [hu, hF]; exact hP9, by rw [hF]; exact hD9⟩, hS.F hu⟩) hS.2.2 dX0_load_142
            · refine lv_aload_n hx hb dX0_load_131 rfl (lv_at hl 2 rfl) ?_
              refine lv_iload hx hb dX0_load_132 (lv_at hl 0 rfl) ?_
              have hPc := hP.sub (ws' := [(kH, .inr (0, [.int vC.1, .int vC.2.1, .int vC.2.2.1, .ref kP, .ref kE, .ref kT, .int (nI (2 * n))])), (kP, .inl (cI, 32, .inl vC.2.2.2.1)), (kE, .inl (cI, (2 * n), .inl vC.2.2.2.2.1)), (kT, .inl (cI, (2 * n), .inl vC.2.2.2.2.2))]) [0, 1, 2, 3] rfl
              have hDc := hD.sub (ws' := [(kH, .inr (0, [.int vC.1, .int vC.2.1, .int vC.2.2.1, .ref kP, .ref kE, .ref kT, .int (nI (2 * n))])), (kP, .inl (cI, 32, .inl vC.2.2.2.1)), (kE, .inl (cI, (2 * n), .inl vC.2.2.2.2.1)), (kT, .inl (cI, (2 * n), .inl vC.2.2.2.2.2))]) [0, 1, 2, 3] (by decide) rfl
              have hFc := va_free (wc := [(kH, .inr (0, [.int vC.1, .int vC.2.1, .int vC.2.2.1, .ref kP, .ref kE, .ref kT, .int (nI (2 * n))])), (kP, .inl (cI, 32, .inl vC.2.2.2.1)), (kE, .inl (cI, (2 * n), .inl vC.2.2.2.2.1)), (kT, .inl (cI, (2 * n), .inl vC.2.2.2.2.2))]) hD hS hA [0, 1, 2, 3] rfl
              refine va_calli (va_runV (As := [.int (f_X5_slotAt p1 2097156 12 (nI (2 * n)))]) (rest := []) ⟨hx, hb, hml, hown, hw⟩ (k_X0_claim l dC dI cI cJ cB cZ kH kP kE kT H.size n vC (f_X5_slotAt p1 2097156 12 (nI (2 * n))) (in_slotK hn c_128)) (cwV 1 hw (gV w_337 w_339 w_s5 w_4 w_340) rfl rfl rfl (by decide +kernel) ⟨Nat.le_of_ble_eq_true rfl, Nat.le_of_ble_eq_true rfl⟩) ⟨fun a U g mk q => by obtain ⟨q0, q1, qP, qK, qD, qN⟩ := q; exact ⟨q0, q1, qP, va_K.moved (u := U) (U := U.calling g mk a) (Vm.Alike.refl U.vm) qK, qD, nw_same (s := U) (U := U.calling g mk a) rfl qN⟩, va_recv hK hPc (ci := 0) (q0 := 0) rfl rfl, fun U hU hW => ⟨rfl, by rw [hU], by rw [hU]; exact hPc, va_K.moved hW.alike hK, hDc.weaken (fun _ _ _ _ => trivial), nw_warm hW hN⟩⟩ rfl rfl hl.1 rfl (lv_room (Nat.le_of_ble_eq_true rfl)) dX0_load_134 ⟨Nat.le_of_ble_eq_true rfl, Nat.le_of_ble_eq_true rfl⟩) hS (fun q _ h => hFc q h) hFc (fun r_134 u t9 H1 locs ht hvm hR hB hz1 hk1 hS => ?_)
              replace hR := Eq.symm hR
              subst hR
              obtain ⟨hP1, hD1⟩ := hB
              rw [ht] at hP1
              obtain ⟨hP, hD⟩ := va_join (wr := []) (w1 := [(kH, .inr (0, [.int (f_X0_claim vC (f_X5_slotAt p1 2097156 12 (nI (2 * n)))).2.1, .int (f_X0_claim vC (f_X5_slotAt p1 2097156 12 (nI (2 * n)))).2.2.1, .int (f_X0_claim vC (f_X5_slotAt p1 2097156 12 (nI (2 * n)))).2.2.2.1, .ref kP, .ref kE, .ref kT, .int (nI (2 * n))])), (kP, .inl (cI, 32, .inl (f_X0_claim vC (f_X5_slotAt p1 2097156 12 (nI (2 * n)))).2.2.2.2.1)), (kE, .inl (cI, (2 * n), .inl (f_X0_claim vC (f_X5_slotAt p1 2097156 12 (nI (2 * n)))).2.2.2.2.2.1)), (kT, .inl (cI, (2 * n), .inl (f_X0_claim vC (f_X5_slotAt p1 2097156 12 (nI (2 * n)))).2.2.2.2.2.2))]) hP hD [0, 1, 2, 3] [] rfl rfl (by decide) (by decide) hk1 hFc hP1 hD1
              generalize H1 = H at hP hS ⊢
              have hP : va_P (dC, dI) vwCl [(kH, .inr (0, [.int (f_X0_claim vC (f_X5_slotAt p1 2097156 12 (nI (2 * n)))).2.1, .int (f_X0_claim vC (f_X5_slotAt p1 2097156 12 (nI (2 * n)))).2.2.1, .int (f_X0_claim vC (f_X5_slotAt p1 2097156 12 (nI (2 * n)))).2.2.2.1, .ref kP, .ref kE, .ref kT, .int (nI (2 * n))])), (kP, .inl (cI, 32, .inl (f_X0_claim vC (f_X5_slotAt p1 2097156 12 (nI (2 * n)))).2.2.2.2.1)), (kE, .inl (cI, (2 * n), .inl (f_X0_claim vC (f_X5_slotAt p1 2097156 12 (nI (2 * n)))).2.2.2.2.2.1)), (kT, .inl (cI, (2 * n), .inl (f_X0_claim vC (f_X5_slotAt p1 2097156 12 (nI (2 * n)))).2.2.2.2.2.2))] H := hP
              have hD : va_D A [(kH, .inr (0, [.int (f_X0_claim vC (f_X5_slotAt p1 2097156 12 (nI (2 * n)))).2.1, .int (f_X0_claim vC (f_X5_slotAt p1 2097156 12 (nI (2 * n)))).2.2.1, .int (f_X0_claim vC (f_X5_slotAt p1 2097156 12 (nI (2 * n)))).2.2.2.1, .ref kP, .ref kE, .ref kT, .int (nI (2 * n))])), (kP, .inl (cI, 32, .inl (f_X0_claim vC (f_X5_slotAt p1 2097156 12 (nI (2 * n)))).2.2.2.2.1)), (kE, .inl (cI, (2 * n), .inl (f_X0_claim vC (f_X5_slotAt p1 2097156 12 (nI (2 * n)))).2.2.2.2.2.1)), (kT, .inl (cI, (2 * n), .inl (f_X0_claim vC (f_X5_slotAt p1 2097156 12 (nI (2 * n)))).2.2.2.2.2.2))] := hD
              refine lv_i2l hx hb dX0_load_137 rfl ?_
              refine lv_goto (tgt := 142) hx hb dX0_load_138 (by decide) ?_
              have hF : (f_X0_load n vC p1 p2) = ((Int32.toInt64 (f_X0_claim vC (f_X5_slotAt p1 2097156 12 (nI (2 * n)))).1), (f_X0_claim vC (f_X5_slotAt p1 2097156 12 (nI (2 * n)))).2) := by rw [f_X0_load, if_pos c_2, if_neg c_12, if_pos c_37, if_pos c_66, if_pos c_99, if_neg c_128]
              have hP9 := hP.sub (ws' := [(kH, .inr (0, [.int (f_X0_claim vC (f_X5_slotAt p1 2097156 12 (nI (2 * n)))).2.1, .int (f_X0_claim vC (f_X5_slotAt p1 2097156 12 (nI (2 * n)))).2.2.1, .int (f_X0_claim vC (f_X5_slotAt p1 2097156 12 (nI (2 * n)))).2.2.2.1, .ref kP, .ref kE, .ref kT, .int (nI (2 * n))])), (kP, .inl (cI, 32, .inl (f_X0_claim vC (f_X5_slotAt p1 2097156 12 (nI (2 * n)))).2.2.2.2.1)), (kE, .inl (cI, (2 * n), .inl (f_X0_claim vC (f_X5_slotAt p1 2097156 12 (nI (2 * n)))).2.2.2.2.2.1)), (kT, .inl (cI, (2 * n), .inl (f_X0_claim vC (f_X5_slotAt p1 2097156 12 (nI (2 * n)))).2.2.2.2.2.2))]) [0, 1, 2, 3] rfl
              have hD9 := hD.sub (ws' := [(kH, .inr (0, [.int (f_X0_claim vC (f_X5_slotAt p1 2097156 12 (nI (2 * n)))).2.1, .int (f_X0_claim vC (f_X5_slotAt p1 2097156 12 (nI (2 * n)))).2.2.1, .int (f_X0_claim vC (f_X5_slotAt p1 2097156 12 (nI (2 * n)))).2.2.2.1, .ref kP, .ref kE, .ref kT, .int (nI (2 * n))])), (kP, .inl (cI, 32, .inl (f_X0_claim vC (f_X5_slotAt p1 2097156 12 (nI (2 * n)))).2.2.2.2.1)), (kE, .inl (cI, (2 * n), .inl (f_X0_claim vC (f_X5_slotAt p1 2097156 12 (nI (2 * n)))).2.2.2.2.2.1)), (kT, .inl (cI, (2 * n), .inl (f_X0_claim vC (f_X5_slotAt p1 2097156 12 (nI (2 * n)))).2.2.2.2.2.2))]) [0, 1, 2, 3] (by decide) rfl
              exact W.lret (v := (Int32.toInt64 (f_X0_claim vC (f_X5_slotAt p1 2097156 12 (nI (2 * n)))).1)) hx hb hr (fun u hu hW => ⟨⟨(Int32.toInt64 (f_X0_claim vC (f_X5_slotAt p1 2097156 12 (nI (2 * n)))).1), (), rfl, (congrArg Prod.fst hF).symm, by rw [hu, hF]; exact hP9, by rw [hF]; exact hD9⟩, hS.F hu⟩) hS.2.2 dX0_load_142
          · refine lv_aload_n hx hb dX0_load_102 rfl (lv_at hl 2 rfl) ?_
            refine va_get (D := (dC, dI)) (ci := 0) (v := .ref kT) (C := RX0) (T := TX0) (N := 7) hx hb hw inWX0 hown hK hP 0 rfl rfl 5 (by decide) (hw _ w_55) (fun _ h9 => h9) rfl dX0_load_103 ?_
            refine lv_iload hx hb dX0_load_106 (lv_at hl 0 rfl) ?_
            have h_108 : vp_in (f_X5_slotAt p1 2097152 12 (nI (2 * n))) (2 * n) := (in_slotK hn c_99)
            refine va_iald hx hb hK hP 3 0 rfl rfl h_108 dX0_load_108 ?_
            refine lv_i2l hx hb dX0_load_109 rfl ?_
            have hF : (f_X0_load n vC p1 p2) = ((Int32.toInt64 (vC.2.2.2.2.2 (Int32.toNatClampNeg (f_X5_slotAt p1 2097152 12 (nI (2 * n)))))), vC) := by rw [f_X0_load, if_pos c_2, if_neg c_12, if_pos c_37, if_pos c_66, if_neg c_99]
            have hP9 := hP.sub (ws' := [(kH, .inr (0, [.int vC.1, .int vC.2.1, .int vC.2.2.1, .ref kP, .ref kE, .ref kT, .int (nI (2 * n))])), (kP, .inl (cI, 32, .inl vC.2.2.2.1)), (kE, .inl (cI, (2 * n), .inl vC.2.2.2.2.1)), (kT, .inl (cI, (2 * n), .inl vC.2.2.2.2.2))]) [0, 1, 2, 3] rfl
            have hD9 := hD.sub (ws' := [(kH, .inr (0, [.int vC.1, .int vC.2.1, .int vC.2.2.1, .ref kP, .ref kE, .ref kT, .int (nI (2 * n))])), (kP, .inl (cI, 32, .inl vC.2.2.2.1)), (kE, .inl (cI, (2 * n), .inl vC.2.2.2.2.1)), (kT, .inl (cI, (2 * n), .inl vC.2.2.2.2.2))]) [0, 1, 2, 3] (by decide) rfl
            exact W.lret (v := (Int32.toInt64 (vC.2.2.2.2.2 (Int32.toNatClampNeg (f_X5_slotAt p1 2097152 12 (nI (2 * n))))))) hx hb hr (fun u hu hW => ⟨⟨(Int32.toInt64 (vC.2.2.2.2.2 (Int32.toNatClampNeg (f_X5_slotAt p1 2097152 12 (nI (2 * n)))))), (), rfl, (congrArg Prod.fst hF).symm, by rw [hu, hF]; exact hP9, by rw [hF]; exact hD9⟩, hS.F hu⟩) hS.2.2 dX0_load_110
        · refine lv_aload_n hx hb dX0_load_69 rfl (lv_at hl 2 rfl) ?_
          refine va_get (D := (dC, dI)) (ci := 0) (v := .ref kE) (C := RX0) (T := TX0) (N := 7) hx hb hw inWX0 hown hK hP 0 rfl rfl 4 (by decide) (hw _ w_54) (fun _ h9 => h9) rfl dX0_load_70 ?_
          refine lv_iload hx hb dX0_load_73 (lv_at hl 0 rfl) ?_
          have h_75 : vp_in (f_X5_slotAt p1 8192 7 (nI (2 * n))) (2 * n) := (in_slotK hn c_66)
          refine va_iald hx hb hK hP 2 0 rfl rfl h_75 dX0_load_75 ?_
          refine lv_i2l hx hb dX0_load_76 rfl ?_
          refine lv_ldc2 (v := 4294967295) hx hb hown (hw _ w_332) dX0_load_77 ?_
          refine lv_land hx hb dX0_load_80 ?_
          have hF : (f_X0_load n vC p1 p2) = (((Int32.toInt64 (vC.2.2.2.2.1 (Int32.toNatClampNeg (f_X5_slotAt p1 8192 7 (nI (2 * n)))))) &&& 4294967295), vC) := by rw [f_X0_load, if_pos c_2, if_neg c_12, if_pos c_37, if_neg c_66]
          have hP9 := hP.sub (ws' := [(kH, .inr (0, [.int vC.1, .int vC.2.1, .int vC.2.2.1, .ref kP, .ref kE, .ref kT, .int (nI (2 * n))])), (kP, .inl (cI, 32, .inl vC.2.2.2.1)), (kE, .inl (cI, (2 * n), .inl vC.2.2.2.2.1)), (kT, .inl (cI, (2 * n), .inl vC.2.2.2.2.2))]) [0, 1, 2, 3] rfl
          have hD9 := hD.sub (ws' := [(kH, .inr (0, [.int vC.1, .int vC.2.1, .int vC.2.2.1, .ref kP, .ref kE, .ref kT, .int (nI (2 * n))])), (kP, .inl (cI, 32, .inl vC.2.2.2.1)), (kE, .inl (cI, (2 * n), .inl vC.2.2.2.2.1)), (kT, .inl (cI, (2 * n), .inl vC.2.2.2.2.2))]) [0, 1, 2, 3] (by decide) rfl
          exact W.lret (v := ((Int32.toInt64 (vC.2.2.2.2.1 (Int32.toNatClampNeg (f_X5_slotAt p1 8192 7 (nI (2 * n)))))) &&& 4294967295)) hx hb hr (fun u hu hW => ⟨⟨((Int32.toInt64 (vC.2.2.2.2.1 (Int32.toNatClampNeg (f_X5_slotAt p1 8192 7 (nI (2 * n)))))) &&& 4294967295), (), rfl, (congrArg Prod.fst hF).symm, by rw [hu, hF]; exact hP9, by rw [hF]; exact hD9⟩, hS.F hu⟩) hS.2.2 dX0_load_81
      · refine lv_aload_n hx hb dX0_load_40 rfl (lv_at hl 1 rfl) ?_
        refine va_get (D := (dC, dI)) (ci := 0) (v := .ref kP) (C := RX0) (T := TX0) (N := 7) hx hb hw inWX0 hown hK hP 0 rfl rfl 3 (by decide) (hw _ w_53) (fun _ h9 => h9) rfl dX0_load_41 ?_
        refine lv_iload hx hb dX0_load_44 (lv_at hl 0 rfl) ?_
        have h_46 : vp_in (f_X5_slotAt p1 0 2 32) 32 := (in_slot32 c_37)
        refine va_iald hx hb hK hP 1 0 rfl rfl h_46 dX0_load_46 ?_
        refine lv_i2l hx hb dX0_load_47 rfl ?_
        have hF : (f_X0_load n vC p1 p2) = ((Int32.toInt64 (vC.2.2.2.1 (Int32.toNatClampNeg (f_X5_slotAt p1 0 2 32)))), vC) := by rw [f_X0_load, if_pos c_2, if_neg c_12, if_neg c_37]
        have hP9 := hP.sub (ws' := [(kH, .inr (0, [.int vC.1, .int vC.2.1, .int vC.2.2.1, .ref kP, .ref kE, .ref kT, .int (nI (2 * n))])), (kP, .inl (cI, 32, .inl vC.2.2.2.1)), (kE, .inl (cI, (2 * n), .inl vC.2.2.2.2.1)), (kT, .inl (cI, (2 * n), .inl vC.2.2.2.2.2))]) [0, 1, 2, 3] rfl
        have hD9 := hD.sub (ws' := [(kH, .inr (0, [.int vC.1, .int vC.2.1, .int vC.2.2.1, .ref kP, .ref kE, .ref kT, .int (nI (2 * n))])), (kP, .inl (cI, 32, .inl vC.2.2.2.1)), (kE, .inl (cI, (2 * n), .inl vC.2.2.2.2.1)), (kT, .inl (cI, (2 * n), .inl vC.2.2.2.2.2))]) [0, 1, 2, 3] (by decide) rfl
        exact W.lret (v := (Int32.toInt64 (vC.2.2.2.1 (Int32.toNatClampNeg (f_X5_slotAt p1 0 2 32))))) hx hb hr (fun u hu hW => ⟨⟨(Int32.toInt64 (vC.2.2.2.1 (Int32.toNatClampNeg (f_X5_slotAt p1 0 2 32)))), (), rfl, (congrArg Prod.fst hF).symm, by rw [hu, hF]; exact hP9, by rw [hF]; exact hD9⟩, hS.F hu⟩) hS.2.2 dX0_load_48
    · refine lv_aload_n hx hb dX0_load_15 rfl (lv_at hl 0 rfl) ?_
      refine va_get (D := (dC, dI)) (ci := 0) (v := .int vC.2.1) (C := RX0) (T := TX0) (N := 7) hx hb hw inWX0 hown hK hP 0 rfl rfl 1 (by decide) (hw _ w_51) (fun _ h9 => h9) rfl dX0_load_16 ?_
      refine lv_i2l hx hb dX0_load_19 rfl ?_
      refine lv_ldc2 (v := 4294967295) hx hb hown (hw _ w_332) dX0_load_20 ?_
      refine lv_land hx hb dX0_load_23 ?_
      have hF : (f_X0_load n vC p1 p2) = (((Int32.toInt64 vC.2.1) &&& 4294967295), vC) := by rw [f_X0_load, if_pos c_2, if_pos c_12]
      have hP9 := hP.sub (ws' := [(kH, .inr (0, [.int vC.1, .int vC.2.1, .int vC.2.2.1, .ref kP, .ref kE, .ref kT, .int (nI (2 * n))])), (kP, .inl (cI, 32, .inl vC.2.2.2.1)), (kE, .inl (cI, (2 * n), .inl vC.2.2.2.2.1)), (kT, .inl (cI, (2 * n), .inl vC.2.2.2.2.2))]) [0, 1, 2, 3] rfl
      have hD9 := hD.sub (ws' := [(kH, .inr (0, [.int vC.1, .int vC.2.1, .int vC.2.2.1, .ref kP, .ref kE, .ref kT, .int (nI (2 * n))])), (kP, .inl (cI, 32, .inl vC.2.2.2.1)), (kE, .inl (cI, (2 * n), .inl vC.2.2.2.2.1)), (kT, .inl (cI, (2 * n), .inl vC.2.2.2.2.2))]) [0, 1, 2, 3] (by decide) rfl
      exact W.lret (v := ((Int32.toInt64 vC.2.1) &&& 4294967295)) hx hb hr (fun u hu hW => ⟨⟨((Int32.toInt64 vC.2.1) &&& 4294967295), (), rfl, (congrArg Prod.fst hF).symm, by rw [hu, hF]; exact hP9, by rw [hF]; exact hD9⟩, hS.F hu⟩) hS.2.2 dX0_load_24
  · refine lv_lconst (v := 0) hx hb dX0_load_5 (by decide) ?_
    have hF : (f_X0_load n vC p1 p2) = (0, vC) := by rw [f_X0_load, if_neg c_2]
    have hP9 := hP.sub (ws' := [(kH, .inr (0, [.int vC.1, .int vC.2.1, .int vC.2.2.1, .ref kP, .ref kE, .ref kT, .int (nI (2 * n))])), (kP, .inl (cI, 32, .inl vC.2.2.2.1)), (kE, .inl (cI, (2 * n), .inl vC.2.2.2.2.1)), (kT, .inl (cI, (2 * n), .inl vC.2.2.2.2.2))]) [0, 1, 2, 3] rfl
    have hD9 := hD.sub (ws' := [(kH, .inr (0, [.int vC.1, .int vC.2.1, .int vC.2.2.1, .ref kP, .ref kE, .ref kT, .int (nI (2 * n))])), (kP, .inl (cI, 32, .inl vC.2.2.2.1)), (kE, .inl (cI, (2 * n), .inl vC.2.2.2.2.1)), (kT, .inl (cI, (2 * n), .inl vC.2.2.2.2.2))]) [0, 1, 2, 3] (by decide) rfl
    exact W.lret (v := 0) hx hb hr (fun u hu hW => ⟨⟨0, (), rfl, (congrArg Prod.fst hF).symm, by rw [hu, hF]; exact hP9, by rw [hF]; exact hD9⟩, hS.F hu⟩) hS.2.2 dX0_load_6
def f_X0_store_97 (n : Nat) (p1 : Int64) (p3 : Int32) (vC_97 : CS) : CS :=
  if (f_X5_slotAt p1 2097156 12 (nI (2 * n))) < 0 then vC_97
  else (f_X0_complete vC_97 (f_X5_slotAt p1 2097156 12 (nI (2 * n))) p3)
def f_X0_store_65 (n : Nat) (p1 : Int64) (p3 : Int32) (vC_65 : CS) : CS :=
  if (f_X5_slotAt p1 2097152 12 (nI (2 * n))) < 0 then (f_X0_store_97 n p1 p3 vC_65)
  else (f_X0_store_97 n p1 p3 (vC_65.1, vC_65.2.1, vC_65.2.2.1, vC_65.2.2.2.1, vC_65.2.2.2.2.1, (upd vC_65.2.2.2.2.2 (Int32.toNatClampNeg (f_X5_slotAt p1 2097152 12 (nI (2 * n)))) (p3 &&& 7))))
def f_X0_store_33 (n : Nat) (p1 : Int64) (p3 : Int32) (vC_33 : CS) : CS :=
  if (f_X5_slotAt p1 8192 7 (nI (2 * n))) < 0 then (f_X0_store_65 n p1 p3 vC_33)
  else (f_X0_store_65 n p1 p3 (vC_33.1, vC_33.2.1, vC_33.2.2.1, vC_33.2.2.2.1, (upd vC_33.2.2.2.2.1 (Int32.toNatClampNeg (f_X5_slotAt p1 8192 7 (nI (2 * n)))) (p3 &&& (-2))), vC_33.2.2.2.2.2))
def f_X0_store (n : Nat) (vC : CS) (p1 : Int64) (p2 : Int32) (p3 : Int32) : CS :=
  if p2 = 4 then if (f_X5_slotAt p1 0 2 32) ≤ 0 then (f_X0_store_33 n p1 p3 vC)
    else (f_X0_store_33 n p1 p3 (vC.1, vC.2.1, vC.2.2.1, (upd vC.2.2.2.1 (Int32.toNatClampNeg (f_X5_slotAt p1 0 2 32)) (p3 &&& 7)), vC.2.2.2.2.1, vC.2.2.2.2.2))
  else vC
set_option maxHeartbeats 4000000 in
set_option maxRecDepth 100000 in
theorem k_X0_store (l : Launch) (dC : Nat → ClassId) (dI : Nat → Nat → Nat) (cI cJ cB cZ : ClassId) (kH kP kE kT : Nat) (sz : Nat) (n : Nat) (vC : CS) (p1 : Int64) (p2 : Int32) (p3 : Int32) (hn : n ≤ 4) : Met l yX0_store wsX0_store ({ frames := 2, cells := 0, slots := 0, locals := 42 }) (va_Pc [.ref kH, .long p1, .int p2, .int p3] (fun U => U.heap.size = sz ∧ va_P (dC, dI) vwCl [(kH, .inr (0, [.int vC.1, .int vC.2.1, .int vC.2.2.1, .ref kP, .ref kE, .ref kT, .int (nI (2 * n))])), (kP, .inl (cI, 32, .inl vC.2.2.2.1)), (kE, .inl (cI, (2 * n), .inl vC.2.2.2.2.1)), (kT, .inl (cI, (2 * n), .inl vC.2.2.2.2.2))] U.heap ∧ va_K (dC, dI) vwCl [(cI, .int), (cJ, .long), (cB, .byte), (cZ, .boolean)] U ∧ va_D (fun _ => True) [(kH, .inr (0, [.int vC.1, .int vC.2.1, .int vC.2.2.1, .ref kP, .ref kE, .ref kT, .int (nI (2 * n))])), (kP, .inl (cI, 32, .inl vC.2.2.2.1)), (kE, .inl (cI, (2 * n), .inl vC.2.2.2.2.1)), (kT, .inl (cI, (2 * n), .inl vC.2.2.2.2.2))] ∧ nw_ U)) (va_Qv (fun (_ : Unit) => True) (fun (_ : Unit) (w : State) => va_P (dC, dI) vwCl [(kH, .inr (0, [.int (f_X0_store n vC p1 p2 p3).1, .int (f_X0_store n vC p1 p2 p3).2.1, .int (f_X0_store n vC p1 p2 p3).2.2.1, .ref kP, .ref kE, .ref kT, .int (nI (2 * n))])), (kP, .inl (cI, 32, .inl (f_X0_store n vC p1 p2 p3).2.2.2.1)), (kE, .inl (cI, (2 * n), .inl (f_X0_store n vC p1 p2 p3).2.2.2.2.1)), (kT, .inl (cI, (2 * n), .inl (f_X0_store n vC p1 p2 p3).2.2.2.2.2))] w.heap ∧ va_D (va_A [(kH, .inr (0, [.int vC.1, .int vC.2.1, .int vC.2.2.1, .ref kP, .ref kE, .ref kT, .int (nI (2 * n))])), (kP, .inl (cI, 32, .inl vC.2.2.2.1)), (kE, .inl (cI, (2 * n), .inl vC.2.2.2.2.1)), (kT, .inl (cI, (2 * n), .inl vC.2.2.2.2.2))] sz) [(kH, .inr (0, [.int (f_X0_store n vC p1 p2 p3).1, .int (f_X0_store n vC p1 p2 p3).2.1, .int (f_X0_store n vC p1 p2 p3).2.2.1, .ref kP, .ref kE, .ref kT, .int (nI (2 * n))])), (kP, .inl (cI, 32, .inl (f_X0_store n vC p1 p2 p3).2.2.2.1)), (kE, .inl (cI, (2 * n), .inl (f_X0_store n vC p1 p2 p3).2.2.2.2.1)), (kT, .inl (cI, (2 * n), .inl (f_X0_store n vC p1 p2 p3).2.2.2.2.2))]) (va_A [(kH, .inr (0, [.int vC.1, .int vC.2.1, .int vC.2.2.1, .ref kP, .ref kE, .ref kT, .int (nI (2 * n))])), (kP, .inl (cI, 32, .inl vC.2.2.2.1)), (kE, .inl (cI, (2 * n), .inl vC.2.2.2.2.1)), (kT, .inl (cI, (2 * n), .inl vC.2.2.2.2.2))] sz)) 0 0 (va_A [(kH, .inr (0, [.int vC.1, .int vC.2.1, .int vC.2.2.1, .ref kP, .ref kE, .ref kT, .int (nI (2 * n))])), (kP, .inl (cI, 32, .inl vC.2.2.2.1)), (kE, .inl (cI, (2 * n), .inl vC.2.2.2.2.1)), (kT, .inl (cI, (2 * n), .inl vC.2.2.2.2.2))] sz) := by
  refine Met.ofW (cc := prog_2_method_3_code) (maxL := 7) (ret := none) (by decide) rfl ?_
  intro p e s m args below meth c s₁ B hml hv
  obtain ⟨rfl, hsz, hP, hK, hD0, hN⟩ := hv
  have hx := B.exec
  have hb := B.bytes
  have hr := B.returns
  have hw := hw_of (atoms_spec (ws := wsX0_store) B.pre)
  have hown : s.vm.findClass RX0 = some m.cls := findClass_of_methodNamed B.named
  have hlocks := B.notSynchronized
  subst hsz
  have hD := hD0.self (sz := s.heap.size)
  generalize hAe : va_A [(kH, .inr (0, [.int vC.1, .int vC.2.1, .int vC.2.2.1, .ref kP, .ref kE, .ref kT, .int (nI (2 * n))])), (kP, .inl (cI, 32, .inl vC.2.2.2.1)), (kE, .inl (cI, (2 * n), .inl vC.2.2.2.2.1)), (kT, .inl (cI, (2 * n), .inl vC.2.2.2.2.2))] s.heap.size = A at hD ⊢
  have hA : ∀ q : Nat, s.heap.size ≤ q → A q := fun q h => by rw [← hAe]; exact Or.inr h
  have hS : va_S A s.heap s.heap [] := va_S.rf
  have hP : va_P (dC, dI) vwCl [(kH, .inr (0, [.int vC.1, .int vC.2.1, .int vC.2.2.1, .ref kP, .ref kE, .ref kT, .int (nI (2 * n))])), (kP, .inl (cI, 32, .inl vC.2.2.2.1)), (kE, .inl (cI, (2 * n), .inl vC.2.2.2.2.1)), (kT, .inl (cI, (2 * n), .inl vC.2.2.2.2.2))] s.heap := hP
  have hl := lv_entry ([.ref kH, .long p1, .int p2, .int p3]) (n := 7) (Nat.le_of_ble_eq_true rfl)
  rw [lg_entry_eq]
  generalize (lg_sl ([.ref kH, .long p1, .int p2, .int p3]) ++ List.replicate (7 - (lg_sl ([.ref kH, .long p1, .int p2, .int p3])).length) Slot.unset).toArray = ls at hl ⊢
  have hl : lv_has ls 7 [(0, .ref kH), (1, .long p1), (3, .int p2), (4, .int p3)] := hl
  refine w_nameQ (fun Q hQ => ?_)
  have j_97 : ∀ (H : Heap) (locs : List Loc) (ls : Array Slot) (vC_97 : CS), (f_X0_store n vC p1 p2 p3) = (f_X0_store_97 n p1 p3 vC_97) → va_P (dC, dI) vwCl [(kH, .inr (0, [.int vC_97.1, .int vC_97.2.1, .int vC_97.2.2.1, .ref kP, .ref kE, .ref kT, .int (nI (2 * n))])), (kP, .inl (cI, 32, .inl vC_97.2.2.2.1)), (kE, .inl (cI, (2 * n), .inl vC_97.2.2.2.2.1)), (kT, .inl (cI, (2 * n), .inl vC_97.2.2.2.2.2))] H → va_D A [(kH, .inr (0, [.int vC_97.1, .int vC_97.2.1, .int vC_97.2.2.1, .ref kP, .ref kE, .ref kT, .int (nI (2 * n))])), (kP, .inl (cI, 32, .inl vC_97.2.2.2.1)), (kE, .inl (cI, (2 * n), .inl vC_97.2.2.2.2.1)), (kT, .inl (cI, (2 * n), .inl vC_97.2.2.2.2.2))] → va_S A s.heap H locs → lv_has ls 7 [(0, .ref kH), (1, .long p1), (3, .int p2), (4, .int p3)] → W p l e (headSpec wsX0_store ({ frames := 2, cells := 0, slots := 0, locals := 42 })).room s m [.ref kH, .long p1, .int p2, .int p3].toArray below meth c H locs 0 0 Q (F0 m 97 ls []) := by
    intro H locs ls vC_97 hE hP hD hS hl
    refine lv_lload_n hx hb dX0_store_97 rfl (lv_at hl 1 rfl) ?_
    refine lv_ldc2 (v := 2097156) hx hb hown (hw _ w_336) dX0_store_98 ?_
    refine lv_bipush (v := 12) hx hb dX0_store_101 (by decide) ?_
    refine lv_aload_n hx hb dX0_store_103 rfl (lv_at hl 0 rfl) ?_
    refine va_get (D := (dC, dI)) (ci := 0) (v := .int (nI (2 * n))) (C := RX0) (T := TX0) (N := 7) hx hb hw inWX0 hown hK hP 0 rfl rfl 6 (by decide) (hw _ w_56) (fun _ h9 => h9) rfl dX0_store_104 ?_
    have hPc := hP.sub (ws' := []) [] rfl
    have hDc := hD.sub (ws' := []) [] (by decide) rfl
    have hFc := va_free (wc := []) hD hS hA [] rfl
    refine va_calli (va_runSN (As := [.long p1, .long 2097156, .int 12, .int (nI (2 * n))]) (rest := []) ⟨hx, hb, hml, hown, hw⟩ (k_X5_slotAt l dC dI cI cJ cB cZ H.size p1 2097156 12 (nI (2 * n))) ⟨va_cnB 4 hw (gI w_312) rfl rfl rfl (hN _ n_333) (hw _ w_1) (by decide +kernel) ⟨Nat.le_of_ble_eq_true rfl, Nat.le_of_ble_eq_true rfl⟩, hw _ w_311, trivial⟩ ⟨fun a U g mk q => by obtain ⟨q0, q1, qP, qK, qD, qN⟩ := q; exact ⟨q0, q1, qP, va_K.moved (u := U) (U := U.calling g mk a) (Vm.Alike.refl U.vm) qK, qD, nw_same (s := U) (U := U.calling g mk a) rfl qN⟩, fun U hU hW => ⟨rfl, by rw [hU], by rw [hU]; exact hPc, va_K.moved hW.alike hK, hDc.weaken (fun _ _ _ _ => trivial), nw_warm hW hN⟩⟩ rfl rfl hl.1 rfl (lv_room (Nat.le_of_ble_eq_true rfl)) dX0_store_107 ⟨Nat.le_of_ble_eq_true rfl, Nat.le_of_ble_eq_true rfl⟩) hS (fun q _ h => hFc q h) hFc (fun r_107 u t9 H1 locs ht hvm hR hB hz1 hk1 hS => ?_)
    replace hR := Eq.symm hR
    subst hR
    obtain ⟨hP1, hD1⟩ := hB
    rw [ht] at hP1
    obtain ⟨hP, hD⟩ := va_join (wr := [(kH, .inr (0, [.int vC_97.1, .int vC_97.2.1, .int vC_97.2.2.1, .ref kP, .ref kE, .ref kT, .int (nI (2 * n))])), (kP, .inl (cI, 32, .inl vC_97.2.2.2.1)), (kE, .inl (cI, (2 * n), .inl vC_97.2.2.2.2.1)), (kT, .inl (cI, (2 * n), .inl vC_97.2.2.2.2.2))]) (w1 := []) hP hD [] [0, 1, 2, 3] rfl rfl (by decide) (by decide) hk1 hFc hP1 hD1
    generalize H1 = H at hP hS ⊢
    have hP : va_P (dC, dI) vwCl [(kH, .inr (0, [.int vC_97.1, .int vC_97.2.1, .int vC_97.2.2.1, .ref kP, .ref kE, .ref kT, .int (nI (2 * n))])), (kP, .inl (cI, 32, .inl vC_97.2.2.2.1)), (kE, .inl (cI, (2 * n), .inl vC_97.2.2.2.2.1)), (kT, .inl (cI, (2 * n), .inl vC_97.2.2.2.2.2))] H := hP
    have hD : va_D A [(kH, .inr (0, [.int vC_97.1, .int vC_97.2.1, .int vC_97.2.2.1, .ref kP, .ref kE, .ref kT, .int (nI (2 * n))])), (kP, .inl (cI, 32, .inl vC_97.2.2.2.1)), (kE, .inl (cI, (2 * n), .inl vC_97.2.2.2.2.1)), (kT, .inl (cI, (2 * n), .inl vC_97.2.2.2.2.2))] := hD
    refine lv_istore (lv' := [(6, .int (f_X5_slotAt p1 2097156 12 (nI (2 * n)))), (0, .ref kH), (1, .long p1), (3, .int p2), (4, .int p3)]) hx hb dX0_store_110 hl (by decide) rfl (fun ls hl => ?_)
    refine lv_iload hx hb dX0_store_112 (lv_at hl 0 rfl) ?_
    refine lv_if_lt (tgt := 125) hx hb dX0_store_114 (by decide) (fun c_114 => ?_) (fun c_114 => ?_)
    · have hF : (f_X0_store n vC p1 p2 p3) = vC_97 := by exact hE.trans (by rw [f_X0_store_97, if_pos c_114])
      have hP9 := hP.sub (ws' := [(kH, .inr (0, [.int vC_97.1, .int vC_97.2.1, .int vC_97.2.2.1, .ref kP, .ref kE, .ref kT, .int (nI (2 * n))])), (kP, .inl (cI, 32, .inl vC_97.2.2.2.1)), (kE, .inl (cI, (2 * n), .inl vC_97.2.2.2.2.1)), (kT, .inl (cI, (2 * n), .inl vC_97.2.2.2.2.2))]) [0, 1, 2, 3] rfl
      have hD9 := hD.sub (ws' := [(kH, .inr (0, [.int vC_97.1, .int vC_97.2.1, .int vC_97.2.2.1, .ref kP, .ref kE, .ref kT, .int (nI (2 * n))])), (kP, .inl (cI, 32, .inl vC_97.2.2.2.1)), (kE, .inl (cI, (2 * n), .inl vC_97.2.2.2.2.1)), (kT, .inl (cI, (2 * n), .inl vC_97.2.2.2.2.2))]) [0, 1, 2, 3] (by decide) rfl
      rw [hQ]
      exact W.vret hx hb hr (fun u hu hW => ⟨⟨(), rfl, trivial, by rw [hu, hF]; exact hP9, by rw [hF]; exact hD9⟩, hS.F hu⟩) hS.2.2 dX0_store_125
    · refine lv_aload_n hx hb dX0_store_117 rfl (lv_at hl 1 rfl) ?_
      refine lv_iload hx hb dX0_store_118 (lv_at hl 0 rfl) ?_
      refine lv_iload hx hb dX0_store_120 (lv_at hl 4 rfl) ?_
      have hPc := hP.sub (ws' := [(kH, .inr (0, [.int vC_97.1, .int vC_97.2.1, .int vC_97.2.2.1, .ref kP, .ref kE, .ref kT, .int (nI (2 * n))])), (kP, .inl (cI, 32, .inl vC_97.2.2.2.1)), (kE, .inl (cI, (2 * n), .inl vC_97.2.2.2.2.1)), (kT, .inl (cI, (2 * n), .inl vC_97.2.2.2.2.2))]) [0, 1, 2, 3] rfl
      have hDc := hD.sub (ws' := [(kH, .inr (0, [.int vC_97.1, .int vC_97.2.1, .int vC_97.2.2.1, .ref kP, .ref kE, .ref kT, .int (nI (2 * n))])), (kP, .inl (cI, 32, .inl vC_97.2.2.2.1)), (kE, .inl (cI, (2 * n), .inl vC_97.2.2.2.2.1)), (kT, .inl (cI, (2 * n), .inl vC_97.2.2.2.2.2))]) [0, 1, 2, 3] (by decide) rfl
      have hFc := va_free (wc := [(kH, .inr (0, [.int vC_97.1, .int vC_97.2.1, .int vC_97.2.2.1, .ref kP, .ref kE, .ref kT, .int (nI (2 * n))])), (kP, .inl (cI, 32, .inl vC_97.2.2.2.1)), (kE, .inl (cI, (2 * n), .inl vC_97.2.2.2.2.1)), (kT, .inl (cI, (2 * n), .inl vC_97.2.2.2.2.2))]) hD hS hA [0, 1, 2, 3] rfl
      refine va_callv (va_runV (As := [.int (f_X5_slotAt p1 2097156 12 (nI (2 * n))), .int p3]) (rest := []) ⟨hx, hb, hml, hown, hw⟩ (k_X0_complete l dC dI cI cJ cB cZ kH kP kE kT H.size n vC_97 (f_X5_slotAt p1 2097156 12 (nI (2 * n))) p3 (in_slotK hn c_114)) (cwV 2 hw (gV w_387 w_389 w_s11 w_4 w_390) rfl rfl rfl (by decide +kernel) ⟨Nat.le_of_ble_eq_true rfl, Nat.le_of_ble_eq_true rfl⟩) ⟨fun a U g mk q => by obtain ⟨q0, q1, qP, qK, qD, qN⟩ := q; exact ⟨q0, q1, qP, va_K.moved (u := U) (U := U.calling g mk a) (Vm.Alike.refl U.vm) qK, qD, nw_same (s := U) (U := U.calling g mk a) rfl qN⟩, va_recv hK hPc (ci := 0) (q0 := 0) rfl rfl, fun U hU hW => ⟨rfl, by rw [hU], by rw [hU]; exact hPc, va_K.moved hW.alike hK, hDc.weaken (fun _ _ _ _ => trivial), nw_warm hW hN⟩⟩ rfl rfl hl.1 rfl (lv_room (Nat.le_of_ble_eq_true rfl)) dX0_store_122 ⟨Nat.le_of_ble_eq_true rfl, Nat.le_of_ble_eq_true rfl⟩) hS (fun q _ h => hFc q h) hFc (fun u t9 H1 locs ht hvm hR hB hz1 hk1 hS => ?_)
      obtain ⟨hP1, hD1⟩ := hB
      rw [ht] at hP1
      obtain ⟨hP, hD⟩ := va_join (wr := []) (w1 := [(kH, .inr (0, [.int (f_X0_complete vC_97 (f_X5_slotAt p1 2097156 12 (nI (2 * n))) p3).1, .int (f_X0_complete vC_97 (f_X5_slotAt p1 2097156 12 (nI (2 * n))) p3).2.1, .int (f_X0_complete vC_97 (f_X5_slotAt p1 2097156 12 (nI (2 * n))) p3).2.2.1, .ref kP, .ref kE, .ref kT, .int (nI (2 * n))])), (kP, .inl (cI, 32, .inl (f_X0_complete vC_97 (f_X5_slotAt p1 2097156 12 (nI (2 * n))) p3).2.2.2.1)), (kE, .inl (cI, (2 * n), .inl (f_X0_complete vC_97 (f_X5_slotAt p1 2097156 12 (nI (2 * n))) p3).2.2.2.2.1)), (kT, .inl (cI, (2 * n), .inl (f_X0_complete vC_97 (f_X5_slotAt p1 2097156 12 (nI (2 * n))) p3).2.2.2.2.2))]) hP hD [0, 1, 2, 3] [] rfl rfl (by decide) (by decide) hk1 hFc hP1 hD1
      generalize H1 = H at hP hS ⊢
      have hP : va_P (dC, dI) vwCl [(kH, .inr (0, [.int (f_X0_complete vC_97 (f_X5_slotAt p1 2097156 12 (nI (2 * n))) p3).1, .int (f_X0_complete vC_97 (f_X5_slotAt p1 2097156 12 (nI (2 * n))) p3).2.1, .int (f_X0_complete vC_97 (f_X5_slotAt p1 2097156 12 (nI (2 * n))) p3).2.2.1, .ref kP, .ref kE, .ref kT, .int (nI (2 * n))])), (kP, .inl (cI, 32, .inl (f_X0_complete vC_97 (f_X5_slotAt p1 2097156 12 (nI (2 * n))) p3).2.2.2.1)), (kE, .inl (cI, (2 * n), .inl (f_X0_complete vC_97 (f_X5_slotAt p1 2097156 12 (nI (2 * n))) p3).2.2.2.2.1)), (kT, .inl (cI, (2 * n), .inl (f_X0_complete vC_97 (f_X5_slotAt p1 2097156 12 (nI (2 * n))) p3).2.2.2.2.2))] H := hP
      have hD : va_D A [(kH, .inr (0, [.int (f_X0_complete vC_97 (f_X5_slotAt p1 2097156 12 (nI (2 * n))) p3).1, .int (f_X0_complete vC_97 (f_X5_slotAt p1 2097156 12 (nI (2 * n))) p3).2.1, .int (f_X0_complete vC_97 (f_X5_slotAt p1 2097156 12 (nI (2 * n))) p3).2.2.1, .ref kP, .ref kE, .ref kT, .int (nI (2 * n))])), (kP, .inl (cI, 32, .inl (f_X0_complete vC_97 (f_X5_slotAt p1 2097156 12 (nI (2 * n))) p3).2.2.2.1)), (kE, .inl (cI, (2 * n), .inl (f_X0_complete vC_97 (f_X5_slotAt p1 2097156 12 (nI (2 * n))) p3).2.2.2.2.1)), (kT, .inl (cI, (2 * n), .inl (f_X0_complete vC_97 (f_X5_slotAt p1 2097156 12 (nI (2 * n))) p3).2.2.2.2.2))] := hD
      have hF : (f_X0_store n vC p1 p2 p3) = (f_X0_complete vC_97 (f_X5_slotAt p1 2097156 12 (nI (2 * n))) p3) := by exact hE.trans (by rw [f_X0_store_97, if_neg c_114])
      have hP9 := hP.sub (ws' := [(kH, .inr (0, [.int (f_X0_complete vC_97 (f_X5_slotAt p1 2097156 12 (nI (2 * n))) p3).1, .int (f_X0_complete vC_97 (f_X5_slotAt p1 2097156 12 (nI (2 * n))) p3).2.1, .int (f_X0_complete vC_97 (f_X5_slotAt p1 2097156 12 (nI (2 * n))) p3).2.2.1, .ref kP, .ref kE, .ref kT, .int (nI (2 * n))])), (kP, .inl (cI, 32, .inl (f_X0_complete vC_97 (f_X5_slotAt p1 2097156 12 (nI (2 * n))) p3).2.2.2.1)), (kE, .inl (cI, (2 * n), .inl (f_X0_complete vC_97 (f_X5_slotAt p1 2097156 12 (nI (2 * n))) p3).2.2.2.2.1)), (kT, .inl (cI, (2 * n), .inl (f_X0_complete vC_97 (f_X5_slotAt p1 2097156 12 (nI (2 * n))) p3).2.2.2.2.2))]) [0, 1, 2, 3] rfl
      have hD9 := hD.sub (ws' := [(kH, .inr (0, [.int (f_X0_complete vC_97 (f_X5_slotAt p1 2097156 12 (nI (2 * n))) p3).1, .int (f_X0_complete vC_97 (f_X5_slotAt p1 2097156 12 (nI (2 * n))) p3).2.1, .int (f_X0_complete vC_97 (f_X5_slotAt p1 2097156 12 (nI (2 * n))) p3).2.2.1, .ref kP, .ref kE, .ref kT, .int (nI (2 * n))])), (kP, .inl (cI, 32, .inl (f_X0_complete vC_97 (f_X5_slotAt p1 2097156 12 (nI (2 * n))) p3).2.2.2.1)), (kE, .inl (cI, (2 * n), .inl (f_X0_complete vC_97 (f_X5_slotAt p1 2097156 12 (nI (2 * n))) p3).2.2.2.2.1)), (kT, .inl (cI, (2 * n), .inl (f_X0_complete vC_97 (f_X5_slotAt p1 2097156 12 (nI (2 * n))) p3).2.2.2.2.2))]) [0, 1, 2, 3] (by decide) rfl
      rw [hQ]
      exact W.vret hx hb hr (fun u hu hW => ⟨⟨(), rfl, trivial, by rw [hu, hF]; exact hP9, by rw [hF]; exact hD9⟩, hS.F hu⟩) hS.2.2 dX0_store_125
  have j_65 : ∀ (H : Heap) (locs : List Loc) (ls : Array Slot) (vC_65 : CS), (f_X0_store n vC p1 p2 p3) = (f_X0_store_65 n p1 p3 vC_65) → va_P (dC, dI) vwCl [(kH, .inr (0, [.int vC_65.1, .int vC_65.2.1, .int vC_65.2.2.1, .ref kP, .ref kE, .ref kT, .int (nI (2 * n))])), (kP, .inl (cI, 32, .inl vC_65.2.2.2.1)), (kE, .inl (cI, (2 * n), .inl vC_65.2.2.2.2.1)), (kT, .inl (cI, (2 * n), .inl vC_65.2.2.2.2.2))] H → va_D A [(kH, .inr (0, [.int vC_65.1, .int vC_65.2.1, .int vC_65.2.2.1, .ref kP, .ref kE, .ref kT, .int (nI (2 * n))])), (kP, .inl (cI, 32, .inl vC_65.2.2.2.1)), (kE, .inl (cI, (2 * n), .inl vC_65.2.2.2.2.1)), (kT, .inl (cI, (2 * n), .inl vC_65.2.2.2.2.2))] → va_S A s.heap H locs → lv_has ls 7 [(0, .ref kH), (1, .long p1), (3, .int p2), (4, .int p3)] → W p l e (headSpec wsX0_store ({ frames := 2, cells := 0, slots := 0, locals := 42 })).room s m [.ref kH, .long p1, .int p2, .int p3].toArray below meth c H locs 0 0 Q (F0 m 65 ls []) := by
    intro H locs ls vC_65 hE hP hD hS hl
    refine lv_lload_n hx hb dX0_store_65 rfl (lv_at hl 1 rfl) ?_
    refine lv_ldc2 (v := 2097152) hx hb hown (hw _ w_335) dX0_store_66 ?_
    refine lv_bipush (v := 12) hx hb dX0_store_69 (by decide) ?_
    refine lv_aload_n hx hb dX0_store_71 rfl (lv_at hl 0 rfl) ?_
    refine va_get (D := (dC, dI)) (ci := 0) (v := .int (nI (2 * n))) (C := RX0) (T := TX0) (N := 7) hx hb hw inWX0 hown hK hP 0 rfl rfl 6 (by decide) (hw _ w_56) (fun _ h9 => h9) rfl dX0_store_72 ?_
    have hPc := hP.sub (ws' := []) [] rfl
    have hDc := hD.sub (ws' := []) [] (by decide) rfl
    have hFc := va_free (wc := []) hD hS hA [] rfl
    refine va_calli (va_runSN (As := [.long p1, .long 2097152, .int 12, .int (nI (2 * n))]) (rest := []) ⟨hx, hb, hml, hown, hw⟩ (k_X5_slotAt l dC dI cI cJ cB cZ H.size p1 2097152 12 (nI (2 * n))) ⟨va_cnB 4 hw (gI w_312) rfl rfl rfl (hN _ n_333) (hw _ w_1) (by decide +kernel) ⟨Nat.le_of_ble_eq_true rfl, Nat.le_of_ble_eq_true rfl⟩, hw _ w_311, trivial⟩ ⟨fun a U g mk q => by obtain ⟨q0, q1, qP, qK, qD, qN⟩ := q; exact ⟨q0, q1, qP, va_K.moved (u := U) (U := U.calling g mk a) (Vm.Alike.refl U.vm) qK, qD, nw_same (s := U) (U := U.calling g mk a) rfl qN⟩, fun U hU hW => ⟨rfl, by rw [hU], by rw [hU]; exact hPc, va_K.moved hW.alike hK, hDc.weaken (fun _ _ _ _ => trivial), nw_warm hW hN⟩⟩ rfl rfl hl.1 rfl (lv_room (Nat.le_of_ble_eq_true rfl)) dX0_store_75 ⟨Nat.le_of_ble_eq_true rfl, Nat.le_of_ble_eq_true rfl⟩) hS (fun q _ h => hFc q h) hFc (fun r_75 u t9 H1 locs ht hvm hR hB hz1 hk1 hS => ?_)
    replace hR := Eq.symm hR
    subst hR
    obtain ⟨hP1, hD1⟩ := hB
    rw [ht] at hP1
    obtain ⟨hP, hD⟩ := va_join (wr := [(kH, .inr (0, [.int vC_65.1, .int vC_65.2.1, .int vC_65.2.2.1, .ref kP, .ref kE, .ref kT, .int (nI (2 * n))])), (kP, .inl (cI, 32, .inl vC_65.2.2.2.1)), (kE, .inl (cI, (2 * n), .inl vC_65.2.2.2.2.1)), (kT, .inl (cI, (2 * n), .inl vC_65.2.2.2.2.2))]) (w1 := []) hP hD [] [0, 1, 2, 3] rfl rfl (by decide) (by decide) hk1 hFc hP1 hD1
    generalize H1 = H at hP hS ⊢
    have hP : va_P (dC, dI) vwCl [(kH, .inr (0, [.int vC_65.1, .int vC_65.2.1, .int vC_65.2.2.1, .ref kP, .ref kE, .ref kT, .int (nI (2 * n))])), (kP, .inl (cI, 32, .inl vC_65.2.2.2.1)), (kE, .inl (cI, (2 * n), .inl vC_65.2.2.2.2.1)), (kT, .inl (cI, (2 * n), .inl vC_65.2.2.2.2.2))] H := hP
    have hD : va_D A [(kH, .inr (0, [.int vC_65.1, .int vC_65.2.1, .int vC_65.2.2.1, .ref kP, .ref kE, .ref kT, .int (nI (2 * n))])), (kP, .inl (cI, 32, .inl vC_65.2.2.2.1)), (kE, .inl (cI, (2 * n), .inl vC_65.2.2.2.2.1)), (kT, .inl (cI, (2 * n), .inl vC_65.2.2.2.2.2))] := hD
    refine lv_istore (lv' := [(6, .int (f_X5_slotAt p1 2097152 12 (nI (2 * n)))), (0, .ref kH), (1, .long p1), (3, .int p2), (4, .int p3)]) hx hb dX0_store_78 hl (by decide) rfl (fun ls hl => ?_)
    refine lv_iload hx hb dX0_store_80 (lv_at hl 0 rfl) ?_
    refine lv_if_lt (tgt := 97) hx hb dX0_store_82 (by decide) (fun c_82 => ?_) (fun c_82 => ?_)
    · have hE9 : (f_X0_store n vC p1 p2 p3) = (f_X0_store_97 n p1 p3 vC_65) := by exact hE.trans (by rw [f_X0_store_65, if_pos c_82])
      exact j_97 _ _ _ vC_65 hE9 (hP.sub [0, 1, 2, 3] rfl) (hD.sub [0, 1, 2, 3] (by decide) rfl) hS (lv_sub hl [1, 2, 3, 4] rfl)
    · refine lv_aload_n hx hb dX0_store_85 rfl (lv_at hl 1 rfl) ?_
      refine va_get (D := (dC, dI)) (ci := 0) (v := .ref kT) (C := RX0) (T := TX0) (N := 7) hx hb hw inWX0 hown hK hP 0 rfl rfl 5 (by decide) (hw _ w_55) (fun _ h9 => h9) rfl dX0_store_86 ?_
      refine lv_iload hx hb dX0_store_89 (lv_at hl 0 rfl) ?_
      refine lv_iload hx hb dX0_store_91 (lv_at hl 4 rfl) ?_
      refine lv_bipush (v := 7) hx hb dX0_store_93 (by decide) ?_
      refine lv_iand hx hb dX0_store_95 ?_
      have h_96 : vp_in (f_X5_slotAt p1 2097152 12 (nI (2 * n))) (2 * n) := (in_slotK hn c_82)
      refine va_iast hx hb hK hP hD hS 3 0 rfl rfl h_96 dX0_store_96 (fun H locs hP hD hS => ?_)
      have hP : va_P (dC, dI) vwCl [(kH, .inr (0, [.int vC_65.1, .int vC_65.2.1, .int vC_65.2.2.1, .ref kP, .ref kE, .ref kT, .int (nI (2 * n))])), (kP, .inl (cI, 32, .inl vC_65.2.2.2.1)), (kE, .inl (cI, (2 * n), .inl vC_65.2.2.2.2.1)), (kT, .inl (cI, (2 * n), .inl (upd vC_65.2.2.2.2.2 (Int32.toNatClampNeg (f_X5_slotAt p1 2097152 12 (nI (2 * n)))) (p3 &&& 7))))] H := hP
      have hD : va_D A [(kH, .inr (0, [.int vC_65.1, .int vC_65.2.1, .int vC_65.2.2.1, .ref kP, .ref kE, .ref kT, .int (nI (2 * n))])), (kP, .inl (cI, 32, .inl vC_65.2.2.2.1)), (kE, .inl (cI, (2 * n), .inl vC_65.2.2.2.2.1)), (kT, .inl (cI, (2 * n), .inl (upd vC_65.2.2.2.2.2 (Int32.toNatClampNeg (f_X5_slotAt p1 2097152 12 (nI (2 * n)))) (p3 &&& 7))))] := hD
      have hE9 : (f_X0_store n vC p1 p2 p3) = (f_X0_store_97 n p1 p3 (vC_65.1, vC_65.2.1, vC_65.2.2.1, vC_65.2.2.2.1, vC_65.2.2.2.2.1, (upd vC_65.2.2.2.2.2 (Int32.toNatClampNeg (f_X5_slotAt p1 2097152 12 (nI (2 * n)))) (p3 &&& 7)))) := by exact hE.trans (by rw [f_X0_store_65, if_neg c_82])
      exact j_97 _ _ _ (vC_65.1, vC_65.2.1, vC_65.2.2.1, vC_65.2.2.2.1, vC_65.2.2.2.2.1, (upd vC_65.2.2.2.2.2 (Int32.toNatClampNeg (f_X5_slotAt p1 2097152 12 (nI (2 * n)))) (p3 &&& 7))) hE9 (hP.sub [0, 1, 2, 3] rfl) (hD.sub [0, 1, 2, 3] (by decide) rfl) hS (lv_sub hl [1, 2, 3, 4] rfl)
  have j_33 : ∀ (H : Heap) (locs : List Loc) (ls : Array Slot) (vC_33 : CS), (f_X0_store n vC p1 p2 p3) = (f_X0_store_33 n p1 p3 vC_33) → va_P (dC, dI) vwCl [(kH, .inr (0, [.int vC_33.1, .int vC_33.2.1, .int vC_33.2.2.1, .ref kP, .ref kE, .ref kT, .int (nI (2 * n))])), (kP, .inl (cI, 32, .inl vC_33.2.2.2.1)), (kE, .inl (cI, (2 * n), .inl vC_33.2.2.2.2.1)), (kT, .inl (cI, (2 * n), .inl vC_33.2.2.2.2.2))] H → va_D A [(kH, .inr (0, [.int vC_33.1, .int vC_33.2.1, .int vC_33.2.2.1, .ref kP, .ref kE, .ref kT, .int (nI (2 * n))])), (kP, .inl (cI, 32, .inl vC_33.2.2.2.1)), (kE, .inl (cI, (2 * n), .inl vC_33.2.2.2.2.1)), (kT, .inl (cI, (2 * n), .inl vC_33.2.2.2.2.2))] → va_S A s.heap H locs → lv_has ls 7 [(0, .ref kH), (1, .long p1), (3, .int p2), (4, .int p3)] → W p l e (headSpec wsX0_store ({ frames := 2, cells := 0, slots := 0, locals := 42 })).room s m [.ref kH, .long p1, .int p2, .int p3].toArray below meth c H locs 0 0 Q (F0 m 33 ls []) := by
    intro H locs ls vC_33 hE hP hD hS hl
    refine lv_lload_n hx hb dX0_store_33 rfl (lv_at hl 1 rfl) ?_
    refine lv_ldc2 (v := 8192) hx hb hown (hw _ w_334) dX0_store_34 ?_
    refine lv_bipush (v := 7) hx hb dX0_store_37 (by decide) ?_
    refine lv_aload_n hx hb dX0_store_39 rfl (lv_at hl 0 rfl) ?_
    refine va_get (D := (dC, dI)) (ci := 0) (v := .int (nI (2 * n))) (C := RX0) (T := TX0) (N := 7) hx hb hw inWX0 hown hK hP 0 rfl rfl 6 (by decide) (hw _ w_56) (fun _ h9 => h9) rfl dX0_store_40 ?_
    have hPc := hP.sub (ws' := []) [] rfl
    have hDc := hD.sub (ws' := []) [] (by decide) rfl
    have hFc := va_free (wc := []) hD hS hA [] rfl
    refine va_calli (va_runSN (As := [.long p1, .long 8192, .int 7, .int (nI (2 * n))]) (rest := []) ⟨hx, hb, hml, hown, hw⟩ (k_X5_slotAt l dC dI cI cJ cB cZ H.size p1 8192 7 (nI (2 * n))) ⟨va_cnB 4 hw (gI w_312) rfl rfl rfl (hN _ n_333) (hw _ w_1) (by decide +kernel) ⟨Nat.le_of_ble_eq_true rfl, Nat.le_of_ble_eq_true rfl⟩, hw _ w_311, trivial⟩ ⟨fun a U g mk q => by obtain ⟨q0, q1, qP, qK, qD, qN⟩ := q; exact ⟨q0, q1, qP, va_K.moved (u := U) (U := U.calling g mk a) (Vm.Alike.refl U.vm) qK, qD, nw_same (s := U) (U := U.calling g mk a) rfl qN⟩, fun U hU hW => ⟨rfl, by rw [hU], by rw [hU]; exact hPc, va_K.moved hW.alike hK, hDc.weaken (fun _ _ _ _ => trivial), nw_warm hW hN⟩⟩ rfl rfl hl.1 rfl (lv_room (Nat.le_of_ble_eq_true rfl)) dX0_store_43 ⟨Nat.le_of_ble_eq_true rfl, Nat.le_of_ble_eq_true rfl⟩) hS (fun q _ h => hFc q h) hFc (fun r_43 u t9 H1 locs ht hvm hR hB hz1 hk1 hS => ?_)
    replace hR := Eq.symm hR
    subst hR
    obtain ⟨hP1, hD1⟩ := hB
    rw [ht] at hP1
    obtain ⟨hP, hD⟩ := va_join (wr := [(kH, .inr (0, [.int vC_33.1, .int vC_33.2.1, .int vC_33.2.2.1, .ref kP, .ref kE, .ref kT, .int (nI (2 * n))])), (kP, .inl (cI, 32, .inl vC_33.2.2.2.1)), (kE, .inl (cI, (2 * n), .inl vC_33.2.2.2.2.1)), (kT, .inl (cI, (2 * n), .inl vC_33.2.2.2.2.2))]) (w1 := []) hP hD [] [0, 1, 2, 3] rfl rfl (by decide) (by decide) hk1 hFc hP1 hD1
    generalize H1 = H at hP hS ⊢
    have hP : va_P (dC, dI) vwCl [(kH, .inr (0, [.int vC_33.1, .int vC_33.2.1, .int vC_33.2.2.1, .ref kP, .ref kE, .ref kT, .int (nI (2 * n))])), (kP, .inl (cI, 32, .inl vC_33.2.2.2.1)), (kE, .inl (cI, (2 * n), .inl vC_33.2.2.2.2.1)), (kT, .inl (cI, (2 * n), .inl vC_33.2.2.2.2.2))] H := hP
    have hD : va_D A [(kH, .inr (0, [.int vC_33.1, .int vC_33.2.1, .int vC_33.2.2.1, .ref kP, .ref kE, .ref kT, .int (nI (2 * n))])), (kP, .inl (cI, 32, .inl vC_33.2.2.2.1)), (kE, .inl (cI, (2 * n), .inl vC_33.2.2.2.2.1)), (kT, .inl (cI, (2 * n), .inl vC_33.2.2.2.2.2))] := hD
    refine lv_istore (lv' := [(6, .int (f_X5_slotAt p1 8192 7 (nI (2 * n)))), (0, .ref kH), (1, .long p1), (3, .int p2), (4, .int p3)]) hx hb dX0_store_46 hl (by decide) rfl (fun ls hl => ?_)
    refine lv_iload hx hb dX0_store_48 (lv_at hl 0 rfl) ?_
    refine lv_if_lt (tgt := 65) hx hb dX0_store_50 (by decide) (fun c_50 => ?_) (fun c_50 => ?_)
    · have hE9 : (f_X0_store n vC p1 p2 p3) = (f_X0_store_65 n p1 p3 vC_33) := by exact hE.trans (by rw [f_X0_store_33, if_pos c_50])
      exact j_65 _ _ _ vC_33 hE9 (hP.sub [0, 1, 2, 3] rfl) (hD.sub [0, 1, 2, 3] (by decide) rfl) hS (lv_sub hl [1, 2, 3, 4] rfl)
    · refine lv_aload_n hx hb dX0_store_53 rfl (lv_at hl 1 rfl) ?_
      refine va_get (D := (dC, dI)) (ci := 0) (v := .ref kE) (C := RX0) (T := TX0) (N := 7) hx hb hw inWX0 hown hK hP 0 rfl rfl 4 (by decide) (hw _ w_54) (fun _ h9 => h9) rfl dX0_store_54 ?_
      refine lv_iload hx hb dX0_store_57 (lv_at hl 0 rfl) ?_
      refine lv_iload hx hb dX0_store_59 (lv_at hl 4 rfl) ?_
      refine lv_bipush (v := (-2)) hx hb dX0_store_61 (by decide) ?_
      refine lv_iand hx hb dX0_store_63 ?_
      have h_64 : vp_in (f_X5_slotAt p1 8192 7 (nI (2 * n))) (2 * n) := (in_slotK hn c_50)
      refine va_iast hx hb hK hP hD hS 2 0 rfl rfl h_64 dX0_store_64 (fun H locs hP hD hS => ?_)
      have hP : va_P (dC, dI) vwCl [(kH, .inr (0, [.int vC_33.1, .int vC_33.2.1, .int vC_33.2.2.1, .ref kP, .ref kE, .ref kT, .int (nI (2 * n))])), (kP, .inl (cI, 32, .inl vC_33.2.2.2.1)), (kE, .inl (cI, (2 * n), .inl (upd vC_33.2.2.2.2.1 (Int32.toNatClampNeg (f_X5_slotAt p1 8192 7 (nI (2 * n)))) (p3 &&& (-2))))), (kT, .inl (cI, (2 * n), .inl vC_33.2.2.2.2.2))] H := hP
      have hD : va_D A [(kH, .inr (0, [.int vC_33.1, .int vC_33.2.1, .int vC_33.2.2.1, .ref kP, .ref kE, .ref kT, .int (nI (2 * n))])), (kP, .inl (cI, 32, .inl vC_33.2.2.2.1)), (kE, .inl (cI, (2 * n), .inl (upd vC_33.2.2.2.2.1 (Int32.toNatClampNeg (f_X5_slotAt p1 8192 7 (nI (2 * n)))) (p3 &&& (-2))))), (kT, .inl (cI, (2 * n), .inl vC_33.2.2.2.2.2))] := hD
      have hE9 : (f_X0_store n vC p1 p2 p3) = (f_X0_store_65 n p1 p3 (vC_33.1, vC_33.2.1, vC_33.2.2.1, vC_33.2.2.2.1, (upd vC_33.2.2.2.2.1 (Int32.toNatClampNeg (f_X5_slotAt p1 8192 7 (nI (2 * n)))) (p3 &&& (-2))), vC_33.2.2.2.2.2)) := by exact hE.trans (by rw [f_X0_store_33, if_neg c_50])
      exact j_65 _ _ _ (vC_33.1, vC_33.2.1, vC_33.2.2.1, vC_33.2.2.2.1, (upd vC_33.2.2.2.2.1 (Int32.toNatClampNeg (f_X5_slotAt p1 8192 7 (nI (2 * n)))) (p3 &&& (-2))), vC_33.2.2.2.2.2) hE9 (hP.sub [0, 1, 2, 3] rfl) (hD.sub [0, 1, 2, 3] (by decide) rfl) hS (lv_sub hl [1, 2, 3, 4] rfl)
  refine lv_iload_n hx hb dX0_store_0 rfl (lv_at hl 2 rfl) ?_
  refine lv_iconst (v := 4) hx hb dX0_store_1 (by decide) ?_
  refine lv_icmp_eq (tgt := 6) hx hb dX0_store_2 (by decide) (fun c_2 => ?_) (fun c_2 => ?_)
  · refine lv_lload_n hx hb dX0_store_6 rfl (lv_at hl 1 rfl) ?_
    refine lv_lconst (v := 0) hx hb dX0_store_7 (by decide) ?_
    refine lv_iconst (v := 2) hx hb dX0_store_8 (by decide) ?_
    refine lv_bipush (v := 32) hx hb dX0_store_9 (by decide) ?_
    have hPc := hP.sub (ws' := []) [] rfl
    have hDc := hD.sub (ws' := []) [] (by decide) rfl
    have hFc := va_free (wc := []) hD hS hA [] rfl
    refine va_calli (va_runSN (As := [.long p1, .long 0, .int 2, .int 32]) (rest := []) ⟨hx, hb, hml, hown, hw⟩ (k_X5_slotAt l dC dI cI cJ cB cZ s.heap.size p1 0 2 32) ⟨va_cnB 4 hw (gI w_312) rfl rfl rfl (hN _ n_333) (hw _ w_1) (by decide +kernel) ⟨Nat.le_of_ble_eq_true rfl, Nat.le_of_ble_eq_true rfl⟩, hw _ w_311, trivial⟩ ⟨fun a U g mk q => by obtain ⟨q0, q1, qP, qK, qD, qN⟩ := q; exact ⟨q0, q1, qP, va_K.moved (u := U) (U := U.calling g mk a) (Vm.Alike.refl U.vm) qK, qD, nw_same (s := U) (U := U.calling g mk a) rfl qN⟩, fun U hU hW => ⟨rfl, by rw [hU], by rw [hU]; exact hPc, va_K.moved hW.alike hK, hDc.weaken (fun _ _ _ _ => trivial), nw_warm hW hN⟩⟩ rfl rfl hl.1 rfl (lv_room (Nat.le_of_ble_eq_true rfl)) dX0_store_11 ⟨Nat.le_of_ble_eq_true rfl, Nat.le_of_ble_eq_true rfl⟩) hS (fun q _ h => hFc q h) hFc (fun r_11 u t9 H1 locs ht hvm hR hB hz1 hk1 hS => ?_)
    replace hR := Eq.symm hR
    subst hR
    obtain ⟨hP1, hD1⟩ := hB
    rw [ht] at hP1
    obtain ⟨hP, hD⟩ := va_join (wr := [(kH, .inr (0, [.int vC.1, .int vC.2.1, .int vC.2.2.1, .ref kP, .ref kE, .ref kT, .int (nI (2 * n))])), (kP, .inl (cI, 32, .inl vC.2.2.2.1)), (kE, .inl (cI, (2 * n), .inl vC.2.2.2.2.1)), (kT, .inl (cI, (2 * n), .inl vC.2.2.2.2.2))]) (w1 := []) hP hD [] [0, 1, 2, 3] rfl rfl (by decide) (by decide) hk1 hFc hP1 hD1
    generalize H1 = H at hP hS ⊢
    have hP : va_P (dC, dI) vwCl [(kH, .inr (0, [.int vC.1, .int vC.2.1, .int vC.2.2.1, .ref kP, .ref kE, .ref kT, .int (nI (2 * n))])), (kP, .inl (cI, 32, .inl vC.2.2.2.1)), (kE, .inl (cI, (2 * n), .inl vC.2.2.2.2.1)), (kT, .inl (cI, (2 * n), .inl vC.2.2.2.2.2))] H := hP
    have hD : va_D A [(kH, .inr (0, [.int vC.1, .int vC.2.1, .int vC.2.2.1, .ref kP, .ref kE, .ref kT, .int (nI (2 * n))])), (kP, .inl (cI, 32, .inl vC.2.2.2.1)), (kE, .inl (cI, (2 * n), .inl vC.2.2.2.2.1)), (kT, .inl (cI, (2 * n), .inl vC.2.2.2.2.2))] := hD
    refine lv_istore (lv' := [(5, .int (f_X5_slotAt p1 0 2 32)), (0, .ref kH), (1, .long p1), (3, .int p2), (4, .int p3)]) hx hb dX0_store_14 hl (by decide) rfl (fun ls hl => ?_)
    refine lv_iload hx hb dX0_store_16 (lv_at hl 0 rfl) ?_
    refine lv_if_le (tgt := 33) hx hb dX0_store_18 (by decide) (fun c_18 => ?_) (fun c_18 => ?_)
    · have hE9 : (f_X0_store n vC p1 p2 p3) = (f_X0_store_33 n p1 p3 vC) := by rw [f_X0_store, if_pos c_2, if_pos c_18]
      exact j_33 _ _ _ vC hE9 (hP.sub [0, 1, 2, 3] rfl) (hD.sub [0, 1, 2, 3] (by decide) rfl) hS (lv_sub hl [1, 2, 3, 4] rfl)
    · refine lv_aload_n hx hb dX0_store_21 rfl (lv_at hl 1 rfl) ?_
      refine va_get (D := (dC, dI)) (ci := 0) (v := .ref kP) (C := RX0) (T := TX0) (N := 7) hx hb hw inWX0 hown hK hP 0 rfl rfl 3 (by decide) (hw _ w_53) (fun _ h9 => h9) rfl dX0_store_22 ?_
      refine lv_iload hx hb dX0_store_25 (lv_at hl 0 rfl) ?_
      refine lv_iload hx hb dX0_store_27 (lv_at hl 4 rfl) ?_
      refine lv_bipush (v := 7) hx hb dX0_store_29 (by decide) ?_
      refine lv_iand hx hb dX0_store_31 ?_
      have h_32 : vp_in (f_X5_slotAt p1 0 2 32) 32 := (in_slot32p c_18)
      refine va_iast hx hb hK hP hD hS 1 0 rfl rfl h_32 dX0_store_32 (fun H locs hP hD hS => ?_)
      have hP : va_P (dC, dI) vwCl [(kH, .inr (0, [.int vC.1, .int vC.2.1, .int vC.2.2.1, .ref kP, .ref kE, .ref kT, .int (nI (2 * n))])), (kP, .inl (cI, 32, .inl (upd vC.2.2.2.1 (Int32.toNatClampNeg (f_X5_slotAt p1 0 2 32)) (p3 &&& 7)))), (kE, .inl (cI, (2 * n), .inl vC.2.2.2.2.1)), (kT, .inl (cI, (2 * n), .inl vC.2.2.2.2.2))] H := hP
      have hD : va_D A [(kH, .inr (0, [.int vC.1, .int vC.2.1, .int vC.2.2.1, .ref kP, .ref kE, .ref kT, .int (nI (2 * n))])), (kP, .inl (cI, 32, .inl (upd vC.2.2.2.1 (Int32.toNatClampNeg (f_X5_slotAt p1 0 2 32)) (p3 &&& 7)))), (kE, .inl (cI, (2 * n), .inl vC.2.2.2.2.1)), (kT, .inl (cI, (2 * n), .inl vC.2.2.2.2.2))] := hD
      have hE9 : (f_X0_store n vC p1 p2 p3) = (f_X0_store_33 n p1 p3 (vC.1, vC.2.1, vC.2.2.1, (upd vC.2.2.2.1 (Int32.toNatClampNeg (f_X5_slotAt p1 0 2 32)) (p3 &&& 7)), vC.2.2.2.2.1, vC.2.2.2.2.2)) := by rw [f_X0_store, if_pos c_2, if_neg c_18]
      exact j_33 _ _ _ (vC.1, vC.2.1, vC.2.2.1, (upd vC.2.2.2.1 (Int32.toNatClampNeg (f_X5_slotAt p1 0 2 32)) (p3 &&& 7)), vC.2.2.2.2.1, vC.2.2.2.2.2) hE9 (hP.sub [0, 1, 2, 3] rfl) (hD.sub [0, 1, 2, 3] (by decide) rfl) hS (lv_sub hl [1, 2, 3, 4] rfl)
  · have hF : (f_X0_store n vC p1 p2 p3) = vC := by rw [f_X0_store, if_neg c_2]
    have hP9 := hP.sub (ws' := [(kH, .inr (0, [.int vC.1, .int vC.2.1, .int vC.2.2.1, .ref kP, .ref kE, .ref kT, .int (nI (2 * n))])), (kP, .inl (cI, 32, .inl vC.2.2.2.1)), (kE, .inl (cI, (2 * n), .inl vC.2.2.2.2.1)), (kT, .inl (cI, (2 * n), .inl vC.2.2.2.2.2))]) [0, 1, 2, 3] rfl
    have hD9 := hD.sub (ws' := [(kH, .inr (0, [.int vC.1, .int vC.2.1, .int vC.2.2.1, .ref kP, .ref kE, .ref kT, .int (nI (2 * n))])), (kP, .inl (cI, 32, .inl vC.2.2.2.1)), (kE, .inl (cI, (2 * n), .inl vC.2.2.2.2.1)), (kT, .inl (cI, (2 * n), .inl vC.2.2.2.2.2))]) [0, 1, 2, 3] (by decide) rfl
    rw [hQ]
    exact W.vret hx hb hr (fun u hu hW => ⟨⟨(), rfl, trivial, by rw [hu, hF]; exact hP9, by rw [hF]; exact hD9⟩, hS.F hu⟩) hS.2.2 dX0_store_5
