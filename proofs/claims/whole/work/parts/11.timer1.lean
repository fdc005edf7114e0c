def f_X4_softAt (n : Nat) (p1 : Int64) (p2 : Int32) : Int32 :=
  if p2 = 4 then (f_X5_slotAt p1 0 2 (nI n))
  else (-1)
set_option maxHeartbeats 4000000 in
set_option maxRecDepth 100000 in
theorem k_X4_softAt (l : Launch) (dC : Nat → ClassId) (dI : Nat → Nat → Nat) (cI cJ cB cZ : ClassId) (tH tS tW : Nat) (sz : Nat) (n : Nat) (vT : TS) (p1 : Int64) (p2 : Int32)  : Met l yX4_softAt wsX4_softAt ({ frames := 1, cells := 0, slots := 0, locals := 29 }) (va_Pc [.ref tH, .long p1, .int p2] (fun U => U.heap.size = sz ∧ va_P (dC, dI) vwCl [(tH, .inr (4, [.ref tS, .ref tW, .int (nI n)])), (tS, .inl (cI, n, .inl vT.1)), (tW, .inl (cJ, (n + 1), .inr (.inl vT.2)))] U.heap ∧ va_K (dC, dI) vwCl [(cI, .int), (cJ, .long), (cB, .byte), (cZ, .boolean)] U ∧ va_D (fun _ => True) [(tH, .inr (4, [.ref tS, .ref tW, .int (nI n)])), (tS, .inl (cI, n, .inl vT.1)), (tW, .inl (cJ, (n + 1), .inr (.inl vT.2)))] ∧ nw_ U)) (va_Qi (fun (r : Int32) (_ : Unit) => r = (f_X4_softAt n p1 p2)) (fun (_ : Unit) (w : State) => va_P (dC, dI) vwCl [(tH, .inr (4, [.ref tS, .ref tW, .int (nI n)])), (tS, .inl (cI, n, .inl vT.1)), (tW, .inl (cJ, (n + 1), .inr (.inl vT.2)))] w.heap ∧ va_D (va_A [(tH, .inr (4, [.ref tS, .ref tW, .int (nI n)])), (tS, .inl (cI, n, .inl vT.1)), (tW, .inl (cJ, (n + 1), .inr (.inl vT.2)))] sz) [(tH, .inr (4, [.ref tS, .ref tW, .int (nI n)])), (tS, .inl (cI, n, .inl vT.1)), (tW, .inl (cJ, (n + 1), .inr (.inl vT.2)))]) (va_A [(tH, .inr (4, [.ref tS, .ref tW, .int (nI n)])), (tS, .inl (cI, n, .inl vT.1)), (tW, .inl (cJ, (n + 1), .inr (.inl vT.2)))] sz)) 0 0 (va_A [(tH, .inr (4, [.ref tS, .ref tW, .int (nI n)])), (tS, .inl (cI, n, .inl vT.1)), (tW, .inl (cJ, (n + 1), .inr (.inl vT.2)))] sz) := by
  refine Met.ofW (cc := prog_6_method_7_code) (maxL := 4) (ret := (some .int)) (by decide) rfl ?_
  intro p e s m args below meth c s₁ B hml hv
  obtain ⟨rfl, hsz, hP, hK, hD0, hN⟩ := hv
  have hx := B.exec
  have hb := B.bytes
  have hr := B.returns
  have hw := hw_of (atoms_spec (ws := wsX4_softAt) B.pre)
  have hown : s.vm.findClass RX4 = some m.cls := findClass_of_methodNamed B.named
  have hlocks := B.notSynchronized
  subst hsz
  have hD := hD0.self (sz := s.heap.size)
  generalize hAe : va_A [(tH, .inr (4, [.ref tS, .ref tW, .int (nI n)])), (tS, .inl (cI, n, .inl vT.1)), (tW, .inl (cJ, (n + 1), .inr (.inl vT.2)))] s.heap.size = A at hD ⊢
  have hA : ∀ q : Nat, s.heap.size ≤ q → A q := fun q h => by rw [← hAe]; exact Or.inr h
  have hS : va_S A s.heap s.heap [] := va_S.rf
  have hP : va_P (dC, dI) vwCl [(tH, .inr (4, [.ref tS, .ref tW, .int (nI n)])), (tS, .inl (cI, n, .inl vT.1)), (tW, .inl (cJ, (n + 1), .inr (.inl vT.2)))] s.heap := hP
  have hl := lv_entry ([.ref tH, .long p1, .int p2]) (n := 4) (Nat.le_of_ble_eq_true rfl)
  rw [lg_entry_eq]
  generalize (lg_sl ([.ref tH, .long p1, .int p2]) ++ List.replicate (4 - (lg_sl ([.ref tH, .long p1, .int p2])).length) Slot.unset).toArray = ls at hl ⊢
  have hl : lv_has ls 4 [(0, .ref tH), (1, .long p1), (3, .int p2)] := hl
  refine lv_iload_n hx hb dX4_softAt_0 rfl (lv_at hl 2 rfl) ?_
  refine lv_iconst (v := 4) hx hb dX4_softAt_1 (by decide) ?_
  refine lv_icmp_ne (tgt := 19) hx hb dX4_softAt_2 (by decide) (fun c_2 => ?_) (fun c_2 => ?_)
  · refine lv_iconst (v := (-1)) hx hb dX4_softAt_19 (by decide) ?_
    have hF : (f_X4_softAt n p1 p2) = (-1) := by rw [f_X4_softAt, if_neg c_2]
    have hP9 := hP.sub (ws' := [(tH, .inr (4, [.ref tS, .ref tW, .int (nI n)])), (tS, .inl (cI, n, .inl vT.1)), (tW, .inl (cJ, (n + 1), .inr (.inl vT.2)))]) [0, 1, 2] rfl
    have hD9 := hD.sub (ws' := [(tH, .inr (4, [.ref tS, .ref tW, .int (nI n)])), (tS, .inl (cI, n, .inl vT.1)), (tW, .inl (cJ, (n + 1), .inr (.inl vT.2)))]) [0, 1, 2] (by decide) rfl
    exact W.iret (v := (-1)) hx hb hr (fun u hu hW => ⟨⟨(-1), (), rfl, hF.symm, by rw [hu]; exact hP9, hD9⟩, hS.F hu⟩) hS.2.2 dX4_softAt_20
  · refine lv_lload_n hx hb dX4_softAt_5 rfl (lv_at hl 1 rfl) ?_
    refine lv_lconst (v := 0) hx hb dX4_softAt_6 (by decide) ?_
    refine lv_iconst (v := 2) hx hb dX4_softAt_7 (by decide) ?_
    refine lv_aload_n hx hb dX4_softAt_8 rfl (lv_at hl 0 rfl) ?_
    refine va_get (D := (dC, dI)) (ci := 4) (v := .ref tS) (C := RX4) (T := TX4) (N := 3) hx hb hw inWX4 hown hK hP 0 rfl rfl 0 (by decide) (hw _ w_32) (fun _ h9 => h9) rfl dX4_softAt_9 ?_
    refine va_alen hx hb hK hP 1 0 rfl rfl (v := (nI n)) rfl dX4_softAt_12 ?_
    have hPc := hP.sub (ws' := []) [] rfl
    have hDc := hD.sub (ws' := []) [] (by decide) rfl
    have hFc := va_free (wc := []) hD hS hA [] rfl
    refine va_calli (va_runSN (As := [.long p1, .long 0, .int 2, .int (nI n)]) (rest := []) ⟨hx, hb, hml, hown, hw⟩ (k_X5_slotAt l dC dI cI cJ cB cZ s.heap.size p1 0 2 (nI n)) ⟨va_cnB 4 hw (gI w_312) rfl rfl rfl (hN _ n_310) (hw _ w_1) (by decide +kernel) ⟨Nat.le_of_ble_eq_true rfl, Nat.le_of_ble_eq_true rfl⟩, hw _ w_311, trivial⟩ ⟨fun a U g mk q => by obtain ⟨q0, q1, qP, qK, qD, qN⟩ := q; exact ⟨q0, q1, qP, va_K.moved (u := U) (U := U.calling g mk a) (Vm.Alike.refl U.vm) qK, qD, nw_same (s := U) (U := U.calling g mk a) rfl qN⟩, fun U hU hW => ⟨rfl, by rw [hU], by rw [hU]; exact hPc, va_K.moved hW.alike hK, hDc.weaken (fun _ _ _ _ => trivial), nw_warm hW hN⟩⟩ rfl rfl hl.1 rfl (lv_room (Nat.le_of_ble_eq_true rfl)) dX4_softAt_13 ⟨Nat.le_of_ble_eq_true rfl, Nat.le_of_ble_eq_true rfl⟩) hS (fun q _ h => hFc q h) hFc (fun r_13 u t9 H1 locs ht hvm hR hB hz1 hk1 hS => ?_)
    replace hR := Eq.symm hR
    subst hR
    obtain ⟨hP1, hD1⟩ := hB
    rw [ht] at hP1
    obtain ⟨hP, hD⟩ := va_join (wr := [(tH, .inr (4, [.ref tS, .ref tW, .int (nI n)])), (tS, .inl (cI, n, .inl vT.1)), (tW, .inl (cJ, (n + 1), .inr (.inl vT.2)))]) (w1 := []) hP hD [] [0, 1, 2] rfl rfl (by decide) (by decide) hk1 hFc hP1 hD1
    generalize H1 = H at hP hS ⊢
    have hP : va_P (dC, dI) vwCl [(tH, .inr (4, [.ref tS, .ref tW, .int (nI n)])), (tS, .inl (cI, n, .inl vT.1)), (tW, .inl (cJ, (n + 1), .inr (.inl vT.2)))] H := hP
    have hD : va_D A [(tH, .inr (4, [.ref tS, .ref tW, .int (nI n)])), (tS, .inl (cI, n, .inl vT.1)), (tW, .inl (cJ, (n + 1), .inr (.inl vT.2)))] := hD
    refine lv_goto (tgt := 20) hx hb dX4_softAt_16 (by decide) ?_
    have hF : (f_X4_softAt n p1 p2) = (f_X5_slotAt p1 0 2 (nI n)) := by rw [f_X4_softAt, if_pos c_2]
    have hP9 := hP.sub (ws' := [(tH, .inr (4, [.ref tS, .ref tW, .int (nI n)])), (tS, .inl (cI, n, .inl vT.1)), (tW, .inl (cJ, (n + 1), .inr (.inl vT.2)))]) [0, 1, 2] rfl
    have hD9 := hD.sub (ws' := [(tH, .inr (4, [.ref tS, .ref tW, .int (nI n)])), (tS, .inl (cI, n, .inl vT.1)), (tW, .inl (cJ, (n + 1), .inr (.inl vT.2)))]) [0, 1, 2] (by decide) rfl
    exact W.iret (v := (f_X5_slotAt p1 0 2 (nI n))) hx hb hr (fun u hu hW => ⟨⟨(f_X5_slotAt p1 0 2 (nI n)), (), rfl, hF.symm, by rw [hu]; exact hP9, hD9⟩, hS.F hu⟩) hS.2.2 dX4_softAt_20
def f_X4_wideAt (n : Nat) (p1 : Int64) (p2 : Int32) : Int32 :=
  if p2 = 8 then if (lg_cmp (p1 &&& 7) 0) = 0 then if p2 = 4 then if (lg_cmp (p1 &&& 3) 0) = 0 then if (lg_cmp (p1 &&& (-8)) 49144) = 0 then (nI n)
          else (f_X5_slotAt (p1 &&& (-8)) 16384 3 (nI n))
        else if (lg_cmp (p1 &&& (-8)) 49144) = 0 then (nI n)
          else (f_X5_slotAt (p1 &&& (-8)) 16384 3 (nI n))
      else if (lg_cmp (p1 &&& (-8)) 49144) = 0 then (nI n)
        else (f_X5_slotAt (p1 &&& (-8)) 16384 3 (nI n))
    else if p2 = 4 then if (lg_cmp (p1 &&& 3) 0) = 0 then if (lg_cmp (p1 &&& (-8)) 49144) = 0 then (nI n)
          else (f_X5_slotAt (p1 &&& (-8)) 16384 3 (nI n))
        else (-1)
      else (-1)
  else if p2 = 4 then if (lg_cmp (p1 &&& 3) 0) = 0 then if (lg_cmp (p1 &&& (-8)) 49144) = 0 then (nI n)
        else (f_X5_slotAt (p1 &&& (-8)) 16384 3 (nI n))
      else (-1)
    else (-1)
set_option maxHeartbeats 4000000 in
set_option maxRecDepth 100000 in
theorem k_X4_wideAt (l : Launch) (dC : Nat → ClassId) (dI : Nat → Nat → Nat) (cI cJ cB cZ : ClassId) (tH tS tW : Nat) (sz : Nat) (n : Nat) (vT : TS) (p1 : Int64) (p2 : Int32)  : Met l yX4_wideAt wsX4_wideAt ({ frames := 1, cells := 0, slots := 0, locals := 29 }) (va_Pc [.ref tH, .long p1, .int p2] (fun U => U.heap.size = sz ∧ va_P (dC, dI) vwCl [(tH, .inr (4, [.ref tS, .ref tW, .int (nI n)])), (tS, .inl (cI, n, .inl vT.1)), (tW, .inl (cJ, (n + 1), .inr (.inl vT.2)))] U.heap ∧ va_K (dC, dI) vwCl [(cI, .int), (cJ, .long), (cB, .byte), (cZ, .boolean)] U ∧ va_D (fun _ => True) [(tH, .inr (4, [.ref tS, .ref tW, .int (nI n)])), (tS, .inl (cI, n, .inl vT.1)), (tW, .inl (cJ, (n + 1), .inr (.inl vT.2)))] ∧ nw_ U)) (va_Qi (fun (r : Int32) (_ : Unit) => r = (f_X4_wideAt n p1 p2)) (fun (_ : Unit) (w : State) => va_P (dC, dI) vwCl [(tH, .inr (4, [.ref tS, .ref tW, .int (nI n)])), (tS, .inl (cI, n, .inl vT.1)), (tW, .inl (cJ, (n + 1), .inr (.inl vT.2)))] w.heap ∧ va_D (va_A [(tH, .inr (4, [.ref tS, .ref tW, .int (nI n)])), (tS, .inl (cI, n, .inl vT.1)), (tW, .inl (cJ, (n + 1), .inr (.inl vT.2)))] sz) [(tH, .inr (4, [.ref tS, .ref tW, .int (nI n)])), (tS, .inl (cI, n, .inl vT.1)), (tW, .inl (cJ, (n + 1), .inr (.inl vT.2)))]) (va_A [(tH, .inr (4, [.ref tS, .ref tW, .int (nI n)])), (tS, .inl (cI, n, .inl vT.1)), (tW, .inl (cJ, (n + 1), .inr (.inl vT.2)))] sz)) 0 0 (va_A [(tH, .inr (4, [.ref tS, .ref tW, .int (nI n)])), (tS, .inl (cI, n, .inl vT.1)), (tW, .inl (cJ, (n + 1), .inr (.inl vT.2)))] sz) := by
  refine Met.ofW (cc := prog_6_method_8_code) (maxL := 8) (ret := (some .int)) (by decide) rfl ?_
  intro p e s m args below meth c s₁ B hml hv
  obtain ⟨rfl, hsz, hP, hK, hD0, hN⟩ := hv
  have hx := B.exec
  have hb := B.bytes
  have hr := B.returns
  have hw := hw_of (atoms_spec (ws := wsX4_wideAt) B.pre)
  have hown : s.vm.findClass RX4 = some m.cls := findClass_of_methodNamed B.named
  have hlocks := B.notSynchronized
  subst hsz
  have hD := hD0.self (sz := s.heap.size)
  generalize hAe : va_A [(tH, .inr (4, [.ref tS, .ref tW, .int (nI n)])), (tS, .inl (cI, n, .inl vT.1)), (tW, .inl (cJ, (n + 1), .inr (.inl vT.2)))] s.heap.size = A at hD ⊢
  have hA : ∀ q : Nat, s.heap.size ≤ q → A q := fun q h => by rw [← hAe]; exact Or.inr h
  have hS : va_S A s.heap s.heap [] := va_S.rf
  have hP : va_P (dC, dI) vwCl [(tH, .inr (4, [.ref tS, .ref tW, .int (nI n)])), (tS, .inl (cI, n, .inl vT.1)), (tW, .inl (cJ, (n + 1), .inr (.inl vT.2)))] s.heap := hP
  have hl := lv_entry ([.ref tH, .long p1, .int p2]) (n := 8) (Nat.le_of_ble_eq_true rfl)
  rw [lg_entry_eq]
  generalize (lg_sl ([.ref tH, .long p1, .int p2]) ++ List.replicate (8 - (lg_sl ([.ref tH, .long p1, .int p2])).length) Slot.unset).toArray = ls at hl ⊢
  have hl : lv_has ls 8 [(0, .ref tH), (1, .long p1), (3, .int p2)] := hl
  refine lv_iload_n hx hb dX4_wideAt_0 rfl (lv_at hl 2 rfl) ?_
  refine lv_bipush (v := 8) hx hb dX4_wideAt_1 (by decide) ?_
  refine lv_icmp_ne (tgt := 20) hx hb dX4_wideAt_3 (by decide) (fun c_3 => ?_) (fun c_3 => ?_)
  · refine lv_iconst (v := 0) hx hb dX4_wideAt_20 (by decide) ?_
    refine lv_istore (lv' := [(4, .int 0), (0, .ref tH), (1, .long p1), (3, .int p2)]) hx hb dX4_wideAt_21 hl (by decide) rfl (fun ls hl => ?_)
    refine lv_iload_n hx hb dX4_wideAt_23 rfl (lv_at hl 3 rfl) ?_
    refine lv_iconst (v := 4) hx hb dX4_wideAt_24 (by decide) ?_
    refine lv_icmp_ne (tgt := 42) hx hb dX4_wideAt_25 (by decide) (fun c_25 => ?_) (fun c_25 => ?_)
    · refine lv_iconst (v := 0) hx hb dX4_wideAt_42 (by decide) ?_
      refine lv_istore (lv' := [(5, .int 0), (4, .int 0), (0, .ref tH), (1, .long p1), (3, .int p2)]) hx hb dX4_wideAt_43 hl (by decide) rfl (fun ls hl => ?_)
      refine lv_iload hx hb dX4_wideAt_45 (lv_at hl 1 rfl) ?_
      refine lv_if_ne (tgt := 57) hx hb dX4_wideAt_47 (by decide) (fun c_47 => ?_) (fun c_47 => ?_)
      · exact absurd (by decide) c_47
      · refine lv_iload hx hb dX4_wideAt_50 (lv_at hl 0 rfl) ?_
        refine lv_if_ne (tgt := 57) hx hb dX4_wideAt_52 (by decide) (fun c_52 => ?_) (fun c_52 => ?_)
        · exact absurd (by decide) c_52
        · refine lv_iconst (v := (-1)) hx hb dX4_wideAt_55 (by decide) ?_
          have hF : (f_X4_wideAt n p1 p2) = (-1) := by rw [f_X4_wideAt, if_neg c_3, if_neg c_25]
          have hP9 := hP.sub (ws' := [(tH, .inr (4, [.ref tS, .ref tW, .int (nI n)])), (tS, .inl (cI, n, .inl vT.1)), (tW, .inl (cJ, (n + 1), .inr (.inl vT.2)))]) [0, 1, 2] rfl
          have hD9 := hD.sub (ws' := [(tH, .inr (4, [.ref tS, .ref tW, .int (nI n)])), (tS, .inl (cI, n, .inl vT.1)), (tW, .inl (cJ, (n + 1), .inr (.inl vT.2)))]) [0, 1, 2] (by decide) rfl
          exact W.iret (v := (-1)) hx hb hr (fun u hu hW => ⟨⟨(-1), (), rfl, hF.symm, by rw [hu]; exact hP9, hD9⟩, hS.F hu⟩) hS.2.2 dX4_wideAt_56
    · refine lv_lload_n hx hb dX4_wideAt_28 rfl (lv_at hl 2 rfl) ?_
      refine lv_ldc2 (v := 3) hx hb hown (hw _ w_318) dX4_wideAt_29 ?_
      refine lv_land hx hb dX4_wideAt_32 ?_
      refine lv_lconst (v := 0) hx hb dX4_wideAt_33 (by decide) ?_
      refine W.lcmp hx hb dX4_wideAt_34 ?_
      refine lv_if_ne (tgt := 42) hx hb dX4_wideAt_35 (by decide) (fun c_35 => ?_) (fun c_35 => ?_)
      · refine lv_iconst (v := 0) hx hb dX4_wideAt_42 (by decide) ?_
        refine lv_istore (lv' := [(5, .int 0), (4, .int 0), (0, .ref tH), (1, .long p1), (3, .int p2)]) hx hb dX4_wideAt_43 hl (by decide) rfl (fun ls hl => ?_)
        refine lv_iload hx hb dX4_wideAt_45 (lv_at hl 1 rfl) ?_
        refine lv_if_ne (tgt := 57) hx hb dX4_wideAt_47 (by decide) (fun c_47 => ?_) (fun c_47 => ?_)
        · exact absurd (by decide) c_47
        · refine lv_iload hx hb dX4_wideAt_50 (lv_at hl 0 rfl) ?_
          refine lv_if_ne (tgt := 57) hx hb dX4_wideAt_52 (by decide) (fun c_52 => ?_) (fun c_52 => ?_)
          · exact absurd (by decide) c_52
          · refine lv_iconst (v := (-1)) hx hb dX4_wideAt_55 (by decide) ?_
            have hF : (f_X4_wideAt n p1 p2) = (-1) := by rw [f_X4_wideAt, if_neg c_3, if_pos c_25, if_neg c_35]
            have hP9 := hP.sub (ws' := [(tH, .inr (4, [.ref tS, .ref tW, .int (nI n)])), (tS, .inl (cI, n, .inl vT.1)), (tW, .inl (cJ, (n + 1), .inr (.inl vT.2)))]) [0, 1, 2] rfl
            have hD9 := hD.sub (ws' := [(tH, .inr (4, [.ref tS, .ref tW, .int (nI n)])), (tS, .inl (cI, n, .inl vT.1)), (tW, .inl (cJ, (n + 1), .inr (.inl vT.2)))]) [0, 1, 2] (by decide) rfl
            exact W.iret (v := (-1)) hx hb hr (fun u hu hW => ⟨⟨(-1), (), rfl, hF.symm, by rw [hu]; exact hP9, hD9⟩, hS.F hu⟩) hS.2.2 dX4_wideAt_56
      · refine lv_iconst (v := 1) hx hb dX4_wideAt_38 (by decide) ?_
        refine lv_goto (tgt := 43) hx hb dX4_wideAt_39 (by decide) ?_
        refine lv_istore (lv' := [(5, .int 1), (4, .int 0), (0, .ref tH), (1, .long p1), (3, .int p2)]) hx hb dX4_wideAt_43 hl (by decide) rfl (fun ls hl => ?_)
        refine lv_iload hx hb dX4_wideAt_45 (lv_at hl 1 rfl) ?_
        refine lv_if_ne (tgt := 57) hx hb dX4_wideAt_47 (by decide) (fun c_47 => ?_) (fun c_47 => ?_)
        · exact absurd (by decide) c_47
        · refine lv_iload hx hb dX4_wideAt_50 (lv_at hl 0 rfl) ?_
          refine lv_if_ne (tgt := 57) hx hb dX4_wideAt_52 (by decide) (fun c_52 => ?_) (fun c_52 => ?_)
          · refine lv_lload_n hx hb dX4_wideAt_57 rfl (lv_at hl 3 rfl) ?_
            refine lv_ldc2 (v := (-8)) hx hb hown (hw _ w_319) dX4_wideAt_58 ?_
            refine lv_land hx hb dX4_wideAt_61 ?_
            refine lv_lstore (lv' := [(6, .long (p1 &&& (-8))), (5, .int 1), (4, .int 0), (0, .ref tH), (1, .long p1), (3, .int p2)]) hx hb dX4_wideAt_62 hl (by decide) rfl (fun ls hl => ?_)
            refine lv_lload hx hb dX4_wideAt_64 (lv_at hl 0 rfl) ?_
            refine lv_ldc2 (v := 49144) hx hb hown (hw _ w_320) dX4_wideAt_66 ?_
            refine W.lcmp hx hb dX4_wideAt_69 ?_
            refine lv_if_ne (tgt := 78) hx hb dX4_wideAt_70 (by decide) (fun c_70 => ?_) (fun c_70 => ?_)
            · refine lv_lload hx hb dX4_wideAt_78 (lv_at hl 0 rfl) ?_
              refine lv_ldc2 (v := 16384) hx hb hown (hw _ w_321) dX4_wideAt_80 ?_
              refine lv_iconst (v := 3) hx hb dX4_wideAt_83 (by decide) ?_
              refine lv_aload_n hx hb dX4_wideAt_84 rfl (lv_at hl 3 rfl) ?_
              refine va_get (D := (dC, dI)) (ci := 4) (v := .int (nI n)) (C := RX4) (T := TX4) (N := 3) hx hb hw inWX4 hown hK hP 0 rfl rfl 2 (by decide) (hw _ w_34) (fun _ h9 => h9) rfl dX4_wideAt_85 ?_
              have hPc := hP.sub (ws' := []) [] rfl
              have hDc := hD.sub (ws' := []) [] (by decide) rfl
              have hFc := va_free (wc := []) hD hS hA [] rfl
              refine va_calli (va_runSN (As := [.long (p1 &&& (-8)), .long 16384, .int 3, .int (nI n)]) (rest := []) ⟨hx, hb, hml, hown, hw⟩ (k_X5_slotAt l dC dI cI cJ cB cZ s.heap.size (p1 &&& (-8)) 16384 3 (nI n)) ⟨va_cnB 4 hw (gI w_312) rfl rfl rfl (hN _ n_310) (hw _ w_1) (by decide +kernel) ⟨Nat.le_of_ble_eq_true rfl, Nat.le_of_ble_eq_true rfl⟩, hw _ w_311, trivial⟩ ⟨fun a U g mk q => by obtain ⟨q0, q1, qP, qK, qD, qN⟩ := q; exact ⟨q0, q1, qP, va_K.moved (u := U) (U := U.calling g mk a) (Vm.Alike.refl U.vm) qK, qD, nw_same (s := U) (U := U.calling g mk a) rfl qN⟩, fun U hU hW => ⟨rfl, by rw [hU], by rw [hU]; exact hPc, va_K.moved hW.alike hK, hDc.weaken (fun _ _ _ _ => trivial), nw_warm hW hN⟩⟩ rfl rfl hl.1 rfl (lv_room (Nat.le_of_ble_eq_true rfl)) dX4_wideAt_88 ⟨Nat.le_of_ble_eq_true rfl, Nat.le_of_ble_eq_true rfl⟩) hS (fun q _ h => hFc q h) hFc (fun r_88 u t9 H1 locs ht hvm hR hB hz1 hk1 hS => ?_)
              replace hR := Eq.symm hR
              subst hR
              obtain ⟨hP1, hD1⟩ := hB
              rw [ht] at hP1
              obtain ⟨hP, hD⟩ := va_join (wr := [(tH, .inr (4, [.ref tS, .ref tW, .int (nI n)])), (tS, .inl (cI, n, .inl vT.1)), (tW, .inl (cJ, (n + 1), .inr (.inl vT.2)))]) (w1 := []) hP hD [] [0, 1, 2] rfl rfl (by decide) (by decide) hk1 hFc hP1 hD1
              generalize H1 = H at hP hS ⊢
              have hP : va_P (dC, dI) vwCl [(tH, .inr (4, [.ref tS, .ref tW, .int (nI n)])), (tS, .inl (cI, n, .inl vT.1)), (tW, .inl (cJ, (n + 1), .inr (.inl vT.2)))] H := hP
              have hD : va_D A [(tH, .inr (4, [.ref tS, .ref tW, .int (nI n)])), (tS, .inl (cI, n, .inl vT.1)), (tW, .inl (cJ, (n + 1), .inr (.inl vT.2)))] := hD
              have hF : (f_X4_wideAt n p1 p2) = (f_X5_slotAt (p1 &&& (-8)) 16384 3 (nI n)) := by rw [f_X4_wideAt, if_neg c_3, if_pos c_25, if_pos c_35, if_neg c_70]
              have hP9 := hP.sub (ws' := [(tH, .inr (4, [.ref tS, .ref tW, .int (nI n)])), (tS, .inl (cI, n, .inl vT.1)), (tW, .inl (cJ, (n + 1), .inr (.inl vT.2)))]) [0, 1, 2] rfl
              have hD9 := hD.sub (ws' := [(tH, .inr (4, [.ref tS, .ref tW, .int (nI n)])), (tS, .inl (cI, n, .inl vT.1)), (tW, .inl (cJ, (n + 1), .inr (.inl vT.2)))]) [0, 1, 2] (by decide) rfl
              exact W.iret (v := (f_X5_slotAt (p1 &&& (-8)) 16384 3 (nI n))) hx hb hr (fun u hu hW => ⟨⟨(f_X5_slotAt (p1 &&& (-8)) 16384 3 (nI n)), (), rfl, hF.symm, by rw [hu]; exact hP9, hD9⟩, hS.F hu⟩) hS.2.2 dX4_wideAt_91
            · refine lv_aload_n hx hb dX4_wideAt_73 rfl (lv_at hl 3 rfl) ?_
              refine va_get (D := (dC, dI)) (ci := 4) (v := .int (nI n)) (C := RX4) (T := TX4) (N := 3) hx hb hw inWX4 hown hK hP 0 rfl rfl 2 (by decide) (hw _ w_34) (fun _ h9 => h9) rfl dX4_wideAt_74 ?_
              have hF : (f_X4_wideAt n p1 p2) = (nI n) := by rw [f_X4_wideAt, if_neg c_3, if_pos c_25, if_pos c_35, if_pos c_70]
              have hP9 := hP.sub (ws' := [(tH, .inr (4, [.ref tS, .ref tW, .int (nI n)])), (tS, .inl (cI, n, .inl vT.1)), (tW, .inl (cJ, (n + 1), .inr (.inl vT.2)))]) [0, 1, 2] rfl
              have hD9 := hD.sub (ws' := [(tH, .inr (4, [.ref tS, .ref tW, .int (nI n)])), (tS, .inl (cI, n, .inl vT.1)), (tW, .inl (cJ, (n + 1), .inr (.inl vT.2)))]) [0, 1, 2] (by decide) rfl
              exact W.iret (v := (nI n)) hx hb hr (fun u hu hW => ⟨⟨(nI n), (), rfl, hF.symm, by rw [hu]; exact hP9, hD9⟩, hS.F hu⟩) hS.2.2 dX4_wideAt_77
          · exact absurd c_52 (by decide)
  · refine lv_lload_n hx hb dX4_wideAt_6 rfl (lv_at hl 1 rfl) ?_
    refine lv_ldc2 (v := 7) hx hb hown (hw _ w_317) dX4_wideAt_7 ?_
    refine lv_land hx hb dX4_wideAt_10 ?_
    refine lv_lconst (v := 0) hx hb dX4_wideAt_11 (by decide) ?_
    refine W.lcmp hx hb dX4_wideAt_12 ?_
    refine lv_if_ne (tgt := 20) hx hb dX4_wideAt_13 (by decide) (fun c_13 => ?_) (fun c_13 => ?_)
    · refine lv_iconst (v := 0) hx hb dX4_wideAt_20 (by decide) ?_
      refine lv_istore (lv' := [(4, .int 0), (0, .ref tH), (1, .long p1), (3, .int p2)]) hx hb dX4_wideAt_21 hl (by decide) rfl (fun ls hl => ?_)
      refine lv_iload_n hx hb dX4_wideAt_23 rfl (lv_at hl 3 rfl) ?_
      refine lv_iconst (v := 4) hx hb dX4_wideAt_24 (by decide) ?_
      refine lv_icmp_ne (tgt := 42) hx hb dX4_wideAt_25 (by decide) (fun c_25 => ?_) (fun c_25 => ?_)
      · refine lv_iconst (v := 0) hx hb dX4_wideAt_42 (by decide) ?_
        refine lv_istore (lv' := [(5, .int 0), (4, .int 0), (0, .ref tH), (1, .long p1), (3, .int p2)]) hx hb dX4_wideAt_43 hl (by decide) rfl (fun ls hl => ?_)
        refine lv_iload hx hb dX4_wideAt_45 (lv_at hl 1 rfl) ?_
        refine lv_if_ne (tgt := 57) hx hb dX4_wideAt_47 (by decide) (fun c_47 => ?_) (fun c_47 => ?_)
        · exact absurd (by decide) c_47
        · refine lv_iload hx hb dX4_wideAt_50 (lv_at hl 0 rfl) ?_
          refine lv_if_ne (tgt := 57) hx hb dX4_wideAt_52 (by decide) (fun c_52 => ?_) (fun c_52 => ?_)
          · exact absurd (by decide) c_52
          · refine lv_iconst (v := (-1)) hx hb dX4_wideAt_55 (by decide) ?_
            have hF : (f_X4_wideAt n p1 p2) = (-1) := by rw [f_X4_wideAt, if_pos c_3, if_neg c_13, if_neg c_25]
            have hP9 := hP.sub (ws' := [(tH, .inr (4, [.ref tS, .ref tW, .int (nI n)])), (tS, .inl (cI, n, .inl vT.1)), (tW, .inl (cJ, (n + 1), .inr (.inl vT.2)))]) [0, 1, 2] rfl
            have hD9 := hD.sub (ws' := [(tH, .inr (4, [.ref tS, .ref tW, .int (nI n)])), (tS, .inl (cI, n, .inl vT.1)), (tW, .inl (cJ, (n + 1), .inr (.inl vT.2)))]) [0, 1, 2] (by decide) rfl
            exact W.iret (v := (-1)) hx hb hr (fun u hu hW => ⟨⟨(-1), (), rfl, hF.symm, by rw [hu]; exact hP9, hD9⟩, hS.F hu⟩) hS.2.2 dX4_wideAt_56
      · refine lv_lload_n hx hb dX4_wideAt_28 rfl (lv_at hl 2 rfl) ?_
        refine lv_ldc2 (v := 3) hx hb hown (hw _ w_318) dX4_wideAt_29 ?_
        refine lv_land hx hb dX4_wideAt_32 ?_
        refine lv_lconst (v := 0) hx hb dX4_wideAt_33 (by decide) ?_
        refine W.lcmp hx hb dX4_wideAt_34 ?_
        refine lv_if_ne (tgt := 42) hx hb dX4_wideAt_35 (by decide) (fun c_35 => ?_) (fun c_35 => ?_)
        · refine lv_iconst (v := 0) hx hb dX4_wideAt_42 (by decide) ?_
          refine lv_istore (lv' := [(5, .int 0), (4, .int 0), (0, .ref tH), (1, .long p1), (3, .int p2)]) hx hb dX4_wideAt_43 hl (by decide) rfl (fun ls hl => ?_)
          refine lv_iload hx hb dX4_wideAt_45 (lv_at hl 1 rfl) ?_
          refine lv_if_ne (tgt := 57) hx hb dX4_wideAt_47 (by decide) (fun c_47 => ?_) (fun c_47 => ?_)
          · exact absurd (by decide) c_47
          · refine lv_iload hx hb dX4_wideAt_50 (lv_at hl 0 rfl) ?_
            refine lv_if_ne (tgt := 57) hx hb dX4_wideAt_52 (by decide) (fun c_52 => ?_) (fun c_52 => ?_)
            · exact absurd (by decide) c_52
            · refine lv_iconst (v := (-1)) hx hb dX4_wideAt_55 (by decide) ?_
              have hF : (f_X4_wideAt n p1 p2) = (-1) := by rw [f_X4_wideAt, if_pos c_3, if_neg c_13, if_pos c_25, if_neg c_35]
              have hP9 := hP.sub (ws' := [(tH, .inr (4, [.ref tS, .ref tW, .int (nI n)])), (tS, .inl (cI, n, .inl vT.1)), (tW, .inl (cJ, (n + 1), .inr (.inl vT.2)))]) [0, 1, 2] rfl
              have hD9 := hD.sub (ws' := [(tH, .inr (4, [.ref tS, .ref tW, .int (nI n)])), (tS, .inl (cI, n, .inl vT.1)), (tW, .inl (cJ, (n + 1), .inr (.inl vT.2)))]) [0, 1, 2] (by decide) rfl
              exact W.iret (v := (-1)) hx hb hr (fun u hu hW => ⟨⟨(-1), (), rfl, hF.symm, by rw [hu]; exact hP9, hD9⟩, hS.F hu⟩) hS.2.2 dX4_wideAt_56
        · refine lv_iconst (v := 1) hx hb dX4_wideAt_38 (by decide) ?_
          refine lv_goto (tgt := 43) hx hb dX4_wideAt_39 (by decide) ?_
          refine lv_istore (lv' := [(5, .int 1), (4, .int 0), (0, .ref tH), (1, .long p1), (3, .int p2)]) hx hb dX4_wideAt_43 hl (by decide) rfl (fun ls hl => ?_)
          refine lv_iload hx hb dX4_wideAt_45 (lv_at hl 1 rfl) ?_
          refine lv_if_ne (tgt := 57) hx hb dX4_wideAt_47 (by decide) (fun c_47 => ?_) (fun c_47 => ?_)
          · exact absurd (by decide) c_47
          · refine lv_iload hx hb dX4_wideAt_50 (lv_at hl 0 rfl) ?_
            refine lv_if_ne (tgt := 57) hx hb dX4_wideAt_52 (by decide) (fun c_52 => ?_) (fun c_52 => ?_)
            · refine lv_lload_n hx hb dX4_wideAt_57 rfl (lv_at hl 3 rfl) ?_
              refine lv_ldc2 (v := (-8)) hx hb hown (hw _ w_319) dX4_wideAt_58 ?_
              refine lv_land hx hb dX4_wideAt_61 ?_
              refine lv_lstore (lv' := [(6, .long (p1 &&& (-8))), (5, .int 1), (4, .int 0), (0, .ref tH), (1, .long p1), (3, .int p2)]) hx hb dX4_wideAt_62 hl (by decide) rfl (fun ls hl => ?_)
              refine lv_lload hx hb dX4_wideAt_64 (lv_at hl 0 rfl) ?_
              refine lv_ldc2 (v := 49144) hx hb hown (hw _ w_320) dX4_wideAt_66 ?_
              refine W.lcmp hx hb dX4_wideAt_69 ?_
              refine lv_if_ne (tgt := 78) hx hb dX4_wideAt_70 (by decide) (fun c_70 => ?_) (fun c_70 => ?_)
              · refine lv_lload hx hb dX4_wideAt_78 (lv_at hl 0 rfl) ?_
                refine lv_ldc2 (v := 16384) hx hb hown (hw _ w_321) dX4_wideAt_80 ?_
                refine lv_iconst (v := 3) hx hb dX4_wideAt_83 (by decide) ?_
                refine lv_aload_n hx hb dX4_wideAt_84 rfl (lv_at hl 3 rfl) ?_
                refine va_get (D := (dC, dI)) (ci := 4) (v := .int (nI n)) (C := RX4) (T := TX4) (N := 3) hx hb hw inWX4 hown hK hP 0 rfl rfl 2 (by decide) (hw _ w_34) (fun _ h9 => h9) rfl dX4_wideAt_85 ?_
                have hPc := hP.sub (ws' := []) [] rfl
                have hDc := hD.sub (ws' := []) [] (by decide) rfl
                have hFc := va_free (wc := []) hD hS hA [] rfl
                refine va_calli (va_runSN (As := [.long (p1 &&& (-8)), .long 16384, .int 3, .int (nI n)]) (rest := []) ⟨hx, hb, hml, hown, hw⟩ (k_X5_slotAt l dC dI cI cJ cB cZ s.heap.size (p1 &&& (-8)) 16384 3 (nI n)) ⟨va_cnB 4 hw (gI w_312) rfl rfl rfl (hN _ n_310) (hw _ w_1) (by decide +kernel) ⟨Nat.le_of_ble_eq_true rfl, Nat.le_of_ble_eq_true rfl⟩, hw _ w_311, trivial⟩ ⟨fun a U g mk q => by obtain ⟨q0, q1, qP, qK, qD, qN⟩ := q; exact ⟨q0, q1, qP, va_K.moved (u := U) (U := U.calling g mk a) (Vm.Alike.refl U.vm) qK, qD, nw_same (s := U) (U := U.calling g mk a) rfl qN⟩, fun U hU hW => ⟨rfl, by rw [hU], by rw [hU]; exact hPc, va_K.moved hW.alike hK, hDc.weaken (fun _ _ _ _ => trivial), nw_warm hW hN⟩⟩ rfl rfl hl.1 rfl (lv_room (Nat.le_of_ble_eq_true rfl)) dX4_wideAt_88 ⟨Nat.le_of_ble_eq_true rfl, Nat.le_of_ble_eq_true rfl⟩) hS (fun q _ h => hFc q h) hFc (fun r_88 u t9 H1 locs ht hvm hR hB hz1 hk1 hS => ?_)
                replace hR := Eq.symm hR
                subst hR
                obtain ⟨hP1, hD1⟩ := hB
                rw [ht] at hP1
                obtain ⟨hP, hD⟩ := va_join (wr := [(tH, .inr (4, [.ref tS, .ref tW, .int (nI n)])), (tS, .inl (cI, n, .inl vT.1)), (tW, .inl (cJ, (n + 1), .inr (.inl vT.2)))]) (w1 := []) hP hD [] [0, 1, 2] rfl rfl (by decide) (by decide) hk1 hFc hP1 hD1
                generalize H1 = H at hP hS ⊢
                have hP : va_P (dC, dI) vwCl [(tH, .inr (4, [.ref tS, .ref tW, .int (nI n)])), (tS, .inl (cI, n, .inl vT.1)), (tW, .inl (cJ, (n + 1), .inr (.inl vT.2)))] H := hP
                have hD : va_D A [(tH, .inr (4, [.ref tS, .ref tW, .int (nI n)])), (tS, .inl (cI, n, .inl vT.1)), (tW, .inl (cJ, (n + 1), .inr (.inl vT.2)))] := hD
                have hF : (f_X4_wideAt n p1 p2) = (f_X5_slotAt (p1 &&& (-8)) 16384 3 (nI n)) := by rw [f_X4_wideAt, if_pos c_3, if_neg c_13, if_pos c_25, if_pos c_35, if_neg c_70]
                have hP9 := hP.sub (ws' := [(tH, .inr (4, [.ref tS, .ref tW, .int (nI n)])), (tS, .inl (cI, n, .inl vT.1)), (tW, .inl (cJ, (n + 1), .inr (.inl vT.2)))]) [0, 1, 2] rfl
                have hD9 := hD.sub (ws' := [(tH, .inr (4, [.ref tS, .ref tW, .int (nI n)])), (tS, .inl (cI, n, .inl vT.1)), (tW, .inl (cJ, (n + 1), .inr (.inl vT.2)))]) [0, 1, 2] (by decide) rfl
                exact W.iret (v := (f_X5_slotAt (p1 &&& (-8)) 16384 3 (nI n))) hx hb hr (fun u hu hW => ⟨⟨(f_X5_slotAt (p1 &&& (-8)) 16384 3 (nI n)), (), rfl, hF.symm, by rw [hu]; exact hP9, hD9⟩, hS.F hu⟩) hS.2.2 dX4_wideAt_91
              · refine lv_aload_n hx hb dX4_wideAt_73 rfl (lv_at hl 3 rfl) ?_
                refine va_get (D := (dC, dI)) (ci := 4) (v := .int (nI n)) (C := RX4) (T := TX4) (N := 3) hx hb hw inWX4 hown hK hP 0 rfl rfl 2 (by decide) (hw _ w_34) (fun _ h9 => h9) rfl dX4_wideAt_74 ?_
                have hF : (f_X4_wideAt n p1 p2) = (nI n) := by rw [f_X4_wideAt, if_pos c_3, if_neg c_13, if_pos c_25, if_pos c_35, if_pos c_70]
                have hP9 := hP.sub (ws' := [(tH, .inr (4, [.ref tS, .ref tW, .int (nI n)])), (tS, .inl (cI, n, .inl vT.1)), (tW, .inl (cJ, (n + 1), .inr (.inl vT.2)))]) [0, 1, 2] rfl
                have hD9 := hD.sub (ws' := [(tH, .inr (4, [.ref tS, .ref tW, .int (nI n)])), (tS, .inl (cI, n, .inl vT.1)), (tW, .inl (cJ, (n + 1), .inr (.inl vT.2)))]) [0, 1, 2] (by decide) rfl
                exact W.iret (v := (nI n)) hx hb hr (fun u hu hW => ⟨⟨(nI n), (), rfl, hF.symm, by rw [hu]; exact hP9, hD9⟩, hS.F hu⟩) hS.2.2 dX4_wideAt_77
            · exact absurd c_52 (by decide)
    · refine lv_iconst (v := 1) hx hb dX4_wideAt_16 (by decide) ?_
      refine lv_goto (tgt := 21) hx hb dX4_wideAt_17 (by decide) ?_
      refine lv_istore (lv' := [(4, .int 1), (0, .ref tH), (1, .long p1), (3, .int p2)]) hx hb dX4_wideAt_21 hl (by decide) rfl (fun ls hl => ?_)
      refine lv_iload_n hx hb dX4_wideAt_23 rfl (lv_at hl 3 rfl) ?_
      refine lv_iconst (v := 4) hx hb dX4_wideAt_24 (by decide) ?_
      refine lv_icmp_ne (tgt := 42) hx hb dX4_wideAt_25 (by decide) (fun c_25 => ?_) (fun c_25 => ?_)
      · refine lv_iconst (v := 0) hx hb dX4_wideAt_42 (by decide) ?_
        refine lv_istore (lv' := [(5, .int 0), (4, .int 1), (0, .ref tH), (1, .long p1), (3, .int p2)]) hx hb dX4_wideAt_43 hl (by decide) rfl (fun ls hl => ?_)
        refine lv_iload hx hb dX4_wideAt_45 (lv_at hl 1 rfl) ?_
        refine lv_if_ne (tgt := 57) hx hb dX4_wideAt_47 (by decide) (fun c_47 => ?_) (fun c_47 => ?_)
        · refine lv_lload_n hx hb dX4_wideAt_57 rfl (lv_at hl 3 rfl) ?_
          refine lv_ldc2 (v := (-8)) hx hb hown (hw _ w_319) dX4_wideAt_58 ?_
          refine lv_land hx hb dX4_wideAt_61 ?_
          refine lv_lstore (lv' := [(6, .long (p1 &&& (-8))), (5, .int 0), (4, .int 1), (0, .ref tH), (1, .long p1), (3, .int p2)]) hx hb dX4_wideAt_62 hl (by decide) rfl (fun ls hl => ?_)
          refine lv_lload hx hb dX4_wideAt_64 (lv_at hl 0 rfl) ?_
          refine lv_ldc2 (v := 49144) hx hb hown (hw _ w_320) dX4_wideAt_66 ?_
          refine W.lcmp hx hb dX4_wideAt_69 ?_
          refine lv_if_ne (tgt := 78) hx hb dX4_wideAt_70 (by decide) (fun c_70 => ?_) (fun c_70 => ?_)
          · refine lv_lload hx hb dX4_wideAt_78 (lv_at hl 0 rfl) ?_
            refine lv_ldc2 (v := 16384) hx hb hown (hw _ w_321) dX4_wideAt_80 ?_
            refine lv_iconst (v := 3) hx hb dX4_wideAt_83 (by decide) ?_
            refine lv_aload_n hx hb dX4_wideAt_84 rfl (lv_at hl 3 rfl) ?_
            refine va_get (D := (dC, dI)) (ci := 4) (v := .int (nI n)) (C := RX4) (T := TX4) (N := 3) hx hb hw inWX4 hown hK hP 0 rfl rfl 2 (by decide) (hw _ w_34) (fun _ h9 => h9) rfl dX4_wideAt_85 ?_
            have hPc := hP.sub (ws' := []) [] rfl
            have hDc := hD.sub (ws' := []) [] (by decide) rfl
            have hFc := va_free (wc := []) hD hS hA [] rfl
            refine va_calli (va_runSN (As := [.long (p1 &&& (-8)), .long 16384, .int 3, .int (nI n)]) (rest := []) ⟨hx, hb, hml, hown, hw⟩ (k_X5_slotAt l dC dI cI cJ cB cZ s.heap.size (p1 &&& (-8)) 16384 3 (nI n)) ⟨va_cnB 4 hw (gI w_312) rfl rfl rfl (hN _ n_310) (hw _ w_1) (by decide +kernel) ⟨Nat.le_of_ble_eq_true rfl, Nat.le_of_ble_eq_true rfl⟩, hw _ w_311, trivial⟩ ⟨fun a U g mk q => by obtain ⟨q0, q1, qP, qK, qD, qN⟩ := q; exact ⟨q0, q1, qP, va_K.moved (u := U) (U := U.calling g mk a) (Vm.Alike.refl U.vm) qK, qD, nw_same (s := U) (U := U.calling g mk a) rfl qN⟩, fun U hU hW => ⟨rfl, by rw [hU], by rw [hU]; exact hPc, va_K.moved hW.alike hK, hDc.weaken (fun _ _ _ _ => trivial), nw_warm hW hN⟩⟩ rfl rfl hl.1 rfl (lv_room (Nat.le_of_ble_eq_true rfl)) dX4_wideAt_88 ⟨Nat.le_of_ble_eq_true rfl, Nat.le_of_ble_eq_true rfl⟩) hS (fun q _ h => hFc q h) hFc (fun r_88 u t9 H1 locs ht hvm hR hB hz1 hk1 hS => ?_)
            replace hR := Eq.symm hR
            subst hR
            obtain ⟨hP1, hD1⟩ := hB
            rw [ht] at hP1
            obtain ⟨hP, hD⟩ := va_join (wr := [(tH, .inr (4, [.ref tS, .ref tW, .int (nI n)])), (tS, .inl (cI, n, .inl vT.1)), (tW, .inl (cJ, (n + 1), .inr (.inl vT.2)))]) (w1 := []) hP hD [] [0, 1, 2] rfl rfl (by decide) (by decide) hk1 hFc hP1 hD1
            generalize H1 = H at hP hS ⊢
            have hP : va_P (dC, dI) vwCl [(tH, .inr (4, [.ref tS, .ref tW, .int (nI n)])), (tS, .inl (cI, n, .inl vT.1)), (tW, .inl (cJ, (n + 1), .inr (.inl vT.2)))] H := hP
            have hD : va_D A [(tH, .inr (4, [.ref tS, .ref tW, .int (nI n)])), (tS, .inl (cI, n, .inl vT.1)), (tW, .inl (cJ, (n + 1), .inr (.inl vT.2)))] := hD
            have hF : (f_X4_wideAt n p1 p2) = (f_X5_slotAt (p1 &&& (-8)) 16384 3 (nI n)) := by rw [f_X4_wideAt, if_pos c_3, if_pos c_13, if_neg c_25, if_neg c_70]
            have hP9 := hP.sub (ws' := [(tH, .inr (4, [.ref tS, .ref tW, .int (nI n)])), (tS, .inl (cI, n, .inl vT.1)), (tW, .inl (cJ, (n + 1), .inr (.inl vT.2)))]) [0, 1, 2] rfl
            have hD9 := hD.sub (ws' := [(tH, .inr (4, [.ref tS, .ref tW, .int (nI n)])), (tS, .inl (cI, n, .inl vT.1)), (tW, .inl (cJ, (n + 1), .inr (.inl vT.2)))]) [0, 1, 2] (by decide) rfl
            exact W.iret (v := (f_X5_slotAt (p1 &&& (-8)) 16384 3 (nI n))) hx hb hr (fun u hu hW => ⟨⟨(f_X5_slotAt (p1 &&& (-8)) 16384 3 (nI n)), (), rfl, hF.symm, by rw [hu]; exact hP9, hD9⟩, hS.F hu⟩) hS.2.2 dX4_wideAt_91
          · refine lv_aload_n hx hb dX4_wideAt_73 rfl (lv_at hl 3 rfl) ?_
            refine va_get (D := (dC, dI)) (ci := 4) (v := .int (nI n)) (C := RX4) (T := TX4) (N := 3) hx hb hw inWX4 hown hK hP 0 rfl rfl 2 (by decide) (hw _ w_34) (fun _ h9 => h9) rfl dX4_wideAt_74 ?_
            have hF : (f_X4_wideAt n p1 p2) = (nI n) := by rw [f_X4_wideAt, if_pos c_3, if_pos c_13, if_neg c_25, if_pos c_70]
            have hP9 := hP.sub (ws' := [(tH, .inr (4, [.ref tS, .ref tW, .int (nI n)])), (tS, .inl (cI, n, .inl vT.1)), (tW, .inl (cJ, (n + 1), .inr (.inl vT.2)))]) [0, 1, 2] rfl
            have hD9 := hD.sub (ws' := [(tH, .inr (4, [.ref tS, .ref tW, .int (nI n)])), (tS, .inl (cI, n, .inl vT.1)), (tW, .inl (cJ, (n + 1), .inr (.inl vT.2)))]) [0, 1, 2] (by decide) rfl
            exact W.iret (v := (nI n)) hx hb hr (fun u hu hW => ⟨⟨(nI n), (), rfl, hF.symm, by rw [hu]; exact hP9, hD9⟩, hS.F hu⟩) hS.2.2 dX4_wideAt_77
        · exact absurd c_47 (by decide)
      · refine lv_lload_n hx hb dX4_wideAt_28 rfl (lv_at hl 2 rfl) ?_
        refine lv_ldc2 (v := 3) hx hb hown (hw _ w_318) dX4_wideAt_29 ?_
        refine lv_land hx hb dX4_wideAt_32 ?_
        refine lv_lconst (v := 0) hx hb dX4_wideAt_33 (by decide) ?_
        refine W.lcmp hx hb dX4_wideAt_34 ?_
        refine lv_if_ne (tgt := 42) hx hb dX4_wideAt_35 (by decide) (fun c_35 => ?_) (fun c_35 => ?_)
        · refine lv_iconst (v := 0) hx hb dX4_wideAt_42 (by decide) ?_
          refine lv_istore (lv' := [(5, .int 0), (4, .int 1), (0, .ref tH), (1, .long p1), (3, .int p2)]) hx hb dX4_wideAt_43 hl (by decide) rfl (fun ls hl => ?_)
          refine lv_iload hx hb dX4_wideAt_45 (lv_at hl 1 rfl) ?_
          refine lv_if_ne (tgt := 57) hx hb dX4_wideAt_47 (by decide) (fun c_47 => ?_) (fun c_47 => ?_)
          · refine lv_lload_n hx hb dX4_wideAt_57 rfl (lv_at hl 3 rfl) ?_
            refine lv_ldc2 (v := (-8)) hx hb hown (hw _ w_319) dX4_wideAt_58 ?_
            refine lv_land hx hb dX4_wideAt_61 ?_
            refine lv_lstore (lv' := [(6, .long (p1 &&& (-8))), (5, .int 0), (4, .int 1), (0, .ref tH), (1, .long p1), (3, .int p2)]) hx hb dX4_wideAt_62 hl (by decide) rfl (fun ls hl => ?_)
            refine lv_lload hx hb dX4_wideAt_64 (lv_at hl 0 rfl) ?_
            refine lv_ldc2 (v := 49144) hx hb hown (hw _ w_320) dX4_wideAt_66 ?_
            refine W.lcmp hx hb dX4_wideAt_69 ?_
            refine lv_if_ne (tgt := 78) hx hb dX4_wideAt_70 (by decide) (fun c_70 => ?_) (fun c_70 => ?_)
            · refine lv_lload hx hb dX4_wideAt_78 (lv_at hl 0 rfl) ?_
              refine lv_ldc2 (v := 16384) hx hb hown (hw _ w_321) dX4_wideAt_80 ?_
              refine lv_iconst (v := 3) hx hb dX4_wideAt_83 (by decide) ?_
              refine lv_aload_n hx hb dX4_wideAt_84 rfl (lv_at hl 3 rfl) ?_
              refine va_get (D := (dC, dI)) (ci := 4) (v := .int (nI n)) (C := RX4) (T := TX4) (N := 3) hx hb hw inWX4 hown hK hP 0 rfl rfl 2 (by decide) (hw _ w_34) (fun _ h9 => h9) rfl dX4_wideAt_85 ?_
              have hPc := hP.sub (ws' := []) [] rfl
              have hDc := hD.sub (ws' := []) [] (by decide) rfl
              have hFc := va_free (wc := []) hD hS hA [] rfl
              refine va_calli (va_runSN (As := [.long (p1 &&& (-8)), .long 16384, .int 3, .int (nI n)]) (rest := []) ⟨hx, hb, hml, hown, hw⟩ (k_X5_slotAt l dC dI cI cJ cB cZ s.heap.size (p1 &&& (-8)) 16384 3 (nI n)) ⟨va_cnB 4 hw (gI w_312) rfl rfl rfl (hN _ n_310) (hw _ w_1) (by decide +kernel) ⟨Nat.le_of_ble_eq_true rfl, Nat.le_of_ble_eq_true rfl⟩, hw _ w_311, trivial⟩ ⟨fun a U g mk q => by obtain ⟨q0, q1, qP, qK, qD, qN⟩ := q; exact ⟨q0, q1, qP, va_K.moved (u := U) (U := U.calling g mk a) (Vm.Alike.refl U.vm) qK, qD, nw_same (s := U) (U := U.calling g mk a) rfl qN⟩, fun U hU hW => ⟨rfl, by rw [hU], by rw [hU]; exact hPc, va_K.moved hW.alike hK, hDc.weaken (fun _ _ _ _ => trivial), nw_warm hW hN⟩⟩ rfl rfl hl.1 rfl (lv_room (Nat.le_of_ble_eq_true rfl)) dX4_wideAt_88 ⟨Nat.le_of_ble_eq_true rfl, Nat.le_of_ble_eq_true rfl⟩) hS (fun q _ h => hFc q h) hFc (fun r_88 u t9 H1 locs ht hvm hR hB hz1 hk1 hS => ?_)
              replace hR := Eq.symm hR
              subst hR
              obtain ⟨hP1, hD1⟩ := hB
              rw [ht] at hP1
              obtain ⟨hP, hD⟩ := va_join (wr := [(tH, .inr (4, [.ref tS, .ref tW, .int (nI n)])), (tS, .inl (cI, n, .inl vT.1)), (tW, .inl (cJ, (n + 1), .inr (.inl vT.2)))]) (w1 := []) hP hD [] [0, 1, 2] rfl rfl (by decide) (by decide) hk1 hFc hP1 hD1
              generalize H1 = H at hP hS ⊢
              have hP : va_P (dC, dI) vwCl [(tH, .inr (4, [.ref tS, .ref tW, .int (nI n)])), (tS, .inl (cI, n, .inl vT.1)), (tW, .inl (cJ, (n + 1), .inr (.inl vT.2)))] H := hP
              have hD : va_D A [(tH, .inr (4, [.ref tS, .ref tW, .int (nI n)])), (tS, .inl (cI, n, .inl vT.1)), (tW, .inl (cJ, (n + 1), .inr (.inl vT.2)))] := hD
              have hF : (f_X4_wideAt n p1 p2) = (f_X5_slotAt (p1 &&& (-8)) 16384 3 (nI n)) := by rw [f_X4_wideAt, if_pos c_3, if_pos c_13, if_pos c_25, if_neg c_35, if_neg c_70]
              have hP9 := hP.sub (ws' := [(tH, .inr (4, [.ref tS, .ref tW, .int (nI n)])), (tS, .inl (cI, n, .inl vT.1)), (tW, .inl (cJ, (n + 1), .inr (.inl vT.2)))]) [0, 1, 2] rfl
              have hD9 := hD.sub (ws' := [(tH, .inr (4, [.ref tS, .ref tW, .int (nI n)])), (tS, .inl (cI, n, .inl vT.1)), (tW, .inl (cJ, (n + 1), .inr (.inl vT.2)))]) [0, 1, 2] (by decide) rfl
              exact W.iret (v := (f_X5_slotAt (p1 &&& (-8)) 16384 3 (nI n))) hx hb hr (fun u hu hW => ⟨⟨(f_X5_slotAt (p1 &&& (-8)) 16384 3 (nI n)), (), rfl, hF.symm, by rw [hu]; exact hP9, hD9⟩, hS.F hu⟩) hS.2.2 dX4_wideAt_91
            · refine lv_aload_n hx hb dX4_wideAt_73 rfl (lv_at hl 3 rfl) ?_
              refine va_get (D := (dC, dI)) (ci := 4) (v := .int (nI n)) (C := RX4) (T := TX4) (N := 3) hx hb hw inWX4 hown hK hP 0 rfl rfl 2 (by decide) (hw _ w_34) (fun _ h9 => h9) rfl dX4_wideAt_74 ?_
              have hF : (f_X4_wideAt n p1 p2) = (nI n) := by rw [f_X4_wideAt, if_pos c_3, if_pos c_13, if_pos c_25, if_neg c_35, if_pos c_70]
              have hP9 := hP.sub (ws' := [(tH, .inr (4, [.ref tS, .ref tW, .int (nI n)])), (tS, .inl (cI, n, .inl vT.1)), (tW, .inl (cJ, (n + 1), .inr (.inl vT.2)))]) [0, 1, 2] rfl
              have hD9 := hD.sub (ws' := [(tH, .inr (4, [.ref tS, .ref tW, .int (nI n)])), (tS, .inl (cI, n, .inl vT.1)), (tW, .inl (cJ, (n + 1), .inr (.inl vT.2)))]) [0, 1, 2] (by decide) rfl
              exact W.iret (v := (nI n)) hx hb hr (fun u hu hW => ⟨⟨(nI n), (), rfl, hF.symm, by rw [hu]; exact hP9, hD9⟩, hS.F hu⟩) hS.2.2 dX4_wideAt_77
          · exact absurd c_47 (by decide)
        · refine lv_iconst (v := 1) hx hb dX4_wideAt_38 (by decide) ?_
          refine lv_goto (tgt := 43) hx hb dX4_wideAt_39 (by decide) ?_
          refine lv_istore (lv' := [(5, .int 1), (4, .int 1), (0, .ref tH), (1, .long p1), (3, .int p2)]) hx hb dX4_wideAt_43 hl (by decide) rfl (fun ls hl => ?_)
          refine lv_iload hx hb dX4_wideAt_45 (lv_at hl 1 rfl) ?_
          refine lv_if_ne (tgt := 57) hx hb dX4_wideAt_47 (by decide) (fun c_47 => ?_) (fun c_47 => ?_)
          · refine lv_lload_n hx hb dX4_wideAt_57 rfl (lv_at hl 3 rfl) ?_
            refine lv_ldc2 (v := (-8)) hx hb hown (hw _ w_319) dX4_wideAt_58 ?_
            refine lv_land hx hb dX4_wideAt_61 ?_
            refine lv_lstore (lv' := [(6, .long (p1 &&& (-8))), (5, .int 1), (4, .int 1), (0, .ref tH), (1, .long p1), (3, .int p2)]) hx hb dX4_wideAt_62 hl (by decide) rfl (fun ls hl => ?_)
            refine lv_lload hx hb dX4_wideAt_64 (lv_at hl 0 rfl) ?_
            refine lv_ldc2 (v := 49144) hx hb hown (hw _ w_320) dX4_wideAt_66 ?_
            refine W.lcmp hx hb dX4_wideAt_69 ?_
            refine lv_if_ne (tgt := 78) hx hb dX4_wideAt_70 (by decide) (fun c_70 => ?_) (fun c_70 => ?_)
            · refine lv_lload hx hb dX4_wideAt_78 (lv_at hl 0 rfl) ?_
              refine lv_ldc2 (v := 16384) hx hb hown (hw _ w_321) dX4_wideAt_80 ?_
              refine lv_iconst (v := 3) hx hb dX4_wideAt_83 (by decide) ?_
              refine lv_aload_n hx hb dX4_wideAt_84 rfl (lv_at hl 3 rfl) ?_
              refine va_get (D := (dC, dI)) (ci := 4) (v := .int (nI n)) (C := RX4) (T := TX4) (N := 3) hx hb hw inWX4 hown hK hP 0 rfl rfl 2 (by decide) (hw _ w_34) (fun _ h9 => h9) rfl dX4_wideAt_85 ?_
              have hPc := hP.sub (ws' := []) [] rfl
              have hDc := hD.sub (ws' := []) [] (by decide) rfl
              have hFc := va_free (wc := []) hD hS hA [] rfl
              refine va_calli (va_runSN (As := [.long (p1 &&& (-8)), .long 16384, .int 3, .int (nI n)]) (rest := []) ⟨hx, hb, hml, hown, hw⟩ (k_X5_slotAt l dC dI cI cJ cB cZ s.heap.size (p1 &&& (-8)) 16384 3 (nI n)) ⟨va_cnB 4 hw (gI w_312) rfl rfl rfl (hN _ n_310) (hw _ w_1) (by decide +kernel) ⟨Nat.le_of_ble_eq_true rfl, Nat.le_of_ble_eq_true rfl⟩, hw _ w_311, trivial⟩ ⟨fun a U g mk q => by obtain ⟨q0, q1, qP, qK, qD, qN⟩ := q; exact ⟨q0, q1, qP, va_K.moved (u := U) (U := U.calling g mk a) (Vm.Alike.refl U.vm) qK, qD, nw_same (s := U) (U := U.calling g mk a) rfl qN⟩, fun U hU hW => ⟨rfl, by rw [hU], by rw [hU]; exact hPc, va_K.moved hW.alike hK, hDc.weaken (fun _ _ _ _ => trivial), nw_warm hW hN⟩⟩ rfl rfl hl.1 rfl (lv_room (Nat.le_of_ble_eq_true rfl)) dX4_wideAt_88 ⟨Nat.le_of_ble_eq_true rfl, Nat.le_of_ble_eq_true rfl⟩) hS (fun q _ h => hFc q h) hFc (fun r_88 u t9 H1 locs ht hvm hR hB hz1 hk1 hS => ?_)
              replace hR := Eq.symm hR
              subst hR
              obtain ⟨hP1, hD1⟩ := hB
              rw [ht] at hP1
              obtain ⟨hP, hD⟩ := va_join (wr := [(tH, .inr (4, [.ref tS, .ref tW, .int (nI n)])), (tS, .inl (cI, n, .inl vT.1)), (tW, .inl (cJ, (n + 1), .inr (.inl vT.2)))]) (w1 := []) hP hD [] [0, 1, 2] rfl rfl (by decide) (by decide) hk1 hFc hP1 hD1
              generalize H1 = H at hP hS ⊢
              have hP : va_P (dC, dI) vwCl [(tH, .inr (4, [.ref tS, .ref tW, .int (nI n)])), (tS, .inl (cI, n, .inl vT.1)), (tW, .inl (cJ, (n + 1), .inr (.inl vT.2)))] H := hP
              have hD : va_D A [(tH, .inr (4, [.ref tS, .ref tW, .int (nI n)])), (tS, .inl (cI, n, .inl vT.1)), (tW, .inl (cJ, (n + 1), .inr (.inl vT.2)))] := hD
              have hF : (f_X4_wideAt n p1 p2) = (f_X5_slotAt (p1 &&& (-8)) 16384 3 (nI n)) := by rw [f_X4_wideAt, if_pos c_3, if_pos c_13, if_pos c_25, if_pos c_35, if_neg c_70]
              have hP9 := hP.sub (ws' := [(tH, .inr (4, [.ref tS, .ref tW, .int (nI n)])), (tS, .inl (cI, n, .inl vT.1)), (tW, .inl (cJ, (n + 1), .inr (.inl vT.2)))]) [0, 1, 2] rfl
              have hD9 := hD.sub (ws' := [(tH, .inr (4, [.ref tS, .ref tW, .int (nI n)])), (tS, .inl (cI, n, .inl vT.1)), (tW, .inl (cJ, (n + 1), .inr (.inl vT.2)))]) [0, 1, 2] (by decide) rfl
              exact W.iret (v := (f_X5_slotAt (p1 &&& (-8)) 16384 3 (nI n))) hx hb hr (fun u hu hW => ⟨⟨(f_X5_slotAt (p1 &&& (-8)) 16384 3 (nI n)), (), rfl, hF.symm, by rw [hu]; exact hP9, hD9⟩, hS.F hu⟩) hS.2.2 dX4_wideAt_91
            · refine lv_aload_n hx hb dX4_wideAt_73 rfl (lv_at hl 3 rfl) ?_
              refine va_get (D := (dC, dI)) (ci := 4) (v := .int (nI n)) (C := RX4) (T := TX4) (N := 3) hx hb hw inWX4 hown hK hP 0 rfl rfl 2 (by decide) (hw _ w_34) (fun _ h9 => h9) rfl dX4_wideAt_74 ?_
              have hF : (f_X4_wideAt n p1 p2) = (nI n) := by rw [f_X4_wideAt, if_pos c_3, if_pos c_13, if_pos c_25, if_pos c_35, if_pos c_70]
              have hP9 := hP.sub (ws' := [(tH, .inr (4, [.ref tS, .ref tW, .int (nI n)])), (tS, .inl (cI, n, .inl vT.1)), (tW, .inl (cJ, (n + 1), .inr (.inl vT.2)))]) [0, 1, 2] rfl
              have hD9 := hD.sub (ws' := [(tH, .inr (4, [.ref tS, .ref tW, .int (nI n)])), (tS, .inl (cI, n, .inl vT.1)), (tW, .inl (cJ, (n + 1), .inr (.inl vT.2)))]) [0, 1, 2] (by decide) rfl
              exact W.iret (v := (nI n)) hx hb hr (fun u hu hW => ⟨⟨(nI n), (), rfl, hF.symm, by rw [hu]; exact hP9, hD9⟩, hS.F hu⟩) hS.2.2 dX4_wideAt_77
          · exact absurd c_47 (by decide)
