theorem l_shr (a s : Int64) : (a >>> s).toInt = a.toInt >>> (s.toBitVec.smod 64).toNat := BitVec.toInt_sshiftRight ..
theorem l_shr0 {a : Int64} (s : Int64) (h : ¬ a < 0) : 0 ≤ (a >>> s).toInt := by
  rw [l_shr, Int.shiftRight_eq_div_pow]
  rw [Int64.lt_iff_toInt_lt] at h
  have h0 : (0 : Int64).toInt = 0 := rfl
  rw [h0] at h
  exact Int.ediv_nonneg (by omega) (Int.natCast_nonneg _)
theorem l_i32 {x : Int64} (h0 : 0 ≤ x.toInt) (h : x.toInt < 2147483648) : x.toInt32.toInt = x.toInt := by
  rw [Int64.toInt_toInt32]
  exact Int.bmod_eq_of_le (by omega) (by omega)
theorem slot_in {off first : Int64} {sh : Int32} {N : Nat} (hN : N < 2 ^ 31) (h : ¬ f_X5_slotAt off first sh (nI N) < 0) : vp_in (f_X5_slotAt off first sh (nI N)) N := by
  unfold f_X5_slotAt at h ⊢
  split at h
  · exact absurd (by decide) h
  · rename_i c1
    split at h
    · exact absurd (by decide) h
    · rename_i c2
      split at h
      · rename_i c3
        rw [if_neg c1, if_neg c2, if_pos c3]
        rw [lg_cmp_lt] at c1
        rw [lg_cmp_ge, nI_l hN, Int64.le_iff_toInt_le, pk_lT (by omega)] at c2
        have a0 := l_shr0 ((Int32.toInt64 sh) &&& 63) c1
        rw [vp_in_iff, l_i32 a0 (by omega)]
        omega
      · exact absurd (by decide) h
theorem in_softAt {n : Nat} {a : Int64} {b : Int32} (hn : n ≤ 4) (h : ¬ f_X4_softAt n a b < 0) : vp_in (f_X4_softAt n a b) n := by
  unfold f_X4_softAt at h ⊢
  split at h
  · rename_i c; rw [if_pos c]; exact slot_in (by omega) h
  · exact absurd (by decide) h
theorem slot_or {off first : Int64} {sh : Int32} {N : Nat} (hN : N < 2 ^ 31) : f_X5_slotAt off first sh (nI N) = -1 ∨ vp_in (f_X5_slotAt off first sh (nI N)) N := by
  by_cases h : f_X5_slotAt off first sh (nI N) < 0
  · left
    unfold f_X5_slotAt at h ⊢
    by_cases c1 : (lg_cmp (off - first) 0) < 0
    · rw [if_pos c1]
    · rw [if_neg c1] at h ⊢
      by_cases c2 : 0 ≤ (lg_cmp ((off - first) >>> ((Int32.toInt64 sh) &&& 63)) (Int32.toInt64 (nI N)))
      · rw [if_pos c2]
      · rw [if_neg c2] at h ⊢
        by_cases c3 : (lg_cmp (((off - first) >>> ((Int32.toInt64 sh) &&& 63)) <<< ((Int32.toInt64 sh) &&& 63)) (off - first)) = 0
        · rw [if_pos c3] at h
          rw [lg_cmp_lt] at c1
          rw [lg_cmp_ge, nI_l hN, Int64.le_iff_toInt_le, pk_lT (by omega)] at c2
          have a0 := l_shr0 ((Int32.toInt64 sh) &&& 63) c1
          rw [Int32.lt_iff_toInt_lt, l_i32 a0 (by omega)] at h
          have h0 : (0 : Int32).toInt = 0 := rfl
          omega
        · rw [if_neg c3]
  · exact Or.inr (slot_in hN h)
theorem ite_p {α : Type} {c : Prop} [Decidable c] {x y : α} {P : α → Prop} (hx : P x) (hy : P y) : P (if c then x else y) := by
  by_cases h : c
  · rw [if_pos h]; exact hx
  · rw [if_neg h]; exact hy
theorem in_wideAt0 {n : Nat} {a : Int64} {b : Int32} (hn : n ≤ 4) : f_X4_wideAt n a b = -1 ∨ vp_in (f_X4_wideAt n a b) (n + 1) := by
  have key : ∀ x y : Int64, ∀ z : Int32, f_X5_slotAt x y z (nI n) = -1 ∨ vp_in (f_X5_slotAt x y z (nI n)) (n + 1) := by
    intro x y z
    rcases slot_or (off := x) (first := y) (sh := z) (N := n) (by omega) with q | q
    · exact Or.inl q
    · refine Or.inr ?_
      rw [vp_in_iff] at q ⊢
      omega
  have top : nI n = -1 ∨ vp_in (nI n) (n + 1) := Or.inr (vp_in_nI (by omega) (by omega))
  have neg : (-1 : Int32) = -1 ∨ vp_in (-1) (n + 1) := Or.inl rfl
  unfold f_X4_wideAt
  repeat' first | with_reducible exact top | with_reducible exact neg | with_reducible exact key _ _ _ | refine ite_p (P := fun z => z = -1 ∨ vp_in z (n + 1)) ?_ ?_
theorem in_wideAt {n : Nat} {a : Int64} {b : Int32} (hn : n ≤ 4) (h : 0 ≤ f_X4_wideAt n a b) : vp_in (f_X4_wideAt n a b) (n + 1) := by
  rcases in_wideAt0 (a := a) (b := b) hn with q | q
  · rw [q] at h; exact absurd h (by decide)
  · exact q

def f_X4_load (n : Nat) (vT : TS) (p1 : Int64) (p2 : Int32) : Int64 :=
  if (f_X4_softAt n p1 p2) < 0 then if 0 ≤ (f_X4_wideAt n p1 p2) then if p2 = 8 then (vT.2 (Int32.toNatClampNeg (f_X4_wideAt n p1 p2)))
      else if (f_X4_isUpperHalf p1) = 0 then ((vT.2 (Int32.toNatClampNeg (f_X4_wideAt n p1 p2))) &&& 4294967295)
        else (UInt64.toInt64 ((Int64.toUInt64 (vT.2 (Int32.toNatClampNeg (f_X4_wideAt n p1 p2)))) >>> ((Int64.toUInt64 (Int32.toInt64 32)) &&& Int64.toUInt64 63)))
    else 0
  else (Int32.toInt64 (vT.1 (Int32.toNatClampNeg (f_X4_softAt n p1 p2))))
set_option maxHeartbeats 4000000 in
set_option maxRecDepth 100000 in
theorem k_X4_load (l : Launch) (dC : Nat → ClassId) (dI : Nat → Nat → Nat) (cI cJ cB cZ : ClassId) (tH tS tW : Nat) (sz : Nat) (n : Nat) (vT : TS) (p1 : Int64) (p2 : Int32) (hn : n ≤ 4) : Met l yX4_load wsX4_load ({ frames := 2, cells := 0, slots := 0, locals := 56 }) (va_Pc [.ref tH, .long p1, .int p2] (fun U => U.heap.size = sz ∧ va_P (dC, dI) vwCl [(tH, .inr (4, [.ref tS, .ref tW, .int (nI n)])), (tS, .inl (cI, n, .inl vT.1)), (tW, .inl (cJ, (n + 1), .inr (.inl vT.2)))] U.heap ∧ va_K (dC, dI) vwCl [(cI, .int), (cJ, .long), (cB, .byte), (cZ, .boolean)] U ∧ va_D (fun _ => True) [(tH, .inr (4, [.ref tS, .ref tW, .int (nI n)])), (tS, .inl (cI, n, .inl vT.1)), (tW, .inl (cJ, (n + 1), .inr (.inl vT.2)))] ∧ nw_ U)) (va_Ql (fun (r : Int64) (_ : Unit) => r = (f_X4_load n vT p1 p2)) (fun (_ : Unit) (w : State) => va_P (dC, dI) vwCl [(tH, .inr (4, [.ref tS, .ref tW, .int (nI n)])), (tS, .inl (cI, n, .inl vT.1)), (tW, .inl (cJ, (n + 1), .inr (.inl vT.2)))] w.heap ∧ va_D (va_A [(tH, .inr (4, [.ref tS, .ref tW, .int (nI n)])), (tS, .inl (cI, n, .inl vT.1)), (tW, .inl (cJ, (n + 1), .inr (.inl vT.2)))] sz) [(tH, .inr (4, [.ref tS, .ref tW, .int (nI n)])), (tS, .inl (cI, n, .inl vT.1)), (tW, .inl (cJ, (n + 1), .inr (.inl vT.2)))]) (va_A [(tH, .inr (4, [.ref tS, .ref tW, .int (nI n)])), (tS, .inl (cI, n, .inl vT.1)), (tW, .inl (cJ, (n + 1), .inr (.inl vT.2)))] sz)) 0 0 (va_A [(tH, .inr (4, [.ref tS, .ref tW, .int (nI n)])), (tS, .inl (cI, n, .inl vT.1)), (tW, .inl (cJ, (n + 1), .inr (.inl vT.2)))] sz) := by
  refine Met.ofW (cc := prog_6_method_2_code) (maxL := 6) (ret := (some .long)) (by decide) rfl ?_
  intro p e s m args below meth c s₁ B hml hv
  obtain ⟨rfl, hsz, hP, hK, hD0, hN⟩ := hv
  have hx := B.exec
  have hb := B.bytes
  have hr := B.returns
  have hw := hw_of (atoms_spec (ws := wsX4_load) B.pre)
  have hown : s.vm.findClass RX4 = some m.cls := findClass_of_methodNamed B.named
  have hlocks := B.notSynchronized
  subst hsz
  have hD := hD0.self (sz := s.heap.size)
  generalize hAe : va_A [(tH, .inr (4, [.ref tS, .ref tW, .int (nI n)])), (tS, .inl (cI, n, .inl vT.1)), (tW, .inl (cJ, (n + 1), .inr (.inl vT.2)))] s.heap.size = A at hD ⊢
  have hA : ∀ q : Nat, s.heap.size ≤ q → A q := fun q h => by rw [← hAe]; exact Or.inr h
  have hS : va_S A s.heap s.heap [] := va_S.rf
  have hP : va_P (dC, dI) vwCl [(tH, .inr (4, [.ref tS, .ref tW, .int (nI n)])), (tS, .inl (cI, n, .inl vT.1)), (tW, .inl (cJ, (n + 1), .inr (.inl vT.2)))] s.heap := hP
  have hl := lv_entry ([.ref tH, .long p1, .int p2]) (n := 6) (Nat.le_of_ble_eq_true rfl)
  rw [lg_entry_eq]
  generalize (lg_sl ([.ref tH, .long p1, .int p2]) ++ List.replicate (6 - (lg_sl ([.ref tH, .long p1, .int p2])).length) Slot.unset).toArray = ls at hl ⊢
  have hl : lv_has ls 6 [(0, .ref tH), (1, .long p1), (3, .int p2)] := hl
  refine lv_aload_n hx hb dX4_load_0 rfl (lv_at hl 0 rfl) ?_
  refine lv_lload_n hx hb dX4_load_1 rfl (lv_at hl 1 rfl) ?_
  refine lv_iload_n hx hb dX4_load_2 rfl (lv_at hl 2 rfl) ?_
  have hPc := hP.sub (ws' := [(tH, .inr (4, [.ref tS, .ref tW, .int (nI n)])), (tS, .inl (cI, n, .inl vT.1)), (tW, .inl (cJ, (n + 1), .inr (.inl vT.2)))]) [0, 1, 2] rfl
  have hDc := hD.sub (ws' := [(tH, .inr (4, [.ref tS, .ref tW, .int (nI n)])), (tS, .inl (cI, n, .inl vT.1)), (tW, .inl (cJ, (n + 1), .inr (.inl vT.2)))]) [0, 1, 2] (by decide) rfl
  have hFc := va_free (wc := [(tH, .inr (4, [.ref tS, .ref tW, .int (nI n)])), (tS, .inl (cI, n, .inl vT.1)), (tW, .inl (cJ, (n + 1), .inr (.inl vT.2)))]) hD hS hA [0, 1, 2] rfl
  refine va_calli (va_runV (As := [.long p1, .int p2]) (rest := []) ⟨hx, hb, hml, hown, hw⟩ (k_X4_softAt l dC dI cI cJ cB cZ tH tS tW s.heap.size n vT p1 p2) (cwV 2 hw (gV w_306 w_308 w_s3 w_2 w_309) rfl rfl rfl (by decide +kernel) ⟨Nat.le_of_ble_eq_true rfl, Nat.le_of_ble_eq_true rfl⟩) ⟨fun a U g mk q => by obtain ⟨q0, q1, qP, qK, qD, qN⟩ := q; exact ⟨q0, q1, qP, va_K.moved (u := U) (U := U.calling g mk a) (Vm.Alike.refl U.vm) qK, qD, nw_same (s := U) (U := U.calling g mk a) rfl qN⟩, va_recv hK hPc (ci := 4) (q0 := 0) rfl rfl, fun U hU hW => ⟨rfl, by rw [hU], by rw [hU]; exact hPc, va_K.moved hW.alike hK, hDc.weaken (fun _ _ _ _ => trivial), nw_warm hW hN⟩⟩ rfl rfl hl.1 rfl (lv_room (Nat.le_of_ble_eq_true rfl)) dX4_load_3 ⟨Nat.le_of_ble_eq_true rfl, Nat.le_of_ble_eq_true rfl⟩) hS (fun q _ h => hFc q h) hFc (fun r_3 u t9 H1 locs ht hvm hR hB hz1 hk1 hS => ?_)
  replace hR := Eq.symm hR
  subst hR
  obtain ⟨hP1, hD1⟩ := hB
  rw [ht] at hP1
  obtain ⟨hP, hD⟩ := va_join (wr := []) (w1 := [(tH, .inr (4, [.ref tS, .ref tW, .int (nI n)])), (tS, .inl (cI, n, .inl vT.1)), (tW, .inl (cJ, (n + 1), .inr (.inl vT.2)))]) hP hD [0, 1, 2] [] rfl rfl (by decide) (by decide) hk1 hFc hP1 hD1
  generalize H1 = H at hP hS ⊢
  have hP : va_P (dC, dI) vwCl [(tH, .inr (4, [.ref tS, .ref tW, .int (nI n)])), (tS, .inl (cI, n, .inl vT.1)), (tW, .inl (cJ, (n + 1), .inr (.inl vT.2)))] H := hP
  have hD : va_D A [(tH, .inr (4, [.ref tS, .ref tW, .int (nI n)])), (tS, .inl (cI, n, .inl vT.1)), (tW, .inl (cJ, (n + 1), .inr (.inl vT.2)))] := hD
  refine lv_istore (lv' := [(4, .int (f_X4_softAt n p1 p2)), (0, .ref tH), (1, .long p1), (3, .int p2)]) hx hb dX4_load_6 hl (by decide) rfl (fun ls hl => ?_)
  refine lv_iload hx hb dX4_load_8 (lv_at hl 0 rfl) ?_
  refine lv_if_lt (tgt := 22) hx hb dX4_load_10 (by decide) (fun c_10 => ?_) (fun c_10 => ?_)
  · refine lv_aload_n hx hb dX4_load_22 rfl (lv_at hl 1 rfl) ?_
    refine lv_lload_n hx hb dX4_load_23 rfl (lv_at hl 2 rfl) ?_
    refine lv_iload_n hx hb dX4_load_24 rfl (lv_at hl 3 rfl) ?_
    have hPc := hP.sub (ws' := [(tH, .inr (4, [.ref tS, .ref tW, .int (nI n)])), (tS, .inl (cI, n, .inl vT.1)), (tW, .inl (cJ, (n + 1), .inr (.inl vT.2)))]) [0, 1, 2] rfl
    have hDc := hD.sub (ws' := [(tH, .inr (4, [.ref tS, .ref tW, .int (nI n)])), (tS, .inl (cI, n, .inl vT.1)), (tW, .inl (cJ, (n + 1), .inr (.inl vT.2)))]) [0, 1, 2] (by decide) rfl
    have hFc := va_free (wc := [(tH, .inr (4, [.ref tS, .ref tW, .int (nI n)])), (tS, .inl (cI, n, .inl vT.1)), (tW, .inl (cJ, (n + 1), .inr (.inl vT.2)))]) hD hS hA [0, 1, 2] rfl
    refine va_calli (va_runV (As := [.long p1, .int p2]) (rest := []) ⟨hx, hb, hml, hown, hw⟩ (k_X4_wideAt l dC dI cI cJ cB cZ tH tS tW H.size n vT p1 p2) (cwV 2 hw (gV w_313 w_315 w_s4 w_2 w_316) rfl rfl rfl (by decide +kernel) ⟨Nat.le_of_ble_eq_true rfl, Nat.le_of_ble_eq_true rfl⟩) ⟨fun a U g mk q => by obtain ⟨q0, q1, qP, qK, qD, qN⟩ := q; exact ⟨q0, q1, qP, va_K.moved (u := U) (U := U.calling g mk a) (Vm.Alike.refl U.vm) qK, qD, nw_same (s := U) (U := U.calling g mk a) rfl qN⟩, va_recv hK hPc (ci := 4) (q0 := 0) rfl rfl, fun U hU hW => ⟨rfl, by rw [hU], by rw [hU]; exact hPc, va_K.moved hW.alike hK, hDc.weaken (fun _ _ _ _ => trivial), nw_warm hW hN⟩⟩ rfl rfl hl.1 rfl (lv_room (Nat.le_of_ble_eq_true rfl)) dX4_load_25 ⟨Nat.le_of_ble_eq_true rfl, Nat.le_of_ble_eq_true rfl⟩) hS (fun q _ h => hFc q h) hFc (fun r_25 u t9 H1 locs ht hvm hR hB hz1 hk1 hS => ?_)
    replace hR := Eq.symm hR
    subst hR
    obtain ⟨hP1, hD1⟩ := hB
    rw [ht] at hP1
    obtain ⟨hP, hD⟩ := va_join (wr := []) (w1 := [(tH, .inr (4, [.ref tS, .ref tW, .int (nI n)])), (tS, .inl (cI, n, .inl vT.1)), (tW, .inl (cJ, (n + 1), .inr (.inl vT.2)))]) hP hD [0, 1, 2] [] rfl rfl (by decide) (by decide) hk1 hFc hP1 hD1
    generalize H1 = H at hP hS ⊢
    have hP : va_P (dC, dI) vwCl [(tH, .inr (4, [.ref tS, .ref tW, .int (nI n)])), (tS, .inl (cI, n, .inl vT.1)), (tW, .inl (cJ, (n + 1), .inr (.inl vT.2)))] H := hP
    have hD : va_D A [(tH, .inr (4, [.ref tS, .ref tW, .int (nI n)])), (tS, .inl (cI, n, .inl vT.1)), (tW, .inl (cJ, (n + 1), .inr (.inl vT.2)))] := hD
    refine lv_istore (lv' := [(5, .int (f_X4_wideAt n p1 p2)), (4, .int (f_X4_softAt n p1 p2)), (0, .ref tH), (1, .long p1), (3, .int p2)]) hx hb dX4_load_28 hl (by decide) rfl (fun ls hl => ?_)
    refine lv_iload hx hb dX4_load_30 (lv_at hl 0 rfl) ?_
    refine lv_if_ge (tgt := 37) hx hb dX4_load_32 (by decide) (fun c_32 => ?_) (fun c_32 => ?_)
    · refine lv_iload_n hx hb dX4_load_37 rfl (lv_at hl 4 rfl) ?_
      refine lv_bipush (v := 8) hx hb dX4_load_38 (by decide) ?_
      refine lv_icmp_ne (tgt := 51) hx hb dX4_load_40 (by decide) (fun c_40 => ?_) (fun c_40 => ?_)
      · refine lv_lload_n hx hb dX4_load_51 rfl (lv_at hl 3 rfl) ?_
        have hPc := hP.sub (ws' := []) [] rfl
        have hDc := hD.sub (ws' := []) [] (by decide) rfl
        have hFc := va_free (wc := []) hD hS hA [] rfl
        refine va_calli (va_runS (As := [.long p1]) (rest := []) ⟨hx, hb, hml, hown, hw⟩ (k_X4_isUpperHalf l dC dI cI cJ cB cZ H.size p1) (va_cwS 1 hw (gS w_322 w_323 w_2 w_324) rfl rfl rfl (by decide +kernel) ⟨Nat.le_of_ble_eq_true rfl, Nat.le_of_ble_eq_true rfl⟩) ⟨fun a U g mk q => by obtain ⟨q0, q1, qP, qK, qD, qN⟩ := q; exact ⟨q0, q1, qP, va_K.moved (u := U) (U := U.calling g mk a) (Vm.Alike.refl U.vm) qK, qD, nw_same (s := U) (U := U.calling g mk a) rfl qN⟩, fun U hU hW => ⟨rfl, by rw [hU], by rw [hU]; exact hPc, va_K.moved hW.alike hK, hDc.weaken (fun _ _ _ _ => trivial), nw_warm hW hN⟩⟩ rfl rfl hl.1 rfl (lv_room (Nat.le_of_ble_eq_true rfl)) dX4_load_52 ⟨Nat.le_of_ble_eq_true rfl, Nat.le_of_ble_eq_true rfl⟩) hS (fun q _ h => hFc q h) hFc (fun r_52 u t9 H1 locs ht hvm hR hB hz1 hk1 hS => ?_)
        replace hR := Eq.symm hR
        subst hR
        obtain ⟨hP1, hD1⟩ := hB
        rw [ht] at hP1
        obtain ⟨hP, hD⟩ := va_join (wr := [(tH, .inr (4, [.ref tS, .ref tW, .int (nI n)])), (tS, .inl (cI, n, .inl vT.1)), (tW, .inl (cJ, (n + 1), .inr (.inl vT.2)))]) (w1 := []) hP hD [] [0, 1, 2] rfl rfl (by decide) (by decide) hk1 hFc hP1 hD1
        generalize H1 = H at hP hS ⊢
        have hP : va_P (dC, dI) vwCl [(tH, .inr (4, [.ref tS, .ref tW, .int (nI n)])), (tS, .inl (cI, n, .inl vT.1)), (tW, .inl (cJ, (n + 1), .inr (.inl vT.2)))] H := hP
        have hD : va_D A [(tH, .inr (4, [.ref tS, .ref tW, .int (nI n)])), (tS, .inl (cI, n, .inl vT.1)), (tW, .inl (cJ, (n + 1), .inr (.inl vT.2)))] := hD
        refine lv_if_eq (tgt := 71) hx hb dX4_load_55 (by decide) (fun c_55 => ?_) (fun c_55 => ?_)
        · refine lv_aload_n hx hb dX4_load_71 rfl (lv_at hl 2 rfl) ?_
          refine va_get (D := (dC, dI)) (ci := 4) (v := .ref tW) (C := RX4) (T := TX4) (N := 3) hx hb hw inWX4 hown hK hP 0 rfl rfl 1 (by decide) (hw _ w_33) (fun _ h9 => h9) rfl dX4_load_72 ?_
          refine lv_iload hx hb dX4_load_75 (lv_at hl 0 rfl) ?_
          have h_77 : vp_in (f_X4_wideAt n p1 p2) (n + 1) := (in_wideAt hn c_32)
          refine va_lald hx hb hK hP 2 1 rfl rfl h_77 dX4_load_77 ?_
          refine lv_ldc2 (v := 4294967295) hx hb hown (hw _ w_326) dX4_load_78 ?_
          refine lv_land hx hb dX4_load_81 ?_
          have hF : (f_X4_load n vT p1 p2) = ((vT.2 (Int32.toNatClampNeg (f_X4_wideAt n p1 p2))) &&& 4294967295) := by rw [f_X4_load, if_pos c_10, if_pos c_32, if_neg c_40, if_pos c_55]
          have hP9 := hP.sub (ws' := [(tH, .inr (4, [.ref tS, .ref tW, .int (nI n)])), (tS, .inl (cI, n, .inl vT.1)), (tW, .inl (cJ, (n + 1), .inr (.inl vT.2)))]) [0, 1, 2] rfl
          have hD9 := hD.sub (ws' := [(tH, .inr (4, [.ref tS, .ref tW, .int (nI n)])), (tS, .inl (cI, n, .inl vT.1)), (tW, .inl (cJ, (n + 1), .inr (.inl vT.2)))]) [0, 1, 2] (by decide) rfl
          exact W.lret (v := ((vT.2 (Int32.toNatClampNeg (f_X4_wideAt n p1 p2))) &&& 4294967295)) hx hb hr (fun u hu hW => ⟨⟨((vT.2 (Int32.toNatClampNeg (f_X4_wideAt n p1 p2))) &&& 4294967295), (), rfl, hF.symm, by rw [hu]; exact hP9, hD9⟩, hS.F hu⟩) hS.2.2 dX4_load_82
        · refine lv_aload_n hx hb dX4_load_58 rfl (lv_at hl 2 rfl) ?_
          refine va_get (D := (dC, dI)) (ci := 4) (v := .ref tW) (C := RX4) (T := TX4) (N := 3) hx hb hw inWX4 hown hK hP 0 rfl rfl 1 (by decide) (hw _ w_33) (fun _ h9 => h9) rfl dX4_load_59 ?_
          refine lv_iload hx hb dX4_load_62 (lv_at hl 0 rfl) ?_
          have h_64 : vp_in (f_X4_wideAt n p1 p2) (n + 1) := (in_wideAt hn c_32)
          refine va_lald hx hb hK hP 2 1 rfl rfl h_64 dX4_load_64 ?_
          refine lv_bipush (v := 32) hx hb dX4_load_65 (by decide) ?_
          refine lv_lushr hx hb dX4_load_67 rfl ?_
          refine lv_goto (tgt := 82) hx hb dX4_load_68 (by decide) ?_
          have hF : (f_X4_load n vT p1 p2) = (UInt64.toInt64 ((Int64.toUInt64 (vT.2 (Int32.toNatClampNeg (f_X4_wideAt n p1 p2)))) >>> ((Int64.toUInt64 (Int32.toInt64 32)) &&& Int64.toUInt64 63))) := by rw [f_X4_load, if_pos c_10, if_pos c_32, if_neg c_40, if_neg c_55]
          have hP9 := hP.sub (ws' := [(tH, .inr (4, [.ref tS, .ref tW, .int (nI n)])), (tS, .inl (cI, n, .inl vT.1)), (tW, .inl (cJ, (n + 1), .inr (.inl vT.2)))]) [0, 1, 2] rfl
          have hD9 := hD.sub (ws' := [(tH, .inr (4, [.ref tS, .ref tW, .int (nI n)])), (tS, .inl (cI, n, .inl vT.1)), (tW, .inl (cJ, (n + 1), .inr (.inl vT.2)))]) [0, 1, 2] (by decide) rfl
          exact W.lret (v := (UInt64.toInt64 ((Int64.toUInt64 (vT.2 (Int32.toNatClampNeg (f_X4_wideAt n p1 p2)))) >>> ((Int64.toUInt64 (Int32.toInt64 32)) &&& Int64.toUInt64 63)))) hx hb hr (fun u hu hW => ⟨⟨(UInt64.toInt64 ((Int64.toUInt64 (vT.2 (Int32.toNatClampNeg (f_X4_wideAt n p1 p2)))) >>> ((Int64.toUInt64 (Int32.toInt64 32)) &&& Int64.toUInt64 63))), (), rfl, hF.symm, by rw [hu]; exact hP9, hD9⟩, hS.F hu⟩) hS.2.2 dX4_load_82
      · refine lv_aload_n hx hb dX4_load_43 rfl (lv_at hl 2 rfl) ?_
        refine va_get (D := (dC, dI)) (ci := 4) (v := .ref tW) (C := RX4) (T := TX4) (N := 3) hx hb hw inWX4 hown hK hP 0 rfl rfl 1 (by decide) (hw _ w_33) (fun _ h9 => h9) rfl dX4_load_44 ?_
        refine lv_iload hx hb dX4_load_47 (lv_at hl 0 rfl) ?_
        have h_49 : vp_in (f_X4_wideAt n p1 p2) (n + 1) := (in_wideAt hn c_32)
        refine va_lald hx hb hK hP 2 1 rfl rfl h_49 dX4_load_49 ?_
        have hF : (f_X4_load n vT p1 p2) = (vT.2 (Int32.toNatClampNeg (f_X4_wideAt n p1 p2))) := by rw [f_X4_load, if_pos c_10, if_pos c_32, if_pos c_40]
        have hP9 := hP.sub (ws' := [(tH, .inr (4, [.ref tS, .ref tW, .int (nI n)])), (tS, .inl (cI, n, .inl vT.1)), (tW, .inl (cJ, (n + 1), .inr (.inl vT.2)))]) [0, 1, 2] rfl
        have hD9 := hD.sub (ws' := [(tH, .inr (4, [.ref tS, .ref tW, .int (nI n)])), (tS, .inl (cI, n, .inl vT.1)), (tW, .inl (cJ, (n + 1), .inr (.inl vT.2)))]) [0, 1, 2] (by decide) rfl
        exact W.lret (v := (vT.2 (Int32.toNatClampNeg (f_X4_wideAt n p1 p2)))) hx hb hr (fun u hu hW => ⟨⟨(vT.2 (Int32.toNatClampNeg (f_X4_wideAt n p1 p2))), (), rfl, hF.symm, by rw [hu]; exact hP9, hD9⟩, hS.F hu⟩) hS.2.2 dX4_load_50
    · refine lv_lconst (v := 0) hx hb dX4_load_35 (by decide) ?_
      have hF : (f_X4_load n vT p1 p2) = 0 := by rw [f_X4_load, if_pos c_10, if_neg c_32]
      have hP9 := hP.sub (ws' := [(tH, .inr (4, [.ref tS, .ref tW, .int (nI n)])), (tS, .inl (cI, n, .inl vT.1)), (tW, .inl (cJ, (n + 1), .inr (.inl vT.2)))]) [0, 1, 2] rfl
      have hD9 := hD.sub (ws' := [(tH, .inr (4, [.ref tS, .ref tW, .int (nI n)])), (tS, .inl (cI, n, .inl vT.1)), (tW, .inl (cJ, (n + 1), .inr (.inl vT.2)))]) [0, 1, 2] (by decide) rfl
      exact W.lret (v := 0) hx hb hr (fun u hu hW => ⟨⟨0, (), rfl, hF.symm, by rw [hu]; exact hP9, hD9⟩, hS.F hu⟩) hS.2.2 dX4_load_36
  · refine lv_aload_n hx hb dX4_load_13 rfl (lv_at hl 1 rfl) ?_
    refine va_get (D := (dC, dI)) (ci := 4) (v := .ref tS) (C := RX4) (T := TX4) (N := 3) hx hb hw inWX4 hown hK hP 0 rfl rfl 0 (by decide) (hw _ w_32) (fun _ h9 => h9) rfl dX4_load_14 ?_
    refine lv_iload hx hb dX4_load_17 (lv_at hl 0 rfl) ?_
    have h_19 : vp_in (f_X4_softAt n p1 p2) n := (in_softAt hn c_10)
    refine va_iald hx hb hK hP 1 0 rfl rfl h_19 dX4_load_19 ?_
    refine lv_i2l hx hb dX4_load_20 rfl ?_
    have hF : (f_X4_load n vT p1 p2) = (Int32.toInt64 (vT.1 (Int32.toNatClampNeg (f_X4_softAt n p1 p2)))) := by rw [f_X4_load, if_neg c_10]
    have hP9 := hP.sub (ws' := [(tH, .inr (4, [.ref tS, .ref tW, .int (nI n)])), (tS, .inl (cI, n, .inl vT.1)), (tW, .inl (cJ, (n + 1), .inr (.inl vT.2)))]) [0, 1, 2] rfl
    have hD9 := hD.sub (ws' := [(tH, .inr (4, [.ref tS, .ref tW, .int (nI n)])), (tS, .inl (cI, n, .inl vT.1)), (tW, .inl (cJ, (n + 1), .inr (.inl vT.2)))]) [0, 1, 2] (by decide) rfl
    exact W.lret (v := (Int32.toInt64 (vT.1 (Int32.toNatClampNeg (f_X4_softAt n p1 p2))))) hx hb hr (fun u hu hW => ⟨⟨(Int32.toInt64 (vT.1 (Int32.toNatClampNeg (f_X4_softAt n p1 p2)))), (), rfl, hF.symm, by rw [hu]; exact hP9, hD9⟩, hS.F hu⟩) hS.2.2 dX4_load_21
def f_X4_store (n : Nat) (vT : TS) (p1 : Int64) (p2 : Int32) (p3 : Int64) : TS :=
  if (f_X4_softAt n p1 p2) < 0 then if 0 ≤ (f_X4_wideAt n p1 p2) then if p2 = 8 then (vT.1, (vp_updL vT.2 (Int32.toNatClampNeg (f_X4_wideAt n p1 p2)) p3))
      else if (f_X4_isUpperHalf p1) = 0 then (vT.1, (vp_updL vT.2 (Int32.toNatClampNeg (f_X4_wideAt n p1 p2)) (((vT.2 (Int32.toNatClampNeg (f_X4_wideAt n p1 p2))) &&& (-4294967296)) ||| (p3 &&& 4294967295))))
        else (vT.1, (vp_updL vT.2 (Int32.toNatClampNeg (f_X4_wideAt n p1 p2)) ((p3 <<< ((Int32.toInt64 32) &&& 63)) ||| ((vT.2 (Int32.toNatClampNeg (f_X4_wideAt n p1 p2))) &&& 4294967295))))
    else vT
  else ((upd vT.1 (Int32.toNatClampNeg (f_X4_softAt n p1 p2)) (Int64.toInt32 (p3 &&& 1))), vT.2)
set_option maxHeartbeats 4000000 in
set_option maxRecDepth 100000 in
theorem k_X4_store (l : Launch) (dC : Nat → ClassId) (dI : Nat → Nat → Nat) (cI cJ cB cZ : ClassId) (tH tS tW : Nat) (sz : Nat) (n : Nat) (vT : TS) (p1 : Int64) (p2 : Int32) (p3 : Int64) (hn : n ≤ 4) : Met l yX4_store wsX4_store ({ frames := 2, cells := 0, slots := 0, locals := 56 }) (va_Pc [.ref tH, .long p1, .int p2, .long p3] (fun U => U.heap.size = sz ∧ va_P (dC, dI) vwCl [(tH, .inr (4, [.ref tS, .ref tW, .int (nI n)])), (tS, .inl (cI, n, .inl vT.1)), (tW, .inl (cJ, (n + 1), .inr (.inl vT.2)))] U.heap ∧ va_K (dC, dI) vwCl [(cI, .int), (cJ, .long), (cB, .byte), (cZ, .boolean)] U ∧ va_D (fun _ => True) [(tH, .inr (4, [.ref tS, .ref tW, .int (nI n)])), (tS, .inl (cI, n, .inl vT.1)), (tW, .inl (cJ, (n + 1), .inr (.inl vT.2)))] ∧ nw_ U)) (va_Qv (fun (_ : Unit) => True) (fun (_ : Unit) (w : State) => va_P (dC, dI) vwCl [(tH, .inr (4, [.ref tS, .ref tW, .int (nI n)])), (tS, .inl (cI, n, .inl (f_X4_store n vT p1 p2 p3).1)), (tW, .inl (cJ, (n + 1), .inr (.inl (f_X4_store n vT p1 p2 p3).2)))] w.heap ∧ va_D (va_A [(tH, .inr (4, [.ref tS, .ref tW, .int (nI n)])), (tS, .inl (cI, n, .inl vT.1)), (tW, .inl (cJ, (n + 1), .inr (.inl vT.2)))] sz) [(tH, .inr (4, [.ref tS, .ref tW, .int (nI n)])), (tS, .inl (cI, n, .inl (f_X4_store n vT p1 p2 p3).1)), (tW, .inl (cJ, (n + 1), .inr (.inl (f_X4_store n vT p1 p2 p3).2)))]) (va_A [(tH, .inr (4, [.ref tS, .ref tW, .int (nI n)])), (tS, .inl (cI, n, .inl vT.1)), (tW, .inl (cJ, (n + 1), .inr (.inl vT.2)))] sz)) 0 0 (va_A [(tH, .inr (4, [.ref tS, .ref tW, .int (nI n)])), (tS, .inl (cI, n, .inl vT.1)), (tW, .inl (cJ, (n + 1), .inr (.inl vT.2)))] sz) := by
  refine Met.ofW (cc := prog_6_method_3_code) (maxL := 8) (ret := none) (by decide) rfl ?_
  intro p e s m args below meth c s₁ B hml hv
  obtain ⟨rfl, hsz, hP, hK, hD0, hN⟩ := hv
  have hx := B.exec
  have hb := B.bytes
  have hr := B.returns
  have hw := hw_of (atoms_spec (ws := wsX4_store) B.pre)
  have hown : s.vm.findClass RX4 = some m.cls := findClass_of_methodNamed B.named
  have hlocks := B.notSynchronized
  subst hsz
  have hD := hD0.self (sz := s.heap.size)
  generalize hAe : va_A [(tH, .inr (4, [.ref tS, .ref tW, .int (nI n)])), (tS, .inl (cI, n, .inl vT.1)), (tW, .inl (cJ, (n + 1), .inr (.inl vT.2)))] s.heap.size = A at hD ⊢
  have hA : ∀ q : Nat, s.heap.size ≤ q → A q := fun q h => by rw [← hAe]; exact Or.inr h
  have hS : va_S A s.heap s.heap [] := va_S.rf
  have hP : va_P (dC, dI) vwCl [(tH, .inr (4, [.ref tS, .ref tW, .int (nI n)])), (tS, .inl (cI, n, .inl vT.1)), (tW, .inl (cJ, (n + 1), .inr (.inl vT.2)))] s.heap := hP
  have hl := lv_entry ([.ref tH, .long p1, .int p2, .long p3]) (n := 8) (Nat.le_of_ble_eq_true rfl)
  rw [lg_entry_eq]
  generalize (lg_sl ([.ref tH, .long p1, .int p2, .long p3]) ++ List.replicate (8 - (lg_sl ([.ref tH, .long p1, .int p2, .long p3])).length) Slot.unset).toArray = ls at hl ⊢
  have hl : lv_has ls 8 [(0, .ref tH), (1, .long p1), (3, .int p2), (4, .long p3)] := hl
  refine lv_aload_n hx hb dX4_store_0 rfl (lv_at hl 0 rfl) ?_
  refine lv_lload_n hx hb dX4_store_1 rfl (lv_at hl 1 rfl) ?_
  refine lv_iload_n hx hb dX4_store_2 rfl (lv_at hl 2 rfl) ?_
  have hPc := hP.sub (ws' := [(tH, .inr (4, [.ref tS, .ref tW, .int (nI n)])), (tS, .inl (cI, n, .inl vT.1)), (tW, .inl (cJ, (n + 1), .inr (.inl vT.2)))]) [0, 1, 2] rfl
  have hDc := hD.sub (ws' := [(tH, .inr (4, [.ref tS, .ref tW, .int (nI n)])), (tS, .inl (cI, n, .inl vT.1)), (tW, .inl (cJ, (n + 1), .inr (.inl vT.2)))]) [0, 1, 2] (by decide) rfl
  have hFc := va_free (wc := [(tH, .inr (4, [.ref tS, .ref tW, .int (nI n)])), (tS, .inl (cI, n, .inl vT.1)), (tW, .inl (cJ, (n + 1), .inr (.inl vT.2)))]) hD hS hA [0, 1, 2] rfl
  refine va_calli (va_runV (As := [.long p1, .int p2]) (rest := []) ⟨hx, hb, hml, hown, hw⟩ (k_X4_softAt l dC dI cI cJ cB cZ tH tS tW s.heap.size n vT p1 p2) (cwV 2 hw (gV w_306 w_308 w_s3 w_2 w_309) rfl rfl rfl (by decide +kernel) ⟨Nat.le_of_ble_eq_true rfl, Nat.le_of_ble_eq_true rfl⟩) ⟨fun a U g mk q => by obtain ⟨q0, q1, qP, qK, qD, qN⟩ := q; exact ⟨q0, q1, qP, va_K.moved (u := U) (U := U.calling g mk a) (Vm.Alike.refl U.vm) qK, qD, nw_same (s := U) (U := U.calling g mk a) rfl qN⟩, va_recv hK hPc (ci := 4) (q0 := 0) rfl rfl, fun U hU hW => ⟨rfl, by rw [hU], by rw [hU]; exact hPc, va_K.moved hW.alike hK, hDc.weaken (fun _ _ _ _ => trivial), nw_warm hW hN⟩⟩ rfl rfl hl.1 rfl (lv_room (Nat.le_of_ble_eq_true rfl)) dX4_store_3 ⟨Nat.le_of_ble_eq_true rfl, Nat.le_of_ble_eq_true rfl⟩) hS (fun q _ h => hFc q h) hFc (fun r_3 u t9 H1 locs ht hvm hR hB hz1 hk1 hS => ?_)
  replace hR := Eq.symm hR
  subst hR
  obtain ⟨hP1, hD1⟩ := hB
  rw [ht] at hP1
  obtain ⟨hP, hD⟩ := va_join (wr := []) (w1 := [(tH, .inr (4, [.ref tS, .ref tW, .int (nI n)])), (tS, .inl (cI, n, .inl vT.1)), (tW, .inl (cJ, (n + 1), .inr (.inl vT.2)))]) hP hD [0, 1, 2] [] rfl rfl (by decide) (by decide) hk1 hFc hP1 hD1
  generalize H1 = H at hP hS ⊢
  have hP : va_P (dC, dI) vwCl [(tH, .inr (4, [.ref tS, .ref tW, .int (nI n)])), (tS, .inl (cI, n, .inl vT.1)), (tW, .inl (cJ, (n + 1), .inr (.inl vT.2)))] H := hP
  have hD : va_D A [(tH, .inr (4, [.ref tS, .ref tW, .int (nI n)])), (tS, .inl (cI, n, .inl vT.1)), (tW, .inl (cJ, (n + 1), .inr (.inl vT.2)))] := hD
  refine lv_istore (lv' := [(6, .int (f_X4_softAt n p1 p2)), (0, .ref tH), (1, .long p1), (3, .int p2), (4, .long p3)]) hx hb dX4_store_6 hl (by decide) rfl (fun ls hl => ?_)
  refine lv_iload hx hb dX4_store_8 (lv_at hl 0 rfl) ?_
  refine lv_if_lt (tgt := 26) hx hb dX4_store_10 (by decide) (fun c_10 => ?_) (fun c_10 => ?_)
  · refine lv_aload_n hx hb dX4_store_26 rfl (lv_at hl 1 rfl) ?_
    refine lv_lload_n hx hb dX4_store_27 rfl (lv_at hl 2 rfl) ?_
    refine lv_iload_n hx hb dX4_store_28 rfl (lv_at hl 3 rfl) ?_
    have hPc := hP.sub (ws' := [(tH, .inr (4, [.ref tS, .ref tW, .int (nI n)])), (tS, .inl (cI, n, .inl vT.1)), (tW, .inl (cJ, (n + 1), .inr (.inl vT.2)))]) [0, 1, 2] rfl
    have hDc := hD.sub (ws' := [(tH, .inr (4, [.ref tS, .ref tW, .int (nI n)])), (tS, .inl (cI, n, .inl vT.1)), (tW, .inl (cJ, (n + 1), .inr (.inl vT.2)))]) [0, 1, 2] (by decide) rfl
    have hFc := va_free (wc := [(tH, .inr (4, [.ref tS, .ref tW, .int (nI n)])), (tS, .inl (cI, n, .inl vT.1)), (tW, .inl (cJ, (n + 1), .inr (.inl vT.2)))]) hD hS hA [0, 1, 2] rfl
    refine va_calli (va_runV (As := [.long p1, .int p2]) (rest := []) ⟨hx, hb, hml, hown, hw⟩ (k_X4_wideAt l dC dI cI cJ cB cZ tH tS tW H.size n vT p1 p2) (cwV 2 hw (gV w_313 w_315 w_s4 w_2 w_316) rfl rfl rfl (by decide +kernel) ⟨Nat.le_of_ble_eq_true rfl, Nat.le_of_ble_eq_true rfl⟩) ⟨fun a U g mk q => by obtain ⟨q0, q1, qP, qK, qD, qN⟩ := q; exact ⟨q0, q1, qP, va_K.moved (u := U) (U := U.calling g mk a) (Vm.Alike.refl U.vm) qK, qD, nw_same (s := U) (U := U.calling g mk a) rfl qN⟩, va_recv hK hPc (ci := 4) (q0 := 0) rfl rfl, fun U hU hW => ⟨rfl, by rw [hU], by rw [hU]; exact hPc, va_K.moved hW.alike hK, hDc.weaken (fun _ _ _ _ => trivial), nw_warm hW hN⟩⟩ rfl rfl hl.1 rfl (lv_room (Nat.le_of_ble_eq_true rfl)) dX4_store_29 ⟨Nat.le_of_ble_eq_true rfl, Nat.le_of_ble_eq_true rfl⟩) hS (fun q _ h => hFc q h) hFc (fun r_29 u t9 H1 locs ht hvm hR hB hz1 hk1 hS => ?_)
    replace hR := Eq.symm hR
    subst hR
    obtain ⟨hP1, hD1⟩ := hB
    rw [ht] at hP1
    obtain ⟨hP, hD⟩ := va_join (wr := []) (w1 := [(tH, .inr (4, [.ref tS, .ref tW, .int (nI n)])), (tS, .inl (cI, n, .inl vT.1)), (tW, .inl (cJ, (n + 1), .inr (.inl vT.2)))]) hP hD [0, 1, 2] [] rfl rfl (by decide) (by decide) hk1 hFc hP1 hD1
    generalize H1 = H at hP hS ⊢
    have hP : va_P (dC, dI) vwCl [(tH, .inr (4, [.ref tS, .ref tW, .int (nI n)])), (tS, .inl (cI, n, .inl vT.1)), (tW, .inl (cJ, (n + 1), .inr (.inl vT.2)))] H := hP
    have hD : va_D A [(tH, .inr (4, [.ref tS, .ref tW, .int (nI n)])), (tS, .inl (cI, n, .inl vT.1)), (tW, .inl (cJ, (n + 1), .inr (.inl vT.2)))] := hD
    refine lv_istore (lv' := [(7, .int (f_X4_wideAt n p1 p2)), (6, .int (f_X4_softAt n p1 p2)), (0, .ref tH), (1, .long p1), (3, .int p2), (4, .long p3)]) hx hb dX4_store_32 hl (by decide) rfl (fun ls hl => ?_)
    refine lv_iload hx hb dX4_store_34 (lv_at hl 0 rfl) ?_
    refine lv_if_ge (tgt := 40) hx hb dX4_store_36 (by decide) (fun c_36 => ?_) (fun c_36 => ?_)
    · refine lv_iload_n hx hb dX4_store_40 rfl (lv_at hl 4 rfl) ?_
      refine lv_bipush (v := 8) hx hb dX4_store_41 (by decide) ?_
      refine lv_icmp_ne (tgt := 58) hx hb dX4_store_43 (by decide) (fun c_43 => ?_) (fun c_43 => ?_)
      · refine lv_lload_n hx hb dX4_store_58 rfl (lv_at hl 3 rfl) ?_
        have hPc := hP.sub (ws' := []) [] rfl
        have hDc := hD.sub (ws' := []) [] (by decide) rfl
        have hFc := va_free (wc := []) hD hS hA [] rfl
        refine va_calli (va_runS (As := [.long p1]) (rest := []) ⟨hx, hb, hml, hown, hw⟩ (k_X4_isUpperHalf l dC dI cI cJ cB cZ H.size p1) (va_cwS 1 hw (gS w_322 w_323 w_2 w_324) rfl rfl rfl (by decide +kernel) ⟨Nat.le_of_ble_eq_true rfl, Nat.le_of_ble_eq_true rfl⟩) ⟨fun a U g mk q => by obtain ⟨q0, q1, qP, qK, qD, qN⟩ := q; exact ⟨q0, q1, qP, va_K.moved (u := U) (U := U.calling g mk a) (Vm.Alike.refl U.vm) qK, qD, nw_same (s := U) (U := U.calling g mk a) rfl qN⟩, fun U hU hW => ⟨rfl, by rw [hU], by rw [hU]; exact hPc, va_K.moved hW.alike hK, hDc.weaken (fun _ _ _ _ => trivial), nw_warm hW hN⟩⟩ rfl rfl hl.1 rfl (lv_room (Nat.le_of_ble_eq_true rfl)) dX4_store_59 ⟨Nat.le_of_ble_eq_true rfl, Nat.le_of_ble_eq_true rfl⟩) hS (fun q _ h => hFc q h) hFc (fun r_59 u t9 H1 locs ht hvm hR hB hz1 hk1 hS => ?_)
        replace hR := Eq.symm hR
        subst hR
        obtain ⟨hP1, hD1⟩ := hB
        rw [ht] at hP1
        obtain ⟨hP, hD⟩ := va_join (wr := [(tH, .inr (4, [.ref tS, .ref tW, .int (nI n)])), (tS, .inl (cI, n, .inl vT.1)), (tW, .inl (cJ, (n + 1), .inr (.inl vT.2)))]) (w1 := []) hP hD [] [0, 1, 2] rfl rfl (by decide) (by decide) hk1 hFc hP1 hD1
        generalize H1 = H at hP hS ⊢
        have hP : va_P (dC, dI) vwCl [(tH, .inr (4, [.ref tS, .ref tW, .int (nI n)])), (tS, .inl (cI, n, .inl vT.1)), (tW, .inl (cJ, (n + 1), .inr (.inl vT.2)))] H := hP
        have hD : va_D A [(tH, .inr (4, [.ref tS, .ref tW, .int (nI n)])), (tS, .inl (cI, n, .inl vT.1)), (tW, .inl (cJ, (n + 1), .inr (.inl vT.2)))] := hD
        refine lv_if_eq (tgt := 92) hx hb dX4_store_62 (by decide) (fun c_62 => ?_) (fun c_62 => ?_)
        · refine lv_aload_n hx hb dX4_store_92 rfl (lv_at hl 2 rfl) ?_
          refine va_get (D := (dC, dI)) (ci := 4) (v := .ref tW) (C := RX4) (T := TX4) (N := 3) hx hb hw inWX4 hown hK hP 0 rfl rfl 1 (by decide) (hw _ w_33) (fun _ h9 => h9) rfl dX4_store_93 ?_
          refine lv_iload hx hb dX4_store_96 (lv_at hl 0 rfl) ?_
          refine lv_aload_n hx hb dX4_store_98 rfl (lv_at hl 2 rfl) ?_
          refine va_get (D := (dC, dI)) (ci := 4) (v := .ref tW) (C := RX4) (T := TX4) (N := 3) hx hb hw inWX4 hown hK hP 0 rfl rfl 1 (by decide) (hw _ w_33) (fun _ h9 => h9) rfl dX4_store_99 ?_
          refine lv_iload hx hb dX4_store_102 (lv_at hl 0 rfl) ?_
          have h_104 : vp_in (f_X4_wideAt n p1 p2) (n + 1) := (in_wideAt hn c_36)
          refine va_lald hx hb hK hP 2 1 rfl rfl h_104 dX4_store_104 ?_
          refine lv_ldc2 (v := (-4294967296)) hx hb hown (hw _ w_382) dX4_store_105 ?_
          refine lv_land hx hb dX4_store_108 ?_
          refine lv_lload hx hb dX4_store_109 (lv_at hl 5 rfl) ?_
          refine lv_ldc2 (v := 4294967295) hx hb hown (hw _ w_326) dX4_store_111 ?_
          refine lv_land hx hb dX4_store_114 ?_
          refine lv_lor hx hb dX4_store_115 ?_
          have h_116 : vp_in (f_X4_wideAt n p1 p2) (n + 1) := (in_wideAt hn c_36)
          refine va_last hx hb hK hP hD hS 2 1 rfl rfl h_116 dX4_store_116 (fun H locs hP hD hS => ?_)
          have hP : va_P (dC, dI) vwCl [(tH, .inr (4, [.ref tS, .ref tW, .int (nI n)])), (tS, .inl (cI, n, .inl vT.1)), (tW, .inl (cJ, (n + 1), .inr (.inl (vp_updL vT.2 (Int32.toNatClampNeg (f_X4_wideAt n p1 p2)) (((vT.2 (Int32.toNatClampNeg (f_X4_wideAt n p1 p2))) &&& (-4294967296)) ||| (p3 &&& 4294967295))))))] H := hP
          have hD : va_D A [(tH, .inr (4, [.ref tS, .ref tW, .int (nI n)])), (tS, .inl (cI, n, .inl vT.1)), (tW, .inl (cJ, (n + 1), .inr (.inl (vp_updL vT.2 (Int32.toNatClampNeg (f_X4_wideAt n p1 p2)) (((vT.2 (Int32.toNatClampNeg (f_X4_wideAt n p1 p2))) &&& (-4294967296)) ||| (p3 &&& 4294967295))))))] := hD
          have hF : (f_X4_store n vT p1 p2 p3) = (vT.1, (vp_updL vT.2 (Int32.toNatClampNeg (f_X4_wideAt n p1 p2)) (((vT.2 (Int32.toNatClampNeg (f_X4_wideAt n p1 p2))) &&& (-4294967296)) ||| (p3 &&& 4294967295)))) := by rw [f_X4_store, if_pos c_10, if_pos c_36, if_neg c_43, if_pos c_62]
          have hP9 := hP.sub (ws' := [(tH, .inr (4, [.ref tS, .ref tW, .int (nI n)])), (tS, .inl (cI, n, .inl vT.1)), (tW, .inl (cJ, (n + 1), .inr (.inl (vp_updL vT.2 (Int32.toNatClampNeg (f_X4_wideAt n p1 p2)) (((vT.2 (Int32.toNatClampNeg (f_X4_wideAt n p1 p2))) &&& (-4294967296)) ||| (p3 &&& 4294967295))))))]) [0, 1, 2] rfl
          have hD9 := hD.sub (ws' := [(tH, .inr (4, [.ref tS, .ref tW, .int (nI n)])), (tS, .inl (cI, n, .inl vT.1)), (tW, .inl (cJ, (n + 1), .inr (.inl (vp_updL vT.2 (Int32.toNatClampNeg (f_X4_wideAt n p1 p2)) (((vT.2 (Int32.toNatClampNeg (f_X4_wideAt n p1 p2))) &&& (-4294967296)) ||| (p3 &&& 4294967295))))))]) [0, 1, 2] (by decide) rfl
          exact W.vret hx hb hr (fun u hu hW => ⟨⟨(), rfl, trivial, by rw [hu, hF]; exact hP9, by rw [hF]; exact hD9⟩, hS.F hu⟩) hS.2.2 dX4_store_117
        · refine lv_aload_n hx hb dX4_store_65 rfl (lv_at hl 2 rfl) ?_
          refine va_get (D := (dC, dI)) (ci := 4) (v := .ref tW) (C := RX4) (T := TX4) (N := 3) hx hb hw inWX4 hown hK hP 0 rfl rfl 1 (by decide) (hw _ w_33) (fun _ h9 => h9) rfl dX4_store_66 ?_
          refine lv_iload hx hb dX4_store_69 (lv_at hl 0 rfl) ?_
          refine lv_lload hx hb dX4_store_71 (lv_at hl 5 rfl) ?_
          refine lv_bipush (v := 32) hx hb dX4_store_73 (by decide) ?_
          refine lv_lshl hx hb dX4_store_75 rfl ?_
          refine lv_aload_n hx hb dX4_store_76 rfl (lv_at hl 2 rfl) ?_
          refine va_get (D := (dC, dI)) (ci := 4) (v := .ref tW) (C := RX4) (T := TX4) (N := 3) hx hb hw inWX4 hown hK hP 0 rfl rfl 1 (by decide) (hw _ w_33) (fun _ h9 => h9) rfl dX4_store_77 ?_
          refine lv_iload hx hb dX4_store_80 (lv_at hl 0 rfl) ?_
          have h_82 : vp_in (f_X4_wideAt n p1 p2) (n + 1) := (in_wideAt hn c_36)
          refine va_lald hx hb hK hP 2 1 rfl rfl h_82 dX4_store_82 ?_
          refine lv_ldc2 (v := 4294967295) hx hb hown (hw _ w_326) dX4_store_83 ?_
          refine lv_land hx hb dX4_store_86 ?_
          refine lv_lor hx hb dX4_store_87 ?_
          have h_88 : vp_in (f_X4_wideAt n p1 p2) (n + 1) := (in_wideAt hn c_36)
          refine va_last hx hb hK hP hD hS 2 1 rfl rfl h_88 dX4_store_88 (fun H locs hP hD hS => ?_)
          have hP : va_P (dC, dI) vwCl [(tH, .inr (4, [.ref tS, .ref tW, .int (nI n)])), (tS, .inl (cI, n, .inl vT.1)), (tW, .inl (cJ, (n + 1), .inr (.inl (vp_updL vT.2 (Int32.toNatClampNeg (f_X4_wideAt n p1 p2)) ((p3 <<< ((Int32.toInt64 32) &&& 63)) ||| ((vT.2 (Int32.toNatClampNeg (f_X4_wideAt n p1 p2))) &&& 4294967295))))))] H := hP
          have hD : va_D A [(tH, .inr (4, [.ref tS, .ref tW, .int (nI n)])), (tS, .inl (cI, n, .inl vT.1)), (tW, .inl (cJ, (n + 1), .inr (.inl (vp_updL vT.2 (Int32.toNatClampNeg (f_X4_wideAt n p1 p2)) ((p3 <<< ((Int32.toInt64 32) &&& 63)) ||| ((vT.2 (Int32.toNatClampNeg (f_X4_wideAt n p1 p2))) &&& 4294967295))))))] := hD
          refine lv_goto (tgt := 117) hx hb dX4_store_89 (by decide) ?_
          have hF : (f_X4_store n vT p1 p2 p3) = (vT.1, (vp_updL vT.2 (Int32.toNatClampNeg (f_X4_wideAt n p1 p2)) ((p3 <<< ((Int32.toInt64 32) &&& 63)) ||| ((vT.2 (Int32.toNatClampNeg (f_X4_wideAt n p1 p2))) &&& 4294967295)))) := by rw [f_X4_store, if_pos c_10, if_pos c_36, if_neg c_43, if_neg c_62]
          have hP9 := hP.sub (ws' := [(tH, .inr (4, [.ref tS, .ref tW, .int (nI n)])), (tS, .inl (cI, n, .inl vT.1)), (tW, .inl (cJ, (n + 1), .inr (.inl (vp_updL vT.2 (Int32.toNatClampNeg (f_X4_wideAt n p1 p2)) ((p3 <<< ((Int32.toInt64 32) &&& 63)) ||| ((vT.2 (Int32.toNatClampNeg (f_X4_wideAt n p1 p2))) &&& 4294967295))))))]) [0, 1, 2] rfl
          have hD9 := hD.sub (ws' := [(tH, .inr (4, [.ref tS, .ref tW, .int (nI n)])), (tS, .inl (cI, n, .inl vT.1)), (tW, .inl (cJ, (n + 1), .inr (.inl (vp_updL vT.2 (Int32.toNatClampNeg (f_X4_wideAt n p1 p2)) ((p3 <<< ((Int32.toInt64 32) &&& 63)) ||| ((vT.2 (Int32.toNatClampNeg (f_X4_wideAt n p1 p2))) &&& 4294967295))))))]) [0, 1, 2] (by decide) rfl
          exact W.vret hx hb hr (fun u hu hW => ⟨⟨(), rfl, trivial, by rw [hu, hF]; exact hP9, by rw [hF]; exact hD9⟩, hS.F hu⟩) hS.2.2 dX4_store_117
      · refine lv_aload_n hx hb dX4_store_46 rfl (lv_at hl 2 rfl) ?_
        refine va_get (D := (dC, dI)) (ci := 4) (v := .ref tW) (C := RX4) (T := TX4) (N := 3) hx hb hw inWX4 hown hK hP 0 rfl rfl 1 (by decide) (hw _ w_33) (fun _ h9 => h9) rfl dX4_store_47 ?_
        refine lv_iload hx hb dX4_store_50 (lv_at hl 0 rfl) ?_
        refine lv_lload hx hb dX4_store_52 (lv_at hl 5 rfl) ?_
        have h_54 : vp_in (f_X4_wideAt n p1 p2) (n + 1) := (in_wideAt hn c_36)
        refine va_last hx hb hK hP hD hS 2 1 rfl rfl h_54 dX4_store_54 (fun H locs hP hD hS => ?_)
        have hP : va_P (dC, dI) vwCl [(tH, .inr (4, [.ref tS, .ref tW, .int (nI n)])), (tS, .inl (cI, n, .inl vT.1)), (tW, .inl (cJ, (n + 1), .inr (.inl (vp_updL vT.2 (Int32.toNatClampNeg (f_X4_wideAt n p1 p2)) p3))))] H := hP
        have hD : va_D A [(tH, .inr (4, [.ref tS, .ref tW, .int (nI n)])), (tS, .inl (cI, n, .inl vT.1)), (tW, .inl (cJ, (n + 1), .inr (.inl (vp_updL vT.2 (Int32.toNatClampNeg (f_X4_wideAt n p1 p2)) p3))))] := hD
        refine lv_goto (tgt := 117) hx hb dX4_store_55 (by decide) ?_
        have hF : (f_X4_store n vT p1 p2 p3) = (vT.1, (vp_updL vT.2 (Int32.toNatClampNeg (f_X4_wideAt n p1 p2)) p3)) := by rw [f_X4_store, if_pos c_10, if_pos c_36, if_pos c_43]
        have hP9 := hP.sub (ws' := [(tH, .inr (4, [.ref tS, .ref tW, .int (nI n)])), (tS, .inl (cI, n, .inl vT.1)), (tW, .inl (cJ, (n + 1), .inr (.inl (vp_updL vT.2 (Int32.toNatClampNeg (f_X4_wideAt n p1 p2)) p3))))]) [0, 1, 2] rfl
        have hD9 := hD.sub (ws' := [(tH, .inr (4, [.ref tS, .ref tW, .int (nI n)])), (tS, .inl (cI, n, .inl vT.1)), (tW, .inl (cJ, (n + 1), .inr (.inl (vp_updL vT.2 (Int32.toNatClampNeg (f_X4_wideAt n p1 p2)) p3))))]) [0, 1, 2] (by decide) rfl
        exact W.vret hx hb hr (fun u hu hW => ⟨⟨(), rfl, trivial, by rw [hu, hF]; exact hP9, by rw [hF]; exact hD9⟩, hS.F hu⟩) hS.2.2 dX4_store_117
    · have hF : (f_X4_store n vT p1 p2 p3) = vT := by rw [f_X4_store, if_pos c_10, if_neg c_36]
      have hP9 := hP.sub (ws' := [(tH, .inr (4, [.ref tS, .ref tW, .int (nI n)])), (tS, .inl (cI, n, .inl vT.1)), (tW, .inl (cJ, (n + 1), .inr (.inl vT.2)))]) [0, 1, 2] rfl
      have hD9 := hD.sub (ws' := [(tH, .inr (4, [.ref tS, .ref tW, .int (nI n)])), (tS, .inl (cI, n, .inl vT.1)), (tW, .inl (cJ, (n + 1), .inr (.inl vT.2)))]) [0, 1, 2] (by decide) rfl
      exact W.vret hx hb hr (fun u hu hW => ⟨⟨(), rfl, trivial, by rw [hu, hF]; exact hP9, by rw [hF]; exact hD9⟩, hS.F hu⟩) hS.2.2 dX4_store_39
  · refine lv_aload_n hx hb dX4_store_13 rfl (lv_at hl 1 rfl) ?_
    refine va_get (D := (dC, dI)) (ci := 4) (v := .ref tS) (C := RX4) (T := TX4) (N := 3) hx hb hw inWX4 hown hK hP 0 rfl rfl 0 (by decide) (hw _ w_32) (fun _ h9 => h9) rfl dX4_store_14 ?_
    refine lv_iload hx hb dX4_store_17 (lv_at hl 0 rfl) ?_
    refine lv_lload hx hb dX4_store_19 (lv_at hl 4 rfl) ?_
    refine lv_lconst (v := 1) hx hb dX4_store_21 (by decide) ?_
    refine lv_land hx hb dX4_store_22 ?_
    refine lv_l2i hx hb dX4_store_23 rfl ?_
    have h_24 : vp_in (f_X4_softAt n p1 p2) n := (in_softAt hn c_10)
    refine va_iast hx hb hK hP hD hS 1 0 rfl rfl h_24 dX4_store_24 (fun H locs hP hD hS => ?_)
    have hP : va_P (dC, dI) vwCl [(tH, .inr (4, [.ref tS, .ref tW, .int (nI n)])), (tS, .inl (cI, n, .inl (upd vT.1 (Int32.toNatClampNeg (f_X4_softAt n p1 p2)) (Int64.toInt32 (p3 &&& 1))))), (tW, .inl (cJ, (n + 1), .inr (.inl vT.2)))] H := hP
    have hD : va_D A [(tH, .inr (4, [.ref tS, .ref tW, .int (nI n)])), (tS, .inl (cI, n, .inl (upd vT.1 (Int32.toNatClampNeg (f_X4_softAt n p1 p2)) (Int64.toInt32 (p3 &&& 1))))), (tW, .inl (cJ, (n + 1), .inr (.inl vT.2)))] := hD
    have hF : (f_X4_store n vT p1 p2 p3) = ((upd vT.1 (Int32.toNatClampNeg (f_X4_softAt n p1 p2)) (Int64.toInt32 (p3 &&& 1))), vT.2) := by rw [f_X4_store, if_neg c_10]
    have hP9 := hP.sub (ws' := [(tH, .inr (4, [.ref tS, .ref tW, .int (nI n)])), (tS, .inl (cI, n, .inl (upd vT.1 (Int32.toNatClampNeg (f_X4_softAt n p1 p2)) (Int64.toInt32 (p3 &&& 1))))), (tW, .inl (cJ, (n + 1), .inr (.inl vT.2)))]) [0, 1, 2] rfl
    have hD9 := hD.sub (ws' := [(tH, .inr (4, [.ref tS, .ref tW, .int (nI n)])), (tS, .inl (cI, n, .inl (upd vT.1 (Int32.toNatClampNeg (f_X4_softAt n p1 p2)) (Int64.toInt32 (p3 &&& 1))))), (tW, .inl (cJ, (n + 1), .inr (.inl vT.2)))]) [0, 1, 2] (by decide) rfl
    exact W.vret hx hb hr (fun u hu hW => ⟨⟨(), rfl, trivial, by rw [hu, hF]; exact hP9, by rw [hF]; exact hD9⟩, hS.F hu⟩) hS.2.2 dX4_store_25
def f_X4_advance (n : Nat) (vT : TS) (p1 : Int64) : TS :=
  (vT.1, (vp_updL vT.2 (Int32.toNatClampNeg (nI n)) ((vT.2 (Int32.toNatClampNeg (nI n))) + p1)))
set_option maxHeartbeats 4000000 in
set_option maxRecDepth 100000 in
theorem k_X4_advance (l : Launch) (dC : Nat → ClassId) (dI : Nat → Nat → Nat) (cI cJ cB cZ : ClassId) (tH tS tW : Nat) (sz : Nat) (n : Nat) (vT : TS) (p1 : Int64) (hn : n ≤ 4) : Met l yX4_advance wsX4_advance ({ frames := 0, cells := 0, slots := 0, locals := 0 }) (va_Pc [.ref tH, .long p1] (fun U => U.heap.size = sz ∧ va_P (dC, dI) vwCl [(tH, .inr (4, [.ref tS, .ref tW, .int (nI n)])), (tS, .inl (cI, n, .inl vT.1)), (tW, .inl (cJ, (n + 1), .inr (.inl vT.2)))] U.heap ∧ va_K (dC, dI) vwCl [(cI, .int), (cJ, .long), (cB, .byte), (cZ, .boolean)] U ∧ va_D (fun _ => True) [(tH, .inr (4, [.ref tS, .ref tW, .int (nI n)])), (tS, .inl (cI, n, .inl vT.1)), (tW, .inl (cJ, (n + 1), .inr (.inl vT.2)))] ∧ nw_ U)) (va_Qv (fun (_ : Unit) => True) (fun (_ : Unit) (w : State) => va_P (dC, dI) vwCl [(tH, .inr (4, [.ref tS, .ref tW, .int (nI n)])), (tS, .inl (cI, n, .inl (f_X4_advance n vT p1).1)), (tW, .inl (cJ, (n + 1), .inr (.inl (f_X4_advance n vT p1).2)))] w.heap ∧ va_D (va_A [(tH, .inr (4, [.ref tS, .ref tW, .int (nI n)])), (tS, .inl (cI, n, .inl vT.1)), (tW, .inl (cJ, (n + 1), .inr (.inl vT.2)))] sz) [(tH, .inr (4, [.ref tS, .ref tW, .int (nI n)])), (tS, .inl (cI, n, .inl (f_X4_advance n vT p1).1)), (tW, .inl (cJ, (n + 1), .inr (.inl (f_X4_advance n vT p1).2)))]) (va_A [(tH, .inr (4, [.ref tS, .ref tW, .int (nI n)])), (tS, .inl (cI, n, .inl vT.1)), (tW, .inl (cJ, (n + 1), .inr (.inl vT.2)))] sz)) 0 0 (va_A [(tH, .inr (4, [.ref tS, .ref tW, .int (nI n)])), (tS, .inl (cI, n, .inl vT.1)), (tW, .inl (cJ, (n + 1), .inr (.inl vT.2)))] sz) := by
  refine Met.ofW (cc := prog_6_method_4_code) (maxL := 3) (ret := none) (by decide) rfl ?_
  intro p e s m args below meth c s₁ B hml hv
  obtain ⟨rfl, hsz, hP, hK, hD0, hN⟩ := hv
  have hx := B.exec
  have hb := B.bytes
  have hr := B.returns
  have hw := hw_of (atoms_spec (ws := wsX4_advance) B.pre)
  have hown : s.vm.findClass RX4 = some m.cls := findClass_of_methodNamed B.named
  have hlocks := B.notSynchronized
  subst hsz
  have hD := hD0.self (sz := s.heap.size)
  generalize hAe : va_A [(tH, .inr (4, [.ref tS, .ref tW, .int (nI n)])), (tS, .inl (cI, n, .inl vT.1)), (tW, .inl (cJ, (n + 1), .inr (.inl vT.2)))] s.heap.size = A at hD ⊢
  have hA : ∀ q : Nat, s.heap.size ≤ q → A q := fun q h => by rw [← hAe]; exact Or.inr h
  have hS : va_S A s.heap s.heap [] := va_S.rf
  have hP : va_P (dC, dI) vwCl [(tH, .inr (4, [.ref tS, .ref tW, .int (nI n)])), (tS, .inl (cI, n, .inl vT.1)), (tW, .inl (cJ, (n + 1), .inr (.inl vT.2)))] s.heap := hP
  have hl := lv_entry ([.ref tH, .long p1]) (n := 3) (Nat.le_of_ble_eq_true rfl)
  rw [lg_entry_eq]
  generalize (lg_sl ([.ref tH, .long p1]) ++ List.replicate (3 - (lg_sl ([.ref tH, .long p1])).length) Slot.unset).toArray = ls at hl ⊢
  have hl : lv_has ls 3 [(0, .ref tH), (1, .long p1)] := hl
  refine lv_aload_n hx hb dX4_advance_0 rfl (lv_at hl 0 rfl) ?_
  refine va_get (D := (dC, dI)) (ci := 4) (v := .ref tW) (C := RX4) (T := TX4) (N := 3) hx hb hw inWX4 hown hK hP 0 rfl rfl 1 (by decide) (hw _ w_33) (fun _ h9 => h9) rfl dX4_advance_1 ?_
  refine lv_aload_n hx hb dX4_advance_4 rfl (lv_at hl 0 rfl) ?_
  refine va_get (D := (dC, dI)) (ci := 4) (v := .int (nI n)) (C := RX4) (T := TX4) (N := 3) hx hb hw inWX4 hown hK hP 0 rfl rfl 2 (by decide) (hw _ w_34) (fun _ h9 => h9) rfl dX4_advance_5 ?_
  refine lv_dup2_11 hx hb dX4_advance_8 rfl rfl ?_
  have h_9 : vp_in (nI n) (n + 1) := (vp_in_nI (by omega) (by omega))
  refine va_lald hx hb hK hP 2 1 rfl rfl h_9 dX4_advance_9 ?_
  refine lv_lload_n hx hb dX4_advance_10 rfl (lv_at hl 1 rfl) ?_
  refine lv_ladd hx hb dX4_advance_11 ?_
  have h_12 : vp_in (nI n) (n + 1) := (vp_in_nI (by omega) (by omega))
  refine va_last hx hb hK hP hD hS 2 1 rfl rfl h_12 dX4_advance_12 (fun H locs hP hD hS => ?_)
  have hP : va_P (dC, dI) vwCl [(tH, .inr (4, [.ref tS, .ref tW, .int (nI n)])), (tS, .inl (cI, n, .inl vT.1)), (tW, .inl (cJ, (n + 1), .inr (.inl (vp_updL vT.2 (Int32.toNatClampNeg (nI n)) ((vT.2 (Int32.toNatClampNeg (nI n))) + p1)))))] H := hP
  have hD : va_D A [(tH, .inr (4, [.ref tS, .ref tW, .int (nI n)])), (tS, .inl (cI, n, .inl vT.1)), (tW, .inl (cJ, (n + 1), .inr (.inl (vp_updL vT.2 (Int32.toNatClampNeg (nI n)) ((vT.2 (Int32.toNatClampNeg (nI n))) + p1)))))] := hD
  have hF : (f_X4_advance n vT p1) = (vT.1, (vp_updL vT.2 (Int32.toNatClampNeg (nI n)) ((vT.2 (Int32.toNatClampNeg (nI n))) + p1))) := by rfl
  have hP9 := hP.sub (ws' := [(tH, .inr (4, [.ref tS, .ref tW, .int (nI n)])), (tS, .inl (cI, n, .inl vT.1)), (tW, .inl (cJ, (n + 1), .inr (.inl (vp_updL vT.2 (Int32.toNatClampNeg (nI n)) ((vT.2 (Int32.toNatClampNeg (nI n))) + p1)))))]) [0, 1, 2] rfl
  have hD9 := hD.sub (ws' := [(tH, .inr (4, [.ref tS, .ref tW, .int (nI n)])), (tS, .inl (cI, n, .inl vT.1)), (tW, .inl (cJ, (n + 1), .inr (.inl (vp_updL vT.2 (Int32.toNatClampNeg (nI n)) ((vT.2 (Int32.toNatClampNeg (nI n))) + p1)))))]) [0, 1, 2] (by decide) rfl
  exact W.vret hx hb hr (fun u hu hW => ⟨⟨(), rfl, trivial, by rw [hu, hF]; exact hP9, by rw [hF]; exact hD9⟩, hS.F hu⟩) hS.2.2 dX4_advance_13
def f_X4_isSoft (n : Nat) (vT : TS) (p1 : Int32) : Int32 :=
  if p1 < 0 then 0
  else if (nI n) ≤ p1 then 0
    else if (vT.1 (Int32.toNatClampNeg p1)) = 0 then 0
      else 1
set_option maxHeartbeats 4000000 in
set_option maxRecDepth 100000 in
theorem k_X4_isSoft (l : Launch) (dC : Nat → ClassId) (dI : Nat → Nat → Nat) (cI cJ cB cZ : ClassId) (tH tS tW : Nat) (sz : Nat) (n : Nat) (vT : TS) (p1 : Int32) (hn : n ≤ 4) : Met l yX4_isSoft wsX4_isSoft ({ frames := 0, cells := 0, slots := 0, locals := 0 }) (va_Pc [.ref tH, .int p1] (fun U => U.heap.size = sz ∧ va_P (dC, dI) vwCl [(tH, .inr (4, [.ref tS, .ref tW, .int (nI n)])), (tS, .inl (cI, n, .inl vT.1)), (tW, .inl (cJ, (n + 1), .inr (.inl vT.2)))] U.heap ∧ va_K (dC, dI) vwCl [(cI, .int), (cJ, .long), (cB, .byte), (cZ, .boolean)] U ∧ va_D (fun _ => True) [(tH, .inr (4, [.ref tS, .ref tW, .int (nI n)])), (tS, .inl (cI, n, .inl vT.1)), (tW, .inl (cJ, (n + 1), .inr (.inl vT.2)))] ∧ nw_ U)) (va_Qi (fun (r : Int32) (_ : Unit) => r = (f_X4_isSoft n vT p1)) (fun (_ : Unit) (w : State) => va_P (dC, dI) vwCl [(tH, .inr (4, [.ref tS, .ref tW, .int (nI n)])), (tS, .inl (cI, n, .inl vT.1)), (tW, .inl (cJ, (n + 1), .inr (.inl vT.2)))] w.heap ∧ va_D (va_A [(tH, .inr (4, [.ref tS, .ref tW, .int (nI n)])), (tS, .inl (cI, n, .inl vT.1)), (tW, .inl (cJ, (n + 1), .inr (.inl vT.2)))] sz) [(tH, .inr (4, [.ref tS, .ref tW, .int (nI n)])), (tS, .inl (cI, n, .inl vT.1)), (tW, .inl (cJ, (n + 1), .inr (.inl vT.2)))]) (va_A [(tH, .inr (4, [.ref tS, .ref tW, .int (nI n)])), (tS, .inl (cI, n, .inl vT.1)), (tW, .inl (cJ, (n + 1), .inr (.inl vT.2)))] sz)) 0 0 (va_A [(tH, .inr (4, [.ref tS, .ref tW, .int (nI n)])), (tS, .inl (cI, n, .inl vT.1)), (tW, .inl (cJ, (n + 1), .inr (.inl vT.2)))] sz) := by
  refine Met.ofW (cc := prog_6_method_5_code) (maxL := 2) (ret := (some .boolean)) (by decide) rfl ?_
  intro p e s m args below meth c s₁ B hml hv
  obtain ⟨rfl, hsz, hP, hK, hD0, hN⟩ := hv
  have hx := B.exec
  have hb := B.bytes
  have hr := B.returns
  have hw := hw_of (atoms_spec (ws := wsX4_isSoft) B.pre)
  have hown : s.vm.findClass RX4 = some m.cls := findClass_of_methodNamed B.named
  have hlocks := B.notSynchronized
  subst hsz
  have hD := hD0.self (sz := s.heap.size)
  generalize hAe : va_A [(tH, .inr (4, [.ref tS, .ref tW, .int (nI n)])), (tS, .inl (cI, n, .inl vT.1)), (tW, .inl (cJ, (n + 1), .inr (.inl vT.2)))] s.heap.size = A at hD ⊢
  have hA : ∀ q : Nat, s.heap.size ≤ q → A q := fun q h => by rw [← hAe]; exact Or.inr h
  have hS : va_S A s.heap s.heap [] := va_S.rf
  have hP : va_P (dC, dI) vwCl [(tH, .inr (4, [.ref tS, .ref tW, .int (nI n)])), (tS, .inl (cI, n, .inl vT.1)), (tW, .inl (cJ, (n + 1), .inr (.inl vT.2)))] s.heap := hP
  have hl := lv_entry ([.ref tH, .int p1]) (n := 2) (Nat.le_of_ble_eq_true rfl)
  rw [lg_entry_eq]
  generalize (lg_sl ([.ref tH, .int p1]) ++ List.replicate (2 - (lg_sl ([.ref tH, .int p1])).length) Slot.unset).toArray = ls at hl ⊢
  have hl : lv_has ls 2 [(0, .ref tH), (1, .int p1)] := hl
  refine lv_iload_n hx hb dX4_isSoft_0 rfl (lv_at hl 1 rfl) ?_
  refine lv_if_lt (tgt := 26) hx hb dX4_isSoft_1 (by decide) (fun c_1 => ?_) (fun c_1 => ?_)
  · refine lv_iconst (v := 0) hx hb dX4_isSoft_26 (by decide) ?_
    have hF : (f_X4_isSoft n vT p1) = 0 := by rw [f_X4_isSoft, if_pos c_1]
    have hP9 := hP.sub (ws' := [(tH, .inr (4, [.ref tS, .ref tW, .int (nI n)])), (tS, .inl (cI, n, .inl vT.1)), (tW, .inl (cJ, (n + 1), .inr (.inl vT.2)))]) [0, 1, 2] rfl
    have hD9 := hD.sub (ws' := [(tH, .inr (4, [.ref tS, .ref tW, .int (nI n)])), (tS, .inl (cI, n, .inl vT.1)), (tW, .inl (cJ, (n + 1), .inr (.inl vT.2)))]) [0, 1, 2] (by decide) rfl
    exact W.zret (v := 0) hx hb hr rfl (fun u hu hW => ⟨⟨0, (), rfl, hF.symm, by rw [hu]; exact hP9, hD9⟩, hS.F hu⟩) hS.2.2 dX4_isSoft_27
  · refine lv_iload_n hx hb dX4_isSoft_4 rfl (lv_at hl 1 rfl) ?_
    refine lv_aload_n hx hb dX4_isSoft_5 rfl (lv_at hl 0 rfl) ?_
    refine va_get (D := (dC, dI)) (ci := 4) (v := .ref tS) (C := RX4) (T := TX4) (N := 3) hx hb hw inWX4 hown hK hP 0 rfl rfl 0 (by decide) (hw _ w_32) (fun _ h9 => h9) rfl dX4_isSoft_6 ?_
    refine va_alen hx hb hK hP 1 0 rfl rfl (v := (nI n)) rfl dX4_isSoft_9 ?_
    refine lv_icmp_ge (tgt := 26) hx hb dX4_isSoft_10 (by decide) (fun c_10 => ?_) (fun c_10 => ?_)
    · refine lv_iconst (v := 0) hx hb dX4_isSoft_26 (by decide) ?_
      have hF : (f_X4_isSoft n vT p1) = 0 := by rw [f_X4_isSoft, if_neg c_1, if_pos c_10]
      have hP9 := hP.sub (ws' := [(tH, .inr (4, [.ref tS, .ref tW, .int (nI n)])), (tS, .inl (cI, n, .inl vT.1)), (tW, .inl (cJ, (n + 1), .inr (.inl vT.2)))]) [0, 1, 2] rfl
      have hD9 := hD.sub (ws' := [(tH, .inr (4, [.ref tS, .ref tW, .int (nI n)])), (tS, .inl (cI, n, .inl vT.1)), (tW, .inl (cJ, (n + 1), .inr (.inl vT.2)))]) [0, 1, 2] (by decide) rfl
      exact W.zret (v := 0) hx hb hr rfl (fun u hu hW => ⟨⟨0, (), rfl, hF.symm, by rw [hu]; exact hP9, hD9⟩, hS.F hu⟩) hS.2.2 dX4_isSoft_27
    · refine lv_aload_n hx hb dX4_isSoft_13 rfl (lv_at hl 0 rfl) ?_
      refine va_get (D := (dC, dI)) (ci := 4) (v := .ref tS) (C := RX4) (T := TX4) (N := 3) hx hb hw inWX4 hown hK hP 0 rfl rfl 0 (by decide) (hw _ w_32) (fun _ h9 => h9) rfl dX4_isSoft_14 ?_
      refine lv_iload_n hx hb dX4_isSoft_17 rfl (lv_at hl 1 rfl) ?_
      have h_18 : vp_in p1 n := (in_lt hn c_1 c_10)
      refine va_iald hx hb hK hP 1 0 rfl rfl h_18 dX4_isSoft_18 ?_
      refine lv_if_eq (tgt := 26) hx hb dX4_isSoft_19 (by decide) (fun c_19 => ?_) (fun c_19 => ?_)
      · refine lv_iconst (v := 0) hx hb dX4_isSoft_26 (by decide) ?_
        have hF : (f_X4_isSoft n vT p1) = 0 := by rw [f_X4_isSoft, if_neg c_1, if_neg c_10, if_pos c_19]
        have hP9 := hP.sub (ws' := [(tH, .inr (4, [.ref tS, .ref tW, .int (nI n)])), (tS, .inl (cI, n, .inl vT.1)), (tW, .inl (cJ, (n + 1), .inr (.inl vT.2)))]) [0, 1, 2] rfl
        have hD9 := hD.sub (ws' := [(tH, .inr (4, [.ref tS, .ref tW, .int (nI n)])), (tS, .inl (cI, n, .inl vT.1)), (tW, .inl (cJ, (n + 1), .inr (.inl vT.2)))]) [0, 1, 2] (by decide) rfl
        exact W.zret (v := 0) hx hb hr rfl (fun u hu hW => ⟨⟨0, (), rfl, hF.symm, by rw [hu]; exact hP9, hD9⟩, hS.F hu⟩) hS.2.2 dX4_isSoft_27
      · refine lv_iconst (v := 1) hx hb dX4_isSoft_22 (by decide) ?_
        refine lv_goto (tgt := 27) hx hb dX4_isSoft_23 (by decide) ?_
        have hF : (f_X4_isSoft n vT p1) = 1 := by rw [f_X4_isSoft, if_neg c_1, if_neg c_10, if_neg c_19]
        have hP9 := hP.sub (ws' := [(tH, .inr (4, [.ref tS, .ref tW, .int (nI n)])), (tS, .inl (cI, n, .inl vT.1)), (tW, .inl (cJ, (n + 1), .inr (.inl vT.2)))]) [0, 1, 2] rfl
        have hD9 := hD.sub (ws' := [(tH, .inr (4, [.ref tS, .ref tW, .int (nI n)])), (tS, .inl (cI, n, .inl vT.1)), (tW, .inl (cJ, (n + 1), .inr (.inl vT.2)))]) [0, 1, 2] (by decide) rfl
        exact W.zret (v := 1) hx hb hr rfl (fun u hu hW => ⟨⟨1, (), rfl, hF.symm, by rw [hu]; exact hP9, hD9⟩, hS.F hu⟩) hS.2.2 dX4_isSoft_27
def f_X4_isDue (n : Nat) (vT : TS) (p1 : Int32) : Int32 :=
  if p1 < 0 then 0
  else if (nI n) ≤ p1 then 0
    else if (f_J13_compareUnsigned (vT.2 (Int32.toNatClampNeg (nI n))) (vT.2 (Int32.toNatClampNeg p1))) < 0 then 0
      else 1
set_option maxHeartbeats 4000000 in
set_option maxRecDepth 100000 in
theorem k_X4_isDue (l : Launch) (dC : Nat → ClassId) (dI : Nat → Nat → Nat) (cI cJ cB cZ : ClassId) (tH tS tW : Nat) (sz : Nat) (n : Nat) (vT : TS) (p1 : Int32) (hn : n ≤ 4) : Met l yX4_isDue wsX4_isDue ({ frames := 2, cells := 0, slots := 0, locals := 46 }) (va_Pc [.ref tH, .int p1] (fun U => U.heap.size = sz ∧ va_P (dC, dI) vwCl [(tH, .inr (4, [.ref tS, .ref tW, .int (nI n)])), (tS, .inl (cI, n, .inl vT.1)), (tW, .inl (cJ, (n + 1), .inr (.inl vT.2)))] U.heap ∧ va_K (dC, dI) vwCl [(cI, .int), (cJ, .long), (cB, .byte), (cZ, .boolean)] U ∧ va_D (fun _ => True) [(tH, .inr (4, [.ref tS, .ref tW, .int (nI n)])), (tS, .inl (cI, n, .inl vT.1)), (tW, .inl (cJ, (n + 1), .inr (.inl vT.2)))] ∧ nw_ U)) (va_Qi (fun (r : Int32) (_ : Unit) => r = (f_X4_isDue n vT p1)) (fun (_ : Unit) (w : State) => va_P (dC, dI) vwCl [(tH, .inr (4, [.ref tS, .ref tW, .int (nI n)])), (tS, .inl (cI, n, .inl vT.1)), (tW, .inl (cJ, (n + 1), .inr (.inl vT.2)))] w.heap ∧ va_D (va_A [(tH, .inr (4, [.ref tS, .ref tW, .int (nI n)])), (tS, .inl (cI, n, .inl vT.1)), (tW, .inl (cJ, (n + 1), .inr (.inl vT.2)))] sz) [(tH, .inr (4, [.ref tS, .ref tW, .int (nI n)])), (tS, .inl (cI, n, .inl vT.1)), (tW, .inl (cJ, (n + 1), .inr (.inl vT.2)))]) (va_A [(tH, .inr (4, [.ref tS, .ref tW, .int (nI n)])), (tS, .inl (cI, n, .inl vT.1)), (tW, .inl (cJ, (n + 1), .inr (.inl vT.2)))] sz)) 0 0 (va_A [(tH, .inr (4, [.ref tS, .ref tW, .int (nI n)])), (tS, .inl (cI, n, .inl vT.1)), (tW, .inl (cJ, (n + 1), .inr (.inl vT.2)))] sz) := by
  refine Met.ofW (cc := prog_6_method_6_code) (maxL := 2) (ret := (some .boolean)) (by decide) rfl ?_
  intro p e s m args below meth c s₁ B hml hv
  obtain ⟨rfl, hsz, hP, hK, hD0, hN⟩ := hv
  have hx := B.exec
  have hb := B.bytes
  have hr := B.returns
  have hw := hw_of (atoms_spec (ws := wsX4_isDue) B.pre)
  have hown : s.vm.findClass RX4 = some m.cls := findClass_of_methodNamed B.named
  have hlocks := B.notSynchronized
  subst hsz
  have hD := hD0.self (sz := s.heap.size)
  generalize hAe : va_A [(tH, .inr (4, [.ref tS, .ref tW, .int (nI n)])), (tS, .inl (cI, n, .inl vT.1)), (tW, .inl (cJ, (n + 1), .inr (.inl vT.2)))] s.heap.size = A at hD ⊢
  have hA : ∀ q : Nat, s.heap.size ≤ q → A q := fun q h => by rw [← hAe]; exact Or.inr h
  have hS : va_S A s.heap s.heap [] := va_S.rf
  have hP : va_P (dC, dI) vwCl [(tH, .inr (4, [.ref tS, .ref tW, .int (nI n)])), (tS, .inl (cI, n, .inl vT.1)), (tW, .inl (cJ, (n + 1), .inr (.inl vT.2)))] s.heap := hP
  have hl := lv_entry ([.ref tH, .int p1]) (n := 2) (Nat.le_of_ble_eq_true rfl)
  rw [lg_entry_eq]
  generalize (lg_sl ([.ref tH, .int p1]) ++ List.replicate (2 - (lg_sl ([.ref tH, .int p1])).length) Slot.unset).toArray = ls at hl ⊢
  have hl : lv_has ls 2 [(0, .ref tH), (1, .int p1)] := hl
  refine lv_iload_n hx hb dX4_isDue_0 rfl (lv_at hl 1 rfl) ?_
  refine lv_if_lt (tgt := 37) hx hb dX4_isDue_1 (by decide) (fun c_1 => ?_) (fun c_1 => ?_)
  · refine lv_iconst (v := 0) hx hb dX4_isDue_37 (by decide) ?_
    have hF : (f_X4_isDue n vT p1) = 0 := by rw [f_X4_isDue, if_pos c_1]
    have hP9 := hP.sub (ws' := [(tH, .inr (4, [.ref tS, .ref tW, .int (nI n)])), (tS, .inl (cI, n, .inl vT.1)), (tW, .inl (cJ, (n + 1), .inr (.inl vT.2)))]) [0, 1, 2] rfl
    have hD9 := hD.sub (ws' := [(tH, .inr (4, [.ref tS, .ref tW, .int (nI n)])), (tS, .inl (cI, n, .inl vT.1)), (tW, .inl (cJ, (n + 1), .inr (.inl vT.2)))]) [0, 1, 2] (by decide) rfl
    exact W.zret (v := 0) hx hb hr rfl (fun u hu hW => ⟨⟨0, (), rfl, hF.symm, by rw [hu]; exact hP9, hD9⟩, hS.F hu⟩) hS.2.2 dX4_isDue_38
  · refine lv_iload_n hx hb dX4_isDue_4 rfl (lv_at hl 1 rfl) ?_
    refine lv_aload_n hx hb dX4_isDue_5 rfl (lv_at hl 0 rfl) ?_
    refine va_get (D := (dC, dI)) (ci := 4) (v := .int (nI n)) (C := RX4) (T := TX4) (N := 3) hx hb hw inWX4 hown hK hP 0 rfl rfl 2 (by decide) (hw _ w_34) (fun _ h9 => h9) rfl dX4_isDue_6 ?_
    refine lv_icmp_ge (tgt := 37) hx hb dX4_isDue_9 (by decide) (fun c_9 => ?_) (fun c_9 => ?_)
    · refine lv_iconst (v := 0) hx hb dX4_isDue_37 (by decide) ?_
      have hF : (f_X4_isDue n vT p1) = 0 := by rw [f_X4_isDue, if_neg c_1, if_pos c_9]
      have hP9 := hP.sub (ws' := [(tH, .inr (4, [.ref tS, .ref tW, .int (nI n)])), (tS, .inl (cI, n, .inl vT.1)), (tW, .inl (cJ, (n + 1), .inr (.inl vT.2)))]) [0, 1, 2] rfl
      have hD9 := hD.sub (ws' := [(tH, .inr (4, [.ref tS, .ref tW, .int (nI n)])), (tS, .inl (cI, n, .inl vT.1)), (tW, .inl (cJ, (n + 1), .inr (.inl vT.2)))]) [0, 1, 2] (by decide) rfl
      exact W.zret (v := 0) hx hb hr rfl (fun u hu hW => ⟨⟨0, (), rfl, hF.symm, by rw [hu]; exact hP9, hD9⟩, hS.F hu⟩) hS.2.2 dX4_isDue_38
    · refine lv_aload_n hx hb dX4_isDue_12 rfl (lv_at hl 0 rfl) ?_
      refine va_get (D := (dC, dI)) (ci := 4) (v := .ref tW) (C := RX4) (T := TX4) (N := 3) hx hb hw inWX4 hown hK hP 0 rfl rfl 1 (by decide) (hw _ w_33) (fun _ h9 => h9) rfl dX4_isDue_13 ?_
      refine lv_aload_n hx hb dX4_isDue_16 rfl (lv_at hl 0 rfl) ?_
      refine va_get (D := (dC, dI)) (ci := 4) (v := .int (nI n)) (C := RX4) (T := TX4) (N := 3) hx hb hw inWX4 hown hK hP 0 rfl rfl 2 (by decide) (hw _ w_34) (fun _ h9 => h9) rfl dX4_isDue_17 ?_
      have h_20 : vp_in (nI n) (n + 1) := (vp_in_nI (by omega) (by omega))
      refine va_lald hx hb hK hP 2 1 rfl rfl h_20 dX4_isDue_20 ?_
      refine lv_aload_n hx hb dX4_isDue_21 rfl (lv_at hl 0 rfl) ?_
      refine va_get (D := (dC, dI)) (ci := 4) (v := .ref tW) (C := RX4) (T := TX4) (N := 3) hx hb hw inWX4 hown hK hP 0 rfl rfl 1 (by decide) (hw _ w_33) (fun _ h9 => h9) rfl dX4_isDue_22 ?_
      refine lv_iload_n hx hb dX4_isDue_25 rfl (lv_at hl 1 rfl) ?_
      have h_26 : vp_in p1 (n + 1) := (in_lt1 hn c_1 c_9)
      refine va_lald hx hb hK hP 2 1 rfl rfl h_26 dX4_isDue_26 ?_
      have hPc := hP.sub (ws' := []) [] rfl
      have hDc := hD.sub (ws' := []) [] (by decide) rfl
      have hFc := va_free (wc := []) hD hS hA [] rfl
      refine va_calli (va_runS (As := [.long (vT.2 (Int32.toNatClampNeg (nI n))), .long (vT.2 (Int32.toNatClampNeg p1))]) (rest := []) ⟨hx, hb, hml, hown, hw⟩ (k_J13_compareUnsigned l dC dI cI cJ cB cZ s.heap.size (vT.2 (Int32.toNatClampNeg (nI n))) (vT.2 (Int32.toNatClampNeg p1))) (va_cwS 2 hw (gS w_437 w_438 w_13 w_439) rfl rfl rfl (by decide +kernel) ⟨Nat.le_of_ble_eq_true rfl, Nat.le_of_ble_eq_true rfl⟩) ⟨fun a U g mk q => by obtain ⟨q0, q1, qP, qK, qD, qN⟩ := q; exact ⟨q0, q1, qP, va_K.moved (u := U) (U := U.calling g mk a) (Vm.Alike.refl U.vm) qK, qD, nw_same (s := U) (U := U.calling g mk a) rfl qN⟩, fun U hU hW => ⟨rfl, by rw [hU], by rw [hU]; exact hPc, va_K.moved hW.alike hK, hDc.weaken (fun _ _ _ _ => trivial), nw_warm hW hN⟩⟩ rfl rfl hl.1 rfl (lv_room (Nat.le_of_ble_eq_true rfl)) dX4_isDue_27 ⟨Nat.le_of_ble_eq_true rfl, Nat.le_of_ble_eq_true rfl⟩) hS (fun q _ h => hFc q h) hFc (fun r_27 u t9 H1 locs ht hvm hR hB hz1 hk1 hS => ?_)
      replace hR := Eq.symm hR
      subst hR
      obtain ⟨hP1, hD1⟩ := hB
      rw [ht] at hP1
      obtain ⟨hP, hD⟩ := va_join (wr := [(tH, .inr (4, [.ref tS, .ref tW, .int (nI n)])), (tS, .inl (cI, n, .inl vT.1)), (tW, .inl (cJ, (n + 1), .inr (.inl vT.2)))]) (w1 := []) hP hD [] [0, 1, 2] rfl rfl (by decide) (by decide) hk1 hFc hP1 hD1
      generalize H1 = H at hP hS ⊢
      have hP : va_P (dC, dI) vwCl [(tH, .inr (4, [.ref tS, .ref tW, .int (nI n)])), (tS, .inl (cI, n, .inl vT.1)), (tW, .inl (cJ, (n + 1), .inr (.inl vT.2)))] H := hP
      have hD : va_D A [(tH, .inr (4, [.ref tS, .ref tW, .int (nI n)])), (tS, .inl (cI, n, .inl vT.1)), (tW, .inl (cJ, (n + 1), .inr (.inl vT.2)))] := hD
      refine lv_if_lt (tgt := 37) hx hb dX4_isDue_30 (by decide) (fun c_30 => ?_) (fun c_30 => ?_)
      · refine lv_iconst (v := 0) hx hb dX4_isDue_37 (by decide) ?_
        have hF : (f_X4_isDue n vT p1) = 0 := by rw [f_X4_isDue, if_neg c_1, if_neg c_9, if_pos c_30]
        have hP9 := hP.sub (ws' := [(tH, .inr (4, [.ref tS, .ref tW, .int (nI n)])), (tS, .inl (cI, n, .inl vT.1)), (tW, .inl (cJ, (n + 1), .inr (.inl vT.2)))]) [0, 1, 2] rfl
        have hD9 := hD.sub (ws' := [(tH, .inr (4, [.ref tS, .ref tW, .int (nI n)])), (tS, .inl (cI, n, .inl vT.1)), (tW, .inl (cJ, (n + 1), .inr (.inl vT.2)))]) [0, 1, 2] (by decide) rfl
        exact W.zret (v := 0) hx hb hr rfl (fun u hu hW => ⟨⟨0, (), rfl, hF.symm, by rw [hu]; exact hP9, hD9⟩, hS.F hu⟩) hS.2.2 dX4_isDue_38
      · refine lv_iconst (v := 1) hx hb dX4_isDue_33 (by decide) ?_
        refine lv_goto (tgt := 38) hx hb dX4_isDue_34 (by decide) ?_
        have hF : (f_X4_isDue n vT p1) = 1 := by rw [f_X4_isDue, if_neg c_1, if_neg c_9, if_neg c_30]
        have hP9 := hP.sub (ws' := [(tH, .inr (4, [.ref tS, .ref tW, .int (nI n)])), (tS, .inl (cI, n, .inl vT.1)), (tW, .inl (cJ, (n + 1), .inr (.inl vT.2)))]) [0, 1, 2] rfl
        have hD9 := hD.sub (ws' := [(tH, .inr (4, [.ref tS, .ref tW, .int (nI n)])), (tS, .inl (cI, n, .inl vT.1)), (tW, .inl (cJ, (n + 1), .inr (.inl vT.2)))]) [0, 1, 2] (by decide) rfl
        exact W.zret (v := 1) hx hb hr rfl (fun u hu hW => ⟨⟨1, (), rfl, hF.symm, by rw [hu]; exact hP9, hD9⟩, hS.F hu⟩) hS.2.2 dX4_isDue_38
