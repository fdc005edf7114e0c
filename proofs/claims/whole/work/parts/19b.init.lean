def fl_go (x : Int64) : Nat → Nat → (Nat → Int64) → (Nat → Int64)
  | 0, _, f => f
  | k + 1, i, f => fl_go x k (i + 1) (vp_updL f i x)

def f_J7_fill (N : Nat) (vA : Nat → Int64) (p1 : Int64) : (Nat → Int64) :=
  (fl_go p1 N 0 vA)
set_option maxHeartbeats 4000000 in
set_option maxRecDepth 100000 in
theorem k_J7_fill (l : Launch) (dC : Nat → ClassId) (dI : Nat → Nat → Nat) (cI cJ cB cZ : ClassId) (aW : Nat) (sz : Nat) (N : Nat) (vA : Nat → Int64) (p1 : Int64) (hN5 : N ≤ 100) : Met l yJ7_fill wsJ7_fill ({ frames := 0, cells := 0, slots := 0, locals := 0 }) (va_Pc [.ref aW, .long p1] (fun U => U.heap.size = sz ∧ va_P (dC, dI) vwCl [(aW, .inl (cJ, N, .inr (.inl vA)))] U.heap ∧ va_K (dC, dI) vwCl [(cI, .int), (cJ, .long), (cB, .byte), (cZ, .boolean)] U ∧ va_D (fun _ => True) [(aW, .inl (cJ, N, .inr (.inl vA)))] ∧ nw_ U)) (va_Qv (fun (_ : Unit) => True) (fun (_ : Unit) (w : State) => va_P (dC, dI) vwCl [(aW, .inl (cJ, N, .inr (.inl (f_J7_fill N vA p1))))] w.heap ∧ va_D (va_A [(aW, .inl (cJ, N, .inr (.inl vA)))] sz) [(aW, .inl (cJ, N, .inr (.inl (f_J7_fill N vA p1))))]) (va_A [(aW, .inl (cJ, N, .inr (.inl vA)))] sz)) 0 0 (va_A [(aW, .inl (cJ, N, .inr (.inl vA)))] sz) := by
  refine Met.ofW (cc := prog_15_method_101_code) (maxL := 5) (ret := none) (by decide) rfl ?_
  intro p e s m args below meth c s₁ B hml hv
  obtain ⟨rfl, hsz, hP, hK, hD0, hN⟩ := hv
  have hx := B.exec
  have hb := B.bytes
  have hr := B.returns
  have hw := hw_of (atoms_spec (ws := wsJ7_fill) B.pre)
  have hown : s.vm.findClass RJ7 = some m.cls := findClass_of_methodNamed B.named
  have hlocks := B.notSynchronized
  subst hsz
  have hD := hD0.self (sz := s.heap.size)
  generalize hAe : va_A [(aW, .inl (cJ, N, .inr (.inl vA)))] s.heap.size = A at hD ⊢
  have hA : ∀ q : Nat, s.heap.size ≤ q → A q := fun q h => by rw [← hAe]; exact Or.inr h
  have hS : va_S A s.heap s.heap [] := va_S.rf
  have hP : va_P (dC, dI) vwCl [(aW, .inl (cJ, N, .inr (.inl vA)))] s.heap := hP
  have hl := lv_entry ([.ref aW, .long p1]) (n := 5) (Nat.le_of_ble_eq_true rfl)
  rw [lg_entry_eq]
  generalize (lg_sl ([.ref aW, .long p1]) ++ List.replicate (5 - (lg_sl ([.ref aW, .long p1])).length) Slot.unset).toArray = ls at hl ⊢
  have hl : lv_has ls 5 [(0, .ref aW), (1, .long p1)] := hl
  refine lv_iconst (v := 0) hx hb dJ7_fill_0 (by decide) ?_
  refine lv_istore_n (lv' := [(3, .int 0), (0, .ref aW), (1, .long p1)]) hx hb dJ7_fill_1 rfl hl (by decide) rfl (fun ls hl => ?_)
  refine lv_aload_n hx hb dJ7_fill_2 rfl (lv_at hl 1 rfl) ?_
  refine va_alen hx hb hK hP 0 1 rfl rfl (v := (nI N)) rfl dJ7_fill_3 ?_
  refine lv_istore (lv' := [(4, .int (nI N)), (3, .int 0), (0, .ref aW), (1, .long p1)]) hx hb dJ7_fill_4 hl (by decide) rfl (fun ls hl => ?_)
  obtain ⟨H, hH⟩ : ∃ z, z = s.heap := ⟨_, rfl⟩
  obtain ⟨locs, hlc⟩ : ∃ z : List Loc, z = [] := ⟨_, rfl⟩
  replace hP : va_P (dC, dI) vwCl [(aW, .inl (cJ, N, .inr (.inl vA)))] H := by rw [hH]; exact hP
  replace hS : va_S A s.heap H locs := by rw [hH, hlc]; exact hS
  refine w_gen hH hlc ?_
  clear hH hlc
  obtain ⟨k, hk0⟩ : ∃ z : Nat, z = N := ⟨_, rfl⟩
  obtain ⟨i, hi0⟩ : ∃ z : Nat, z = 0 := ⟨_, rfl⟩
  obtain ⟨f, hf0⟩ : ∃ z : Nat → Int64, z = vA := ⟨_, rfl⟩
  have hE : (f_J7_fill N vA p1) = (fl_go p1 k i f) := by subst hk0; subst hi0; subst hf0; rfl
  have hk : i + k = N := by omega
  replace hP : va_P (dC, dI) vwCl [(aW, .inl (cJ, N, .inr (.inl f)))] H := by subst hk0; subst hi0; subst hf0; exact hP
  replace hD : va_D A [(aW, .inl (cJ, N, .inr (.inl f)))] := by subst hk0; subst hi0; subst hf0; exact hD
  replace hS : va_S A s.heap H locs := hS
  replace hl : lv_has ls 5 [(4, .int (nI N)), (3, .int (nI i)), (0, .ref aW), (1, .long p1)] := by subst hk0; subst hi0; subst hf0; exact hl
  clear hk0 hi0 hf0
  induction k generalizing i f ls H locs with
  | zero =>
    refine lv_iload_n hx hb dJ7_fill_6 rfl (lv_at hl 1 rfl) ?_
    refine lv_iload hx hb dJ7_fill_7 (lv_at hl 0 rfl) ?_
    refine lv_icmp_ge (tgt := 22) hx hb dJ7_fill_9 (by decide) (fun c_9 => ?_) (fun c_9 => ?_)
    · have hF : (f_J7_fill N vA p1) = f := by exact hE
      have hP9 := hP.sub (ws' := [(aW, .inl (cJ, N, .inr (.inl f)))]) [0] rfl
      have hD9 := hD.sub (ws' := [(aW, .inl (cJ, N, .inr (.inl f)))]) [0] (by decide) rfl
      have hF_vA : (f_J7_fill N vA p1) = f := hF
      exact W.vret hx hb hr (fun u hu hW => ⟨⟨(), rfl, trivial, by rw [hu, hF_vA]; exact hP9, by rw [hF_vA]; exact hD9⟩, hS.F hu⟩) hS.2.2 dJ7_fill_22
    · exact absurd (by rw [show i = N by omega]; exact Int32.le_refl _) c_9
  | succ k ih =>
    refine lv_iload_n hx hb dJ7_fill_6 rfl (lv_at hl 1 rfl) ?_
    refine lv_iload hx hb dJ7_fill_7 (lv_at hl 0 rfl) ?_
    refine lv_icmp_ge (tgt := 22) hx hb dJ7_fill_9 (by decide) (fun c_9 => ?_) (fun c_9 => ?_)
    · exact absurd c_9 (nI_ge (by omega) (by omega))
    · refine lv_aload_n hx hb dJ7_fill_12 rfl (lv_at hl 2 rfl) ?_
      refine lv_iload_n hx hb dJ7_fill_13 rfl (lv_at hl 1 rfl) ?_
      refine lv_lload_n hx hb dJ7_fill_14 rfl (lv_at hl 3 rfl) ?_
      have h_15 : vp_in (nI i) N := (vp_in_nI (by omega) (by omega))
      refine va_last hx hb hK hP hD hS 0 1 rfl rfl h_15 dJ7_fill_15 (fun H locs hP hD hS => ?_)
      have hP : va_P (dC, dI) vwCl [(aW, .inl (cJ, N, .inr (.inl (vp_updL f (Int32.toNatClampNeg (nI i)) p1))))] H := hP
      have hD : va_D A [(aW, .inl (cJ, N, .inr (.inl (vp_updL f (Int32.toNatClampNeg (nI i)) p1))))] := hD
      refine lv_iinc (v := ((nI i) + 1)) (lv' := [(3, .int ((nI i) + 1)), (4, .int (nI N)), (0, .ref aW), (1, .long p1)]) hx hb dJ7_fill_16 hl (k := 1) rfl (by first | rfl | decide) (by decide) rfl (fun ls hl => ?_)
      refine lv_goto (tgt := 6) hx hb dJ7_fill_19 (by decide) ?_
      rw [nI_1 i] at hl
      exact ih (i := i + 1) (f := (vp_updL f (Int32.toNatClampNeg (nI i)) p1)) (ls := ls) (H := H) (locs := locs) (hE.trans (by rw [fl_go, nI_clamp (by omega)])) (by omega) (hP.sub [0] rfl) (hD.sub [0] (by decide) rfl) hS (lv_sub hl [1, 0, 2, 3] rfl)
set_option maxHeartbeats 4000000 in
set_option maxRecDepth 100000 in
theorem k_X4_init (l : Launch) (dC : Nat → ClassId) (dI : Nat → Nat → Nat) (cI cJ cB cZ : ClassId) (tH : Nat) (sz : Nat) (n : Nat) (hn : n ≤ 4) : Met l yX4_init wsX4_init ({ frames := 1, cells := 2, slots := 9, locals := 24 }) (va_Pc [.ref tH, .int (nI n)] (fun U => U.heap.size = sz ∧ va_P (dC, dI) vwCl [(tH, .inr (4, [.null, .null, .int 0]))] U.heap ∧ va_K (dC, dI) vwCl [(cI, .int), (cJ, .long), (cB, .byte), (cZ, .boolean)] U ∧ va_D (fun _ => True) [(tH, .inr (4, [.null, .null, .int 0]))] ∧ nw_ U)) (va_Qv (fun (_ : Nat × Nat) => True) (fun (u : Nat × Nat) (w : State) => va_P (dC, dI) vwCl [(tH, .inr (4, [.ref u.1, .ref u.2, .int (nI n)])), (u.1, .inl (cI, n, .inl (fun _ => 0))), (u.2, .inl (cJ, (n + 1), .inr (.inl (vp_updL (f_J7_fill (n + 1) (fun _ => 0) (-1)) (Int32.toNatClampNeg (nI n)) 0))))] w.heap ∧ va_D (va_A [(tH, .inr (4, [.null, .null, .int 0]))] sz) [(tH, .inr (4, [.ref u.1, .ref u.2, .int (nI n)])), (u.1, .inl (cI, n, .inl (fun _ => 0))), (u.2, .inl (cJ, (n + 1), .inr (.inl (vp_updL (f_J7_fill (n + 1) (fun _ => 0) (-1)) (Int32.toNatClampNeg (nI n)) 0))))]) (va_A [(tH, .inr (4, [.null, .null, .int 0]))] sz)) 2 9 (va_A [(tH, .inr (4, [.null, .null, .int 0]))] sz) := by
  refine Met.ofW (cc := prog_6_method_1_code) (maxL := 2) (ret := none) (by decide) rfl ?_
  intro p e s m args below meth c s₁ B hml hv
  obtain ⟨rfl, hsz, hP, hK, hD0, hN⟩ := hv
  have hx := B.exec
  have hb := B.bytes
  have hr := B.returns
  have hw := hw_of (atoms_spec (ws := wsX4_init) B.pre)
  have hown : s.vm.findClass RX4 = some m.cls := findClass_of_methodNamed B.named
  have hlocks := B.notSynchronized
  have hin : meth.name = "<init>" := (name_of_methodNamed B.named B.method).1
  subst hsz
  have hD := hD0.self (sz := s.heap.size)
  generalize hAe : va_A [(tH, .inr (4, [.null, .null, .int 0]))] s.heap.size = A at hD ⊢
  have hA : ∀ q : Nat, s.heap.size ≤ q → A q := fun q h => by rw [← hAe]; exact Or.inr h
  have hS : va_S A s.heap s.heap [] := va_S.rf
  have hP : va_P (dC, dI) vwCl [(tH, .inr (4, [.null, .null, .int 0]))] s.heap := hP
  have hl := lv_entry ([.ref tH, .int (nI n)]) (n := 2) (Nat.le_of_ble_eq_true rfl)
  rw [lg_entry_eq]
  generalize (lg_sl ([.ref tH, .int (nI n)]) ++ List.replicate (2 - (lg_sl ([.ref tH, .int (nI n)])).length) Slot.unset).toArray = ls at hl ⊢
  have hl : lv_has ls 2 [(0, .ref tH), (1, .int (nI n))] := hl
  refine lv_aload_n hx hb dX4_init_0 rfl (lv_at hl 0 rfl) ?_
  refine W.objInit hx hb hown (hw _ w_27) (hw _ w_20) (hw _ w_21) rfl (by rw [hml]; exact hl.1) rfl dX4_init_1 (Nat.le_of_ble_eq_true rfl) (Nat.le_of_ble_eq_true rfl) ?_
  refine W.eq (g2 := F0 m 4 ls []) rfl ?_
  refine lv_aload_n hx hb dX4_init_4 rfl (lv_at hl 0 rfl) ?_
  refine lv_iload_n hx hb dX4_init_5 rfl (lv_at hl 1 rfl) ?_
  refine va_newa (atype := .int) (ty := .int) (N' := n) (a0 := (n, .inl (fun _ => 0))) hx hb (hw _ w_42) rfl hK hP hD hS hA (fun _ => rfl) (nI_pos (by omega)) (nI_clamp (by omega)) (show n * 4 ≤ 536870912 by omega) (show 0 + 1 ≤ 2 by omega) (show 0 + n ≤ 9 by omega) dX4_init_6 (fun q_6 cA H hK9 hP hD hS => ?_)
  obtain rfl : cI = cA := k_same hK9 0 4 rfl rfl
  have hP : va_P (dC, dI) vwCl [(tH, .inr (4, [.null, .null, .int 0])), (q_6, .inl (cI, n, .inl (fun _ => 0)))] H := hP
  have hD : va_D A [(tH, .inr (4, [.null, .null, .int 0])), (q_6, .inl (cI, n, .inl (fun _ => 0)))] := hD
  refine W.widen (k := 1) (n := 4) (by omega) (by omega) ?_
  refine va_putF (D := (dC, dI)) (ci := 4) (v := .ref q_6) (ty := (.array .int)) (C := RX4) (T := TX4) (N := 3) hx hb hw inWX4 tyX4 tyX4_ok nmX4 hown hK hP hD hS 0 rfl rfl 0 (by decide) (hw _ w_32) (fun _ h9 => h9) rfl hin rfl (by decide +kernel) rfl rfl (Nat.le_of_ble_eq_true rfl) dX4_init_8 (fun H locs hP hD hS => ?_)
  have hP : va_P (dC, dI) vwCl [(tH, .inr (4, [.ref q_6, .null, .int 0])), (q_6, .inl (cI, n, .inl (fun _ => 0)))] H := hP
  have hD : va_D A [(tH, .inr (4, [.ref q_6, .null, .int 0])), (q_6, .inl (cI, n, .inl (fun _ => 0)))] := hD
  refine lv_aload_n hx hb dX4_init_11 rfl (lv_at hl 0 rfl) ?_
  refine lv_iload_n hx hb dX4_init_12 rfl (lv_at hl 1 rfl) ?_
  refine lv_iconst (v := 1) hx hb dX4_init_13 (by decide) ?_
  refine lv_iadd hx hb dX4_init_14 ?_
  refine va_newa (atype := .long) (ty := .long) (N' := (n + 1)) (a0 := ((n + 1), .inr (.inl (fun _ => 0)))) hx hb (hw _ w_43) rfl hK hP hD hS hA (fun _ => rfl) (by rw [nI_1]; exact nI_pos (by omega)) (by rw [nI_1]; exact nI_clamp (by omega)) (show (n + 1) * 8 ≤ 536870912 by omega) (show 1 + 1 ≤ 2 by omega) (show 4 + (n + 1) ≤ 9 by omega) dX4_init_15 (fun q_15 cA H hK9 hP hD hS => ?_)
  obtain rfl : cJ = cA := k_same hK9 1 4 rfl rfl
  have hP : va_P (dC, dI) vwCl [(tH, .inr (4, [.ref q_6, .null, .int 0])), (q_6, .inl (cI, n, .inl (fun _ => 0))), (q_15, .inl (cJ, (n + 1), .inr (.inl (fun _ => 0))))] H := hP
  have hD : va_D A [(tH, .inr (4, [.ref q_6, .null, .int 0])), (q_6, .inl (cI, n, .inl (fun _ => 0))), (q_15, .inl (cJ, (n + 1), .inr (.inl (fun _ => 0))))] := hD
  refine W.widen (k := 2) (n := 9) (by omega) (by omega) ?_
  refine va_putF (D := (dC, dI)) (ci := 4) (v := .ref q_15) (ty := (.array .long)) (C := RX4) (T := TX4) (N := 3) hx hb hw inWX4 tyX4 tyX4_ok nmX4 hown hK hP hD hS 0 rfl rfl 1 (by decide) (hw _ w_33) (fun _ h9 => h9) rfl hin rfl (by decide +kernel) rfl rfl (Nat.le_of_ble_eq_true rfl) dX4_init_17 (fun H locs hP hD hS => ?_)
  have hP : va_P (dC, dI) vwCl [(tH, .inr (4, [.ref q_6, .ref q_15, .int 0])), (q_6, .inl (cI, n, .inl (fun _ => 0))), (q_15, .inl (cJ, (n + 1), .inr (.inl (fun _ => 0))))] H := hP
  have hD : va_D A [(tH, .inr (4, [.ref q_6, .ref q_15, .int 0])), (q_6, .inl (cI, n, .inl (fun _ => 0))), (q_15, .inl (cJ, (n + 1), .inr (.inl (fun _ => 0))))] := hD
  refine lv_aload_n hx hb dX4_init_20 rfl (lv_at hl 0 rfl) ?_
  refine lv_iload_n hx hb dX4_init_21 rfl (lv_at hl 1 rfl) ?_
  refine va_putF (D := (dC, dI)) (ci := 4) (v := .int (nI n)) (ty := .int) (C := RX4) (T := TX4) (N := 3) hx hb hw inWX4 tyX4 tyX4_ok nmX4 hown hK hP hD hS 0 rfl rfl 2 (by decide) (hw _ w_34) (fun _ h9 => h9) rfl hin rfl (by decide +kernel) rfl rfl (Nat.le_of_ble_eq_true rfl) dX4_init_22 (fun H locs hP hD hS => ?_)
  have hP : va_P (dC, dI) vwCl [(tH, .inr (4, [.ref q_6, .ref q_15, .int (nI n)])), (q_6, .inl (cI, n, .inl (fun _ => 0))), (q_15, .inl (cJ, (n + 1), .inr (.inl (fun _ => 0))))] H := hP
  have hD : va_D A [(tH, .inr (4, [.ref q_6, .ref q_15, .int (nI n)])), (q_6, .inl (cI, n, .inl (fun _ => 0))), (q_15, .inl (cJ, (n + 1), .inr (.inl (fun _ => 0))))] := hD
  refine lv_aload_n hx hb dX4_init_25 rfl (lv_at hl 0 rfl) ?_
  refine va_get (D := (dC, dI)) (ci := 4) (v := .ref q_15) (C := RX4) (T := TX4) (N := 3) hx hb hw inWX4 hown hK hP 0 rfl rfl 1 (by decide) (hw _ w_33) (fun _ h9 => h9) rfl dX4_init_26 ?_
  refine lv_ldc2 (v := (-1)) hx hb hown (hw _ w_28) dX4_init_29 ?_
  have hPc := hP.sub (ws' := [(q_15, .inl (cJ, (n + 1), .inr (.inl (fun _ => 0))))]) [2] rfl
  have hDc := hD.sub (ws' := [(q_15, .inl (cJ, (n + 1), .inr (.inl (fun _ => 0))))]) [2] (by decide) rfl
  have hFc := va_free (wc := [(q_15, .inl (cJ, (n + 1), .inr (.inl (fun _ => 0))))]) hD hS hA [2] rfl
  refine va_callv (va_runS (As := [.ref q_15, .long (-1)]) (rest := []) ⟨hx, hb, hml, hown, hw⟩ (k_J7_fill l dC dI cI cJ cB cZ q_15 H.size (n + 1) (fun _ => 0) (-1) (by omega)) (va_cwS 2 hw (gS w_29 w_30 w_3 w_31) rfl rfl rfl (by decide +kernel) ⟨Nat.le_of_ble_eq_true rfl, Nat.le_of_ble_eq_true rfl⟩) ⟨fun a U g mk q => by obtain ⟨q0, q1, qP, qK, qD, qN⟩ := q; exact ⟨q0, q1, qP, va_K.moved (u := U) (U := U.calling g mk a) (Vm.Alike.refl U.vm) qK, qD, nw_same (s := U) (U := U.calling g mk a) rfl qN⟩, fun U hU hW => ⟨rfl, by rw [hU], by rw [hU]; exact hPc, va_K.moved hW.alike hK, hDc.weaken (fun _ _ _ _ => trivial), nw_warm hW hN⟩⟩ rfl rfl hl.1 rfl (lv_room (Nat.le_of_ble_eq_true rfl)) dX4_init_32 ⟨show 2 + 0 ≤ 2 by omega, show 9 + 0 ≤ 9 by omega⟩) hS (fun q _ h => hFc q h) hFc (fun u t9 H1 locs ht hvm hR hB hz1 hk1 hS => ?_)
  obtain ⟨hP1, hD1⟩ := hB
  rw [ht] at hP1
  obtain ⟨hP, hD⟩ := va_join (wr := [(tH, .inr (4, [.ref q_6, .ref q_15, .int (nI n)])), (q_6, .inl (cI, n, .inl (fun _ => 0)))]) (w1 := [(q_15, .inl (cJ, (n + 1), .inr (.inl (f_J7_fill (n + 1) (fun _ => 0) (-1)))))]) hP hD [2] [0, 1] rfl rfl (by decide) (by decide) hk1 hFc hP1 hD1
  generalize H1 = H at hP hS ⊢
  have hP : va_P (dC, dI) vwCl [(tH, .inr (4, [.ref q_6, .ref q_15, .int (nI n)])), (q_6, .inl (cI, n, .inl (fun _ => 0))), (q_15, .inl (cJ, (n + 1), .inr (.inl (f_J7_fill (n + 1) (fun _ => 0) (-1)))))] H := hP
  have hD : va_D A [(tH, .inr (4, [.ref q_6, .ref q_15, .int (nI n)])), (q_6, .inl (cI, n, .inl (fun _ => 0))), (q_15, .inl (cJ, (n + 1), .inr (.inl (f_J7_fill (n + 1) (fun _ => 0) (-1)))))] := hD
  refine lv_aload_n hx hb dX4_init_35 rfl (lv_at hl 0 rfl) ?_
  refine va_get (D := (dC, dI)) (ci := 4) (v := .ref q_15) (C := RX4) (T := TX4) (N := 3) hx hb hw inWX4 hown hK hP 0 rfl rfl 1 (by decide) (hw _ w_33) (fun _ h9 => h9) rfl dX4_init_36 ?_
  refine lv_aload_n hx hb dX4_init_39 rfl (lv_at hl 0 rfl) ?_
  refine va_get (D := (dC, dI)) (ci := 4) (v := .int (nI n)) (C := RX4) (T := TX4) (N := 3) hx hb hw inWX4 hown hK hP 0 rfl rfl 2 (by decide) (hw _ w_34) (fun _ h9 => h9) rfl dX4_init_40 ?_
  refine lv_lconst (v := 0) hx hb dX4_init_43 (by decide) ?_
  have h_44 : vp_in (nI n) (n + 1) := (vp_in_nI (by omega) (by omega))
  refine va_last hx hb hK hP hD hS 2 1 rfl rfl h_44 dX4_init_44 (fun H locs hP hD hS => ?_)
  have hP : va_P (dC, dI) vwCl [(tH, .inr (4, [.ref q_6, .ref q_15, .int (nI n)])), (q_6, .inl (cI, n, .inl (fun _ => 0))), (q_15, .inl (cJ, (n + 1), .inr (.inl (vp_updL (f_J7_fill (n + 1) (fun _ => 0) (-1)) (Int32.toNatClampNeg (nI n)) 0))))] H := hP
  have hD : va_D A [(tH, .inr (4, [.ref q_6, .ref q_15, .int (nI n)])), (q_6, .inl (cI, n, .inl (fun _ => 0))), (q_15, .inl (cJ, (n + 1), .inr (.inl (vp_updL (f_J7_fill (n + 1) (fun _ => 0) (-1)) (Int32.toNatClampNeg (nI n)) 0))))] := hD
  have hP9 := hP.sub (ws' := [(tH, .inr (4, [.ref q_6, .ref q_15, .int (nI n)])), (q_6, .inl (cI, n, .inl (fun _ => 0))), (q_15, .inl (cJ, (n + 1), .inr (.inl (vp_updL (f_J7_fill (n + 1) (fun _ => 0) (-1)) (Int32.toNatClampNeg (nI n)) 0))))]) [0, 1, 2] rfl
  have hD9 := hD.sub (ws' := [(tH, .inr (4, [.ref q_6, .ref q_15, .int (nI n)])), (q_6, .inl (cI, n, .inl (fun _ => 0))), (q_15, .inl (cJ, (n + 1), .inr (.inl (vp_updL (f_J7_fill (n + 1) (fun _ => 0) (-1)) (Int32.toNatClampNeg (nI n)) 0))))]) [0, 1, 2] (by decide) rfl
  exact W.vret hx hb hr (fun u hu hW => ⟨⟨(q_6, q_15), rfl, trivial, by rw [hu]; exact hP9, hD9⟩, hS.F hu⟩) hS.2.2 dX4_init_45
set_option maxHeartbeats 4000000 in
set_option maxRecDepth 100000 in
theorem k_X0_init (l : Launch) (dC : Nat → ClassId) (dI : Nat → Nat → Nat) (cI cJ cB cZ : ClassId) (kH : Nat) (sz : Nat) (n : Nat) (hn : n ≤ 4) : Met l yX0_init wsX0_init ({ frames := 1, cells := 3, slots := 48, locals := 12 }) (va_Pc [.ref kH, .int (nI (2 * n))] (fun U => U.heap.size = sz ∧ va_P (dC, dI) vwCl [(kH, .inr (0, [.int 0, .int 0, .int 0, .null, .null, .null, .int 0]))] U.heap ∧ va_K (dC, dI) vwCl [(cI, .int), (cJ, .long), (cB, .byte), (cZ, .boolean)] U ∧ va_D (fun _ => True) [(kH, .inr (0, [.int 0, .int 0, .int 0, .null, .null, .null, .int 0]))] ∧ nw_ U)) (va_Qv (fun (_ : Nat × Nat × Nat) => True) (fun (u : Nat × Nat × Nat) (w : State) => va_P (dC, dI) vwCl [(kH, .inr (0, [.int 0, .int 0, .int 0, .ref u.1, .ref u.2.1, .ref u.2.2, .int (nI (2 * n))])), (u.1, .inl (cI, 32, .inl (fun _ => 0))), (u.2.1, .inl (cI, (2 * n), .inl (fun _ => 0))), (u.2.2, .inl (cI, (2 * n), .inl (fun _ => 0)))] w.heap ∧ va_D (va_A [(kH, .inr (0, [.int 0, .int 0, .int 0, .null, .null, .null, .int 0]))] sz) [(kH, .inr (0, [.int 0, .int 0, .int 0, .ref u.1, .ref u.2.1, .ref u.2.2, .int (nI (2 * n))])), (u.1, .inl (cI, 32, .inl (fun _ => 0))), (u.2.1, .inl (cI, (2 * n), .inl (fun _ => 0))), (u.2.2, .inl (cI, (2 * n), .inl (fun _ => 0)))]) (va_A [(kH, .inr (0, [.int 0, .int 0, .int 0, .null, .null, .null, .int 0]))] sz)) 3 48 (va_A [(kH, .inr (0, [.int 0, .int 0, .int 0, .null, .null, .null, .int 0]))] sz) := by
  refine Met.ofW (cc := prog_2_method_1_code) (maxL := 2) (ret := none) (by decide) rfl ?_
  intro p e s m args below meth c s₁ B hml hv
  obtain ⟨rfl, hsz, hP, hK, hD0, hN⟩ := hv
  have hx := B.exec
  have hb := B.bytes
  have hr := B.returns
  have hw := hw_of (atoms_spec (ws := wsX0_init) B.pre)
  have hown : s.vm.findClass RX0 = some m.cls := findClass_of_methodNamed B.named
  have hlocks := B.notSynchronized
  have hin : meth.name = "<init>" := (name_of_methodNamed B.named B.method).1
  subst hsz
  have hD := hD0.self (sz := s.heap.size)
  generalize hAe : va_A [(kH, .inr (0, [.int 0, .int 0, .int 0, .null, .null, .null, .int 0]))] s.heap.size = A at hD ⊢
  have hA : ∀ q : Nat, s.heap.size ≤ q → A q := fun q h => by rw [← hAe]; exact Or.inr h
  have hS : va_S A s.heap s.heap [] := va_S.rf
  have hP : va_P (dC, dI) vwCl [(kH, .inr (0, [.int 0, .int 0, .int 0, .null, .null, .null, .int 0]))] s.heap := hP
  have hl := lv_entry ([.ref kH, .int (nI (2 * n))]) (n := 2) (Nat.le_of_ble_eq_true rfl)
  rw [lg_entry_eq]
  generalize (lg_sl ([.ref kH, .int (nI (2 * n))]) ++ List.replicate (2 - (lg_sl ([.ref kH, .int (nI (2 * n))])).length) Slot.unset).toArray = ls at hl ⊢
  have hl : lv_has ls 2 [(0, .ref kH), (1, .int (nI (2 * n)))] := hl
  refine lv_aload_n hx hb dX0_init_0 rfl (lv_at hl 0 rfl) ?_
  refine W.objInit hx hb hown (hw _ w_49) (hw _ w_20) (hw _ w_21) rfl (by rw [hml]; exact hl.1) rfl dX0_init_1 (Nat.le_of_ble_eq_true rfl) (Nat.le_of_ble_eq_true rfl) ?_
  refine W.eq (g2 := F0 m 4 ls []) rfl ?_
  refine lv_aload_n hx hb dX0_init_4 rfl (lv_at hl 0 rfl) ?_
  refine lv_bipush (v := 32) hx hb dX0_init_5 (by decide) ?_
  refine va_newa (atype := .int) (ty := .int) (N' := 32) (a0 := (32, .inl (fun _ => 0))) hx hb (hw _ w_42) rfl hK hP hD hS hA (fun _ => rfl) (by decide) (by decide) (show 32 * 4 ≤ 536870912 by omega) (show 0 + 1 ≤ 3 by omega) (show 0 + 32 ≤ 48 by omega) dX0_init_7 (fun q_7 cA H hK9 hP hD hS => ?_)
  obtain rfl : cI = cA := k_same hK9 0 4 rfl rfl
  have hP : va_P (dC, dI) vwCl [(kH, .inr (0, [.int 0, .int 0, .int 0, .null, .null, .null, .int 0])), (q_7, .inl (cI, 32, .inl (fun _ => 0)))] H := hP
  have hD : va_D A [(kH, .inr (0, [.int 0, .int 0, .int 0, .null, .null, .null, .int 0])), (q_7, .inl (cI, 32, .inl (fun _ => 0)))] := hD
  refine W.widen (k := 1) (n := 32) (by omega) (by omega) ?_
  refine va_putF (D := (dC, dI)) (ci := 0) (v := .ref q_7) (ty := (.array .int)) (C := RX0) (T := TX0) (N := 7) hx hb hw inWX0 tyX0 tyX0_ok nmX0 hown hK hP hD hS 0 rfl rfl 3 (by decide) (hw _ w_53) (fun _ h9 => h9) rfl hin rfl (by decide +kernel) rfl rfl (Nat.le_of_ble_eq_true rfl) dX0_init_9 (fun H locs hP hD hS => ?_)
  have hP : va_P (dC, dI) vwCl [(kH, .inr (0, [.int 0, .int 0, .int 0, .ref q_7, .null, .null, .int 0])), (q_7, .inl (cI, 32, .inl (fun _ => 0)))] H := hP
  have hD : va_D A [(kH, .inr (0, [.int 0, .int 0, .int 0, .ref q_7, .null, .null, .int 0])), (q_7, .inl (cI, 32, .inl (fun _ => 0)))] := hD
  refine lv_aload_n hx hb dX0_init_12 rfl (lv_at hl 0 rfl) ?_
  refine lv_iload_n hx hb dX0_init_13 rfl (lv_at hl 1 rfl) ?_
  refine va_putF (D := (dC, dI)) (ci := 0) (v := .int (nI (2 * n))) (ty := .int) (C := RX0) (T := TX0) (N := 7) hx hb hw inWX0 tyX0 tyX0_ok nmX0 hown hK hP hD hS 0 rfl rfl 6 (by decide) (hw _ w_56) (fun _ h9 => h9) rfl hin rfl (by decide +kernel) rfl rfl (Nat.le_of_ble_eq_true rfl) dX0_init_14 (fun H locs hP hD hS => ?_)
  have hP : va_P (dC, dI) vwCl [(kH, .inr (0, [.int 0, .int 0, .int 0, .ref q_7, .null, .null, .int (nI (2 * n))])), (q_7, .inl (cI, 32, .inl (fun _ => 0)))] H := hP
  have hD : va_D A [(kH, .inr (0, [.int 0, .int 0, .int 0, .ref q_7, .null, .null, .int (nI (2 * n))])), (q_7, .inl (cI, 32, .inl (fun _ => 0)))] := hD
  refine lv_aload_n hx hb dX0_init_17 rfl (lv_at hl 0 rfl) ?_
  refine lv_iload_n hx hb dX0_init_18 rfl (lv_at hl 1 rfl) ?_
  refine va_newa (atype := .int) (ty := .int) (N' := (2 * n)) (a0 := ((2 * n), .inl (fun _ => 0))) hx hb (hw _ w_42) rfl hK hP hD hS hA (fun _ => rfl) (nI_pos (by omega)) (nI_clamp (by omega)) (show (2 * n) * 4 ≤ 536870912 by omega) (show 1 + 1 ≤ 3 by omega) (show 32 + (2 * n) ≤ 48 by omega) dX0_init_19 (fun q_19 cA H hK9 hP hD hS => ?_)
  obtain rfl : cI = cA := k_same hK9 0 4 rfl rfl
  have hP : va_P (dC, dI) vwCl [(kH, .inr (0, [.int 0, .int 0, .int 0, .ref q_7, .null, .null, .int (nI (2 * n))])), (q_7, .inl (cI, 32, .inl (fun _ => 0))), (q_19, .inl (cI, (2 * n), .inl (fun _ => 0)))] H := hP
  have hD : va_D A [(kH, .inr (0, [.int 0, .int 0, .int 0, .ref q_7, .null, .null, .int (nI (2 * n))])), (q_7, .inl (cI, 32, .inl (fun _ => 0))), (q_19, .inl (cI, (2 * n), .inl (fun _ => 0)))] := hD
  refine W.widen (k := 2) (n := 40) (by omega) (by omega) ?_
  refine va_putF (D := (dC, dI)) (ci := 0) (v := .ref q_19) (ty := (.array .int)) (C := RX0) (T := TX0) (N := 7) hx hb hw inWX0 tyX0 tyX0_ok nmX0 hown hK hP hD hS 0 rfl rfl 4 (by decide) (hw _ w_54) (fun _ h9 => h9) rfl hin rfl (by decide +kernel) rfl rfl (Nat.le_of_ble_eq_true rfl) dX0_init_21 (fun H locs hP hD hS => ?_)
  have hP : va_P (dC, dI) vwCl [(kH, .inr (0, [.int 0, .int 0, .int 0, .ref q_7, .ref q_19, .null, .int (nI (2 * n))])), (q_7, .inl (cI, 32, .inl (fun _ => 0))), (q_19, .inl (cI, (2 * n), .inl (fun _ => 0)))] H := hP
  have hD : va_D A [(kH, .inr (0, [.int 0, .int 0, .int 0, .ref q_7, .ref q_19, .null, .int (nI (2 * n))])), (q_7, .inl (cI, 32, .inl (fun _ => 0))), (q_19, .inl (cI, (2 * n), .inl (fun _ => 0)))] := hD
  refine lv_aload_n hx hb dX0_init_24 rfl (lv_at hl 0 rfl) ?_
  refine lv_iload_n hx hb dX0_init_25 rfl (lv_at hl 1 rfl) ?_
  refine va_newa (atype := .int) (ty := .int) (N' := (2 * n)) (a0 := ((2 * n), .inl (fun _ => 0))) hx hb (hw _ w_42) rfl hK hP hD hS hA (fun _ => rfl) (nI_pos (by omega)) (nI_clamp (by omega)) (show (2 * n) * 4 ≤ 536870912 by omega) (show 2 + 1 ≤ 3 by omega) (show 40 + (2 * n) ≤ 48 by omega) dX0_init_26 (fun q_26 cA H hK9 hP hD hS => ?_)
  obtain rfl : cI = cA := k_same hK9 0 4 rfl rfl
  have hP : va_P (dC, dI) vwCl [(kH, .inr (0, [.int 0, .int 0, .int 0, .ref q_7, .ref q_19, .null, .int (nI (2 * n))])), (q_7, .inl (cI, 32, .inl (fun _ => 0))), (q_19, .inl (cI, (2 * n), .inl (fun _ => 0))), (q_26, .inl (cI, (2 * n), .inl (fun _ => 0)))] H := hP
  have hD : va_D A [(kH, .inr (0, [.int 0, .int 0, .int 0, .ref q_7, .ref q_19, .null, .int (nI (2 * n))])), (q_7, .inl (cI, 32, .inl (fun _ => 0))), (q_19, .inl (cI, (2 * n), .inl (fun _ => 0))), (q_26, .inl (cI, (2 * n), .inl (fun _ => 0)))] := hD
  refine W.widen (k := 3) (n := 48) (by omega) (by omega) ?_
  refine va_putF (D := (dC, dI)) (ci := 0) (v := .ref q_26) (ty := (.array .int)) (C := RX0) (T := TX0) (N := 7) hx hb hw inWX0 tyX0 tyX0_ok nmX0 hown hK hP hD hS 0 rfl rfl 5 (by decide) (hw _ w_55) (fun _ h9 => h9) rfl hin rfl (by decide +kernel) rfl rfl (Nat.le_of_ble_eq_true rfl) dX0_init_28 (fun H locs hP hD hS => ?_)
  have hP : va_P (dC, dI) vwCl [(kH, .inr (0, [.int 0, .int 0, .int 0, .ref q_7, .ref q_19, .ref q_26, .int (nI (2 * n))])), (q_7, .inl (cI, 32, .inl (fun _ => 0))), (q_19, .inl (cI, (2 * n), .inl (fun _ => 0))), (q_26, .inl (cI, (2 * n), .inl (fun _ => 0)))] H := hP
  have hD : va_D A [(kH, .inr (0, [.int 0, .int 0, .int 0, .ref q_7, .ref q_19, .ref q_26, .int (nI (2 * n))])), (q_7, .inl (cI, 32, .inl (fun _ => 0))), (q_19, .inl (cI, (2 * n), .inl (fun _ => 0))), (q_26, .inl (cI, (2 * n), .inl (fun _ => 0)))] := hD
  have hP9 := hP.sub (ws' := [(kH, .inr (0, [.int 0, .int 0, .int 0, .ref q_7, .ref q_19, .ref q_26, .int (nI (2 * n))])), (q_7, .inl (cI, 32, .inl (fun _ => 0))), (q_19, .inl (cI, (2 * n), .inl (fun _ => 0))), (q_26, .inl (cI, (2 * n), .inl (fun _ => 0)))]) [0, 1, 2, 3] rfl
  have hD9 := hD.sub (ws' := [(kH, .inr (0, [.int 0, .int 0, .int 0, .ref q_7, .ref q_19, .ref q_26, .int (nI (2 * n))])), (q_7, .inl (cI, 32, .inl (fun _ => 0))), (q_19, .inl (cI, (2 * n), .inl (fun _ => 0))), (q_26, .inl (cI, (2 * n), .inl (fun _ => 0)))]) [0, 1, 2, 3] (by decide) rfl
  exact W.vret hx hb hr (fun u hu hW => ⟨⟨(q_7, q_19, q_26), rfl, trivial, by rw [hu]; exact hP9, hD9⟩, hS.F hu⟩) hS.2.2 dX0_init_31
set_option maxHeartbeats 4000000 in
set_option maxRecDepth 100000 in
theorem k_X1_init (l : Launch) (dC : Nat → ClassId) (dI : Nat → Nat → Nat) (cI cJ cB cZ : ClassId) (qH : Nat) (sz : Nat)   : Met l yX1_init wsX1_init ({ frames := 1, cells := 1, slots := 16, locals := 12 }) (va_Pc [.ref qH] (fun U => U.heap.size = sz ∧ va_P (dC, dI) vwCl [(qH, .inr (1, [.null, .int 0, .int 0, .int 0]))] U.heap ∧ va_K (dC, dI) vwCl [(cI, .int), (cJ, .long), (cB, .byte), (cZ, .boolean)] U ∧ va_D (fun _ => True) [(qH, .inr (1, [.null, .int 0, .int 0, .int 0]))] ∧ nw_ U)) (va_Qv (fun (_ : Nat) => True) (fun (u : Nat) (w : State) => va_P (dC, dI) vwCl [(qH, .inr (1, [.ref u, .int 0, .int 0, .int 0])), (u, .inl (cI, 16, .inl (fun _ => 0)))] w.heap ∧ va_D (va_A [(qH, .inr (1, [.null, .int 0, .int 0, .int 0]))] sz) [(qH, .inr (1, [.ref u, .int 0, .int 0, .int 0])), (u, .inl (cI, 16, .inl (fun _ => 0)))]) (va_A [(qH, .inr (1, [.null, .int 0, .int 0, .int 0]))] sz)) 1 16 (va_A [(qH, .inr (1, [.null, .int 0, .int 0, .int 0]))] sz) := by
  refine Met.ofW (cc := prog_3_method_1_code) (maxL := 1) (ret := none) (by decide) rfl ?_
  intro p e s m args below meth c s₁ B hml hv
  obtain ⟨rfl, hsz, hP, hK, hD0, hN⟩ := hv
  have hx := B.exec
  have hb := B.bytes
  have hr := B.returns
  have hw := hw_of (atoms_spec (ws := wsX1_init) B.pre)
  have hown : s.vm.findClass RX1 = some m.cls := findClass_of_methodNamed B.named
  have hlocks := B.notSynchronized
  have hin : meth.name = "<init>" := (name_of_methodNamed B.named B.method).1
  subst hsz
  have hD := hD0.self (sz := s.heap.size)
  generalize hAe : va_A [(qH, .inr (1, [.null, .int 0, .int 0, .int 0]))] s.heap.size = A at hD ⊢
  have hA : ∀ q : Nat, s.heap.size ≤ q → A q := fun q h => by rw [← hAe]; exact Or.inr h
  have hS : va_S A s.heap s.heap [] := va_S.rf
  have hP : va_P (dC, dI) vwCl [(qH, .inr (1, [.null, .int 0, .int 0, .int 0]))] s.heap := hP
  have hl := lv_entry ([.ref qH]) (n := 1) (Nat.le_of_ble_eq_true rfl)
  rw [lg_entry_eq]
  generalize (lg_sl ([.ref qH]) ++ List.replicate (1 - (lg_sl ([.ref qH])).length) Slot.unset).toArray = ls at hl ⊢
  have hl : lv_has ls 1 [(0, .ref qH)] := hl
  refine lv_aload_n hx hb dX1_init_0 rfl (lv_at hl 0 rfl) ?_
  refine W.objInit hx hb hown (hw _ w_83) (hw _ w_20) (hw _ w_21) rfl (by rw [hml]; exact hl.1) rfl dX1_init_1 (Nat.le_of_ble_eq_true rfl) (Nat.le_of_ble_eq_true rfl) ?_
  refine W.eq (g2 := F0 m 4 ls []) rfl ?_
  refine lv_aload_n hx hb dX1_init_4 rfl (lv_at hl 0 rfl) ?_
  refine lv_bipush (v := 16) hx hb dX1_init_5 (by decide) ?_
  refine va_newa (atype := .int) (ty := .int) (N' := 16) (a0 := (16, .inl (fun _ => 0))) hx hb (hw _ w_42) rfl hK hP hD hS hA (fun _ => rfl) (by decide) (by decide) (show 16 * 4 ≤ 536870912 by omega) (show 0 + 1 ≤ 1 by omega) (show 0 + 16 ≤ 16 by omega) dX1_init_7 (fun q_7 cA H hK9 hP hD hS => ?_)
  obtain rfl : cI = cA := k_same hK9 0 4 rfl rfl
  have hP : va_P (dC, dI) vwCl [(qH, .inr (1, [.null, .int 0, .int 0, .int 0])), (q_7, .inl (cI, 16, .inl (fun _ => 0)))] H := hP
  have hD : va_D A [(qH, .inr (1, [.null, .int 0, .int 0, .int 0])), (q_7, .inl (cI, 16, .inl (fun _ => 0)))] := hD
  refine W.widen (k := 1) (n := 16) (by omega) (by omega) ?_
  refine va_putF (D := (dC, dI)) (ci := 1) (v := .ref q_7) (ty := (.array .int)) (C := RX1) (T := TX1) (N := 4) hx hb hw inWX1 tyX1 tyX1_ok nmX1 hown hK hP hD hS 0 rfl rfl 0 (by decide) (hw _ w_84) (fun _ h9 => h9) rfl hin rfl (by decide +kernel) rfl rfl (Nat.le_of_ble_eq_true rfl) dX1_init_9 (fun H locs hP hD hS => ?_)
  have hP : va_P (dC, dI) vwCl [(qH, .inr (1, [.ref q_7, .int 0, .int 0, .int 0])), (q_7, .inl (cI, 16, .inl (fun _ => 0)))] H := hP
  have hD : va_D A [(qH, .inr (1, [.ref q_7, .int 0, .int 0, .int 0])), (q_7, .inl (cI, 16, .inl (fun _ => 0)))] := hD
  have hP9 := hP.sub (ws' := [(qH, .inr (1, [.ref q_7, .int 0, .int 0, .int 0])), (q_7, .inl (cI, 16, .inl (fun _ => 0)))]) [0, 1] rfl
  have hD9 := hD.sub (ws' := [(qH, .inr (1, [.ref q_7, .int 0, .int 0, .int 0])), (q_7, .inl (cI, 16, .inl (fun _ => 0)))]) [0, 1] (by decide) rfl
  exact W.vret hx hb hr (fun u hu hW => ⟨⟨q_7, rfl, trivial, by rw [hu]; exact hP9, hD9⟩, hS.F hu⟩) hS.2.2 dX1_init_12
set_option maxHeartbeats 4000000 in
set_option maxRecDepth 100000 in
theorem k_X2_init (l : Launch) (dC : Nat → ClassId) (dI : Nat → Nat → Nat) (cI cJ cB cZ : ClassId) (oH : Nat) (sz : Nat)   : Met l yX2_init wsX2_init ({ frames := 1, cells := 1, slots := 4096, locals := 12 }) (va_Pc [.ref oH] (fun U => U.heap.size = sz ∧ va_P (dC, dI) vwCl [(oH, .inr (2, [.null, .long 0]))] U.heap ∧ va_K (dC, dI) vwCl [(cI, .int), (cJ, .long), (cB, .byte), (cZ, .boolean)] U ∧ va_D (fun _ => True) [(oH, .inr (2, [.null, .long 0]))] ∧ nw_ U)) (va_Qv (fun (_ : Nat) => True) (fun (u : Nat) (w : State) => va_P (dC, dI) vwCl [(oH, .inr (2, [.ref u, .long 0])), (u, .inl (cB, 4096, .inl (fun _ => 0)))] w.heap ∧ va_D (va_A [(oH, .inr (2, [.null, .long 0]))] sz) [(oH, .inr (2, [.ref u, .long 0])), (u, .inl (cB, 4096, .inl (fun _ => 0)))]) (va_A [(oH, .inr (2, [.null, .long 0]))] sz)) 1 4096 (va_A [(oH, .inr (2, [.null, .long 0]))] sz) := by
  refine Met.ofW (cc := prog_4_method_1_code) (maxL := 1) (ret := none) (by decide) rfl ?_
  intro p e s m args below meth c s₁ B hml hv
  obtain ⟨rfl, hsz, hP, hK, hD0, hN⟩ := hv
  have hx := B.exec
  have hb := B.bytes
  have hr := B.returns
  have hw := hw_of (atoms_spec (ws := wsX2_init) B.pre)
  have hown : s.vm.findClass RX2 = some m.cls := findClass_of_methodNamed B.named
  have hlocks := B.notSynchronized
  have hin : meth.name = "<init>" := (name_of_methodNamed B.named B.method).1
  subst hsz
  have hD := hD0.self (sz := s.heap.size)
  generalize hAe : va_A [(oH, .inr (2, [.null, .long 0]))] s.heap.size = A at hD ⊢
  have hA : ∀ q : Nat, s.heap.size ≤ q → A q := fun q h => by rw [← hAe]; exact Or.inr h
  have hS : va_S A s.heap s.heap [] := va_S.rf
  have hP : va_P (dC, dI) vwCl [(oH, .inr (2, [.null, .long 0]))] s.heap := hP
  have hl := lv_entry ([.ref oH]) (n := 1) (Nat.le_of_ble_eq_true rfl)
  rw [lg_entry_eq]
  generalize (lg_sl ([.ref oH]) ++ List.replicate (1 - (lg_sl ([.ref oH])).length) Slot.unset).toArray = ls at hl ⊢
  have hl : lv_has ls 1 [(0, .ref oH)] := hl
  refine lv_aload_n hx hb dX2_init_0 rfl (lv_at hl 0 rfl) ?_
  refine W.objInit hx hb hown (hw _ w_104) (hw _ w_20) (hw _ w_21) rfl (by rw [hml]; exact hl.1) rfl dX2_init_1 (Nat.le_of_ble_eq_true rfl) (Nat.le_of_ble_eq_true rfl) ?_
  refine W.eq (g2 := F0 m 4 ls []) rfl ?_
  refine lv_aload_n hx hb dX2_init_4 rfl (lv_at hl 0 rfl) ?_
  refine lv_sipush (v := 4096) hx hb dX2_init_5 (by decide) ?_
  refine va_newa (atype := .byte) (ty := .byte) (N' := 4096) (a0 := (4096, .inl (fun _ => 0))) hx hb (hw _ w_113) rfl hK hP hD hS hA (fun _ => rfl) (by decide) (by decide) (show 4096 * 1 ≤ 536870912 by omega) (show 0 + 1 ≤ 1 by omega) (show 0 + 4096 ≤ 4096 by omega) dX2_init_8 (fun q_8 cA H hK9 hP hD hS => ?_)
  obtain rfl : cB = cA := k_same hK9 2 4 rfl rfl
  have hP : va_P (dC, dI) vwCl [(oH, .inr (2, [.null, .long 0])), (q_8, .inl (cB, 4096, .inl (fun _ => 0)))] H := hP
  have hD : va_D A [(oH, .inr (2, [.null, .long 0])), (q_8, .inl (cB, 4096, .inl (fun _ => 0)))] := hD
  refine W.widen (k := 1) (n := 4096) (by omega) (by omega) ?_
  refine va_putF (D := (dC, dI)) (ci := 2) (v := .ref q_8) (ty := (.array .byte)) (C := RX2) (T := TX2) (N := 2) hx hb hw inWX2 tyX2 tyX2_ok nmX2 hown hK hP hD hS 0 rfl rfl 0 (by decide) (hw _ w_105) (fun _ h9 => h9) rfl hin rfl (by decide +kernel) rfl rfl (Nat.le_of_ble_eq_true rfl) dX2_init_10 (fun H locs hP hD hS => ?_)
  have hP : va_P (dC, dI) vwCl [(oH, .inr (2, [.ref q_8, .long 0])), (q_8, .inl (cB, 4096, .inl (fun _ => 0)))] H := hP
  have hD : va_D A [(oH, .inr (2, [.ref q_8, .long 0])), (q_8, .inl (cB, 4096, .inl (fun _ => 0)))] := hD
  have hP9 := hP.sub (ws' := [(oH, .inr (2, [.ref q_8, .long 0])), (q_8, .inl (cB, 4096, .inl (fun _ => 0)))]) [0, 1] rfl
  have hD9 := hD.sub (ws' := [(oH, .inr (2, [.ref q_8, .long 0])), (q_8, .inl (cB, 4096, .inl (fun _ => 0)))]) [0, 1] (by decide) rfl
  exact W.vret hx hb hr (fun u hu hW => ⟨⟨q_8, rfl, trivial, by rw [hu]; exact hP9, hD9⟩, hS.F hu⟩) hS.2.2 dX2_init_13
set_option maxHeartbeats 4000000 in
set_option maxRecDepth 100000 in
theorem k_X3_init (l : Launch) (dC : Nat → ClassId) (dI : Nat → Nat → Nat) (cI cJ cB cZ : ClassId) (sH : Nat) (sz : Nat)   : Met l yX3_init wsX3_init ({ frames := 2, cells := 4, slots := 4118, locals := 32 }) (va_Pc [.ref sH] (fun U => U.heap.size = sz ∧ va_P (dC, dI) vwCl [(sH, .inr (3, [.null, .null, .int 0, .int 0, .int 0, .int 0, .int 0, .int 0, .int 0, .int 0]))] U.heap ∧ va_K (dC, dI) vwCl [(cI, .int), (cJ, .long), (cB, .byte), (cZ, .boolean)] U ∧ va_D (fun _ => True) [(sH, .inr (3, [.null, .null, .int 0, .int 0, .int 0, .int 0, .int 0, .int 0, .int 0, .int 0]))] ∧ nw_ U)) (va_Qv (fun (_ : Nat × Nat × Nat × Nat) => True) (fun (u : Nat × Nat × Nat × Nat) (w : State) => va_P (dC, dI) vwCl [(sH, .inr (3, [.ref u.1, .ref u.2.2.1, .int 0, .int 0, .int 0, .int 0, .int 0, .int 0, .int 0, .int 0])), (u.1, .inr (1, [.ref u.2.1, .int 0, .int 0, .int 0])), (u.2.1, .inl (cI, 16, .inl (fun _ => 0))), (u.2.2.1, .inr (2, [.ref u.2.2.2, .long 0])), (u.2.2.2, .inl (cB, 4096, .inl (fun _ => 0)))] w.heap ∧ va_D (va_A [(sH, .inr (3, [.null, .null, .int 0, .int 0, .int 0, .int 0, .int 0, .int 0, .int 0, .int 0]))] sz) [(sH, .inr (3, [.ref u.1, .ref u.2.2.1, .int 0, .int 0, .int 0, .int 0, .int 0, .int 0, .int 0, .int 0])), (u.1, .inr (1, [.ref u.2.1, .int 0, .int 0, .int 0])), (u.2.1, .inl (cI, 16, .inl (fun _ => 0))), (u.2.2.1, .inr (2, [.ref u.2.2.2, .long 0])), (u.2.2.2, .inl (cB, 4096, .inl (fun _ => 0)))]) (va_A [(sH, .inr (3, [.null, .null, .int 0, .int 0, .int 0, .int 0, .int 0, .int 0, .int 0, .int 0]))] sz)) 4 4118 (va_A [(sH, .inr (3, [.null, .null, .int 0, .int 0, .int 0, .int 0, .int 0, .int 0, .int 0, .int 0]))] sz) := by
  refine Met.ofW (cc := prog_5_method_1_code) (maxL := 1) (ret := none) (by decide) rfl ?_
  intro p e s m args below meth c s₁ B hml hv
  obtain ⟨rfl, hsz, hP, hK, hD0, hN⟩ := hv
  have hx := B.exec
  have hb := B.bytes
  have hr := B.returns
  have hw := hw_of (atoms_spec (ws := wsX3_init) B.pre)
  have hown : s.vm.findClass RX3 = some m.cls := findClass_of_methodNamed B.named
  have hlocks := B.notSynchronized
  have hin : meth.name = "<init>" := (name_of_methodNamed B.named B.method).1
  subst hsz
  have hD := hD0.self (sz := s.heap.size)
  generalize hAe : va_A [(sH, .inr (3, [.null, .null, .int 0, .int 0, .int 0, .int 0, .int 0, .int 0, .int 0, .int 0]))] s.heap.size = A at hD ⊢
  have hA : ∀ q : Nat, s.heap.size ≤ q → A q := fun q h => by rw [← hAe]; exact Or.inr h
  have hS : va_S A s.heap s.heap [] := va_S.rf
  have hP : va_P (dC, dI) vwCl [(sH, .inr (3, [.null, .null, .int 0, .int 0, .int 0, .int 0, .int 0, .int 0, .int 0, .int 0]))] s.heap := hP
  have hl := lv_entry ([.ref sH]) (n := 1) (Nat.le_of_ble_eq_true rfl)
  rw [lg_entry_eq]
  generalize (lg_sl ([.ref sH]) ++ List.replicate (1 - (lg_sl ([.ref sH])).length) Slot.unset).toArray = ls at hl ⊢
  have hl : lv_has ls 1 [(0, .ref sH)] := hl
  refine lv_aload_n hx hb dX3_init_0 rfl (lv_at hl 0 rfl) ?_
  refine W.objInit hx hb hown (hw _ w_77) (hw _ w_20) (hw _ w_21) rfl (by rw [hml]; exact hl.1) rfl dX3_init_1 (Nat.le_of_ble_eq_true rfl) (Nat.le_of_ble_eq_true rfl) ?_
  refine W.eq (g2 := F0 m 4 ls []) rfl ?_
  refine lv_aload_n hx hb dX3_init_4 rfl (lv_at hl 0 rfl) ?_
  refine va_new (ci := 1) (fs := [.null, .int 0, .int 0, .int 0]) (C := RX1) (T := TX1) (N := 4) hx hb hw inWX1 tyX1 tyX1_ok hown (hw _ w_78) (hw _ w_79) (hw _ w_6) hK hP hD hS hA rfl (fun j hj => by rcases (show j = 0 ∨ j = 1 ∨ j = 2 ∨ j = 3 by omega) with rfl | rfl | rfl | rfl <;> rfl) (show 0 + 1 ≤ 4 by omega) (show 0 + 4 ≤ 4118 by omega) dX3_init_5 (fun q_5 H hP hD hS => ?_)
  have hP : va_P (dC, dI) vwCl [(sH, .inr (3, [.null, .null, .int 0, .int 0, .int 0, .int 0, .int 0, .int 0, .int 0, .int 0])), (q_5, .inr (1, [.null, .int 0, .int 0, .int 0]))] H := hP
  have hD : va_D A [(sH, .inr (3, [.null, .null, .int 0, .int 0, .int 0, .int 0, .int 0, .int 0, .int 0, .int 0])), (q_5, .inr (1, [.null, .int 0, .int 0, .int 0]))] := hD
  refine W.widen (k := 1) (n := 4) (by omega) (by omega) ?_
  refine lv_dup hx hb dX3_init_8 rfl ?_
  have hPc := hP.sub (ws' := [(q_5, .inr (1, [.null, .int 0, .int 0, .int 0]))]) [1] rfl
  have hDc := hD.sub (ws' := [(q_5, .inr (1, [.null, .int 0, .int 0, .int 0]))]) [1] (by decide) rfl
  have hFc := va_free (wc := [(q_5, .inr (1, [.null, .int 0, .int 0, .int 0]))]) hD hS hA [1] rfl
  refine va_callv (va_runIN (As := []) (rest := [.ref q_5, .ref sH]) ⟨hx, hb, hml, hown, hw⟩ (k_X1_init l dC dI cI cJ cB cZ q_5 H.size) ⟨va_cnB 0 hw (gI w_82) rfl rfl rfl (hN _ n_80) (hw _ w_6) (by decide +kernel) ⟨Nat.le_of_ble_eq_true rfl, Nat.le_of_ble_eq_true rfl⟩, rfl, hw _ w_81⟩ ⟨fun a U g mk q => by obtain ⟨q0, q1, qP, qK, qD, qN⟩ := q; exact ⟨q0, q1, qP, va_K.moved (u := U) (U := U.calling g mk a) (Vm.Alike.refl U.vm) qK, qD, nw_same (s := U) (U := U.calling g mk a) rfl qN⟩, fun U hU hW => ⟨rfl, by rw [hU], by rw [hU]; exact hPc, va_K.moved hW.alike hK, hDc.weaken (fun _ _ _ _ => trivial), nw_warm hW hN⟩⟩ rfl rfl hl.1 rfl (lv_room (Nat.le_of_ble_eq_true rfl)) dX3_init_9 ⟨show 1 + 1 ≤ 4 by omega, show 4 + 16 ≤ 4118 by omega⟩) hS (fun q _ h => hFc q h) hFc (fun u t9 H1 locs ht hvm hR hB hz1 hk1 hS => ?_)
  obtain ⟨qA_9, rfl⟩ : ∃ z, z = u := ⟨_, rfl⟩
  obtain ⟨hP1, hD1⟩ := hB
  rw [ht] at hP1
  obtain ⟨hP, hD⟩ := va_join (wr := [(sH, .inr (3, [.null, .null, .int 0, .int 0, .int 0, .int 0, .int 0, .int 0, .int 0, .int 0]))]) (w1 := [(q_5, .inr (1, [.ref qA_9, .int 0, .int 0, .int 0])), (qA_9, .inl (cI, 16, .inl (fun _ => 0)))]) hP hD [1] [0] rfl rfl (by decide) (by decide) hk1 hFc hP1 hD1
  generalize H1 = H at hP hS ⊢
  have hP : va_P (dC, dI) vwCl [(sH, .inr (3, [.null, .null, .int 0, .int 0, .int 0, .int 0, .int 0, .int 0, .int 0, .int 0])), (q_5, .inr (1, [.ref qA_9, .int 0, .int 0, .int 0])), (qA_9, .inl (cI, 16, .inl (fun _ => 0)))] H := hP
  have hD : va_D A [(sH, .inr (3, [.null, .null, .int 0, .int 0, .int 0, .int 0, .int 0, .int 0, .int 0, .int 0])), (q_5, .inr (1, [.ref qA_9, .int 0, .int 0, .int 0])), (qA_9, .inl (cI, 16, .inl (fun _ => 0)))] := hD
  refine W.widen (k := 2) (n := 20) (by omega) (by omega) ?_
  refine va_putF (D := (dC, dI)) (ci := 3) (v := .ref q_5) (ty := (.object "SignalBoard$InQueue")) (C := RX3) (T := TX3) (N := 10) hx hb hw inWX3 tyX3 tyX3_ok nmX3 hown hK hP hD hS 0 rfl rfl 0 (by decide) (hw _ w_114) (fun _ h9 => h9) rfl hin rfl (by decide +kernel) rfl rfl (Nat.le_of_ble_eq_true rfl) dX3_init_12 (fun H locs hP hD hS => ?_)
  have hP : va_P (dC, dI) vwCl [(sH, .inr (3, [.ref q_5, .null, .int 0, .int 0, .int 0, .int 0, .int 0, .int 0, .int 0, .int 0])), (q_5, .inr (1, [.ref qA_9, .int 0, .int 0, .int 0])), (qA_9, .inl (cI, 16, .inl (fun _ => 0)))] H := hP
  have hD : va_D A [(sH, .inr (3, [.ref q_5, .null, .int 0, .int 0, .int 0, .int 0, .int 0, .int 0, .int 0, .int 0])), (q_5, .inr (1, [.ref qA_9, .int 0, .int 0, .int 0])), (qA_9, .inl (cI, 16, .inl (fun _ => 0)))] := hD
  refine lv_aload_n hx hb dX3_init_15 rfl (lv_at hl 0 rfl) ?_
  refine va_new (ci := 2) (fs := [.null, .long 0]) (C := RX2) (T := TX2) (N := 2) hx hb hw inWX2 tyX2 tyX2_ok hown (hw _ w_99) (hw _ w_100) (hw _ w_7) hK hP hD hS hA rfl (fun j hj => by rcases (show j = 0 ∨ j = 1 by omega) with rfl | rfl <;> rfl) (show 2 + 1 ≤ 4 by omega) (show 20 + 2 ≤ 4118 by omega) dX3_init_16 (fun q_16 H hP hD hS => ?_)
  have hP : va_P (dC, dI) vwCl [(sH, .inr (3, [.ref q_5, .null, .int 0, .int 0, .int 0, .int 0, .int 0, .int 0, .int 0, .int 0])), (q_5, .inr (1, [.ref qA_9, .int 0, .int 0, .int 0])), (qA_9, .inl (cI, 16, .inl (fun _ => 0))), (q_16, .inr (2, [.null, .long 0]))] H := hP
  have hD : va_D A [(sH, .inr (3, [.ref q_5, .null, .int 0, .int 0, .int 0, .int 0, .int 0, .int 0, .int 0, .int 0])), (q_5, .inr (1, [.ref qA_9, .int 0, .int 0, .int 0])), (qA_9, .inl (cI, 16, .inl (fun _ => 0))), (q_16, .inr (2, [.null, .long 0]))] := hD
  refine W.widen (k := 3) (n := 22) (by omega) (by omega) ?_
  refine lv_dup hx hb dX3_init_19 rfl ?_
  have hPc := hP.sub (ws' := [(q_16, .inr (2, [.null, .long 0]))]) [3] rfl
  have hDc := hD.sub (ws' := [(q_16, .inr (2, [.null, .long 0]))]) [3] (by decide) rfl
  have hFc := va_free (wc := [(q_16, .inr (2, [.null, .long 0]))]) hD hS hA [3] rfl
  refine va_callv (va_runIN (As := []) (rest := [.ref q_16, .ref sH]) ⟨hx, hb, hml, hown, hw⟩ (k_X2_init l dC dI cI cJ cB cZ q_16 H.size) ⟨va_cnB 0 hw (gI w_103) rfl rfl rfl (hN _ n_101) (hw _ w_7) (by decide +kernel) ⟨Nat.le_of_ble_eq_true rfl, Nat.le_of_ble_eq_true rfl⟩, rfl, hw _ w_102⟩ ⟨fun a U g mk q => by obtain ⟨q0, q1, qP, qK, qD, qN⟩ := q; exact ⟨q0, q1, qP, va_K.moved (u := U) (U := U.calling g mk a) (Vm.Alike.refl U.vm) qK, qD, nw_same (s := U) (U := U.calling g mk a) rfl qN⟩, fun U hU hW => ⟨rfl, by rw [hU], by rw [hU]; exact hPc, va_K.moved hW.alike hK, hDc.weaken (fun _ _ _ _ => trivial), nw_warm hW hN⟩⟩ rfl rfl hl.1 rfl (lv_room (Nat.le_of_ble_eq_true rfl)) dX3_init_20 ⟨show 3 + 1 ≤ 4 by omega, show 22 + 4096 ≤ 4118 by omega⟩) hS (fun q _ h => hFc q h) hFc (fun u t9 H1 locs ht hvm hR hB hz1 hk1 hS => ?_)
  obtain ⟨oA_20, rfl⟩ : ∃ z, z = u := ⟨_, rfl⟩
  obtain ⟨hP1, hD1⟩ := hB
  rw [ht] at hP1
  obtain ⟨hP, hD⟩ := va_join (wr := [(sH, .inr (3, [.ref q_5, .null, .int 0, .int 0, .int 0, .int 0, .int 0, .int 0, .int 0, .int 0])), (q_5, .inr (1, [.ref qA_9, .int 0, .int 0, .int 0])), (qA_9, .inl (cI, 16, .inl (fun _ => 0)))]) (w1 := [(q_16, .inr (2, [.ref oA_20, .long 0])), (oA_20, .inl (cB, 4096, .inl (fun _ => 0)))]) hP hD [3] [0, 1, 2] rfl rfl (by decide) (by decide) hk1 hFc hP1 hD1
  generalize H1 = H at hP hS ⊢
  have hP : va_P (dC, dI) vwCl [(sH, .inr (3, [.ref q_5, .null, .int 0, .int 0, .int 0, .int 0, .int 0, .int 0, .int 0, .int 0])), (q_5, .inr (1, [.ref qA_9, .int 0, .int 0, .int 0])), (qA_9, .inl (cI, 16, .inl (fun _ => 0))), (q_16, .inr (2, [.ref oA_20, .long 0])), (oA_20, .inl (cB, 4096, .inl (fun _ => 0)))] H := hP
  have hD : va_D A [(sH, .inr (3, [.ref q_5, .null, .int 0, .int 0, .int 0, .int 0, .int 0, .int 0, .int 0, .int 0])), (q_5, .inr (1, [.ref qA_9, .int 0, .int 0, .int 0])), (qA_9, .inl (cI, 16, .inl (fun _ => 0))), (q_16, .inr (2, [.ref oA_20, .long 0])), (oA_20, .inl (cB, 4096, .inl (fun _ => 0)))] := hD
  refine W.widen (k := 4) (n := 4118) (by omega) (by omega) ?_
  refine va_putF (D := (dC, dI)) (ci := 3) (v := .ref q_16) (ty := (.object "SignalBoard$OutLog")) (C := RX3) (T := TX3) (N := 10) hx hb hw inWX3 tyX3 tyX3_ok nmX3 hown hK hP hD hS 0 rfl rfl 1 (by decide) (hw _ w_116) (fun _ h9 => h9) rfl hin rfl (by decide +kernel) rfl rfl (Nat.le_of_ble_eq_true rfl) dX3_init_23 (fun H locs hP hD hS => ?_)
  have hP : va_P (dC, dI) vwCl [(sH, .inr (3, [.ref q_5, .ref q_16, .int 0, .int 0, .int 0, .int 0, .int 0, .int 0, .int 0, .int 0])), (q_5, .inr (1, [.ref qA_9, .int 0, .int 0, .int 0])), (qA_9, .inl (cI, 16, .inl (fun _ => 0))), (q_16, .inr (2, [.ref oA_20, .long 0])), (oA_20, .inl (cB, 4096, .inl (fun _ => 0)))] H := hP
  have hD : va_D A [(sH, .inr (3, [.ref q_5, .ref q_16, .int 0, .int 0, .int 0, .int 0, .int 0, .int 0, .int 0, .int 0])), (q_5, .inr (1, [.ref qA_9, .int 0, .int 0, .int 0])), (qA_9, .inl (cI, 16, .inl (fun _ => 0))), (q_16, .inr (2, [.ref oA_20, .long 0])), (oA_20, .inl (cB, 4096, .inl (fun _ => 0)))] := hD
  have hP9 := hP.sub (ws' := [(sH, .inr (3, [.ref q_5, .ref q_16, .int 0, .int 0, .int 0, .int 0, .int 0, .int 0, .int 0, .int 0])), (q_5, .inr (1, [.ref qA_9, .int 0, .int 0, .int 0])), (qA_9, .inl (cI, 16, .inl (fun _ => 0))), (q_16, .inr (2, [.ref oA_20, .long 0])), (oA_20, .inl (cB, 4096, .inl (fun _ => 0)))]) [0, 1, 2, 3, 4] rfl
  have hD9 := hD.sub (ws' := [(sH, .inr (3, [.ref q_5, .ref q_16, .int 0, .int 0, .int 0, .int 0, .int 0, .int 0, .int 0, .int 0])), (q_5, .inr (1, [.ref qA_9, .int 0, .int 0, .int 0])), (qA_9, .inl (cI, 16, .inl (fun _ => 0))), (q_16, .inr (2, [.ref oA_20, .long 0])), (oA_20, .inl (cB, 4096, .inl (fun _ => 0)))]) [0, 1, 2, 3, 4] (by decide) rfl
  exact W.vret hx hb hr (fun u hu hW => ⟨⟨(q_5, qA_9, q_16, oA_20), rfl, trivial, by rw [hu]; exact hP9, hD9⟩, hS.F hu⟩) hS.2.2 dX3_init_26
set_option maxHeartbeats 4000000 in
set_option maxRecDepth 100000 in
theorem k_X5_init (l : Launch) (dC : Nat → ClassId) (dI : Nat → Nat → Nat) (cI cJ cB cZ : ClassId) (bH : Nat) (sz : Nat) (n : Nat) (p1 : Int32) (hn : n ≤ 4) (hcnt : (if p1 < 1 then (1 : Int32) else if 4 < p1 then 1 else p1) = nI n) : Met l yX5_init wsX5_init ({ frames := 3, cells := 12, slots := 4195, locals := 52 }) (va_Pc [.ref bH, .int p1] (fun U => U.heap.size = sz ∧ va_P (dC, dI) vwCl [(bH, .inr (5, [.int 0, .null, .null, .null]))] U.heap ∧ va_K (dC, dI) vwCl [(cI, .int), (cJ, .long), (cB, .byte), (cZ, .boolean)] U ∧ va_D (fun _ => True) [(bH, .inr (5, [.int 0, .null, .null, .null]))] ∧ nw_ U)) (va_Qv (fun (_ : Nat × Nat × Nat × Nat × Nat × Nat × Nat × Nat × Nat × Nat × Nat × Nat) => True) (fun (u : Nat × Nat × Nat × Nat × Nat × Nat × Nat × Nat × Nat × Nat × Nat × Nat) (w : State) => va_P (dC, dI) vwCl [(bH, .inr (5, [.int (nI n), .ref u.1, .ref u.2.2.2.1, .ref u.2.2.2.2.2.2.2.1])), (u.1, .inr (4, [.ref u.2.1, .ref u.2.2.1, .int (nI n)])), (u.2.1, .inl (cI, n, .inl (fun _ => 0))), (u.2.2.1, .inl (cJ, (n + 1), .inr (.inl (vp_updL (f_J7_fill (n + 1) (fun _ => 0) (-1)) (Int32.toNatClampNeg (nI n)) 0)))), (u.2.2.2.1, .inr (0, [.int 0, .int 0, .int 0, .ref u.2.2.2.2.1, .ref u.2.2.2.2.2.1, .ref u.2.2.2.2.2.2.1, .int (nI (2 * n))])), (u.2.2.2.2.1, .inl (cI, 32, .inl (fun _ => 0))), (u.2.2.2.2.2.1, .inl (cI, (2 * n), .inl (fun _ => 0))), (u.2.2.2.2.2.2.1, .inl (cI, (2 * n), .inl (fun _ => 0))), (u.2.2.2.2.2.2.2.1, .inr (3, [.ref u.2.2.2.2.2.2.2.2.1, .ref u.2.2.2.2.2.2.2.2.2.2.1, .int 0, .int 0, .int 0, .int 0, .int 0, .int 0, .int 0, .int 0])), (u.2.2.2.2.2.2.2.2.1, .inr (1, [.ref u.2.2.2.2.2.2.2.2.2.1, .int 0, .int 0, .int 0])), (u.2.2.2.2.2.2.2.2.2.1, .inl (cI, 16, .inl (fun _ => 0))), (u.2.2.2.2.2.2.2.2.2.2.1, .inr (2, [.ref u.2.2.2.2.2.2.2.2.2.2.2, .long 0])), (u.2.2.2.2.2.2.2.2.2.2.2, .inl (cB, 4096, .inl (fun _ => 0)))] w.heap ∧ va_D (va_A [(bH, .inr (5, [.int 0, .null, .null, .null]))] sz) [(bH, .inr (5, [.int (nI n), .ref u.1, .ref u.2.2.2.1, .ref u.2.2.2.2.2.2.2.1])), (u.1, .inr (4, [.ref u.2.1, .ref u.2.2.1, .int (nI n)])), (u.2.1, .inl (cI, n, .inl (fun _ => 0))), (u.2.2.1, .inl (cJ, (n + 1), .inr (.inl (vp_updL (f_J7_fill (n + 1) (fun _ => 0) (-1)) (Int32.toNatClampNeg (nI n)) 0)))), (u.2.2.2.1, .inr (0, [.int 0, .int 0, .int 0, .ref u.2.2.2.2.1, .ref u.2.2.2.2.2.1, .ref u.2.2.2.2.2.2.1, .int (nI (2 * n))])), (u.2.2.2.2.1, .inl (cI, 32, .inl (fun _ => 0))), (u.2.2.2.2.2.1, .inl (cI, (2 * n), .inl (fun _ => 0))), (u.2.2.2.2.2.2.1, .inl (cI, (2 * n), .inl (fun _ => 0))), (u.2.2.2.2.2.2.2.1, .inr (3, [.ref u.2.2.2.2.2.2.2.2.1, .ref u.2.2.2.2.2.2.2.2.2.2.1, .int 0, .int 0, .int 0, .int 0, .int 0, .int 0, .int 0, .int 0])), (u.2.2.2.2.2.2.2.2.1, .inr (1, [.ref u.2.2.2.2.2.2.2.2.2.1, .int 0, .int 0, .int 0])), (u.2.2.2.2.2.2.2.2.2.1, .inl (cI, 16, .inl (fun _ => 0))), (u.2.2.2.2.2.2.2.2.2.2.1, .inr (2, [.ref u.2.2.2.2.2.2.2.2.2.2.2, .long 0])), (u.2.2.2.2.2.2.2.2.2.2.2, .inl (cB, 4096, .inl (fun _ => 0)))]) (va_A [(bH, .inr (5, [.int 0, .null, .null, .null]))] sz)) 12 4195 (va_A [(bH, .inr (5, [.int 0, .null, .null, .null]))] sz) := by
  refine Met.ofW (cc := prog_1_method_1_code) (maxL := 2) (ret := none) (by decide) rfl ?_
  intro p e s m args below meth c s₁ B hml hv
  obtain ⟨rfl, hsz, hP, hK, hD0, hN⟩ := hv
  have hx := B.exec
  have hb := B.bytes
  have hr := B.returns
  have hw := hw_of (atoms_spec (ws := wsX5_init) B.pre)
  have hown : s.vm.findClass RX5 = some m.cls := findClass_of_methodNamed B.named
  have hlocks := B.notSynchronized
  have hin : meth.name = "<init>" := (name_of_methodNamed B.named B.method).1
  subst hsz
  have hD := hD0.self (sz := s.heap.size)
  generalize hAe : va_A [(bH, .inr (5, [.int 0, .null, .null, .null]))] s.heap.size = A at hD ⊢
  have hA : ∀ q : Nat, s.heap.size ≤ q → A q := fun q h => by rw [← hAe]; exact Or.inr h
  have hS : va_S A s.heap s.heap [] := va_S.rf
  have hP : va_P (dC, dI) vwCl [(bH, .inr (5, [.int 0, .null, .null, .null]))] s.heap := hP
  have hl := lv_entry ([.ref bH, .int p1]) (n := 2) (Nat.le_of_ble_eq_true rfl)
  rw [lg_entry_eq]
  generalize (lg_sl ([.ref bH, .int p1]) ++ List.replicate (2 - (lg_sl ([.ref bH, .int p1])).length) Slot.unset).toArray = ls at hl ⊢
  have hl : lv_has ls 2 [(0, .ref bH), (1, .int p1)] := hl
  refine lv_aload_n hx hb dX5_init_0 rfl (lv_at hl 0 rfl) ?_
  refine W.objInit hx hb hown (hw _ w_19) (hw _ w_20) (hw _ w_21) rfl (by rw [hml]; exact hl.1) rfl dX5_init_1 (Nat.le_of_ble_eq_true rfl) (Nat.le_of_ble_eq_true rfl) ?_
  refine W.eq (g2 := F0 m 4 ls []) rfl ?_
  refine lv_aload_n hx hb dX5_init_4 rfl (lv_at hl 0 rfl) ?_
  refine lv_iload_n hx hb dX5_init_5 rfl (lv_at hl 1 rfl) ?_
  refine lv_iconst (v := 1) hx hb dX5_init_6 (by decide) ?_
  refine lv_icmp_lt (tgt := 19) hx hb dX5_init_7 (by decide) (fun c_7 => ?_) (fun c_7 => ?_)
  · refine lv_iconst (v := 1) hx hb dX5_init_19 (by decide) ?_
    refine lv_topi (fun y_20 e_20 => ?_)
    obtain rfl : y_20 = (nI n) := e_20.trans (by first | (rw [if_pos c_7] at hcnt; exact hcnt) | (rw [if_neg c_7, if_pos c_12] at hcnt; exact hcnt) | (rw [if_neg c_7, if_neg c_12] at hcnt; exact hcnt))
    refine va_putF (D := (dC, dI)) (ci := 5) (v := .int (nI n)) (ty := .int) (C := RX5) (T := TX5) (N := 4) hx hb hw inWX5 tyX5 tyX5_ok nmX5 hown hK hP hD hS 0 rfl rfl 0 (by decide) (hw _ w_147) (fun _ h9 => h9) rfl hin rfl (by decide +kernel) rfl rfl (Nat.le_of_ble_eq_true rfl) dX5_init_20 (fun H locs hP hD hS => ?_)
    have hP : va_P (dC, dI) vwCl [(bH, .inr (5, [.int (nI n), .null, .null, .null]))] H := hP
    have hD : va_D A [(bH, .inr (5, [.int (nI n), .null, .null, .null]))] := hD
    refine lv_aload_n hx hb dX5_init_23 rfl (lv_at hl 0 rfl) ?_
    refine va_new (ci := 4) (fs := [.null, .null, .int 0]) (C := RX4) (T := TX4) (N := 3) hx hb hw inWX4 tyX4 tyX4_ok hown (hw _ w_22) (hw _ w_23) (hw _ w_2) hK hP hD hS hA rfl (fun j hj => by rcases (show j = 0 ∨ j = 1 ∨ j = 2 by omega) with rfl | rfl | rfl <;> rfl) (show 0 + 1 ≤ 12 by omega) (show 0 + 3 ≤ 4195 by omega) dX5_init_24 (fun q_24 H hP hD hS => ?_)
    have hP : va_P (dC, dI) vwCl [(bH, .inr (5, [.int (nI n), .null, .null, .null])), (q_24, .inr (4, [.null, .null, .int 0]))] H := hP
    have hD : va_D A [(bH, .inr (5, [.int (nI n), .null, .null, .null])), (q_24, .inr (4, [.null, .null, .int 0]))] := hD
    refine W.widen (k := 1) (n := 3) (by omega) (by omega) ?_
    refine lv_dup hx hb dX5_init_27 rfl ?_
    refine lv_aload_n hx hb dX5_init_28 rfl (lv_at hl 0 rfl) ?_
    refine va_get (D := (dC, dI)) (ci := 5) (v := .int (nI n)) (C := RX5) (T := TX5) (N := 4) hx hb hw inWX5 hown hK hP 0 rfl rfl 0 (by decide) (hw _ w_147) (fun _ h9 => h9) rfl dX5_init_29 ?_
    have hPc := hP.sub (ws' := [(q_24, .inr (4, [.null, .null, .int 0]))]) [1] rfl
    have hDc := hD.sub (ws' := [(q_24, .inr (4, [.null, .null, .int 0]))]) [1] (by decide) rfl
    have hFc := va_free (wc := [(q_24, .inr (4, [.null, .null, .int 0]))]) hD hS hA [1] rfl
    refine va_callv (va_runI (As := [.int (nI n)]) (rest := [.ref q_24, .ref bH]) ⟨hx, hb, hml, hown, hw⟩ (k_X4_init l dC dI cI cJ cB cZ q_24 H.size n hn) (cwI 1 hw (gI w_26) rfl rfl rfl (hw _ w_2) (hw _ w_24) (hw _ w_25) rfl (by decide +kernel) ⟨Nat.le_of_ble_eq_true rfl, Nat.le_of_ble_eq_true rfl⟩) ⟨fun a U g mk q => by obtain ⟨q0, q1, qP, qK, qD, qN⟩ := q; exact ⟨q0, q1, qP, va_K.moved (u := U) (U := U.calling g mk a) (Vm.Alike.refl U.vm) qK, qD, nw_same (s := U) (U := U.calling g mk a) rfl qN⟩, fun U hU hW => ⟨rfl, by rw [hU], by rw [hU]; exact hPc, va_K.moved hW.alike hK, hDc.weaken (fun _ _ _ _ => trivial), nw_warm hW hN⟩⟩ rfl rfl hl.1 rfl (lv_room (Nat.le_of_ble_eq_true rfl)) dX5_init_32 ⟨show 1 + 2 ≤ 12 by omega, show 3 + 9 ≤ 4195 by omega⟩) hS (fun q _ h => hFc q h) hFc (fun u t9 H1 locs ht hvm hR hB hz1 hk1 hS => ?_)
    obtain ⟨tS_32, tW_32⟩ := u
    obtain ⟨hP1, hD1⟩ := hB
    rw [ht] at hP1
    obtain ⟨hP, hD⟩ := va_join (wr := [(bH, .inr (5, [.int (nI n), .null, .null, .null]))]) (w1 := [(q_24, .inr (4, [.ref tS_32, .ref tW_32, .int (nI n)])), (tS_32, .inl (cI, n, .inl (fun _ => 0))), (tW_32, .inl (cJ, (n + 1), .inr (.inl (vp_updL (f_J7_fill (n + 1) (fun _ => 0) (-1)) (Int32.toNatClampNeg (nI n)) 0))))]) hP hD [1] [0] rfl rfl (by decide) (by decide) hk1 hFc hP1 hD1
    generalize H1 = H at hP hS ⊢
    have hP : va_P (dC, dI) vwCl [(bH, .inr (5, [.int (nI n), .null, .null, .null])), (q_24, .inr (4, [.ref tS_32, .ref tW_32, .int (nI n)])), (tS_32, .inl (cI, n, .inl (fun _ => 0))), (tW_32, .inl (cJ, (n + 1), .inr (.inl (vp_updL (f_J7_fill (n + 1) (fun _ => 0) (-1)) (Int32.toNatClampNeg (nI n)) 0))))] H := hP
    have hD : va_D A [(bH, .inr (5, [.int (nI n), .null, .null, .null])), (q_24, .inr (4, [.ref tS_32, .ref tW_32, .int (nI n)])), (tS_32, .inl (cI, n, .inl (fun _ => 0))), (tW_32, .inl (cJ, (n + 1), .inr (.inl (vp_updL (f_J7_fill (n + 1) (fun _ => 0) (-1)) (Int32.toNatClampNeg (nI n)) 0))))] := hD
    refine W.widen (k := 3) (n := 12) (by omega) (by omega) ?_
    refine va_putF (D := (dC, dI)) (ci := 5) (v := .ref q_24) (ty := (.object "SignalBoard$Timer")) (C := RX5) (T := TX5) (N := 4) hx hb hw inWX5 tyX5 tyX5_ok nmX5 hown hK hP hD hS 0 rfl rfl 1 (by decide) (hw _ w_148) (fun _ h9 => h9) rfl hin rfl (by decide +kernel) rfl rfl (Nat.le_of_ble_eq_true rfl) dX5_init_35 (fun H locs hP hD hS => ?_)
    have hP : va_P (dC, dI) vwCl [(bH, .inr (5, [.int (nI n), .ref q_24, .null, .null])), (q_24, .inr (4, [.ref tS_32, .ref tW_32, .int (nI n)])), (tS_32, .inl (cI, n, .inl (fun _ => 0))), (tW_32, .inl (cJ, (n + 1), .inr (.inl (vp_updL (f_J7_fill (n + 1) (fun _ => 0) (-1)) (Int32.toNatClampNeg (nI n)) 0))))] H := hP
    have hD : va_D A [(bH, .inr (5, [.int (nI n), .ref q_24, .null, .null])), (q_24, .inr (4, [.ref tS_32, .ref tW_32, .int (nI n)])), (tS_32, .inl (cI, n, .inl (fun _ => 0))), (tW_32, .inl (cJ, (n + 1), .inr (.inl (vp_updL (f_J7_fill (n + 1) (fun _ => 0) (-1)) (Int32.toNatClampNeg (nI n)) 0))))] := hD
    refine lv_aload_n hx hb dX5_init_38 rfl (lv_at hl 0 rfl) ?_
    refine va_new (ci := 0) (fs := [.int 0, .int 0, .int 0, .null, .null, .null, .int 0]) (C := RX0) (T := TX0) (N := 7) hx hb hw inWX0 tyX0 tyX0_ok hown (hw _ w_44) (hw _ w_45) (hw _ w_4) hK hP hD hS hA rfl (fun j hj => by rcases (show j = 0 ∨ j = 1 ∨ j = 2 ∨ j = 3 ∨ j = 4 ∨ j = 5 ∨ j = 6 by omega) with rfl | rfl | rfl | rfl | rfl | rfl | rfl <;> rfl) (show 3 + 1 ≤ 12 by omega) (show 12 + 7 ≤ 4195 by omega) dX5_init_39 (fun q_39 H hP hD hS => ?_)
    have hP : va_P (dC, dI) vwCl [(bH, .inr (5, [.int (nI n), .ref q_24, .null, .null])), (q_24, .inr (4, [.ref tS_32, .ref tW_32, .int (nI n)])), (tS_32, .inl (cI, n, .inl (fun _ => 0))), (tW_32, .inl (cJ, (n + 1), .inr (.inl (vp_updL (f_J7_fill (n + 1) (fun _ => 0) (-1)) (Int32.toNatClampNeg (nI n)) 0)))), (q_39, .inr (0, [.int 0, .int 0, .int 0, .null, .null, .null, .int 0]))] H := hP
    have hD : va_D A [(bH, .inr (5, [.int (nI n), .ref q_24, .null, .null])), (q_24, .inr (4, [.ref tS_32, .ref tW_32, .int (nI n)])), (tS_32, .inl (cI, n, .inl (fun _ => 0))), (tW_32, .inl (cJ, (n + 1), .inr (.inl (vp_updL (f_J7_fill (n + 1) (fun _ => 0) (-1)) (Int32.toNatClampNeg (nI n)) 0)))), (q_39, .inr (0, [.int 0, .int 0, .int 0, .null, .null, .null, .int 0]))] := hD
    refine W.widen (k := 4) (n := 19) (by omega) (by omega) ?_
    refine lv_dup hx hb dX5_init_42 rfl ?_
    refine lv_iconst (v := 2) hx hb dX5_init_43 (by decide) ?_
    refine lv_aload_n hx hb dX5_init_44 rfl (lv_at hl 0 rfl) ?_
    refine va_get (D := (dC, dI)) (ci := 5) (v := .int (nI n)) (C := RX5) (T := TX5) (N := 4) hx hb hw inWX5 hown hK hP 0 rfl rfl 0 (by decide) (hw _ w_147) (fun _ h9 => h9) rfl dX5_init_45 ?_
    refine lv_imul hx hb dX5_init_48 ?_
    refine lv_topi (fun y_49 e_49 => ?_)
    obtain rfl : y_49 = (nI (2 * n)) := e_49.trans (pk_mul 2 n)
    have hPc := hP.sub (ws' := [(q_39, .inr (0, [.int 0, .int 0, .int 0, .null, .null, .null, .int 0]))]) [4] rfl
    have hDc := hD.sub (ws' := [(q_39, .inr (0, [.int 0, .int 0, .int 0, .null, .null, .null, .int 0]))]) [4] (by decide) rfl
    have hFc := va_free (wc := [(q_39, .inr (0, [.int 0, .int 0, .int 0, .null, .null, .null, .int 0]))]) hD hS hA [4] rfl
    refine va_callv (va_runI (As := [.int (nI (2 * n))]) (rest := [.ref q_39, .ref bH]) ⟨hx, hb, hml, hown, hw⟩ (k_X0_init l dC dI cI cJ cB cZ q_39 H.size n hn) (cwI 1 hw (gI w_48) rfl rfl rfl (hw _ w_4) (hw _ w_46) (hw _ w_47) rfl (by decide +kernel) ⟨Nat.le_of_ble_eq_true rfl, Nat.le_of_ble_eq_true rfl⟩) ⟨fun a U g mk q => by obtain ⟨q0, q1, qP, qK, qD, qN⟩ := q; exact ⟨q0, q1, qP, va_K.moved (u := U) (U := U.calling g mk a) (Vm.Alike.refl U.vm) qK, qD, nw_same (s := U) (U := U.calling g mk a) rfl qN⟩, fun U hU hW => ⟨rfl, by rw [hU], by rw [hU]; exact hPc, va_K.moved hW.alike hK, hDc.weaken (fun _ _ _ _ => trivial), nw_warm hW hN⟩⟩ rfl rfl hl.1 rfl (lv_room (Nat.le_of_ble_eq_true rfl)) dX5_init_49 ⟨show 4 + 3 ≤ 12 by omega, show 19 + 48 ≤ 4195 by omega⟩) hS (fun q _ h => hFc q h) hFc (fun u t9 H1 locs ht hvm hR hB hz1 hk1 hS => ?_)
    obtain ⟨kP_49, kE_49, kT_49⟩ := u
    obtain ⟨hP1, hD1⟩ := hB
    rw [ht] at hP1
    obtain ⟨hP, hD⟩ := va_join (wr := [(bH, .inr (5, [.int (nI n), .ref q_24, .null, .null])), (q_24, .inr (4, [.ref tS_32, .ref tW_32, .int (nI n)])), (tS_32, .inl (cI, n, .inl (fun _ => 0))), (tW_32, .inl (cJ, (n + 1), .inr (.inl (vp_updL (f_J7_fill (n + 1) (fun _ => 0) (-1)) (Int32.toNatClampNeg (nI n)) 0))))]) (w1 := [(q_39, .inr (0, [.int 0, .int 0, .int 0, .ref kP_49, .ref kE_49, .ref kT_49, .int (nI (2 * n))])), (kP_49, .inl (cI, 32, .inl (fun _ => 0))), (kE_49, .inl (cI, (2 * n), .inl (fun _ => 0))), (kT_49, .inl (cI, (2 * n), .inl (fun _ => 0)))]) hP hD [4] [0, 1, 2, 3] rfl rfl (by decide) (by decide) hk1 hFc hP1 hD1
    generalize H1 = H at hP hS ⊢
    have hP : va_P (dC, dI) vwCl [(bH, .inr (5, [.int (nI n), .ref q_24, .null, .null])), (q_24, .inr (4, [.ref tS_32, .ref tW_32, .int (nI n)])), (tS_32, .inl (cI, n, .inl (fun _ => 0))), (tW_32, .inl (cJ, (n + 1), .inr (.inl (vp_updL (f_J7_fill (n + 1) (fun _ => 0) (-1)) (Int32.toNatClampNeg (nI n)) 0)))), (q_39, .inr (0, [.int 0, .int 0, .int 0, .ref kP_49, .ref kE_49, .ref kT_49, .int (nI (2 * n))])), (kP_49, .inl (cI, 32, .inl (fun _ => 0))), (kE_49, .inl (cI, (2 * n), .inl (fun _ => 0))), (kT_49, .inl (cI, (2 * n), .inl (fun _ => 0)))] H := hP
    have hD : va_D A [(bH, .inr (5, [.int (nI n), .ref q_24, .null, .null])), (q_24, .inr (4, [.ref tS_32, .ref tW_32, .int (nI n)])), (tS_32, .inl (cI, n, .inl (fun _ => 0))), (tW_32, .inl (cJ, (n + 1), .inr (.inl (vp_updL (f_J7_fill (n + 1) (fun _ => 0) (-1)) (Int32.toNatClampNeg (nI n)) 0)))), (q_39, .inr (0, [.int 0, .int 0, .int 0, .ref kP_49, .ref kE_49, .ref kT_49, .int (nI (2 * n))])), (kP_49, .inl (cI, 32, .inl (fun _ => 0))), (kE_49, .inl (cI, (2 * n), .inl (fun _ => 0))), (kT_49, .inl (cI, (2 * n), .inl (fun _ => 0)))] := hD
    refine W.widen (k := 7) (n := 67) (by omega) (by omega) ?_
    refine va_putF (D := (dC, dI)) (ci := 5) (v := .ref q_39) (ty := (.object "SignalBoard$Controller")) (C := RX5) (T := TX5) (N := 4) hx hb hw inWX5 tyX5 tyX5_ok nmX5 hown hK hP hD hS 0 rfl rfl 2 (by decide) (hw _ w_149) (fun _ h9 => h9) rfl hin rfl (by decide +kernel) rfl rfl (Nat.le_of_ble_eq_true rfl) dX5_init_52 (fun H locs hP hD hS => ?_)
    have hP : va_P (dC, dI) vwCl [(bH, .inr (5, [.int (nI n), .ref q_24, .ref q_39, .null])), (q_24, .inr (4, [.ref tS_32, .ref tW_32, .int (nI n)])), (tS_32, .inl (cI, n, .inl (fun _ => 0))), (tW_32, .inl (cJ, (n + 1), .inr (.inl (vp_updL (f_J7_fill (n + 1) (fun _ => 0) (-1)) (Int32.toNatClampNeg (nI n)) 0)))), (q_39, .inr (0, [.int 0, .int 0, .int 0, .ref kP_49, .ref kE_49, .ref kT_49, .int (nI (2 * n))])), (kP_49, .inl (cI, 32, .inl (fun _ => 0))), (kE_49, .inl (cI, (2 * n), .inl (fun _ => 0))), (kT_49, .inl (cI, (2 * n), .inl (fun _ => 0)))] H := hP
    have hD : va_D A [(bH, .inr (5, [.int (nI n), .ref q_24, .ref q_39, .null])), (q_24, .inr (4, [.ref tS_32, .ref tW_32, .int (nI n)])), (tS_32, .inl (cI, n, .inl (fun _ => 0))), (tW_32, .inl (cJ, (n + 1), .inr (.inl (vp_updL (f_J7_fill (n + 1) (fun _ => 0) (-1)) (Int32.toNatClampNeg (nI n)) 0)))), (q_39, .inr (0, [.int 0, .int 0, .int 0, .ref kP_49, .ref kE_49, .ref kT_49, .int (nI (2 * n))])), (kP_49, .inl (cI, 32, .inl (fun _ => 0))), (kE_49, .inl (cI, (2 * n), .inl (fun _ => 0))), (kT_49, .inl (cI, (2 * n), .inl (fun _ => 0)))] := hD
    refine lv_aload_n hx hb dX5_init_55 rfl (lv_at hl 0 rfl) ?_
    refine va_new (ci := 3) (fs := [.null, .null, .int 0, .int 0, .int 0, .int 0, .int 0, .int 0, .int 0, .int 0]) (C := RX3) (T := TX3) (N := 10) hx hb hw inWX3 tyX3 tyX3_ok hown (hw _ w_72) (hw _ w_73) (hw _ w_5) hK hP hD hS hA rfl (fun j hj => by rcases (show j = 0 ∨ j = 1 ∨ j = 2 ∨ j = 3 ∨ j = 4 ∨ j = 5 ∨ j = 6 ∨ j = 7 ∨ j = 8 ∨ j = 9 by omega) with rfl | rfl | rfl | rfl | rfl | rfl | rfl | rfl | rfl | rfl <;> rfl) (show 7 + 1 ≤ 12 by omega) (show 67 + 10 ≤ 4195 by omega) dX5_init_56 (fun q_56 H hP hD hS => ?_)
    have hP : va_P (dC, dI) vwCl [(bH, .inr (5, [.int (nI n), .ref q_24, .ref q_39, .null])), (q_24, .inr (4, [.ref tS_32, .ref tW_32, .int (nI n)])), (tS_32, .inl (cI, n, .inl (fun _ => 0))), (tW_32, .inl (cJ, (n + 1), .inr (.inl (vp_updL (f_J7_fill (n + 1) (fun _ => 0) (-1)) (Int32.toNatClampNeg (nI n)) 0)))), (q_39, .inr (0, [.int 0, .int 0, .int 0, .ref kP_49, .ref kE_49, .ref kT_49, .int (nI (2 * n))])), (kP_49, .inl (cI, 32, .inl (fun _ => 0))), (kE_49, .inl (cI, (2 * n), .inl (fun _ => 0))), (kT_49, .inl (cI, (2 * n), .inl (fun _ => 0))), (q_56, .inr (3, [.null, .null, .int 0, .int 0, .int 0, .int 0, .int 0, .int 0, .int 0, .int 0]))] H := hP
    have hD : va_D A [(bH, .inr (5, [.int (nI n), .ref q_24, .ref q_39, .null])), (q_24, .inr (4, [.ref tS_32, .ref tW_32, .int (nI n)])), (tS_32, .inl (cI, n, .inl (fun _ => 0))), (tW_32, .inl (cJ, (n + 1), .inr (.inl (vp_updL (f_J7_fill (n + 1) (fun _ => 0) (-1)) (Int32.toNatClampNeg (nI n)) 0)))), (q_39, .inr (0, [.int 0, .int 0, .int 0, .ref kP_49, .ref kE_49, .ref kT_49, .int (nI (2 * n))])), (kP_49, .inl (cI, 32, .inl (fun _ => 0))), (kE_49, .inl (cI, (2 * n), .inl (fun _ => 0))), (kT_49, .inl (cI, (2 * n), .inl (fun _ => 0))), (q_56, .inr (3, [.null, .null, .int 0, .int 0, .int 0, .int 0, .int 0, .int 0, .int 0, .int 0]))] := hD
    refine W.widen (k := 8) (n := 77) (by omega) (by omega) ?_
    refine lv_dup hx hb dX5_init_59 rfl ?_
    have hPc := hP.sub (ws' := [(q_56, .inr (3, [.null, .null, .int 0, .int 0, .int 0, .int 0, .int 0, .int 0, .int 0, .int 0]))]) [8] rfl
    have hDc := hD.sub (ws' := [(q_56, .inr (3, [.null, .null, .int 0, .int 0, .int 0, .int 0, .int 0, .int 0, .int 0, .int 0]))]) [8] (by decide) rfl
    have hFc := va_free (wc := [(q_56, .inr (3, [.null, .null, .int 0, .int 0, .int 0, .int 0, .int 0, .int 0, .int 0, .int 0]))]) hD hS hA [8] rfl
    refine va_callv (va_runIN (As := []) (rest := [.ref q_56, .ref bH]) ⟨hx, hb, hml, hown, hw⟩ (k_X3_init l dC dI cI cJ cB cZ q_56 H.size) ⟨va_cnB 0 hw (gI w_76) rfl rfl rfl (hN _ n_74) (hw _ w_5) (by decide +kernel) ⟨Nat.le_of_ble_eq_true rfl, Nat.le_of_ble_eq_true rfl⟩, rfl, hw _ w_75⟩ ⟨fun a U g mk q => by obtain ⟨q0, q1, qP, qK, qD, qN⟩ := q; exact ⟨q0, q1, qP, va_K.moved (u := U) (U := U.calling g mk a) (Vm.Alike.refl U.vm) qK, qD, nw_same (s := U) (U := U.calling g mk a) rfl qN⟩, fun U hU hW => ⟨rfl, by rw [hU], by rw [hU]; exact hPc, va_K.moved hW.alike hK, hDc.weaken (fun _ _ _ _ => trivial), nw_warm hW hN⟩⟩ rfl rfl hl.1 rfl (lv_room (Nat.le_of_ble_eq_true rfl)) dX5_init_60 ⟨show 8 + 4 ≤ 12 by omega, show 77 + 4118 ≤ 4195 by omega⟩) hS (fun q _ h => hFc q h) hFc (fun u t9 H1 locs ht hvm hR hB hz1 hk1 hS => ?_)
    obtain ⟨qH_60, qA_60, oH_60, oA_60⟩ := u
    obtain ⟨hP1, hD1⟩ := hB
    rw [ht] at hP1
    obtain ⟨hP, hD⟩ := va_join (wr := [(bH, .inr (5, [.int (nI n), .ref q_24, .ref q_39, .null])), (q_24, .inr (4, [.ref tS_32, .ref tW_32, .int (nI n)])), (tS_32, .inl (cI, n, .inl (fun _ => 0))), (tW_32, .inl (cJ, (n + 1), .inr (.inl (vp_updL (f_J7_fill (n + 1) (fun _ => 0) (-1)) (Int32.toNatClampNeg (nI n)) 0)))), (q_39, .inr (0, [.int 0, .int 0, .int 0, .ref kP_49, .ref kE_49, .ref kT_49, .int (nI (2 * n))])), (kP_49, .inl (cI, 32, .inl (fun _ => 0))), (kE_49, .inl (cI, (2 * n), .inl (fun _ => 0))), (kT_49, .inl (cI, (2 * n), .inl (fun _ => 0)))]) (w1 := [(q_56, .inr (3, [.ref qH_60, .ref oH_60, .int 0, .int 0, .int 0, .int 0, .int 0, .int 0, .int 0, .int 0])), (qH_60, .inr (1, [.ref qA_60, .int 0, .int 0, .int 0])), (qA_60, .inl (cI, 16, .inl (fun _ => 0))), (oH_60, .inr (2, [.ref oA_60, .long 0])), (oA_60, .inl (cB, 4096, .inl (fun _ => 0)))]) hP hD [8] [0, 1, 2, 3, 4, 5, 6, 7] rfl rfl (by decide) (by decide) hk1 hFc hP1 hD1
    generalize H1 = H at hP hS ⊢
    have hP : va_P (dC, dI) vwCl [(bH, .inr (5, [.int (nI n), .ref q_24, .ref q_39, .null])), (q_24, .inr (4, [.ref tS_32, .ref tW_32, .int (nI n)])), (tS_32, .inl (cI, n, .inl (fun _ => 0))), (tW_32, .inl (cJ, (n + 1), .inr (.inl (vp_updL (f_J7_fill (n + 1) (fun _ => 0) (-1)) (Int32.toNatClampNeg (nI n)) 0)))), (q_39, .inr (0, [.int 0, .int 0, .int 0, .ref kP_49, .ref kE_49, .ref kT_49, .int (nI (2 * n))])), (kP_49, .inl (cI, 32, .inl (fun _ => 0))), (kE_49, .inl (cI, (2 * n), .inl (fun _ => 0))), (kT_49, .inl (cI, (2 * n), .inl (fun _ => 0))), (q_56, .inr (3, [.ref qH_60, .ref oH_60, .int 0, .int 0, .int 0, .int 0, .int 0, .int 0, .int 0, .int 0])), (qH_60, .inr (1, [.ref qA_60, .int 0, .int 0, .int 0])), (qA_60, .inl (cI, 16, .inl (fun _ => 0))), (oH_60, .inr (2, [.ref oA_60, .long 0])), (oA_60, .inl (cB, 4096, .inl (fun _ => 0)))] H := hP
    have hD : va_D A [(bH, .inr (5, [.int (nI n), .ref q_24, .ref q_39, .null])), (q_24, .inr (4, [.ref tS_32, .ref tW_32, .int (nI n)])), (tS_32, .inl (cI, n, .inl (fun _ => 0))), (tW_32, .inl (cJ, (n + 1), .inr (.inl (vp_updL (f_J7_fill (n + 1) (fun _ => 0) (-1)) (Int32.toNatClampNeg (nI n)) 0)))), (q_39, .inr (0, [.int 0, .int 0, .int 0, .ref kP_49, .ref kE_49, .ref kT_49, .int (nI (2 * n))])), (kP_49, .inl (cI, 32, .inl (fun _ => 0))), (kE_49, .inl (cI, (2 * n), .inl (fun _ => 0))), (kT_49, .inl (cI, (2 * n), .inl (fun _ => 0))), (q_56, .inr (3, [.ref qH_60, .ref oH_60, .int 0, .int 0, .int 0, .int 0, .int 0, .int 0, .int 0, .int 0])), (qH_60, .inr (1, [.ref qA_60, .int 0, .int 0, .int 0])), (qA_60, .inl (cI, 16, .inl (fun _ => 0))), (oH_60, .inr (2, [.ref oA_60, .long 0])), (oA_60, .inl (cB, 4096, .inl (fun _ => 0)))] := hD
    refine W.widen (k := 12) (n := 4195) (by omega) (by omega) ?_
    refine va_putF (D := (dC, dI)) (ci := 5) (v := .ref q_56) (ty := (.object "SignalBoard$SerialLine")) (C := RX5) (T := TX5) (N := 4) hx hb hw inWX5 tyX5 tyX5_ok nmX5 hown hK hP hD hS 0 rfl rfl 3 (by decide) (hw _ w_150) (fun _ h9 => h9) rfl hin rfl (by decide +kernel) rfl rfl (Nat.le_of_ble_eq_true rfl) dX5_init_63 (fun H locs hP hD hS => ?_)
    have hP : va_P (dC, dI) vwCl [(bH, .inr (5, [.int (nI n), .ref q_24, .ref q_39, .ref q_56])), (q_24, .inr (4, [.ref tS_32, .ref tW_32, .int (nI n)])), (tS_32, .inl (cI, n, .inl (fun _ => 0))), (tW_32, .inl (cJ, (n + 1), .inr (.inl (vp_updL (f_J7_fill (n + 1) (fun _ => 0) (-1)) (Int32.toNatClampNeg (nI n)) 0)))), (q_39, .inr (0, [.int 0, .int 0, .int 0, .ref kP_49, .ref kE_49, .ref kT_49, .int (nI (2 * n))])), (kP_49, .inl (cI, 32, .inl (fun _ => 0))), (kE_49, .inl (cI, (2 * n), .inl (fun _ => 0))), (kT_49, .inl (cI, (2 * n), .inl (fun _ => 0))), (q_56, .inr (3, [.ref qH_60, .ref oH_60, .int 0, .int 0, .int 0, .int 0, .int 0, .int 0, .int 0, .int 0])), (qH_60, .inr (1, [.ref qA_60, .int 0, .int 0, .int 0])), (qA_60, .inl (cI, 16, .inl (fun _ => 0))), (oH_60, .inr (2, [.ref oA_60, .long 0])), (oA_60, .inl (cB, 4096, .inl (fun _ => 0)))] H := hP
    have hD : va_D A [(bH, .inr (5, [.int (nI n), .ref q_24, .ref q_39, .ref q_56])), (q_24, .inr (4, [.ref tS_32, .ref tW_32, .int (nI n)])), (tS_32, .inl (cI, n, .inl (fun _ => 0))), (tW_32, .inl (cJ, (n + 1), .inr (.inl (vp_updL (f_J7_fill (n + 1) (fun _ => 0) (-1)) (Int32.toNatClampNeg (nI n)) 0)))), (q_39, .inr (0, [.int 0, .int 0, .int 0, .ref kP_49, .ref kE_49, .ref kT_49, .int (nI (2 * n))])), (kP_49, .inl (cI, 32, .inl (fun _ => 0))), (kE_49, .inl (cI, (2 * n), .inl (fun _ => 0))), (kT_49, .inl (cI, (2 * n), .inl (fun _ => 0))), (q_56, .inr (3, [.ref qH_60, .ref oH_60, .int 0, .int 0, .int 0, .int 0, .int 0, .int 0, .int 0, .int 0])), (qH_60, .inr (1, [.ref qA_60, .int 0, .int 0, .int 0])), (qA_60, .inl (cI, 16, .inl (fun _ => 0))), (oH_60, .inr (2, [.ref oA_60, .long 0])), (oA_60, .inl (cB, 4096, .inl (fun _ => 0)))] := hD
    have hP9 := hP.sub (ws' := [(bH, .inr (5, [.int (nI n), .ref q_24, .ref q_39, .ref q_56])), (q_24, .inr (4, [.ref tS_32, .ref tW_32, .int (nI n)])), (tS_32, .inl (cI, n, .inl (fun _ => 0))), (tW_32, .inl (cJ, (n + 1), .inr (.inl (vp_updL (f_J7_fill (n + 1) (fun _ => 0) (-1)) (Int32.toNatClampNeg (nI n)) 0)))), (q_39, .inr (0, [.int 0, .int 0, .int 0, .ref kP_49, .ref kE_49, .ref kT_49, .int (nI (2 * n))])), (kP_49, .inl (cI, 32, .inl (fun _ => 0))), (kE_49, .inl (cI, (2 * n), .inl (fun _ => 0))), (kT_49, .inl (cI, (2 * n), .inl (fun _ => 0))), (q_56, .inr (3, [.ref qH_60, .ref oH_60, .int 0, .int 0, .int 0, .int 0, .int 0, .int 0, .int 0, .int 0])), (qH_60, .inr (1, [.ref qA_60, .int 0, .int 0, .int 0])), (qA_60, .inl (cI, 16, .inl (fun _ => 0))), (oH_60, .inr (2, [.ref oA_60, .long 0])), (oA_60, .inl (cB, 4096, .inl (fun _ => 0)))]) [0, 1, 2, 3, 4, 5, 6, 7, 8, 9, 10, 11, 12] rfl
    have hD9 := hD.sub (ws' := [(bH, .inr (5, [.int (nI n), .ref q_24, .ref q_39, .ref q_56])), (q_24, .inr (4, [.ref tS_32, .ref tW_32, .int (nI n)])), (tS_32, .inl (cI, n, .inl (fun _ => 0))), (tW_32, .inl (cJ, (n + 1), .inr (.inl (vp_updL (f_J7_fill (n + 1) (fun _ => 0) (-1)) (Int32.toNatClampNeg (nI n)) 0)))), (q_39, .inr (0, [.int 0, .int 0, .int 0, .ref kP_49, .ref kE_49, .ref kT_49, .int (nI (2 * n))])), (kP_49, .inl (cI, 32, .inl (fun _ => 0))), (kE_49, .inl (cI, (2 * n), .inl (fun _ => 0))), (kT_49, .inl (cI, (2 * n), .inl (fun _ => 0))), (q_56, .inr (3, [.ref qH_60, .ref oH_60, .int 0, .int 0, .int 0, .int 0, .int 0, .int 0, .int 0, .int 0])), (qH_60, .inr (1, [.ref qA_60, .int 0, .int 0, .int 0])), (qA_60, .inl (cI, 16, .inl (fun _ => 0))), (oH_60, .inr (2, [.ref oA_60, .long 0])), (oA_60, .inl (cB, 4096, .inl (fun _ => 0)))]) [0, 1, 2, 3, 4, 5, 6, 7, 8, 9, 10, 11, 12] (by decide) rfl
    exact W.vret hx hb hr (fun u hu hW => ⟨⟨(q_24, tS_32, tW_32, q_39, kP_49, kE_49, kT_49, q_56, qH_60, qA_60, oH_60, oA_60), rfl, trivial, by rw [hu]; exact hP9, hD9⟩, hS.F hu⟩) hS.2.2 dX5_init_66
  · refine lv_iload_n hx hb dX5_init_10 rfl (lv_at hl 1 rfl) ?_
    refine lv_iconst (v := 4) hx hb dX5_init_11 (by decide) ?_
    refine lv_icmp_gt (tgt := 19) hx hb dX5_init_12 (by decide) (fun c_12 => ?_) (fun c_12 => ?_)
    · refine lv_iconst (v := 1) hx hb dX5_init_19 (by decide) ?_
      refine lv_topi (fun y_20 e_20 => ?_)
      obtain rfl : y_20 = (nI n) := e_20.trans (by first | (rw [if_pos c_7] at hcnt; exact hcnt) | (rw [if_neg c_7, if_pos c_12] at hcnt; exact hcnt) | (rw [if_neg c_7, if_neg c_12] at hcnt; exact hcnt))
      refine va_putF (D := (dC, dI)) (ci := 5) (v := .int (nI n)) (ty := .int) (C := RX5) (T := TX5) (N := 4) hx hb hw inWX5 tyX5 tyX5_ok nmX5 hown hK hP hD hS 0 rfl rfl 0 (by decide) (hw _ w_147) (fun _ h9 => h9) rfl hin rfl (by decide +kernel) rfl rfl (Nat.le_of_ble_eq_true rfl) dX5_init_20 (fun H locs hP hD hS => ?_)
      have hP : va_P (dC, dI) vwCl [(bH, .inr (5, [.int (nI n), .null, .null, .null]))] H := hP
      have hD : va_D A [(bH, .inr (5, [.int (nI n), .null, .null, .null]))] := hD
      refine lv_aload_n hx hb dX5_init_23 rfl (lv_at hl 0 rfl) ?_
      refine va_new (ci := 4) (fs := [.null, .null, .int 0]) (C := RX4) (T := TX4) (N := 3) hx hb hw inWX4 tyX4 tyX4_ok hown (hw _ w_22) (hw _ w_23) (hw _ w_2) hK hP hD hS hA rfl (fun j hj => by rcases (show j = 0 ∨ j = 1 ∨ j = 2 by omega) with rfl | rfl | rfl <;> rfl) (show 0 + 1 ≤ 12 by omega) (show 0 + 3 ≤ 4195 by omega) dX5_init_24 (fun q_24 H hP hD hS => ?_)
      have hP : va_P (dC, dI) vwCl [(bH, .inr (5, [.int (nI n), .null, .null, .null])), (q_24, .inr (4, [.null, .null, .int 0]))] H := hP
      have hD : va_D A [(bH, .inr (5, [.int (nI n), .null, .null, .null])), (q_24, .inr (4, [.null, .null, .int 0]))] := hD
      refine W.widen (k := 1) (n := 3) (by omega) (by omega) ?_
      refine lv_dup hx hb dX5_init_27 rfl ?_
      refine lv_aload_n hx hb dX5_init_28 rfl (lv_at hl 0 rfl) ?_
      refine va_get (D := (dC, dI)) (ci := 5) (v := .int (nI n)) (C := RX5) (T := TX5) (N := 4) hx hb hw inWX5 hown hK hP 0 rfl rfl 0 (by decide) (hw _ w_147) (fun _ h9 => h9) rfl dX5_init_29 ?_
      have hPc := hP.sub (ws' := [(q_24, .inr (4, [.null, .null, .int 0]))]) [1] rfl
      have hDc := hD.sub (ws' := [(q_24, .inr (4, [.null, .null, .int 0]))]) [1] (by decide) rfl
      have hFc := va_free (wc := [(q_24, .inr (4, [.null, .null, .int 0]))]) hD hS hA [1] rfl
      refine va_callv (va_runI (As := [.int (nI n)]) (rest := [.ref q_24, .ref bH]) ⟨hx, hb, hml, hown, hw⟩ (k_X4_init l dC dI cI cJ cB cZ q_24 H.size n hn) (cwI 1 hw (gI w_26) rfl rfl rfl (hw _ w_2) (hw _ w_24) (hw _ w_25) rfl (by decide +kernel) ⟨Nat.le_of_ble_eq_true rfl, Nat.le_of_ble_eq_true rfl⟩) ⟨fun a U g mk q => by obtain ⟨q0, q1, qP, qK, qD, qN⟩ := q; exact ⟨q0, q1, qP, va_K.moved (u := U) (U := U.calling g mk a) (Vm.Alike.refl U.vm) qK, qD, nw_same (s := U) (U := U.calling g mk a) rfl qN⟩, fun U hU hW => ⟨rfl, by rw [hU], by rw [hU]; exact hPc, va_K.moved hW.alike hK, hDc.weaken (fun _ _ _ _ => trivial), nw_warm hW hN⟩⟩ rfl rfl hl.1 rfl (lv_room (Nat.le_of_ble_eq_true rfl)) dX5_init_32 ⟨show 1 + 2 ≤ 12 by omega, show 3 + 9 ≤ 4195 by omega⟩) hS (fun q _ h => hFc q h) hFc (fun u t9 H1 locs ht hvm hR hB hz1 hk1 hS => ?_)
      obtain ⟨tS_32, tW_32⟩ := u
      obtain ⟨hP1, hD1⟩ := hB
      rw [ht] at hP1
      obtain ⟨hP, hD⟩ := va_join (wr := [(bH, .inr (5, [.int (nI n), .null, .null, .null]))]) (w1 := [(q_24, .inr (4, [.ref tS_32, .ref tW_32, .int (nI n)])), (tS_32, .inl (cI, n, .inl (fun _ => 0))), (tW_32, .inl (cJ, (n + 1), .inr (.inl (vp_updL (f_J7_fill (n + 1) (fun _ => 0) (-1)) (Int32.toNatClampNeg (nI n)) 0))))]) hP hD [1] [0] rfl rfl (by decide) (by decide) hk1 hFc hP1 hD1
      generalize H1 = H at hP hS ⊢
      have hP : va_P (dC, dI) vwCl [(bH, .inr (5, [.int (nI n), .null, .null, .null])), (q_24, .inr (4, [.ref tS_32, .ref tW_32, .int (nI n)])), (tS_32, .inl (cI, n, .inl (fun _ => 0))), (tW_32, .inl (cJ, (n + 1), .inr (.inl (vp_updL (f_J7_fill (n + 1) (fun _ => 0) (-1)) (Int32.toNatClampNeg (nI n)) 0))))] H := hP
      have hD : va_D A [(bH, .inr (5, [.int (nI n), .null, .null, .null])), (q_24, .inr (4, [.ref tS_32, .ref tW_32, .int (nI n)])), (tS_32, .inl (cI, n, .inl (fun _ => 0))), (tW_32, .inl (cJ, (n + 1), .inr (.inl (vp_updL (f_J7_fill (n + 1) (fun _ => 0) (-1)) (Int32.toNatClampNeg (nI n)) 0))))] := hD
      refine W.widen (k := 3) (n := 12) (by omega) (by omega) ?_
      refine va_putF (D := (dC, dI)) (ci := 5) (v := .ref q_24) (ty := (.object "SignalBoard$Timer")) (C := RX5) (T := TX5) (N := 4) hx hb hw inWX5 tyX5 tyX5_ok nmX5 hown hK hP hD hS 0 rfl rfl 1 (by decide) (hw _ w_148) (fun _ h9 => h9) rfl hin rfl (by decide +kernel) rfl rfl (Nat.le_of_ble_eq_true rfl) dX5_init_35 (fun H locs hP hD hS => ?_)
      have hP : va_P (dC, dI) vwCl [(bH, .inr (5, [.int (nI n), .ref q_24, .null, .null])), (q_24, .inr (4, [.ref tS_32, .ref tW_32, .int (nI n)])), (tS_32, .inl (cI, n, .inl (fun _ => 0))), (tW_32, .inl (cJ, (n + 1), .inr (.inl (vp_updL (f_J7_fill (n + 1) (fun _ => 0) (-1)) (Int32.toNatClampNeg (nI n)) 0))))] H := hP
      have hD : va_D A [(bH, .inr (5, [.int (nI n), .ref q_24, .null, .null])), (q_24, .inr (4, [.ref tS_32, .ref tW_32, .int (nI n)])), (tS_32, .inl (cI, n, .inl (fun _ => 0))), (tW_32, .inl (cJ, (n + 1), .inr (.inl (vp_updL (f_J7_fill (n + 1) (fun _ => 0) (-1)) (Int32.toNatClampNeg (nI n)) 0))))] := hD
      refine lv_aload_n hx hb dX5_init_38 rfl (lv_at hl 0 rfl) ?_
      refine va_new (ci := 0) (fs := [.int 0, .int 0, .int 0, .null, .null, .null, .int 0]) (C := RX0) (T := TX0) (N := 7) hx hb hw inWX0 tyX0 tyX0_ok hown (hw _ w_44) (hw _ w_45) (hw _ w_4) hK hP hD hS hA rfl (fun j hj => by rcases (show j = 0 ∨ j = 1 ∨ j = 2 ∨ j = 3 ∨ j = 4 ∨ j = 5 ∨ j = 6 by omega) with rfl | rfl | rfl | rfl | rfl | rfl | rfl <;> rfl) (show 3 + 1 ≤ 12 by omega) (show 12 + 7 ≤ 4195 by omega) dX5_init_39 (fun q_39 H hP hD hS => ?_)
      have hP : va_P (dC, dI) vwCl [(bH, .inr (5, [.int (nI n), .ref q_24, .null, .null])), (q_24, .inr (4, [.ref tS_32, .ref tW_32, .int (nI n)])), (tS_32, .inl (cI, n, .inl (fun _ => 0))), (tW_32, .inl (cJ, (n + 1), .inr (.inl (vp_updL (f_J7_fill (n + 1) (fun _ => 0) (-1)) (Int32.toNatClampNeg (nI n)) 0)))), (q_39, .inr (0, [.int 0, .int 0, .int 0, .null, .null, .null, .int 0]))] H := hP
      have hD : va_D A [(bH, .inr (5, [.int (nI n), .ref q_24, .null, .null])), (q_24, .inr (4, [.ref tS_32, .ref tW_32, .int (nI n)])), (tS_32, .inl (cI, n, .inl (fun _ => 0))), (tW_32, .inl (cJ, (n + 1), .inr (.inl (vp_updL (f_J7_fill (n + 1) (fun _ => 0) (-1)) (Int32.toNatClampNeg (nI n)) 0)))), (q_39, .inr (0, [.int 0, .int 0, .int 0, .null, .null, .null, .int 0]))] := hD
      refine W.widen (k := 4) (n := 19) (by omega) (by omega) ?_
      refine lv_dup hx hb dX5_init_42 rfl ?_
      refine lv_iconst (v := 2) hx hb dX5_init_43 (by decide) ?_
      refine lv_aload_n hx hb dX5_init_44 rfl (lv_at hl 0 rfl) ?_
      refine va_get (D := (dC, dI)) (ci := 5) (v := .int (nI n)) (C := RX5) (T := TX5) (N := 4) hx hb hw inWX5 hown hK hP 0 rfl rfl 0 (by decide) (hw _ w_147) (fun _ h9 => h9) rfl dX5_init_45 ?_
      refine lv_imul hx hb dX5_init_48 ?_
      refine lv_topi (fun y_49 e_49 => ?_)
      obtain rfl : y_49 = (nI (2 * n)) := e_49.trans (pk_mul 2 n)
      have hPc := hP.sub (ws' := [(q_39, .inr (0, [.int 0, .int 0, .int 0, .null, .null, .null, .int 0]))]) [4] rfl
      have hDc := hD.sub (ws' := [(q_39, .inr (0, [.int 0, .int 0, .int 0, .null, .null, .null, .int 0]))]) [4] (by decide) rfl
      have hFc := va_free (wc := [(q_39, .inr (0, [.int 0, .int 0, .int 0, .null, .null, .null, .int 0]))]) hD hS hA [4] rfl
      refine va_callv (va_runI (As := [.int (nI (2 * n))]) (rest := [.ref q_39, .ref bH]) ⟨hx, hb, hml, hown, hw⟩ (k_X0_init l dC dI cI cJ cB cZ q_39 H.size n hn) (cwI 1 hw (gI w_48) rfl rfl rfl (hw _ w_4) (hw _ w_46) (hw _ w_47) rfl (by decide +kernel) ⟨Nat.le_of_ble_eq_true rfl, Nat.le_of_ble_eq_true rfl⟩) ⟨fun a U g mk q => by obtain ⟨q0, q1, qP, qK, qD, qN⟩ := q; exact ⟨q0, q1, qP, va_K.moved (u := U) (U := U.calling g mk a) (Vm.Alike.refl U.vm) qK, qD, nw_same (s := U) (U := U.calling g mk a) rfl qN⟩, fun U hU hW => ⟨rfl, by rw [hU], by rw [hU]; exact hPc, va_K.moved hW.alike hK, hDc.weaken (fun _ _ _ _ => trivial), nw_warm hW hN⟩⟩ rfl rfl hl.1 rfl (lv_room (Nat.le_of_ble_eq_true rfl)) dX5_init_49 ⟨show 4 + 3 ≤ 12 by omega, show 19 + 48 ≤ 4195 by omega⟩) hS (fun q _ h => hFc q h) hFc (fun u t9 H1 locs ht hvm hR hB hz1 hk1 hS => ?_)
      obtain ⟨kP_49, kE_49, kT_49⟩ := u
      obtain ⟨hP1, hD1⟩ := hB
      rw [ht] at hP1
      obtain ⟨hP, hD⟩ := va_join (wr := [(bH, .inr (5, [.int (nI n), .ref q_24, .null, .null])), (q_24, .inr (4, [.ref tS_32, .ref tW_32, .int (nI n)])), (tS_32, .inl (cI, n, .inl (fun _ => 0))), (tW_32, .inl (cJ, (n + 1), .inr (.inl (vp_updL (f_J7_fill (n + 1) (fun _ => 0) (-1)) (Int32.toNatClampNeg (nI n)) 0))))]) (w1 := [(q_39, .inr (0, [.int 0, .int 0, .int 0, .ref kP_49, .ref kE_49, .ref kT_49, .int (nI (2 * n))])), (kP_49, .inl (cI, 32, .inl (fun _ => 0))), (kE_49, .inl (cI, (2 * n), .inl (fun _ => 0))), (kT_49, .inl (cI, (2 * n), .inl (fun _ => 0)))]) hP hD [4] [0, 1, 2, 3] rfl rfl (by decide) (by decide) hk1 hFc hP1 hD1
      generalize H1 = H at hP hS ⊢
      have hP : va_P (dC, dI) vwCl [(bH, .inr (5, [.int (nI n), .ref q_24, .null, .null])), (q_24, .inr (4, [.ref tS_32, .ref tW_32, .int (nI n)])), (tS_32, .inl (cI, n, .inl (fun _ => 0))), (tW_32, .inl (cJ, (n + 1), .inr (.inl (vp_updL (f_J7_fill (n + 1) (fun _ => 0) (-1)) (Int32.toNatClampNeg (nI n)) 0)))), (q_39, .inr (0, [.int 0, .int 0, .int 0, .ref kP_49, .ref kE_49, .ref kT_49, .int (nI (2 * n))])), (kP_49, .inl (cI, 32, .inl (fun _ => 0))), (kE_49, .inl (cI, (2 * n), .inl (fun _ => 0))), (kT_49, .inl (cI, (2 * n), .inl (fun _ => 0)))] H := hP
      have hD : va_D A [(bH, .inr (5, [.int (nI n), .ref q_24, .null, .null])), (q_24, .inr (4, [.ref tS_32, .ref tW_32, .int (nI n)])), (tS_32, .inl (cI, n, .inl (fun _ => 0))), (tW_32, .inl (cJ, (n + 1), .inr (.inl (vp_updL (f_J7_fill (n + 1) (fun _ => 0) (-1)) (Int32.toNatClampNeg (nI n)) 0)))), (q_39, .inr (0, [.int 0, .int 0, .int 0, .ref kP_49, .ref kE_49, .ref kT_49, .int (nI (2 * n))])), (kP_49, .inl (cI, 32, .inl (fun _ => 0))), (kE_49, .inl (cI, (2 * n), .inl (fun _ => 0))), (kT_49, .inl (cI, (2 * n), .inl (fun _ => 0)))] := hD
      refine W.widen (k := 7) (n := 67) (by omega) (by omega) ?_
      refine va_putF (D := (dC, dI)) (ci := 5) (v := .ref q_39) (ty := (.object "SignalBoard$Controller")) (C := RX5) (T := TX5) (N := 4) hx hb hw inWX5 tyX5 tyX5_ok nmX5 hown hK hP hD hS 0 rfl rfl 2 (by decide) (hw _ w_149) (fun _ h9 => h9) rfl hin rfl (by decide +kernel) rfl rfl (Nat.le_of_ble_eq_true rfl) dX5_init_52 (fun H locs hP hD hS => ?_)
      have hP : va_P (dC, dI) vwCl [(bH, .inr (5, [.int (nI n), .ref q_24, .ref q_39, .null])), (q_24, .inr (4, [.ref tS_32, .ref tW_32, .int (nI n)])), (tS_32, .inl (cI, n, .inl (fun _ => 0))), (tW_32, .inl (cJ, (n + 1), .inr (.inl (vp_updL (f_J7_fill (n + 1) (fun _ => 0) (-1)) (Int32.toNatClampNeg (nI n)) 0)))), (q_39, .inr (0, [.int 0, .int 0, .int 0, .ref kP_49, .ref kE_49, .ref kT_49, .int (nI (2 * n))])), (kP_49, .inl (cI, 32, .inl (fun _ => 0))), (kE_49, .inl (cI, (2 * n), .inl (fun _ => 0))), (kT_49, .inl (cI, (2 * n), .inl (fun _ => 0)))] H := hP
      have hD : va_D A [(bH, .inr (5, [.int (nI n), .ref q_24, .ref q_39, .null])), (q_24, .inr (4, [.ref tS_32, .ref tW_32, .int (nI n)])), (tS_32, .inl (cI, n, .inl (fun _ => 0))), (tW_32, .inl (cJ, (n + 1), .inr (.inl (vp_updL (f_J7_fill (n + 1) (fun _ => 0) (-1)) (Int32.toNatClampNeg (nI n)) 0)))), (q_39, .inr (0, [.int 0, .int 0, .int 0, .ref kP_49, .ref kE_49, .ref kT_49, .int (nI (2 * n))])), (kP_49, .inl (cI, 32, .inl (fun _ => 0))), (kE_49, .inl (cI, (2 * n), .inl (fun _ => 0))), (kT_49, .inl (cI, (2 * n), .inl (fun _ => 0)))] := hD
      refine lv_aload_n hx hb dX5_init_55 rfl (lv_at hl 0 rfl) ?_
      refine va_new (ci := 3) (fs := [.null, .null, .int 0, .int 0, .int 0, .int 0, .int 0, .int 0, .int 0, .int 0]) (C := RX3) (T := TX3) (N := 10) hx hb hw inWX3 tyX3 tyX3_ok hown (hw _ w_72) (hw _ w_73) (hw _ w_5) hK hP hD hS hA rfl (fun j hj => by rcases (show j = 0 ∨ j = 1 ∨ j = 2 ∨ j = 3 ∨ j = 4 ∨ j = 5 ∨ j = 6 ∨ j = 7 ∨ j = 8 ∨ j = 9 by omega) with rfl | rfl | rfl | rfl | rfl | rfl | rfl | rfl | rfl | rfl <;> rfl) (show 7 + 1 ≤ 12 by omega) (show 67 + 10 ≤ 4195 by omega) dX5_init_56 (fun q_56 H hP hD hS => ?_)
      have hP : va_P (dC, dI) vwCl [(bH, .inr (5, [.int (nI n), .ref q_24, .ref q_39, .null])), (q_24, .inr (4, [.ref tS_32, .ref tW_32, .int (nI n)])), (tS_32, .inl (cI, n, .inl (fun _ => 0))), (tW_32, .inl (cJ, (n + 1), .inr (.inl (vp_updL (f_J7_fill (n + 1) (fun _ => 0) (-1)) (Int32.toNatClampNeg (nI n)) 0)))), (q_39, .inr (0, [.int 0, .int 0, .int 0, .ref kP_49, .ref kE_49, .ref kT_49, .int (nI (2 * n))])), (kP_49, .inl (cI, 32, .inl (fun _ => 0))), (kE_49, .inl (cI, (2 * n), .inl (fun _ => 0))), (kT_49, .inl (cI, (2 * n), .inl (fun _ => 0))), (q_56, .inr (3, [.null, .null, .int 0, .int 0, .int 0, .int 0, .int 0, .int 0, .int 0, .int 0]))] H := hP
      have hD : va_D A [(bH, .inr (5, [.int (nI n), .ref q_24, .ref q_39, .null])), (q_24, .inr (4, [.ref tS_32, .ref tW_32, .int (nI n)])), (tS_32, .inl (cI, n, .inl (fun _ => 0))), (tW_32, .inl (cJ, (n + 1), .inr (.inl (vp_updL (f_J7_fill (n + 1) (fun _ => 0) (-1)) (Int32.toNatClampNeg (nI n)) 0)))), (q_39, .inr (0, [.int 0, .int 0, .int 0, .ref kP_49, .ref kE_49, .ref kT_49, .int (nI (2 * n))])), (kP_49, .inl (cI, 32, .inl (fun _ => 0))), (kE_49, .inl (cI, (2 * n), .inl (fun _ => 0))), (kT_49, .inl (cI, (2 * n), .inl (fun _ => 0))), (q_56, .inr (3, [.null, .null, .int 0, .int 0, .int 0, .int 0, .int 0, .int 0, .int 0, .int 0]))] := hD
      refine W.widen (k := 8) (n := 77) (by omega) (by omega) ?_
      refine lv_dup hx hb dX5_init_59 rfl ?_
      have hPc := hP.sub (ws' := [(q_56, .inr (3, [.null, .null, .int 0, .int 0, .int 0, .int 0, .int 0, .int 0, .int 0, .int 0]))]) [8] rfl
      have hDc := hD.sub (ws' := [(q_56, .inr (3, [.null, .null, .int 0, .int 0, .int 0, .int 0, .int 0, .int 0, .int 0, .int 0]))]) [8] (by decide) rfl
      have hFc := va_free (wc := [(q_56, .inr (3, [.null, .null, .int 0, .int 0, .int 0, .int 0, .int 0, .int 0, .int 0, .int 0]))]) hD hS hA [8] rfl
      refine va_callv (va_runIN (As := []) (rest := [.ref q_56, .ref bH]) ⟨hx, hb, hml, hown, hw⟩ (k_X3_init l dC dI cI cJ cB cZ q_56 H.size) ⟨va_cnB 0 hw (gI w_76) rfl rfl rfl (hN _ n_74) (hw _ w_5) (by decide +kernel) ⟨Nat.le_of_ble_eq_true rfl, Nat.le_of_ble_eq_true rfl⟩, rfl, hw _ w_75⟩ ⟨fun a U g mk q => by obtain ⟨q0, q1, qP, qK, qD, qN⟩ := q; exact ⟨q0, q1, qP, va_K.moved (u := U) (U := U.calling g mk a) (Vm.Alike.refl U.vm) qK, qD, nw_same (s := U) (U := U.calling g mk a) rfl qN⟩, fun U hU hW => ⟨rfl, by rw [hU], by rw [hU]; exact hPc, va_K.moved hW.alike hK, hDc.weaken (fun _ _ _ _ => trivial), nw_warm hW hN⟩⟩ rfl rfl hl.1 rfl (lv_room (Nat.le_of_ble_eq_true rfl)) dX5_init_60 ⟨show 8 + 4 ≤ 12 by omega, show 77 + 4118 ≤ 4195 by omega⟩) hS (fun q _ h => hFc q h) hFc (fun u t9 H1 locs ht hvm hR hB hz1 hk1 hS => ?_)
      obtain ⟨qH_60, qA_60, oH_60, oA_60⟩ := u
      obtain ⟨hP1, hD1⟩ := hB
      rw [ht] at hP1
      obtain ⟨hP, hD⟩ := va_join (wr := [(bH, .inr (5, [.int (nI n), .ref q_24, .ref q_39, .null])), (q_24, .inr (4, [.ref tS_32, .ref tW_32, .int (nI n)])), (tS_32, .inl (cI, n, .inl (fun _ => 0))), (tW_32, .inl (cJ, (n + 1), .inr (.inl (vp_updL (f_J7_fill (n + 1) (fun _ => 0) (-1)) (Int32.toNatClampNeg (nI n)) 0)))), (q_39, .inr (0, [.int 0, .int 0, .int 0, .ref kP_49, .ref kE_49, .ref kT_49, .int (nI (2 * n))])), (kP_49, .inl (cI, 32, .inl (fun _ => 0))), (kE_49, .inl (cI, (2 * n), .inl (fun _ => 0))), (kT_49, .inl (cI, (2 * n), .inl (fun _ => 0)))]) (w1 := [(q_56, .inr (3, [.ref qH_60, .ref oH_60, .int 0, .int 0, .int 0, .int 0, .int 0, .int 0, .int 0, .int 0])), (qH_60, .inr (1, [.ref qA_60, .int 0, .int 0, .int 0])), (qA_60, .inl (cI, 16, .inl (fun _ => 0))), (oH_60, .inr (2, [.ref oA_60, .long 0])), (oA_60, .inl (cB, 4096, .inl (fun _ => 0)))]) hP hD [8] [0, 1, 2, 3, 4, 5, 6, 7] rfl rfl (by decide) (by decide) hk1 hFc hP1 hD1
      generalize H1 = H at hP hS ⊢
      have hP : va_P (dC, dI) vwCl [(bH, .inr (5, [.int (nI n), .ref q_24, .ref q_39, .null])), (q_24, .inr (4, [.ref tS_32, .ref tW_32, .int (nI n)])), (tS_32, .inl (cI, n, .inl (fun _ => 0))), (tW_32, .inl (cJ, (n + 1), .inr (.inl (vp_updL (f_J7_fill (n + 1) (fun _ => 0) (-1)) (Int32.toNatClampNeg (nI n)) 0)))), (q_39, .inr (0, [.int 0, .int 0, .int 0, .ref kP_49, .ref kE_49, .ref kT_49, .int (nI (2 * n))])), (kP_49, .inl (cI, 32, .inl (fun _ => 0))), (kE_49, .inl (cI, (2 * n), .inl (fun _ => 0))), (kT_49, .inl (cI, (2 * n), .inl (fun _ => 0))), (q_56, .inr (3, [.ref qH_60, .ref oH_60, .int 0, .int 0, .int 0, .int 0, .int 0, .int 0, .int 0, .int 0])), (qH_60, .inr (1, [.ref qA_60, .int 0, .int 0, .int 0])), (qA_60, .inl (cI, 16, .inl (fun _ => 0))), (oH_60, .inr (2, [.ref oA_60, .long 0])), (oA_60, .inl (cB, 4096, .inl (fun _ => 0)))] H := hP
      have hD : va_D A [(bH, .inr (5, [.int (nI n), .ref q_24, .ref q_39, .null])), (q_24, .inr (4, [.ref tS_32, .ref tW_32, .int (nI n)])), (tS_32, .inl (cI, n, .inl (fun _ => 0))), (tW_32, .inl (cJ, (n + 1), .inr (.inl (vp_updL (f_J7_fill (n + 1) (fun _ => 0) (-1)) (Int32.toNatClampNeg (nI n)) 0)))), (q_39, .inr (0, [.int 0, .int 0, .int 0, .ref kP_49, .ref kE_49, .ref kT_49, .int (nI (2 * n))])), (kP_49, .inl (cI, 32, .inl (fun _ => 0))), (kE_49, .inl (cI, (2 * n), .inl (fun _ => 0))), (kT_49, .inl (cI, (2 * n), .inl (fun _ => 0))), (q_56, .inr (3, [.ref qH_60, .ref oH_60, .int 0, .int 0, .int 0, .int 0, .int 0, .int 0, .int 0, .int 0])), (qH_60, .inr (1, [.ref qA_60, .int 0, .int 0, .int 0])), (qA_60, .inl (cI, 16, .inl (fun _ => 0))), (oH_60, .inr (2, [.ref oA_60, .long 0])), (oA_60, .inl (cB, 4096, .inl (fun _ => 0)))] := hD
      refine W.widen (k := 12) (n := 4195) (by omega) (by omega) ?_
      refine va_putF (D := (dC, dI)) (ci := 5) (v := .ref q_56) (ty := (.object "SignalBoard$SerialLine")) (C := RX5) (T := TX5) (N := 4) hx hb hw inWX5 tyX5 tyX5_ok nmX5 hown hK hP hD hS 0 rfl rfl 3 (by decide) (hw _ w_150) (fun _ h9 => h9) rfl hin rfl (by decide +kernel) rfl rfl (Nat.le_of_ble_eq_true rfl) dX5_init_63 (fun H locs hP hD hS => ?_)
      have hP : va_P (dC, dI) vwCl [(bH, .inr (5, [.int (nI n), .ref q_24, .ref q_39, .ref q_56])), (q_24, .inr (4, [.ref tS_32, .ref tW_32, .int (nI n)])), (tS_32, .inl (cI, n, .inl (fun _ => 0))), (tW_32, .inl (cJ, (n + 1), .inr (.inl (vp_updL (f_J7_fill (n + 1) (fun _ => 0) (-1)) (Int32.toNatClampNeg (nI n)) 0)))), (q_39, .inr (0, [.int 0, .int 0, .int 0, .ref kP_49, .ref kE_49, .ref kT_49, .int (nI (2 * n))])), (kP_49, .inl (cI, 32, .inl (fun _ => 0))), (kE_49, .inl (cI, (2 * n), .inl (fun _ => 0))), (kT_49, .inl (cI, (2 * n), .inl (fun _ => 0))), (q_56, .inr (3, [.ref qH_60, .ref oH_60, .int 0, .int 0, .int 0, .int 0, .int 0, .int 0, .int 0, .int 0])), (qH_60, .inr (1, [.ref qA_60, .int 0, .int 0, .int 0])), (qA_60, .inl (cI, 16, .inl (fun _ => 0))), (oH_60, .inr (2, [.ref oA_60, .long 0])), (oA_60, .inl (cB, 4096, .inl (fun _ => 0)))] H := hP
      have hD : va_D A [(bH, .inr (5, [.int (nI n), .ref q_24, .ref q_39, .ref q_56])), (q_24, .inr (4, [.ref tS_32, .ref tW_32, .int (nI n)])), (tS_32, .inl (cI, n, .inl (fun _ => 0))), (tW_32, .inl (cJ, (n + 1), .inr (.inl (vp_updL (f_J7_fill (n + 1) (fun _ => 0) (-1)) (Int32.toNatClampNeg (nI n)) 0)))), (q_39, .inr (0, [.int 0, .int 0, .int 0, .ref kP_49, .ref kE_49, .ref kT_49, .int (nI (2 * n))])), (kP_49, .inl (cI, 32, .inl (fun _ => 0))), (kE_49, .inl (cI, (2 * n), .inl (fun _ => 0))), (kT_49, .inl (cI, (2 * n), .inl (fun _ => 0))), (q_56, .inr (3, [.ref qH_60, .ref oH_60, .int 0, .int 0, .int 0, .int 0, .int 0, .int 0, .int 0, .int 0])), (qH_60, .inr (1, [.ref qA_60, .int 0, .int 0, .int 0])), (qA_60, .inl (cI, 16, .inl (fun _ => 0))), (oH_60, .inr (2, [.ref oA_60, .long 0])), (oA_60, .inl (cB, 4096, .inl (fun _ => 0)))] := hD
      have hP9 := hP.sub (ws' := [(bH, .inr (5, [.int (nI n), .ref q_24, .ref q_39, .ref q_56])), (q_24, .inr (4, [.ref tS_32, .ref tW_32, .int (nI n)])), (tS_32, .inl (cI, n, .inl (fun _ => 0))), (tW_32, .inl (cJ, (n + 1), .inr (.inl (vp_updL (f_J7_fill (n + 1) (fun _ => 0) (-1)) (Int32.toNatClampNeg (nI n)) 0)))), (q_39, .inr (0, [.int 0, .int 0, .int 0, .ref kP_49, .ref kE_49, .ref kT_49, .int (nI (2 * n))])), (kP_49, .inl (cI, 32, .inl (fun _ => 0))), (kE_49, .inl (cI, (2 * n), .inl (fun _ => 0))), (kT_49, .inl (cI, (2 * n), .inl (fun _ => 0))), (q_56, .inr (3, [.ref qH_60, .ref oH_60, .int 0, .int 0, .int 0, .int 0, .int 0, .int 0, .int 0, .int 0])), (qH_60, .inr (1, [.ref qA_60, .int 0, .int 0, .int 0])), (qA_60, .inl (cI, 16, .inl (fun _ => 0))), (oH_60, .inr (2, [.ref oA_60, .long 0])), (oA_60, .inl (cB, 4096, .inl (fun _ => 0)))]) [0, 1, 2, 3, 4, 5, 6, 7, 8, 9, 10, 11, 12] rfl
      have hD9 := hD.sub (ws' := [(bH, .inr (5, [.int (nI n), .ref q_24, .ref q_39, .ref q_56])), (q_24, .inr (4, [.ref tS_32, .ref tW_32, .int (nI n)])), (tS_32, .inl (cI, n, .inl (fun _ => 0))), (tW_32, .inl (cJ, (n + 1), .inr (.inl (vp_updL (f_J7_fill (n + 1) (fun _ => 0) (-1)) (Int32.toNatClampNeg (nI n)) 0)))), (q_39, .inr (0, [.int 0, .int 0, .int 0, .ref kP_49, .ref kE_49, .ref kT_49, .int (nI (2 * n))])), (kP_49, .inl (cI, 32, .inl (fun _ => 0))), (kE_49, .inl (cI, (2 * n), .inl (fun _ => 0))), (kT_49, .inl (cI, (2 * n), .inl (fun _ => 0))), (q_56, .inr (3, [.ref qH_60, .ref oH_60, .int 0, .int 0, .int 0, .int 0, .int 0, .int 0, .int 0, .int 0])), (qH_60, .inr (1, [.ref qA_60, .int 0, .int 0, .int 0])), (qA_60, .inl (cI, 16, .inl (fun _ => 0))), (oH_60, .inr (2, [.ref oA_60, .long 0])), (oA_60, .inl (cB, 4096, .inl (fun _ => 0)))]) [0, 1, 2, 3, 4, 5, 6, 7, 8, 9, 10, 11, 12] (by decide) rfl
      exact W.vret hx hb hr (fun u hu hW => ⟨⟨(q_24, tS_32, tW_32, q_39, kP_49, kE_49, kT_49, q_56, qH_60, qA_60, oH_60, oA_60), rfl, trivial, by rw [hu]; exact hP9, hD9⟩, hS.F hu⟩) hS.2.2 dX5_init_66
    · refine lv_iload_n hx hb dX5_init_15 rfl (lv_at hl 1 rfl) ?_
      refine lv_goto (tgt := 20) hx hb dX5_init_16 (by decide) ?_
      refine lv_topi (fun y_20 e_20 => ?_)
      obtain rfl : y_20 = (nI n) := e_20.trans (by first | (rw [if_pos c_7] at hcnt; exact hcnt) | (rw [if_neg c_7, if_pos c_12] at hcnt; exact hcnt) | (rw [if_neg c_7, if_neg c_12] at hcnt; exact hcnt))
      refine va_putF (D := (dC, dI)) (ci := 5) (v := .int (nI n)) (ty := .int) (C := RX5) (T := TX5) (N := 4) hx hb hw inWX5 tyX5 tyX5_ok nmX5 hown hK hP hD hS 0 rfl rfl 0 (by decide) (hw _ w_147) (fun _ h9 => h9) rfl hin rfl (by decide +kernel) rfl rfl (Nat.le_of_ble_eq_true rfl) dX5_init_20 (fun H locs hP hD hS => ?_)
      have hP : va_P (dC, dI) vwCl [(bH, .inr (5, [.int (nI n), .null, .null, .null]))] H := hP
      have hD : va_D A [(bH, .inr (5, [.int (nI n), .null, .null, .null]))] := hD
      refine lv_aload_n hx hb dX5_init_23 rfl (lv_at hl 0 rfl) ?_
      refine va_new (ci := 4) (fs := [.null, .null, .int 0]) (C := RX4) (T := TX4) (N := 3) hx hb hw inWX4 tyX4 tyX4_ok hown (hw _ w_22) (hw _ w_23) (hw _ w_2) hK hP hD hS hA rfl (fun j hj => by rcases (show j = 0 ∨ j = 1 ∨ j = 2 by omega) with rfl | rfl | rfl <;> rfl) (show 0 + 1 ≤ 12 by omega) (show 0 + 3 ≤ 4195 by omega) dX5_init_24 (fun q_24 H hP hD hS => ?_)
      have hP : va_P (dC, dI) vwCl [(bH, .inr (5, [.int (nI n), .null, .null, .null])), (q_24, .inr (4, [.null, .null, .int 0]))] H := hP
      have hD : va_D A [(bH, .inr (5, [.int (nI n), .null, .null, .null])), (q_24, .inr (4, [.null, .null, .int 0]))] := hD
      refine W.widen (k := 1) (n := 3) (by omega) (by omega) ?_
      refine lv_dup hx hb dX5_init_27 rfl ?_
      refine lv_aload_n hx hb dX5_init_28 rfl (lv_at hl 0 rfl) ?_
      refine va_get (D := (dC, dI)) (ci := 5) (v := .int (nI n)) (C := RX5) (T := TX5) (N := 4) hx hb hw inWX5 hown hK hP 0 rfl rfl 0 (by decide) (hw _ w_147) (fun _ h9 => h9) rfl dX5_init_29 ?_
      have hPc := hP.sub (ws' := [(q_24, .inr (4, [.null, .null, .int 0]))]) [1] rfl
      have hDc := hD.sub (ws' := [(q_24, .inr (4, [.null, .null, .int 0]))]) [1] (by decide) rfl
      have hFc := va_free (wc := [(q_24, .inr (4, [.null, .null, .int 0]))]) hD hS hA [1] rfl
      refine va_callv (va_runI (As := [.int (nI n)]) (rest := [.ref q_24, .ref bH]) ⟨hx, hb, hml, hown, hw⟩ (k_X4_init l dC dI cI cJ cB cZ q_24 H.size n hn) (cwI 1 hw (gI w_26) rfl rfl rfl (hw _ w_2) (hw _ w_24) (hw _ w_25) rfl (by decide +kernel) ⟨Nat.le_of_ble_eq_true rfl, Nat.le_of_ble_eq_true rfl⟩) ⟨fun a U g mk q => by obtain ⟨q0, q1, qP, qK, qD, qN⟩ := q; exact ⟨q0, q1, qP, va_K.moved (u := U) (U := U.calling g mk a) (Vm.Alike.refl U.vm) qK, qD, nw_same (s := U) (U := U.calling g mk a) rfl qN⟩, fun U hU hW => ⟨rfl, by rw [hU], by rw [hU]; exact hPc, va_K.moved hW.alike hK, hDc.weaken (fun _ _ _ _ => trivial), nw_warm hW hN⟩⟩ rfl rfl hl.1 rfl (lv_room (Nat.le_of_ble_eq_true rfl)) dX5_init_32 ⟨show 1 + 2 ≤ 12 by omega, show 3 + 9 ≤ 4195 by omega⟩) hS (fun q _ h => hFc q h) hFc (fun u t9 H1 locs ht hvm hR hB hz1 hk1 hS => ?_)
      obtain ⟨tS_32, tW_32⟩ := u
      obtain ⟨hP1, hD1⟩ := hB
      rw [ht] at hP1
      obtain ⟨hP, hD⟩ := va_join (wr := [(bH, .inr (5, [.int (nI n), .null, .null, .null]))]) (w1 := [(q_24, .inr (4, [.ref tS_32, .ref tW_32, .int (nI n)])), (tS_32, .inl (cI, n, .inl (fun _ => 0))), (tW_32, .inl (cJ, (n + 1), .inr (.inl (vp_updL (f_J7_fill (n + 1) (fun _ => 0) (-1)) (Int32.toNatClampNeg (nI n)) 0))))]) hP hD [1] [0] rfl rfl (by decide) (by decide) hk1 hFc hP1 hD1
      generalize H1 = H at hP hS ⊢
      have hP : va_P (dC, dI) vwCl [(bH, .inr (5, [.int (nI n), .null, .null, .null])), (q_24, .inr (4, [.ref tS_32, .ref tW_32, .int (nI n)])), (tS_32, .inl (cI, n, .inl (fun _ => 0))), (tW_32, .inl (cJ, (n + 1), .inr (.inl (vp_updL (f_J7_fill (n + 1) (fun _ => 0) (-1)) (Int32.toNatClampNeg (nI n)) 0))))] H := hP
      have hD : va_D A [(bH, .inr (5, [.int (nI n), .null, .null, .null])), (q_24, .inr (4, [.ref tS_32, .ref tW_32, .int (nI n)])), (tS_32, .inl (cI, n, .inl (fun _ => 0))), (tW_32, .inl (cJ, (n + 1), .inr (.inl (vp_updL (f_J7_fill (n + 1) (fun _ => 0) (-1)) (Int32.toNatClampNeg (nI n)) 0))))] := hD
      refine W.widen (k := 3) (n := 12) (by omega) (by omega) ?_
      refine va_putF (D := (dC, dI)) (ci := 5) (v := .ref q_24) (ty := (.object "SignalBoard$Timer")) (C := RX5) (T := TX5) (N := 4) hx hb hw inWX5 tyX5 tyX5_ok nmX5 hown hK hP hD hS 0 rfl rfl 1 (by decide) (hw _ w_148) (fun _ h9 => h9) rfl hin rfl (by decide +kernel) rfl rfl (Nat.le_of_ble_eq_true rfl) dX5_init_35 (fun H locs hP hD hS => ?_)
      have hP : va_P (dC, dI) vwCl [(bH, .inr (5, [.int (nI n), .ref q_24, .null, .null])), (q_24, .inr (4, [.ref tS_32, .ref tW_32, .int (nI n)])), (tS_32, .inl (cI, n, .inl (fun _ => 0))), (tW_32, .inl (cJ, (n + 1), .inr (.inl (vp_updL (f_J7_fill (n + 1) (fun _ => 0) (-1)) (Int32.toNatClampNeg (nI n)) 0))))] H := hP
      have hD : va_D A [(bH, .inr (5, [.int (nI n), .ref q_24, .null, .null])), (q_24, .inr (4, [.ref tS_32, .ref tW_32, .int (nI n)])), (tS_32, .inl (cI, n, .inl (fun _ => 0))), (tW_32, .inl (cJ, (n + 1), .inr (.inl (vp_updL (f_J7_fill (n + 1) (fun _ => 0) (-1)) (Int32.toNatClampNeg (nI n)) 0))))] := hD
      refine lv_aload_n hx hb dX5_init_38 rfl (lv_at hl 0 rfl) ?_
      refine va_new (ci := 0) (fs := [.int 0, .int 0, .int 0, .null, .null, .null, .int 0]) (C := RX0) (T := TX0) (N := 7) hx hb hw inWX0 tyX0 tyX0_ok hown (hw _ w_44) (hw _ w_45) (hw _ w_4) hK hP hD hS hA rfl (fun j hj => by rcases (show j = 0 ∨ j = 1 ∨ j = 2 ∨ j = 3 ∨ j = 4 ∨ j = 5 ∨ j = 6 by omega) with rfl | rfl | rfl | rfl | rfl | rfl | rfl <;> rfl) (show 3 + 1 ≤ 12 by omega) (show 12 + 7 ≤ 4195 by omega) dX5_init_39 (fun q_39 H hP hD hS => ?_)
      have hP : va_P (dC, dI) vwCl [(bH, .inr (5, [.int (nI n), .ref q_24, .null, .null])), (q_24, .inr (4, [.ref tS_32, .ref tW_32, .int (nI n)])), (tS_32, .inl (cI, n, .inl (fun _ => 0))), (tW_32, .inl (cJ, (n + 1), .inr (.inl (vp_updL (f_J7_fill (n + 1) (fun _ => 0) (-1)) (Int32.toNatClampNeg (nI n)) 0)))), (q_39, .inr (0, [.int 0, .int 0, .int 0, .null, .null, .null, .int 0]))] H := hP
      have hD : va_D A [(bH, .inr (5, [.int (nI n), .ref q_24, .null, .null])), (q_24, .inr (4, [.ref tS_32, .ref tW_32, .int (nI n)])), (tS_32, .inl (cI, n, .inl (fun _ => 0))), (tW_32, .inl (cJ, (n + 1), .inr (.inl (vp_updL (f_J7_fill (n + 1) (fun _ => 0) (-1)) (Int32.toNatClampNeg (nI n)) 0)))), (q_39, .inr (0, [.int 0, .int 0, .int 0, .null, .null, .null, .int 0]))] := hD
      refine W.widen (k := 4) (n := 19) (by omega) (by omega) ?_
      refine lv_dup hx hb dX5_init_42 rfl ?_
      refine lv_iconst (v := 2) hx hb dX5_init_43 (by decide) ?_
      refine lv_aload_n hx hb dX5_init_44 rfl (lv_at hl 0 rfl) ?_
      refine va_get (D := (dC, dI)) (ci := 5) (v := .int (nI n)) (C := RX5) (T := TX5) (N := 4) hx hb hw inWX5 hown hK hP 0 rfl rfl 0 (by decide) (hw _ w_147) (fun _ h9 => h9) rfl dX5_init_45 ?_
      refine lv_imul hx hb dX5_init_48 ?_
      refine lv_topi (fun y_49 e_49 => ?_)
      obtain rfl : y_49 = (nI (2 * n)) := e_49.trans (pk_mul 2 n)
      have hPc := hP.sub (ws' := [(q_39, .inr (0, [.int 0, .int 0, .int 0, .null, .null, .null, .int 0]))]) [4] rfl
      have hDc := hD.sub (ws' := [(q_39, .inr (0, [.int 0, .int 0, .int 0, .null, .null, .null, .int 0]))]) [4] (by decide) rfl
      have hFc := va_free (wc := [(q_39, .inr (0, [.int 0, .int 0, .int 0, .null, .null, .null, .int 0]))]) hD hS hA [4] rfl
      refine va_callv (va_runI (As := [.int (nI (2 * n))]) (rest := [.ref q_39, .ref bH]) ⟨hx, hb, hml, hown, hw⟩ (k_X0_init l dC dI cI cJ cB cZ q_39 H.size n hn) (cwI 1 hw (gI w_48) rfl rfl rfl (hw _ w_4) (hw _ w_46) (hw _ w_47) rfl (by decide +kernel) ⟨Nat.le_of_ble_eq_true rfl, Nat.le_of_ble_eq_true rfl⟩) ⟨fun a U g mk q => by obtain ⟨q0, q1, qP, qK, qD, qN⟩ := q; exact ⟨q0, q1, qP, va_K.moved (u := U) (U := U.calling g mk a) (Vm.Alike.refl U.vm) qK, qD, nw_same (s := U) (U := U.calling g mk a) rfl qN⟩, fun U hU hW => ⟨rfl, by rw [hU], by rw [hU]; exact hPc, va_K.moved hW.alike hK, hDc.weaken (fun _ _ _ _ => trivial), nw_warm hW hN⟩⟩ rfl rfl hl.1 rfl (lv_room (Nat.le_of_ble_eq_true rfl)) dX5_init_49 ⟨show 4 + 3 ≤ 12 by omega, show 19 + 48 ≤ 4195 by omega⟩) hS (fun q _ h => hFc q h) hFc (fun u t9 H1 locs ht hvm hR hB hz1 hk1 hS => ?_)
      obtain ⟨kP_49, kE_49, kT_49⟩ := u
      obtain ⟨hP1, hD1⟩ := hB
      rw [ht] at hP1
      obtain ⟨hP, hD⟩ := va_join (wr := [(bH, .inr (5, [.int (nI n), .ref q_24, .null, .null])), (q_24, .inr (4, [.ref tS_32, .ref tW_32, .int (nI n)])), (tS_32, .inl (cI, n, .inl (fun _ => 0))), (tW_32, .inl (cJ, (n + 1), .inr (.inl (vp_updL (f_J7_fill (n + 1) (fun _ => 0) (-1)) (Int32.toNatClampNeg (nI n)) 0))))]) (w1 := [(q_39, .inr (0, [.int 0, .int 0, .int 0, .ref kP_49, .ref kE_49, .ref kT_49, .int (nI (2 * n))])), (kP_49, .inl (cI, 32, .inl (fun _ => 0))), (kE_49, .inl (cI, (2 * n), .inl (fun _ => 0))), (kT_49, .inl (cI, (2 * n), .inl (fun _ => 0)))]) hP hD [4] [0, 1, 2, 3] rfl rfl (by decide) (by decide) hk1 hFc hP1 hD1
      generalize H1 = H at hP hS ⊢
      have hP : va_P (dC, dI) vwCl [(bH, .inr (5, [.int (nI n), .ref q_24, .null, .null])), (q_24, .inr (4, [.ref tS_32, .ref tW_32, .int (nI n)])), (tS_32, .inl (cI, n, .inl (fun _ => 0))), (tW_32, .inl (cJ, (n + 1), .inr (.inl (vp_updL (f_J7_fill (n + 1) (fun _ => 0) (-1)) (Int32.toNatClampNeg (nI n)) 0)))), (q_39, .inr (0, [.int 0, .int 0, .int 0, .ref kP_49, .ref kE_49, .ref kT_49, .int (nI (2 * n))])), (kP_49, .inl (cI, 32, .inl (fun _ => 0))), (kE_49, .inl (cI, (2 * n), .inl (fun _ => 0))), (kT_49, .inl (cI, (2 * n), .inl (fun _ => 0)))] H := hP
      have hD : va_D A [(bH, .inr (5, [.int (nI n), .ref q_24, .null, .null])), (q_24, .inr (4, [.ref tS_32, .ref tW_32, .int (nI n)])), (tS_32, .inl (cI, n, .inl (fun _ => 0))), (tW_32, .inl (cJ, (n + 1), .inr (.inl (vp_updL (f_J7_fill (n + 1) (fun _ => 0) (-1)) (Int32.toNatClampNeg (nI n)) 0)))), (q_39, .inr (0, [.int 0, .int 0, .int 0, .ref kP_49, .ref kE_49, .ref kT_49, .int (nI (2 * n))])), (kP_49, .inl (cI, 32, .inl (fun _ => 0))), (kE_49, .inl (cI, (2 * n), .inl (fun _ => 0))), (kT_49, .inl (cI, (2 * n), .inl (fun _ => 0)))] := hD
      refine W.widen (k := 7) (n := 67) (by omega) (by omega) ?_
      refine va_putF (D := (dC, dI)) (ci := 5) (v := .ref q_39) (ty := (.object "SignalBoard$Controller")) (C := RX5) (T := TX5) (N := 4) hx hb hw inWX5 tyX5 tyX5_ok nmX5 hown hK hP hD hS 0 rfl rfl 2 (by decide) (hw _ w_149) (fun _ h9 => h9) rfl hin rfl (by decide +kernel) rfl rfl (Nat.le_of_ble_eq_true rfl) dX5_init_52 (fun H locs hP hD hS => ?_)
      have hP : va_P (dC, dI) vwCl [(bH, .inr (5, [.int (nI n), .ref q_24, .ref q_39, .null])), (q_24, .inr (4, [.ref tS_32, .ref tW_32, .int (nI n)])), (tS_32, .inl (cI, n, .inl (fun _ => 0))), (tW_32, .inl (cJ, (n + 1), .inr (.inl (vp_updL (f_J7_fill (n + 1) (fun _ => 0) (-1)) (Int32.toNatClampNeg (nI n)) 0)))), (q_39, .inr (0, [.int 0, .int 0, .int 0, .ref kP_49, .ref kE_49, .ref kT_49, .int (nI (2 * n))])), (kP_49, .inl (cI, 32, .inl (fun _ => 0))), (kE_49, .inl (cI, (2 * n), .inl (fun _ => 0))), (kT_49, .inl (cI, (2 * n), .inl (fun _ => 0)))] H := hP
      have hD : va_D A [(bH, .inr (5, [.int (nI n), .ref q_24, .ref q_39, .null])), (q_24, .inr (4, [.ref tS_32, .ref tW_32, .int (nI n)])), (tS_32, .inl (cI, n, .inl (fun _ => 0))), (tW_32, .inl (cJ, (n + 1), .inr (.inl (vp_updL (f_J7_fill (n + 1) (fun _ => 0) (-1)) (Int32.toNatClampNeg (nI n)) 0)))), (q_39, .inr (0, [.int 0, .int 0, .int 0, .ref kP_49, .ref kE_49, .ref kT_49, .int (nI (2 * n))])), (kP_49, .inl (cI, 32, .inl (fun _ => 0))), (kE_49, .inl (cI, (2 * n), .inl (fun _ => 0))), (kT_49, .inl (cI, (2 * n), .inl (fun _ => 0)))] := hD
      refine lv_aload_n hx hb dX5_init_55 rfl (lv_at hl 0 rfl) ?_
      refine va_new (ci := 3) (fs := [.null, .null, .int 0, .int 0, .int 0, .int 0, .int 0, .int 0, .int 0, .int 0]) (C := RX3) (T := TX3) (N := 10) hx hb hw inWX3 tyX3 tyX3_ok hown (hw _ w_72) (hw _ w_73) (hw _ w_5) hK hP hD hS hA rfl (fun j hj => by rcases (show j = 0 ∨ j = 1 ∨ j = 2 ∨ j = 3 ∨ j = 4 ∨ j = 5 ∨ j = 6 ∨ j = 7 ∨ j = 8 ∨ j = 9 by omega) with rfl | rfl | rfl | rfl | rfl | rfl | rfl | rfl | rfl | rfl <;> rfl) (show 7 + 1 ≤ 12 by omega) (show 67 + 10 ≤ 4195 by omega) dX5_init_56 (fun q_56 H hP hD hS => ?_)
      have hP : va_P (dC, dI) vwCl [(bH, .inr (5, [.int (nI n), .ref q_24, .ref q_39, .null])), (q_24, .inr (4, [.ref tS_32, .ref tW_32, .int (nI n)])), (tS_32, .inl (cI, n, .inl (fun _ => 0))), (tW_32, .inl (cJ, (n + 1), .inr (.inl (vp_updL (f_J7_fill (n + 1) (fun _ => 0) (-1)) (Int32.toNatClampNeg (nI n)) 0)))), (q_39, .inr (0, [.int 0, .int 0, .int 0, .ref kP_49, .ref kE_49, .ref kT_49, .int (nI (2 * n))])), (kP_49, .inl (cI, 32, .inl (fun _ => 0))), (kE_49, .inl (cI, (2 * n), .inl (fun _ => 0))), (kT_49, .inl (cI, (2 * n), .inl (fun _ => 0))), (q_56, .inr (3, [.null, .null, .int 0, .int 0, .int 0, .int 0, .int 0, .int 0, .int 0, .int 0]))] H := hP
      have hD : va_D A [(bH, .inr (5, [.int (nI n), .ref q_24, .ref q_39, .null])), (q_24, .inr (4, [.ref tS_32, .ref tW_32, .int (nI n)])), (tS_32, .inl (cI, n, .inl (fun _ => 0))), (tW_32, .inl (cJ, (n + 1), .inr (.inl (vp_updL (f_J7_fill (n + 1) (fun _ => 0) (-1)) (Int32.toNatClampNeg (nI n)) 0)))), (q_39, .inr (0, [.int 0, .int 0, .int 0, .ref kP_49, .ref kE_49, .ref kT_49, .int (nI (2 * n))])), (kP_49, .inl (cI, 32, .inl (fun _ => 0))), (kE_49, .inl (cI, (2 * n), .inl (fun _ => 0))), (kT_49, .inl (cI, (2 * n), .inl (fun _ => 0))), (q_56, .inr (3, [.null, .null, .int 0, .int 0, .int 0, .int 0, .int 0, .int 0, .int 0, .int 0]))] := hD
      refine W.widen (k := 8) (n := 77) (by omega) (by omega) ?_
      refine lv_dup hx hb dX5_init_59 rfl ?_
      have hPc := hP.sub (ws' := [(q_56, .inr (3, [.null, .null, .int 0, .int 0, .int 0, .int 0, .int 0, .int 0, .int 0, .int 0]))]) [8] rfl
      have hDc := hD.sub (ws' := [(q_56, .inr (3, [.null, .null, .int 0, .int 0, .int 0, .int 0, .int 0, .int 0, .int 0, .int 0]))]) [8] (by decide) rfl
      have hFc := va_free (wc := [(q_56, .inr (3, [.null, .null, .int 0, .int 0, .int 0, .int 0, .int 0, .int 0, .int 0, .int 0]))]) hD hS hA [8] rfl
      refine va_callv (va_runIN (As := []) (rest := [.ref q_56, .ref bH]) ⟨hx, hb, hml, hown, hw⟩ (k_X3_init l dC dI cI cJ cB cZ q_56 H.size) ⟨va_cnB 0 hw (gI w_76) rfl rfl rfl (hN _ n_74) (hw _ w_5) (by decide +kernel) ⟨Nat.le_of_ble_eq_true rfl, Nat.le_of_ble_eq_true rfl⟩, rfl, hw _ w_75⟩ ⟨fun a U g mk q => by obtain ⟨q0, q1, qP, qK, qD, qN⟩ := q; exact ⟨q0, q1, qP, va_K.moved (u := U) (U := U.calling g mk a) (Vm.Alike.refl U.vm) qK, qD, nw_same (s := U) (U := U.calling g mk a) rfl qN⟩, fun U hU hW => ⟨rfl, by rw [hU], by rw [hU]; exact hPc, va_K.moved hW.alike hK, hDc.weaken (fun _ _ _ _ => trivial), nw_warm hW hN⟩⟩ rfl rfl hl.1 rfl (lv_room (Nat.le_of_ble_eq_true rfl)) dX5_init_60 ⟨show 8 + 4 ≤ 12 by omega, show 77 + 4118 ≤ 4195 by omega⟩) hS (fun q _ h => hFc q h) hFc (fun u t9 H1 locs ht hvm hR hB hz1 hk1 hS => ?_)
      obtain ⟨qH_60, qA_60, oH_60, oA_60⟩ := u
      obtain ⟨hP1, hD1⟩ := hB
      rw [ht] at hP1
      obtain ⟨hP, hD⟩ := va_join (wr := [(bH, .inr (5, [.int (nI n), .ref q_24, .ref q_39, .null])), (q_24, .inr (4, [.ref tS_32, .ref tW_32, .int (nI n)])), (tS_32, .inl (cI, n, .inl (fun _ => 0))), (tW_32, .inl (cJ, (n + 1), .inr (.inl (vp_updL (f_J7_fill (n + 1) (fun _ => 0) (-1)) (Int32.toNatClampNeg (nI n)) 0)))), (q_39, .inr (0, [.int 0, .int 0, .int 0, .ref kP_49, .ref kE_49, .ref kT_49, .int (nI (2 * n))])), (kP_49, .inl (cI, 32, .inl (fun _ => 0))), (kE_49, .inl (cI, (2 * n), .inl (fun _ => 0))), (kT_49, .inl (cI, (2 * n), .inl (fun _ => 0)))]) (w1 := [(q_56, .inr (3, [.ref qH_60, .ref oH_60, .int 0, .int 0, .int 0, .int 0, .int 0, .int 0, .int 0, .int 0])), (qH_60, .inr (1, [.ref qA_60, .int 0, .int 0, .int 0])), (qA_60, .inl (cI, 16, .inl (fun _ => 0))), (oH_60, .inr (2, [.ref oA_60, .long 0])), (oA_60, .inl (cB, 4096, .inl (fun _ => 0)))]) hP hD [8] [0, 1, 2, 3, 4, 5, 6, 7] rfl rfl (by decide) (by decide) hk1 hFc hP1 hD1
      generalize H1 = H at hP hS ⊢
      have hP : va_P (dC, dI) vwCl [(bH, .inr (5, [.int (nI n), .ref q_24, .ref q_39, .null])), (q_24, .inr (4, [.ref tS_32, .ref tW_32, .int (nI n)])), (tS_32, .inl (cI, n, .inl (fun _ => 0))), (tW_32, .inl (cJ, (n + 1), .inr (.inl (vp_updL (f_J7_fill (n + 1) (fun _ => 0) (-1)) (Int32.toNatClampNeg (nI n)) 0)))), (q_39, .inr (0, [.int 0, .int 0, .int 0, .ref kP_49, .ref kE_49, .ref kT_49, .int (nI (2 * n))])), (kP_49, .inl (cI, 32, .inl (fun _ => 0))), (kE_49, .inl (cI, (2 * n), .inl (fun _ => 0))), (kT_49, .inl (cI, (2 * n), .inl (fun _ => 0))), (q_56, .inr (3, [.ref qH_60, .ref oH_60, .int 0, .int 0, .int 0, .int 0, .int 0, .int 0, .int 0, .int 0])), (qH_60, .inr (1, [.ref qA_60, .int 0, .int 0, .int 0])), (qA_60, .inl (cI, 16, .inl (fun _ => 0))), (oH_60, .inr (2, [.ref oA_60, .long 0])), (oA_60, .inl (cB, 4096, .inl (fun _ => 0)))] H := hP
      have hD : va_D A [(bH, .inr (5, [.int (nI n), .ref q_24, .ref q_39, .null])), (q_24, .inr (4, [.ref tS_32, .ref tW_32, .int (nI n)])), (tS_32, .inl (cI, n, .inl (fun _ => 0))), (tW_32, .inl (cJ, (n + 1), .inr (.inl (vp_updL (f_J7_fill (n + 1) (fun _ => 0) (-1)) (Int32.toNatClampNeg (nI n)) 0)))), (q_39, .inr (0, [.int 0, .int 0, .int 0, .ref kP_49, .ref kE_49, .ref kT_49, .int (nI (2 * n))])), (kP_49, .inl (cI, 32, .inl (fun _ => 0))), (kE_49, .inl (cI, (2 * n), .inl (fun _ => 0))), (kT_49, .inl (cI, (2 * n), .inl (fun _ => 0))), (q_56, .inr (3, [.ref qH_60, .ref oH_60, .int 0, .int 0, .int 0, .int 0, .int 0, .int 0, .int 0, .int 0])), (qH_60, .inr (1, [.ref qA_60, .int 0, .int 0, .int 0])), (qA_60, .inl (cI, 16, .inl (fun _ => 0))), (oH_60, .inr (2, [.ref oA_60, .long 0])), (oA_60, .inl (cB, 4096, .inl (fun _ => 0)))] := hD
      refine W.widen (k := 12) (n := 4195) (by omega) (by omega) ?_
      refine va_putF (D := (dC, dI)) (ci := 5) (v := .ref q_56) (ty := (.object "SignalBoard$SerialLine")) (C := RX5) (T := TX5) (N := 4) hx hb hw inWX5 tyX5 tyX5_ok nmX5 hown hK hP hD hS 0 rfl rfl 3 (by decide) (hw _ w_150) (fun _ h9 => h9) rfl hin rfl (by decide +kernel) rfl rfl (Nat.le_of_ble_eq_true rfl) dX5_init_63 (fun H locs hP hD hS => ?_)
      have hP : va_P (dC, dI) vwCl [(bH, .inr (5, [.int (nI n), .ref q_24, .ref q_39, .ref q_56])), (q_24, .inr (4, [.ref tS_32, .ref tW_32, .int (nI n)])), (tS_32, .inl (cI, n, .inl (fun _ => 0))), (tW_32, .inl (cJ, (n + 1), .inr (.inl (vp_updL (f_J7_fill (n + 1) (fun _ => 0) (-1)) (Int32.toNatClampNeg (nI n)) 0)))), (q_39, .inr (0, [.int 0, .int 0, .int 0, .ref kP_49, .ref kE_49, .ref kT_49, .int (nI (2 * n))])), (kP_49, .inl (cI, 32, .inl (fun _ => 0))), (kE_49, .inl (cI, (2 * n), .inl (fun _ => 0))), (kT_49, .inl (cI, (2 * n), .inl (fun _ => 0))), (q_56, .inr (3, [.ref qH_60, .ref oH_60, .int 0, .int 0, .int 0, .int 0, .int 0, .int 0, .int 0, .int 0])), (qH_60, .inr (1, [.ref qA_60, .int 0, .int 0, .int 0])), (qA_60, .inl (cI, 16, .inl (fun _ => 0))), (oH_60, .inr (2, [.ref oA_60, .long 0])), (oA_60, .inl (cB, 4096, .inl (fun _ => 0)))] H := hP
      have hD : va_D A [(bH, .inr (5, [.int (nI n), .ref q_24, .ref q_39, .ref q_56])), (q_24, .inr (4, [.ref tS_32, .ref tW_32, .int (nI n)])), (tS_32, .inl (cI, n, .inl (fun _ => 0))), (tW_32, .inl (cJ, (n + 1), .inr (.inl (vp_updL (f_J7_fill (n + 1) (fun _ => 0) (-1)) (Int32.toNatClampNeg (nI n)) 0)))), (q_39, .inr (0, [.int 0, .int 0, .int 0, .ref kP_49, .ref kE_49, .ref kT_49, .int (nI (2 * n))])), (kP_49, .inl (cI, 32, .inl (fun _ => 0))), (kE_49, .inl (cI, (2 * n), .inl (fun _ => 0))), (kT_49, .inl (cI, (2 * n), .inl (fun _ => 0))), (q_56, .inr (3, [.ref qH_60, .ref oH_60, .int 0, .int 0, .int 0, .int 0, .int 0, .int 0, .int 0, .int 0])), (qH_60, .inr (1, [.ref qA_60, .int 0, .int 0, .int 0])), (qA_60, .inl (cI, 16, .inl (fun _ => 0))), (oH_60, .inr (2, [.ref oA_60, .long 0])), (oA_60, .inl (cB, 4096, .inl (fun _ => 0)))] := hD
      have hP9 := hP.sub (ws' := [(bH, .inr (5, [.int (nI n), .ref q_24, .ref q_39, .ref q_56])), (q_24, .inr (4, [.ref tS_32, .ref tW_32, .int (nI n)])), (tS_32, .inl (cI, n, .inl (fun _ => 0))), (tW_32, .inl (cJ, (n + 1), .inr (.inl (vp_updL (f_J7_fill (n + 1) (fun _ => 0) (-1)) (Int32.toNatClampNeg (nI n)) 0)))), (q_39, .inr (0, [.int 0, .int 0, .int 0, .ref kP_49, .ref kE_49, .ref kT_49, .int (nI (2 * n))])), (kP_49, .inl (cI, 32, .inl (fun _ => 0))), (kE_49, .inl (cI, (2 * n), .inl (fun _ => 0))), (kT_49, .inl (cI, (2 * n), .inl (fun _ => 0))), (q_56, .inr (3, [.ref qH_60, .ref oH_60, .int 0, .int 0, .int 0, .int 0, .int 0, .int 0, .int 0, .int 0])), (qH_60, .inr (1, [.ref qA_60, .int 0, .int 0, .int 0])), (qA_60, .inl (cI, 16, .inl (fun _ => 0))), (oH_60, .inr (2, [.ref oA_60, .long 0])), (oA_60, .inl (cB, 4096, .inl (fun _ => 0)))]) [0, 1, 2, 3, 4, 5, 6, 7, 8, 9, 10, 11, 12] rfl
      have hD9 := hD.sub (ws' := [(bH, .inr (5, [.int (nI n), .ref q_24, .ref q_39, .ref q_56])), (q_24, .inr (4, [.ref tS_32, .ref tW_32, .int (nI n)])), (tS_32, .inl (cI, n, .inl (fun _ => 0))), (tW_32, .inl (cJ, (n + 1), .inr (.inl (vp_updL (f_J7_fill (n + 1) (fun _ => 0) (-1)) (Int32.toNatClampNeg (nI n)) 0)))), (q_39, .inr (0, [.int 0, .int 0, .int 0, .ref kP_49, .ref kE_49, .ref kT_49, .int (nI (2 * n))])), (kP_49, .inl (cI, 32, .inl (fun _ => 0))), (kE_49, .inl (cI, (2 * n), .inl (fun _ => 0))), (kT_49, .inl (cI, (2 * n), .inl (fun _ => 0))), (q_56, .inr (3, [.ref qH_60, .ref oH_60, .int 0, .int 0, .int 0, .int 0, .int 0, .int 0, .int 0, .int 0])), (qH_60, .inr (1, [.ref qA_60, .int 0, .int 0, .int 0])), (qA_60, .inl (cI, 16, .inl (fun _ => 0))), (oH_60, .inr (2, [.ref oA_60, .long 0])), (oA_60, .inl (cB, 4096, .inl (fun _ => 0)))]) [0, 1, 2, 3, 4, 5, 6, 7, 8, 9, 10, 11, 12] (by decide) rfl
      exact W.vret hx hb hr (fun u hu hW => ⟨⟨(q_24, tS_32, tW_32, q_39, kP_49, kE_49, kT_49, q_56, qH_60, qA_60, oH_60, oA_60), rfl, trivial, by rw [hu]; exact hP9, hD9⟩, hS.F hu⟩) hS.2.2 dX5_init_66
