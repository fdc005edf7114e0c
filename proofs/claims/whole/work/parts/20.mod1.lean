abbrev MTs : Type := (Nat → Int32) × (Nat → Int64) × Int64
abbrev MCs : Type := (Nat → Int32) × (Nat → Int32) × (Nat → Int32) × (Nat → Int32) × (Nat → Int32) × (Nat → Int32)
abbrev MSs : Type := (Nat → Int32) × (Nat → Int32) × Int32 × Int32 × Int32
abbrev MQs : Type := (Nat → Int32) × Int32
abbrev MOs : Type := (Nat → Int32) × Int64
theorem in_e {n : Nat} {x : Int32} (hn : n ≤ 4) (h : vp_in x (n + 1)) (hne : ¬ x = nI n) : vp_in x 4 := by
  obtain ⟨j, hj, rfl⟩ := vp_in_of h (by omega)
  rcases Nat.lt_or_ge j n with q | q
  · exact vp_in_nI (by omega) (by omega)
  · exact absurd (by rw [show j = n by omega]) hne
theorem l_ge {x : Int64} {a : Nat} (ha : a < 2 ^ 63) (h : ¬ x < lN a) : ∃ k, a ≤ k ∧ k < 2 ^ 63 ∧ x = lN k := by
  have h0 : ¬ x < 0 := fun q => h (by
    rw [Int64.lt_iff_toInt_lt] at q ⊢
    rw [pk_lT ha]
    have z : (0 : Int64).toInt = 0 := rfl
    omega)
  obtain ⟨k, hk, rfl⟩ := pk_lOf h0
  refine ⟨k, ?_, hk, rfl⟩
  rw [pk_lLT hk ha] at h
  omega
theorem ne_size {p : Int32} (hs : p = 1 ∨ p = 2 ∨ p = 4 ∨ p = 8) : ¬ Int32.toInt64 p = 0 := by
  rcases hs with rfl | rfl | rfl | rfl <;> decide
theorem in_soft {n : Nat} {x : Int64} (hn : n ≤ 4) (h0 : ¬ x < 0) (h : ¬ 0 ≤ (lg_cmp x (4 * (Int32.toInt64 (nI n))))) : vp_in (Int64.toInt32 (x / 4)) 4 := by
  obtain ⟨k, hk, rfl⟩ := pk_lOf h0
  rw [lg_cmp_ge, nI_l (by omega), show (4 : Int64) = lN 4 from rfl, lN_mul, pk_lLE (by omega) hk] at h
  rw [show (4 : Int64) = lN 4 from rfl, pk_lDiv hk (by omega) (by omega), lN_i]
  exact vp_in_nI (by omega) (by omega)

def f_X6_isLess (p0 : Int64) (p1 : Int64) : Int32 :=
  if 0 ≤ (lg_cmp p0 0) then if 0 ≤ (lg_cmp p1 0) then if 0 ≤ (lg_cmp p0 p1) then 0
      else 1
    else 1
  else if 0 ≤ (lg_cmp p1 0) then 0
    else if 0 ≤ (lg_cmp p0 p1) then 0
      else 1
set_option maxHeartbeats 4000000 in
set_option maxRecDepth 100000 in
theorem k_X6_isLess (l : Launch) (dC : Nat → ClassId) (dI : Nat → Nat → Nat) (cI cJ cB cZ : ClassId) (sz : Nat) (p0 : Int64) (p1 : Int64)  : Met l yX6_isLess wsX6_isLess ({ frames := 0, cells := 0, slots := 0, locals := 0 }) (va_Pc [.long p0, .long p1] (fun U => U.heap.size = sz ∧ va_P (dC, dI) vwCl [] U.heap ∧ va_K (dC, dI) vwCl [(cI, .int), (cJ, .long), (cB, .byte), (cZ, .boolean)] U ∧ va_D (fun _ => True) [] ∧ nw_ U)) (va_Qi (fun (r : Int32) (_ : Unit) => r = (f_X6_isLess p0 p1)) (fun (_ : Unit) (w : State) => va_P (dC, dI) vwCl [] w.heap ∧ va_D (va_A [] sz) []) (va_A [] sz)) 0 0 (va_A [] sz) := by
  refine Met.ofW (cc := prog_8_method_4_code) (maxL := 4) (ret := (some .boolean)) (by decide) rfl ?_
  intro p e s m args below meth c s₁ B hml hv
  obtain ⟨rfl, hsz, hP, hK, hD0, hN⟩ := hv
  have hx := B.exec
  have hb := B.bytes
  have hr := B.returns
  have hw := hw_of (atoms_spec (ws := wsX6_isLess) B.pre)
  have hown : s.vm.findClass RX6 = some m.cls := findClass_of_methodNamed B.named
  have hlocks := B.notSynchronized
  subst hsz
  have hD := hD0.self (sz := s.heap.size)
  generalize hAe : va_A [] s.heap.size = A at hD ⊢
  have hA : ∀ q : Nat, s.heap.size ≤ q → A q := fun q h => by rw [← hAe]; exact Or.inr h
  have hS : va_S A s.heap s.heap [] := va_S.rf
  have hP : va_P (dC, dI) vwCl [] s.heap := hP
  have hl := lv_entry ([.long p0, .long p1]) (n := 4) (Nat.le_of_ble_eq_true rfl)
  rw [lg_entry_eq]
  generalize (lg_sl ([.long p0, .long p1]) ++ List.replicate (4 - (lg_sl ([.long p0, .long p1])).length) Slot.unset).toArray = ls at hl ⊢
  have hl : lv_has ls 4 [(0, .long p0), (2, .long p1)] := hl
  refine lv_lload_n hx hb dX6_isLess_0 rfl (lv_at hl 0 rfl) ?_
  refine lv_lconst (v := 0) hx hb dX6_isLess_1 (by decide) ?_
  refine W.lcmp hx hb dX6_isLess_2 ?_
  refine lv_if_ge (tgt := 10) hx hb dX6_isLess_3 (by decide) (fun c_3 => ?_) (fun c_3 => ?_)
  · refine lv_iconst (v := 0) hx hb dX6_isLess_10 (by decide) ?_
    refine lv_lload_n hx hb dX6_isLess_11 rfl (lv_at hl 1 rfl) ?_
    refine lv_lconst (v := 0) hx hb dX6_isLess_12 (by decide) ?_
    refine W.lcmp hx hb dX6_isLess_13 ?_
    refine lv_if_ge (tgt := 21) hx hb dX6_isLess_14 (by decide) (fun c_14 => ?_) (fun c_14 => ?_)
    · refine lv_iconst (v := 0) hx hb dX6_isLess_21 (by decide) ?_
      refine lv_icmp_ne (tgt := 39) hx hb dX6_isLess_22 (by decide) (fun c_22 => ?_) (fun c_22 => ?_)
      · exact absurd (by decide) c_22
      · refine lv_lload_n hx hb dX6_isLess_25 rfl (lv_at hl 0 rfl) ?_
        refine lv_lload_n hx hb dX6_isLess_26 rfl (lv_at hl 1 rfl) ?_
        refine W.lcmp hx hb dX6_isLess_27 ?_
        refine lv_if_ge (tgt := 35) hx hb dX6_isLess_28 (by decide) (fun c_28 => ?_) (fun c_28 => ?_)
        · refine lv_iconst (v := 0) hx hb dX6_isLess_35 (by decide) ?_
          refine lv_goto (tgt := 50) hx hb dX6_isLess_36 (by decide) ?_
          have hF : (f_X6_isLess p0 p1) = 0 := by rw [f_X6_isLess, if_pos c_3, if_pos c_14, if_pos c_28]
          have hP9 := hP.sub (ws' := []) [] rfl
          have hD9 := hD.sub (ws' := []) [] (by decide) rfl
          exact W.zret (v := 0) hx hb hr rfl (fun u hu hW => ⟨⟨0, (), rfl, hF.symm, by rw [hu]; exact hP9, hD9⟩, hS.F hu⟩) hS.2.2 dX6_isLess_50
        · refine lv_iconst (v := 1) hx hb dX6_isLess_31 (by decide) ?_
          refine lv_goto (tgt := 50) hx hb dX6_isLess_32 (by decide) ?_
          have hF : (f_X6_isLess p0 p1) = 1 := by rw [f_X6_isLess, if_pos c_3, if_pos c_14, if_neg c_28]
          have hP9 := hP.sub (ws' := []) [] rfl
          have hD9 := hD.sub (ws' := []) [] (by decide) rfl
          exact W.zret (v := 1) hx hb hr rfl (fun u hu hW => ⟨⟨1, (), rfl, hF.symm, by rw [hu]; exact hP9, hD9⟩, hS.F hu⟩) hS.2.2 dX6_isLess_50
    · refine lv_iconst (v := 1) hx hb dX6_isLess_17 (by decide) ?_
      refine lv_goto (tgt := 22) hx hb dX6_isLess_18 (by decide) ?_
      refine lv_icmp_ne (tgt := 39) hx hb dX6_isLess_22 (by decide) (fun c_22 => ?_) (fun c_22 => ?_)
      · refine lv_lload_n hx hb dX6_isLess_39 rfl (lv_at hl 1 rfl) ?_
        refine lv_lconst (v := 0) hx hb dX6_isLess_40 (by decide) ?_
        refine W.lcmp hx hb dX6_isLess_41 ?_
        refine lv_if_ge (tgt := 49) hx hb dX6_isLess_42 (by decide) (fun c_42 => ?_) (fun c_42 => ?_)
        · exact absurd c_42 c_14
        · refine lv_iconst (v := 1) hx hb dX6_isLess_45 (by decide) ?_
          refine lv_goto (tgt := 50) hx hb dX6_isLess_46 (by decide) ?_
          have hF : (f_X6_isLess p0 p1) = 1 := by rw [f_X6_isLess, if_pos c_3, if_neg c_14]
          have hP9 := hP.sub (ws' := []) [] rfl
          have hD9 := hD.sub (ws' := []) [] (by decide) rfl
          exact W.zret (v := 1) hx hb hr rfl (fun u hu hW => ⟨⟨1, (), rfl, hF.symm, by rw [hu]; exact hP9, hD9⟩, hS.F hu⟩) hS.2.2 dX6_isLess_50
      · exact absurd c_22 (by decide)
  · refine lv_iconst (v := 1) hx hb dX6_isLess_6 (by decide) ?_
    refine lv_goto (tgt := 11) hx hb dX6_isLess_7 (by decide) ?_
    refine lv_lload_n hx hb dX6_isLess_11 rfl (lv_at hl 1 rfl) ?_
    refine lv_lconst (v := 0) hx hb dX6_isLess_12 (by decide) ?_
    refine W.lcmp hx hb dX6_isLess_13 ?_
    refine lv_if_ge (tgt := 21) hx hb dX6_isLess_14 (by decide) (fun c_14 => ?_) (fun c_14 => ?_)
    · refine lv_iconst (v := 0) hx hb dX6_isLess_21 (by decide) ?_
      refine lv_icmp_ne (tgt := 39) hx hb dX6_isLess_22 (by decide) (fun c_22 => ?_) (fun c_22 => ?_)
      · refine lv_lload_n hx hb dX6_isLess_39 rfl (lv_at hl 1 rfl) ?_
        refine lv_lconst (v := 0) hx hb dX6_isLess_40 (by decide) ?_
        refine W.lcmp hx hb dX6_isLess_41 ?_
        refine lv_if_ge (tgt := 49) hx hb dX6_isLess_42 (by decide) (fun c_42 => ?_) (fun c_42 => ?_)
        · refine lv_iconst (v := 0) hx hb dX6_isLess_49 (by decide) ?_
          have hF : (f_X6_isLess p0 p1) = 0 := by rw [f_X6_isLess, if_neg c_3, if_pos c_14]
          have hP9 := hP.sub (ws' := []) [] rfl
          have hD9 := hD.sub (ws' := []) [] (by decide) rfl
          exact W.zret (v := 0) hx hb hr rfl (fun u hu hW => ⟨⟨0, (), rfl, hF.symm, by rw [hu]; exact hP9, hD9⟩, hS.F hu⟩) hS.2.2 dX6_isLess_50
        · exact absurd c_14 c_42
      · exact absurd c_22 (by decide)
    · refine lv_iconst (v := 1) hx hb dX6_isLess_17 (by decide) ?_
      refine lv_goto (tgt := 22) hx hb dX6_isLess_18 (by decide) ?_
      refine lv_icmp_ne (tgt := 39) hx hb dX6_isLess_22 (by decide) (fun c_22 => ?_) (fun c_22 => ?_)
      · exact absurd (by decide) c_22
      · refine lv_lload_n hx hb dX6_isLess_25 rfl (lv_at hl 0 rfl) ?_
        refine lv_lload_n hx hb dX6_isLess_26 rfl (lv_at hl 1 rfl) ?_
        refine W.lcmp hx hb dX6_isLess_27 ?_
        refine lv_if_ge (tgt := 35) hx hb dX6_isLess_28 (by decide) (fun c_28 => ?_) (fun c_28 => ?_)
        · refine lv_iconst (v := 0) hx hb dX6_isLess_35 (by decide) ?_
          refine lv_goto (tgt := 50) hx hb dX6_isLess_36 (by decide) ?_
          have hF : (f_X6_isLess p0 p1) = 0 := by rw [f_X6_isLess, if_neg c_3, if_neg c_14, if_pos c_28]
          have hP9 := hP.sub (ws' := []) [] rfl
          have hD9 := hD.sub (ws' := []) [] (by decide) rfl
          exact W.zret (v := 0) hx hb hr rfl (fun u hu hW => ⟨⟨0, (), rfl, hF.symm, by rw [hu]; exact hP9, hD9⟩, hS.F hu⟩) hS.2.2 dX6_isLess_50
        · refine lv_iconst (v := 1) hx hb dX6_isLess_31 (by decide) ?_
          refine lv_goto (tgt := 50) hx hb dX6_isLess_32 (by decide) ?_
          have hF : (f_X6_isLess p0 p1) = 1 := by rw [f_X6_isLess, if_neg c_3, if_neg c_14, if_neg c_28]
          have hP9 := hP.sub (ws' := []) [] rfl
          have hD9 := hD.sub (ws' := []) [] (by decide) rfl
          exact W.zret (v := 1) hx hb hr rfl (fun u hu hW => ⟨⟨1, (), rfl, hF.symm, by rw [hu]; exact hP9, hD9⟩, hS.F hu⟩) hS.2.2 dX6_isLess_50
def f_X6_isSource (p0 : Int64) : Int32 :=
  if (lg_cmp p0 0) ≤ 0 then 0
  else if 0 ≤ (lg_cmp p0 32) then 0
    else 1
set_option maxHeartbeats 4000000 in
set_option maxRecDepth 100000 in
theorem k_X6_isSource (l : Launch) (dC : Nat → ClassId) (dI : Nat → Nat → Nat) (cI cJ cB cZ : ClassId) (sz : Nat) (p0 : Int64)  : Met l yX6_isSource wsX6_isSource ({ frames := 0, cells := 0, slots := 0, locals := 0 }) (va_Pc [.long p0] (fun U => U.heap.size = sz ∧ va_P (dC, dI) vwCl [] U.heap ∧ va_K (dC, dI) vwCl [(cI, .int), (cJ, .long), (cB, .byte), (cZ, .boolean)] U ∧ va_D (fun _ => True) [] ∧ nw_ U)) (va_Qi (fun (r : Int32) (_ : Unit) => r = (f_X6_isSource p0)) (fun (_ : Unit) (w : State) => va_P (dC, dI) vwCl [] w.heap ∧ va_D (va_A [] sz) []) (va_A [] sz)) 0 0 (va_A [] sz) := by
  refine Met.ofW (cc := prog_8_method_10_code) (maxL := 2) (ret := (some .boolean)) (by decide) rfl ?_
  intro p e s m args below meth c s₁ B hml hv
  obtain ⟨rfl, hsz, hP, hK, hD0, hN⟩ := hv
  have hx := B.exec
  have hb := B.bytes
  have hr := B.returns
  have hw := hw_of (atoms_spec (ws := wsX6_isSource) B.pre)
  have hown : s.vm.findClass RX6 = some m.cls := findClass_of_methodNamed B.named
  have hlocks := B.notSynchronized
  subst hsz
  have hD := hD0.self (sz := s.heap.size)
  generalize hAe : va_A [] s.heap.size = A at hD ⊢
  have hA : ∀ q : Nat, s.heap.size ≤ q → A q := fun q h => by rw [← hAe]; exact Or.inr h
  have hS : va_S A s.heap s.heap [] := va_S.rf
  have hP : va_P (dC, dI) vwCl [] s.heap := hP
  have hl := lv_entry ([.long p0]) (n := 2) (Nat.le_of_ble_eq_true rfl)
  rw [lg_entry_eq]
  generalize (lg_sl ([.long p0]) ++ List.replicate (2 - (lg_sl ([.long p0])).length) Slot.unset).toArray = ls at hl ⊢
  have hl : lv_has ls 2 [(0, .long p0)] := hl
  refine lv_lload_n hx hb dX6_isSource_0 rfl (lv_at hl 0 rfl) ?_
  refine lv_lconst (v := 0) hx hb dX6_isSource_1 (by decide) ?_
  refine W.lcmp hx hb dX6_isSource_2 ?_
  refine lv_if_le (tgt := 18) hx hb dX6_isSource_3 (by decide) (fun c_3 => ?_) (fun c_3 => ?_)
  · refine lv_iconst (v := 0) hx hb dX6_isSource_18 (by decide) ?_
    have hF : (f_X6_isSource p0) = 0 := by rw [f_X6_isSource, if_pos c_3]
    have hP9 := hP.sub (ws' := []) [] rfl
    have hD9 := hD.sub (ws' := []) [] (by decide) rfl
    exact W.zret (v := 0) hx hb hr rfl (fun u hu hW => ⟨⟨0, (), rfl, hF.symm, by rw [hu]; exact hP9, hD9⟩, hS.F hu⟩) hS.2.2 dX6_isSource_19
  · refine lv_lload_n hx hb dX6_isSource_6 rfl (lv_at hl 0 rfl) ?_
    refine lv_ldc2 (v := 32) hx hb hown (hw _ w_633) dX6_isSource_7 ?_
    refine W.lcmp hx hb dX6_isSource_10 ?_
    refine lv_if_ge (tgt := 18) hx hb dX6_isSource_11 (by decide) (fun c_11 => ?_) (fun c_11 => ?_)
    · refine lv_iconst (v := 0) hx hb dX6_isSource_18 (by decide) ?_
      have hF : (f_X6_isSource p0) = 0 := by rw [f_X6_isSource, if_neg c_3, if_pos c_11]
      have hP9 := hP.sub (ws' := []) [] rfl
      have hD9 := hD.sub (ws' := []) [] (by decide) rfl
      exact W.zret (v := 0) hx hb hr rfl (fun u hu hW => ⟨⟨0, (), rfl, hF.symm, by rw [hu]; exact hP9, hD9⟩, hS.F hu⟩) hS.2.2 dX6_isSource_19
    · refine lv_iconst (v := 1) hx hb dX6_isSource_14 (by decide) ?_
      refine lv_goto (tgt := 19) hx hb dX6_isSource_15 (by decide) ?_
      have hF : (f_X6_isSource p0) = 1 := by rw [f_X6_isSource, if_neg c_3, if_neg c_11]
      have hP9 := hP.sub (ws' := []) [] rfl
      have hD9 := hD.sub (ws' := []) [] (by decide) rfl
      exact W.zret (v := 1) hx hb hr rfl (fun u hu hW => ⟨⟨1, (), rfl, hF.symm, by rw [hu]; exact hP9, hD9⟩, hS.F hu⟩) hS.2.2 dX6_isSource_19
def f_X6_isProper (p0 : Int32) (p1 : Int64) (p2 : Int32) : Int32 :=
  if p0 < 0 then 0
  else if 2 < p0 then 0
    else if (lg_cmp p1 0) < 0 then 0
      else if p2 = 1 then 1
        else if p2 = 2 then 1
          else if p2 = 4 then 1
            else if p2 = 8 then 1
              else 0
set_option maxHeartbeats 4000000 in
set_option maxRecDepth 100000 in
theorem k_X6_isProper (l : Launch) (dC : Nat → ClassId) (dI : Nat → Nat → Nat) (cI cJ cB cZ : ClassId) (sz : Nat) (p0 : Int32) (p1 : Int64) (p2 : Int32)  : Met l yX6_isProper wsX6_isProper ({ frames := 0, cells := 0, slots := 0, locals := 0 }) (va_Pc [.int p0, .long p1, .int p2] (fun U => U.heap.size = sz ∧ va_P (dC, dI) vwCl [] U.heap ∧ va_K (dC, dI) vwCl [(cI, .int), (cJ, .long), (cB, .byte), (cZ, .boolean)] U ∧ va_D (fun _ => True) [] ∧ nw_ U)) (va_Qi (fun (r : Int32) (_ : Unit) => r = (f_X6_isProper p0 p1 p2)) (fun (_ : Unit) (w : State) => va_P (dC, dI) vwCl [] w.heap ∧ va_D (va_A [] sz) []) (va_A [] sz)) 0 0 (va_A [] sz) := by
  refine Met.ofW (cc := prog_8_method_30_code) (maxL := 4) (ret := (some .boolean)) (by decide) rfl ?_
  intro p e s m args below meth c s₁ B hml hv
  obtain ⟨rfl, hsz, hP, hK, hD0, hN⟩ := hv
  have hx := B.exec
  have hb := B.bytes
  have hr := B.returns
  have hw := hw_of (atoms_spec (ws := wsX6_isProper) B.pre)
  have hown : s.vm.findClass RX6 = some m.cls := findClass_of_methodNamed B.named
  have hlocks := B.notSynchronized
  subst hsz
  have hD := hD0.self (sz := s.heap.size)
  generalize hAe : va_A [] s.heap.size = A at hD ⊢
  have hA : ∀ q : Nat, s.heap.size ≤ q → A q := fun q h => by rw [← hAe]; exact Or.inr h
  have hS : va_S A s.heap s.heap [] := va_S.rf
  have hP : va_P (dC, dI) vwCl [] s.heap := hP
  have hl := lv_entry ([.int p0, .long p1, .int p2]) (n := 4) (Nat.le_of_ble_eq_true rfl)
  rw [lg_entry_eq]
  generalize (lg_sl ([.int p0, .long p1, .int p2]) ++ List.replicate (4 - (lg_sl ([.int p0, .long p1, .int p2])).length) Slot.unset).toArray = ls at hl ⊢
  have hl : lv_has ls 4 [(0, .int p0), (1, .long p1), (3, .int p2)] := hl
  refine lv_iload_n hx hb dX6_isProper_0 rfl (lv_at hl 0 rfl) ?_
  refine lv_if_lt (tgt := 40) hx hb dX6_isProper_1 (by decide) (fun c_1 => ?_) (fun c_1 => ?_)
  · refine lv_iconst (v := 0) hx hb dX6_isProper_40 (by decide) ?_
    have hF : (f_X6_isProper p0 p1 p2) = 0 := by rw [f_X6_isProper, if_pos c_1]
    have hP9 := hP.sub (ws' := []) [] rfl
    have hD9 := hD.sub (ws' := []) [] (by decide) rfl
    exact W.zret (v := 0) hx hb hr rfl (fun u hu hW => ⟨⟨0, (), rfl, hF.symm, by rw [hu]; exact hP9, hD9⟩, hS.F hu⟩) hS.2.2 dX6_isProper_41
  · refine lv_iload_n hx hb dX6_isProper_4 rfl (lv_at hl 0 rfl) ?_
    refine lv_iconst (v := 2) hx hb dX6_isProper_5 (by decide) ?_
    refine lv_icmp_gt (tgt := 40) hx hb dX6_isProper_6 (by decide) (fun c_6 => ?_) (fun c_6 => ?_)
    · refine lv_iconst (v := 0) hx hb dX6_isProper_40 (by decide) ?_
      have hF : (f_X6_isProper p0 p1 p2) = 0 := by rw [f_X6_isProper, if_neg c_1, if_pos c_6]
      have hP9 := hP.sub (ws' := []) [] rfl
      have hD9 := hD.sub (ws' := []) [] (by decide) rfl
      exact W.zret (v := 0) hx hb hr rfl (fun u hu hW => ⟨⟨0, (), rfl, hF.symm, by rw [hu]; exact hP9, hD9⟩, hS.F hu⟩) hS.2.2 dX6_isProper_41
    · refine lv_lload_n hx hb dX6_isProper_9 rfl (lv_at hl 1 rfl) ?_
      refine lv_lconst (v := 0) hx hb dX6_isProper_10 (by decide) ?_
      refine W.lcmp hx hb dX6_isProper_11 ?_
      refine lv_if_lt (tgt := 40) hx hb dX6_isProper_12 (by decide) (fun c_12 => ?_) (fun c_12 => ?_)
      · refine lv_iconst (v := 0) hx hb dX6_isProper_40 (by decide) ?_
        have hF : (f_X6_isProper p0 p1 p2) = 0 := by rw [f_X6_isProper, if_neg c_1, if_neg c_6, if_pos c_12]
        have hP9 := hP.sub (ws' := []) [] rfl
        have hD9 := hD.sub (ws' := []) [] (by decide) rfl
        exact W.zret (v := 0) hx hb hr rfl (fun u hu hW => ⟨⟨0, (), rfl, hF.symm, by rw [hu]; exact hP9, hD9⟩, hS.F hu⟩) hS.2.2 dX6_isProper_41
      · refine lv_iload_n hx hb dX6_isProper_15 rfl (lv_at hl 2 rfl) ?_
        refine lv_iconst (v := 1) hx hb dX6_isProper_16 (by decide) ?_
        refine lv_icmp_eq (tgt := 36) hx hb dX6_isProper_17 (by decide) (fun c_17 => ?_) (fun c_17 => ?_)
        · refine lv_iconst (v := 1) hx hb dX6_isProper_36 (by decide) ?_
          refine lv_goto (tgt := 41) hx hb dX6_isProper_37 (by decide) ?_
          have hF : (f_X6_isProper p0 p1 p2) = 1 := by rw [f_X6_isProper, if_neg c_1, if_neg c_6, if_neg c_12, if_pos c_17]
          have hP9 := hP.sub (ws' := []) [] rfl
          have hD9 := hD.sub (ws' := []) [] (by decide) rfl
          exact W.zret (v := 1) hx hb hr rfl (fun u hu hW => ⟨⟨1, (), rfl, hF.symm, by rw [hu]; exact hP9, hD9⟩, hS.F hu⟩) hS.2.2 dX6_isProper_41
        · refine lv_iload_n hx hb dX6_isProper_20 rfl (lv_at hl 2 rfl) ?_
          refine lv_iconst (v := 2) hx hb dX6_isProper_21 (by decide) ?_
          refine lv_icmp_eq (tgt := 36) hx hb dX6_isProper_22 (by decide) (fun c_22 => ?_) (fun c_22 => ?_)
          · refine lv_iconst (v := 1) hx hb dX6_isProper_36 (by decide) ?_
            refine lv_goto (tgt := 41) hx hb dX6_isProper_37 (by decide) ?_
            have hF : (f_X6_isProper p0 p1 p2) = 1 := by rw [f_X6_isProper, if_neg c_1, if_neg c_6, if_neg c_12, if_neg c_17, if_pos c_22]
            have hP9 := hP.sub (ws' := []) [] rfl
            have hD9 := hD.sub (ws' := []) [] (by decide) rfl
            exact W.zret (v := 1) hx hb hr rfl (fun u hu hW => ⟨⟨1, (), rfl, hF.symm, by rw [hu]; exact hP9, hD9⟩, hS.F hu⟩) hS.2.2 dX6_isProper_41
          · refine lv_iload_n hx hb dX6_isProper_25 rfl (lv_at hl 2 rfl) ?_
            refine lv_iconst (v := 4) hx hb dX6_isProper_26 (by decide) ?_
            refine lv_icmp_eq (tgt := 36) hx hb dX6_isProper_27 (by decide) (fun c_27 => ?_) (fun c_27 => ?_)
            · refine lv_iconst (v := 1) hx hb dX6_isProper_36 (by decide) ?_
              refine lv_goto (tgt := 41) hx hb dX6_isProper_37 (by decide) ?_
              have hF : (f_X6_isProper p0 p1 p2) = 1 := by rw [f_X6_isProper, if_neg c_1, if_neg c_6, if_neg c_12, if_neg c_17, if_neg c_22, if_pos c_27]
              have hP9 := hP.sub (ws' := []) [] rfl
              have hD9 := hD.sub (ws' := []) [] (by decide) rfl
              exact W.zret (v := 1) hx hb hr rfl (fun u hu hW => ⟨⟨1, (), rfl, hF.symm, by rw [hu]; exact hP9, hD9⟩, hS.F hu⟩) hS.2.2 dX6_isProper_41
            · refine lv_iload_n hx hb dX6_isProper_30 rfl (lv_at hl 2 rfl) ?_
              refine lv_bipush (v := 8) hx hb dX6_isProper_31 (by decide) ?_
              refine lv_icmp_ne (tgt := 40) hx hb dX6_isProper_33 (by decide) (fun c_33 => ?_) (fun c_33 => ?_)
              · refine lv_iconst (v := 0) hx hb dX6_isProper_40 (by decide) ?_
                have hF : (f_X6_isProper p0 p1 p2) = 0 := by rw [f_X6_isProper, if_neg c_1, if_neg c_6, if_neg c_12, if_neg c_17, if_neg c_22, if_neg c_27, if_neg c_33]
                have hP9 := hP.sub (ws' := []) [] rfl
                have hD9 := hD.sub (ws' := []) [] (by decide) rfl
                exact W.zret (v := 0) hx hb hr rfl (fun u hu hW => ⟨⟨0, (), rfl, hF.symm, by rw [hu]; exact hP9, hD9⟩, hS.F hu⟩) hS.2.2 dX6_isProper_41
              · refine lv_iconst (v := 1) hx hb dX6_isProper_36 (by decide) ?_
                refine lv_goto (tgt := 41) hx hb dX6_isProper_37 (by decide) ?_
                have hF : (f_X6_isProper p0 p1 p2) = 1 := by rw [f_X6_isProper, if_neg c_1, if_neg c_6, if_neg c_12, if_neg c_17, if_neg c_22, if_neg c_27, if_pos c_33]
                have hP9 := hP.sub (ws' := []) [] rfl
                have hD9 := hD.sub (ws' := []) [] (by decide) rfl
                exact W.zret (v := 1) hx hb hr rfl (fun u hu hW => ⟨⟨1, (), rfl, hF.symm, by rw [hu]; exact hP9, hD9⟩, hS.F hu⟩) hS.2.2 dX6_isProper_41
def f_X6_thrown (mX : Int32) : Int32 :=
  mX
set_option maxHeartbeats 4000000 in
set_option maxRecDepth 100000 in
theorem k_X6_thrown (l : Launch) (dC : Nat → ClassId) (dI : Nat → Nat → Nat) (cI cJ cB cZ : ClassId) (mH m_soft m_compares m_signals m_waits m_served m_priorities m_enabled m_thresholds m_registers m_others m_came m_out : Nat) (sz : Nat) (n : Nat) (mX : Int32) (mT : MTs) (mC : MCs) (mS : MSs) (mQ : MQs) (mO : MOs)  : Met l yX6_thrown wsX6_thrown ({ frames := 0, cells := 0, slots := 0, locals := 0 }) (va_Pc [.ref mH] (fun U => U.heap.size = sz ∧ va_P (dC, dI) vwCl [(mH, .inr (6, [.int mX, .int (nI n), .ref m_soft, .ref m_compares, .long mT.2.2, .ref m_signals, .ref m_waits, .ref m_served, .ref m_priorities, .ref m_enabled, .ref m_thresholds, .ref m_registers, .ref m_others, .int mS.2.2.1, .int mS.2.2.2.1, .int mS.2.2.2.2, .ref m_came, .int mQ.2, .ref m_out, .long mO.2])), (m_soft, .inl (cZ, 4, .inl mT.1)), (m_compares, .inl (cJ, 4, .inr (.inl mT.2.1))), (m_signals, .inl (cZ, 32, .inl mC.1)), (m_waits, .inl (cZ, 32, .inl mC.2.1)), (m_served, .inl (cZ, 32, .inl mC.2.2.1)), (m_priorities, .inl (cI, 32, .inl mC.2.2.2.1)), (m_enabled, .inl (cI, 8, .inl mC.2.2.2.2.1)), (m_thresholds, .inl (cI, 8, .inl mC.2.2.2.2.2)), (m_registers, .inl (cI, 8, .inl mS.1)), (m_others, .inl (cI, 2, .inl mS.2.1)), (m_came, .inl (cI, 16, .inl mQ.1)), (m_out, .inl (cI, 4096, .inl mO.1))] U.heap ∧ va_K (dC, dI) vwCl [(cI, .int), (cJ, .long), (cB, .byte), (cZ, .boolean)] U ∧ va_D (fun _ => True) [(mH, .inr (6, [.int mX, .int (nI n), .ref m_soft, .ref m_compares, .long mT.2.2, .ref m_signals, .ref m_waits, .ref m_served, .ref m_priorities, .ref m_enabled, .ref m_thresholds, .ref m_registers, .ref m_others, .int mS.2.2.1, .int mS.2.2.2.1, .int mS.2.2.2.2, .ref m_came, .int mQ.2, .ref m_out, .long mO.2])), (m_soft, .inl (cZ, 4, .inl mT.1)), (m_compares, .inl (cJ, 4, .inr (.inl mT.2.1))), (m_signals, .inl (cZ, 32, .inl mC.1)), (m_waits, .inl (cZ, 32, .inl mC.2.1)), (m_served, .inl (cZ, 32, .inl mC.2.2.1)), (m_priorities, .inl (cI, 32, .inl mC.2.2.2.1)), (m_enabled, .inl (cI, 8, .inl mC.2.2.2.2.1)), (m_thresholds, .inl (cI, 8, .inl mC.2.2.2.2.2)), (m_registers, .inl (cI, 8, .inl mS.1)), (m_others, .inl (cI, 2, .inl mS.2.1)), (m_came, .inl (cI, 16, .inl mQ.1)), (m_out, .inl (cI, 4096, .inl mO.1))] ∧ nw_ U)) (va_Qi (fun (r : Int32) (_ : Unit) => r = (f_X6_thrown mX)) (fun (_ : Unit) (w : State) => va_P (dC, dI) vwCl [(mH, .inr (6, [.int mX, .int (nI n), .ref m_soft, .ref m_compares, .long mT.2.2, .ref m_signals, .ref m_waits, .ref m_served, .ref m_priorities, .ref m_enabled, .ref m_thresholds, .ref m_registers, .ref m_others, .int mS.2.2.1, .int mS.2.2.2.1, .int mS.2.2.2.2, .ref m_came, .int mQ.2, .ref m_out, .long mO.2])), (m_soft, .inl (cZ, 4, .inl mT.1)), (m_compares, .inl (cJ, 4, .inr (.inl mT.2.1))), (m_signals, .inl (cZ, 32, .inl mC.1)), (m_waits, .inl (cZ, 32, .inl mC.2.1)), (m_served, .inl (cZ, 32, .inl mC.2.2.1)), (m_priorities, .inl (cI, 32, .inl mC.2.2.2.1)), (m_enabled, .inl (cI, 8, .inl mC.2.2.2.2.1)), (m_thresholds, .inl (cI, 8, .inl mC.2.2.2.2.2)), (m_registers, .inl (cI, 8, .inl mS.1)), (m_others, .inl (cI, 2, .inl mS.2.1)), (m_came, .inl (cI, 16, .inl mQ.1)), (m_out, .inl (cI, 4096, .inl mO.1))] w.heap ∧ va_D (va_A [(mH, .inr (6, [.int mX, .int (nI n), .ref m_soft, .ref m_compares, .long mT.2.2, .ref m_signals, .ref m_waits, .ref m_served, .ref m_priorities, .ref m_enabled, .ref m_thresholds, .ref m_registers, .ref m_others, .int mS.2.2.1, .int mS.2.2.2.1, .int mS.2.2.2.2, .ref m_came, .int mQ.2, .ref m_out, .long mO.2])), (m_soft, .inl (cZ, 4, .inl mT.1)), (m_compares, .inl (cJ, 4, .inr (.inl mT.2.1))), (m_signals, .inl (cZ, 32, .inl mC.1)), (m_waits, .inl (cZ, 32, .inl mC.2.1)), (m_served, .inl (cZ, 32, .inl mC.2.2.1)), (m_priorities, .inl (cI, 32, .inl mC.2.2.2.1)), (m_enabled, .inl (cI, 8, .inl mC.2.2.2.2.1)), (m_thresholds, .inl (cI, 8, .inl mC.2.2.2.2.2)), (m_registers, .inl (cI, 8, .inl mS.1)), (m_others, .inl (cI, 2, .inl mS.2.1)), (m_came, .inl (cI, 16, .inl mQ.1)), (m_out, .inl (cI, 4096, .inl mO.1))] sz) [(mH, .inr (6, [.int mX, .int (nI n), .ref m_soft, .ref m_compares, .long mT.2.2, .ref m_signals, .ref m_waits, .ref m_served, .ref m_priorities, .ref m_enabled, .ref m_thresholds, .ref m_registers, .ref m_others, .int mS.2.2.1, .int mS.2.2.2.1, .int mS.2.2.2.2, .ref m_came, .int mQ.2, .ref m_out, .long mO.2])), (m_soft, .inl (cZ, 4, .inl mT.1)), (m_compares, .inl (cJ, 4, .inr (.inl mT.2.1))), (m_signals, .inl (cZ, 32, .inl mC.1)), (m_waits, .inl (cZ, 32, .inl mC.2.1)), (m_served, .inl (cZ, 32, .inl mC.2.2.1)), (m_priorities, .inl (cI, 32, .inl mC.2.2.2.1)), (m_enabled, .inl (cI, 8, .inl mC.2.2.2.2.1)), (m_thresholds, .inl (cI, 8, .inl mC.2.2.2.2.2)), (m_registers, .inl (cI, 8, .inl mS.1)), (m_others, .inl (cI, 2, .inl mS.2.1)), (m_came, .inl (cI, 16, .inl mQ.1)), (m_out, .inl (cI, 4096, .inl mO.1))]) (va_A [(mH, .inr (6, [.int mX, .int (nI n), .ref m_soft, .ref m_compares, .long mT.2.2, .ref m_signals, .ref m_waits, .ref m_served, .ref m_priorities, .ref m_enabled, .ref m_thresholds, .ref m_registers, .ref m_others, .int mS.2.2.1, .int mS.2.2.2.1, .int mS.2.2.2.2, .ref m_came, .int mQ.2, .ref m_out, .long mO.2])), (m_soft, .inl (cZ, 4, .inl mT.1)), (m_compares, .inl (cJ, 4, .inr (.inl mT.2.1))), (m_signals, .inl (cZ, 32, .inl mC.1)), (m_waits, .inl (cZ, 32, .inl mC.2.1)), (m_served, .inl (cZ, 32, .inl mC.2.2.1)), (m_priorities, .inl (cI, 32, .inl mC.2.2.2.1)), (m_enabled, .inl (cI, 8, .inl mC.2.2.2.2.1)), (m_thresholds, .inl (cI, 8, .inl mC.2.2.2.2.2)), (m_registers, .inl (cI, 8, .inl mS.1)), (m_others, .inl (cI, 2, .inl mS.2.1)), (m_came, .inl (cI, 16, .inl mQ.1)), (m_out, .inl (cI, 4096, .inl mO.1))] sz)) 0 0 (va_A [(mH, .inr (6, [.int mX, .int (nI n), .ref m_soft, .ref m_compares, .long mT.2.2, .ref m_signals, .ref m_waits, .ref m_served, .ref m_priorities, .ref m_enabled, .ref m_thresholds, .ref m_registers, .ref m_others, .int mS.2.2.1, .int mS.2.2.2.1, .int mS.2.2.2.2, .ref m_came, .int mQ.2, .ref m_out, .long mO.2])), (m_soft, .inl (cZ, 4, .inl mT.1)), (m_compares, .inl (cJ, 4, .inr (.inl mT.2.1))), (m_signals, .inl (cZ, 32, .inl mC.1)), (m_waits, .inl (cZ, 32, .inl mC.2.1)), (m_served, .inl (cZ, 32, .inl mC.2.2.1)), (m_priorities, .inl (cI, 32, .inl mC.2.2.2.1)), (m_enabled, .inl (cI, 8, .inl mC.2.2.2.2.1)), (m_thresholds, .inl (cI, 8, .inl mC.2.2.2.2.2)), (m_registers, .inl (cI, 8, .inl mS.1)), (m_others, .inl (cI, 2, .inl mS.2.1)), (m_came, .inl (cI, 16, .inl mQ.1)), (m_out, .inl (cI, 4096, .inl mO.1))] sz) := by
  refine Met.ofW (cc := prog_8_method_2_code) (maxL := 1) (ret := (some .int)) (by decide) rfl ?_
  intro p e s m args below meth c s₁ B hml hv
  obtain ⟨rfl, hsz, hP, hK, hD0, hN⟩ := hv
  have hx := B.exec
  have hb := B.bytes
  have hr := B.returns
  have hw := hw_of (atoms_spec (ws := wsX6_thrown) B.pre)
  have hown : s.vm.findClass RX6 = some m.cls := findClass_of_methodNamed B.named
  have hlocks := B.notSynchronized
  subst hsz
  have hD := hD0.self (sz := s.heap.size)
  generalize hAe : va_A [(mH, .inr (6, [.int mX, .int (nI n), .ref m_soft, .ref m_compares, .long mT.2.2, .ref m_signals, .ref m_waits, .ref m_served, .ref m_priorities, .ref m_enabled, .ref m_thresholds, .ref m_registers, .ref m_others, .int mS.2.2.1, .int mS.2.2.2.1, .int mS.2.2.2.2, .ref m_came, .int mQ.2, .ref m_out, .long mO.2])), (m_soft, .inl (cZ, 4, .inl mT.1)), (m_compares, .inl (cJ, 4, .inr (.inl mT.2.1))), (m_signals, .inl (cZ, 32, .inl mC.1)), (m_waits, .inl (cZ, 32, .inl mC.2.1)), (m_served, .inl (cZ, 32, .inl mC.2.2.1)), (m_priorities, .inl (cI, 32, .inl mC.2.2.2.1)), (m_enabled, .inl (cI, 8, .inl mC.2.2.2.2.1)), (m_thresholds, .inl (cI, 8, .inl mC.2.2.2.2.2)), (m_registers, .inl (cI, 8, .inl mS.1)), (m_others, .inl (cI, 2, .inl mS.2.1)), (m_came, .inl (cI, 16, .inl mQ.1)), (m_out, .inl (cI, 4096, .inl mO.1))] s.heap.size = A at hD ⊢
  have hA : ∀ q : Nat, s.heap.size ≤ q → A q := fun q h => by rw [← hAe]; exact Or.inr h
  have hS : va_S A s.heap s.heap [] := va_S.rf
  have hP : va_P (dC, dI) vwCl [(mH, .inr (6, [.int mX, .int (nI n), .ref m_soft, .ref m_compares, .long mT.2.2, .ref m_signals, .ref m_waits, .ref m_served, .ref m_priorities, .ref m_enabled, .ref m_thresholds, .ref m_registers, .ref m_others, .int mS.2.2.1, .int mS.2.2.2.1, .int mS.2.2.2.2, .ref m_came, .int mQ.2, .ref m_out, .long mO.2])), (m_soft, .inl (cZ, 4, .inl mT.1)), (m_compares, .inl (cJ, 4, .inr (.inl mT.2.1))), (m_signals, .inl (cZ, 32, .inl mC.1)), (m_waits, .inl (cZ, 32, .inl mC.2.1)), (m_served, .inl (cZ, 32, .inl mC.2.2.1)), (m_priorities, .inl (cI, 32, .inl mC.2.2.2.1)), (m_enabled, .inl (cI, 8, .inl mC.2.2.2.2.1)), (m_thresholds, .inl (cI, 8, .inl mC.2.2.2.2.2)), (m_registers, .inl (cI, 8, .inl mS.1)), (m_others, .inl (cI, 2, .inl mS.2.1)), (m_came, .inl (cI, 16, .inl mQ.1)), (m_out, .inl (cI, 4096, .inl mO.1))] s.heap := hP
  have hl := lv_entry ([.ref mH]) (n := 1) (Nat.le_of_ble_eq_true rfl)
  rw [lg_entry_eq]
  generalize (lg_sl ([.ref mH]) ++ List.replicate (1 - (lg_sl ([.ref mH])).length) Slot.unset).toArray = ls at hl ⊢
  have hl : lv_has ls 1 [(0, .ref mH)] := hl
  refine lv_aload_n hx hb dX6_thrown_0 rfl (lv_at hl 0 rfl) ?_
  refine va_get (D := (dC, dI)) (ci := 6) (v := .int mX) (C := RX6) (T := TX6) (N := 20) hx hb hw inWX6 hown hK hP 0 rfl rfl 0 (by decide) (hw _ w_456) (fun _ h9 => h9) rfl dX6_thrown_1 ?_
  have hF : (f_X6_thrown mX) = mX := by rfl
  have hP9 := hP.sub (ws' := [(mH, .inr (6, [.int mX, .int (nI n), .ref m_soft, .ref m_compares, .long mT.2.2, .ref m_signals, .ref m_waits, .ref m_served, .ref m_priorities, .ref m_enabled, .ref m_thresholds, .ref m_registers, .ref m_others, .int mS.2.2.1, .int mS.2.2.2.1, .int mS.2.2.2.2, .ref m_came, .int mQ.2, .ref m_out, .long mO.2])), (m_soft, .inl (cZ, 4, .inl mT.1)), (m_compares, .inl (cJ, 4, .inr (.inl mT.2.1))), (m_signals, .inl (cZ, 32, .inl mC.1)), (m_waits, .inl (cZ, 32, .inl mC.2.1)), (m_served, .inl (cZ, 32, .inl mC.2.2.1)), (m_priorities, .inl (cI, 32, .inl mC.2.2.2.1)), (m_enabled, .inl (cI, 8, .inl mC.2.2.2.2.1)), (m_thresholds, .inl (cI, 8, .inl mC.2.2.2.2.2)), (m_registers, .inl (cI, 8, .inl mS.1)), (m_others, .inl (cI, 2, .inl mS.2.1)), (m_came, .inl (cI, 16, .inl mQ.1)), (m_out, .inl (cI, 4096, .inl mO.1))]) [0, 1, 2, 3, 4, 5, 6, 7, 8, 9, 10, 11, 12] rfl
  have hD9 := hD.sub (ws' := [(mH, .inr (6, [.int mX, .int (nI n), .ref m_soft, .ref m_compares, .long mT.2.2, .ref m_signals, .ref m_waits, .ref m_served, .ref m_priorities, .ref m_enabled, .ref m_thresholds, .ref m_registers, .ref m_others, .int mS.2.2.1, .int mS.2.2.2.1, .int mS.2.2.2.2, .ref m_came, .int mQ.2, .ref m_out, .long mO.2])), (m_soft, .inl (cZ, 4, .inl mT.1)), (m_compares, .inl (cJ, 4, .inr (.inl mT.2.1))), (m_signals, .inl (cZ, 32, .inl mC.1)), (m_waits, .inl (cZ, 32, .inl mC.2.1)), (m_served, .inl (cZ, 32, .inl mC.2.2.1)), (m_priorities, .inl (cI, 32, .inl mC.2.2.2.1)), (m_enabled, .inl (cI, 8, .inl mC.2.2.2.2.1)), (m_thresholds, .inl (cI, 8, .inl mC.2.2.2.2.2)), (m_registers, .inl (cI, 8, .inl mS.1)), (m_others, .inl (cI, 2, .inl mS.2.1)), (m_came, .inl (cI, 16, .inl mQ.1)), (m_out, .inl (cI, 4096, .inl mO.1))]) [0, 1, 2, 3, 4, 5, 6, 7, 8, 9, 10, 11, 12] (by decide) rfl
  exact W.iret (v := mX) hx hb hr (fun u hu hW => ⟨⟨mX, (), rfl, hF.symm, by rw [hu]; exact hP9, hD9⟩, hS.F hu⟩) hS.2.2 dX6_thrown_4
def f_X6_processors (n : Nat) : Int32 × Int32 :=
  ((nI n), 0)
set_option maxHeartbeats 4000000 in
set_option maxRecDepth 100000 in
theorem k_X6_processors (l : Launch) (dC : Nat → ClassId) (dI : Nat → Nat → Nat) (cI cJ cB cZ : ClassId) (mH m_soft m_compares m_signals m_waits m_served m_priorities m_enabled m_thresholds m_registers m_others m_came m_out : Nat) (sz : Nat) (n : Nat) (mX : Int32) (mT : MTs) (mC : MCs) (mS : MSs) (mQ : MQs) (mO : MOs)  : Met l yX6_processors wsX6_processors ({ frames := 0, cells := 0, slots := 0, locals := 0 }) (va_Pc [.ref mH] (fun U => U.heap.size = sz ∧ va_P (dC, dI) vwCl [(mH, .inr (6, [.int mX, .int (nI n), .ref m_soft, .ref m_compares, .long mT.2.2, .ref m_signals, .ref m_waits, .ref m_served, .ref m_priorities, .ref m_enabled, .ref m_thresholds, .ref m_registers, .ref m_others, .int mS.2.2.1, .int mS.2.2.2.1, .int mS.2.2.2.2, .ref m_came, .int mQ.2, .ref m_out, .long mO.2])), (m_soft, .inl (cZ, 4, .inl mT.1)), (m_compares, .inl (cJ, 4, .inr (.inl mT.2.1))), (m_signals, .inl (cZ, 32, .inl mC.1)), (m_waits, .inl (cZ, 32, .inl mC.2.1)), (m_served, .inl (cZ, 32, .inl mC.2.2.1)), (m_priorities, .inl (cI, 32, .inl mC.2.2.2.1)), (m_enabled, .inl (cI, 8, .inl mC.2.2.2.2.1)), (m_thresholds, .inl (cI, 8, .inl mC.2.2.2.2.2)), (m_registers, .inl (cI, 8, .inl mS.1)), (m_others, .inl (cI, 2, .inl mS.2.1)), (m_came, .inl (cI, 16, .inl mQ.1)), (m_out, .inl (cI, 4096, .inl mO.1))] U.heap ∧ va_K (dC, dI) vwCl [(cI, .int), (cJ, .long), (cB, .byte), (cZ, .boolean)] U ∧ va_D (fun _ => True) [(mH, .inr (6, [.int mX, .int (nI n), .ref m_soft, .ref m_compares, .long mT.2.2, .ref m_signals, .ref m_waits, .ref m_served, .ref m_priorities, .ref m_enabled, .ref m_thresholds, .ref m_registers, .ref m_others, .int mS.2.2.1, .int mS.2.2.2.1, .int mS.2.2.2.2, .ref m_came, .int mQ.2, .ref m_out, .long mO.2])), (m_soft, .inl (cZ, 4, .inl mT.1)), (m_compares, .inl (cJ, 4, .inr (.inl mT.2.1))), (m_signals, .inl (cZ, 32, .inl mC.1)), (m_waits, .inl (cZ, 32, .inl mC.2.1)), (m_served, .inl (cZ, 32, .inl mC.2.2.1)), (m_priorities, .inl (cI, 32, .inl mC.2.2.2.1)), (m_enabled, .inl (cI, 8, .inl mC.2.2.2.2.1)), (m_thresholds, .inl (cI, 8, .inl mC.2.2.2.2.2)), (m_registers, .inl (cI, 8, .inl mS.1)), (m_others, .inl (cI, 2, .inl mS.2.1)), (m_came, .inl (cI, 16, .inl mQ.1)), (m_out, .inl (cI, 4096, .inl mO.1))] ∧ nw_ U)) (va_Qi (fun (r : Int32) (_ : Unit) => r = (f_X6_processors n).1) (fun (_ : Unit) (w : State) => va_P (dC, dI) vwCl [(mH, .inr (6, [.int (f_X6_processors n).2, .int (nI n), .ref m_soft, .ref m_compares, .long mT.2.2, .ref m_signals, .ref m_waits, .ref m_served, .ref m_priorities, .ref m_enabled, .ref m_thresholds, .ref m_registers, .ref m_others, .int mS.2.2.1, .int mS.2.2.2.1, .int mS.2.2.2.2, .ref m_came, .int mQ.2, .ref m_out, .long mO.2])), (m_soft, .inl (cZ, 4, .inl mT.1)), (m_compares, .inl (cJ, 4, .inr (.inl mT.2.1))), (m_signals, .inl (cZ, 32, .inl mC.1)), (m_waits, .inl (cZ, 32, .inl mC.2.1)), (m_served, .inl (cZ, 32, .inl mC.2.2.1)), (m_priorities, .inl (cI, 32, .inl mC.2.2.2.1)), (m_enabled, .inl (cI, 8, .inl mC.2.2.2.2.1)), (m_thresholds, .inl (cI, 8, .inl mC.2.2.2.2.2)), (m_registers, .inl (cI, 8, .inl mS.1)), (m_others, .inl (cI, 2, .inl mS.2.1)), (m_came, .inl (cI, 16, .inl mQ.1)), (m_out, .inl (cI, 4096, .inl mO.1))] w.heap ∧ va_D (va_A [(mH, .inr (6, [.int mX, .int (nI n), .ref m_soft, .ref m_compares, .long mT.2.2, .ref m_signals, .ref m_waits, .ref m_served, .ref m_priorities, .ref m_enabled, .ref m_thresholds, .ref m_registers, .ref m_others, .int mS.2.2.1, .int mS.2.2.2.1, .int mS.2.2.2.2, .ref m_came, .int mQ.2, .ref m_out, .long mO.2])), (m_soft, .inl (cZ, 4, .inl mT.1)), (m_compares, .inl (cJ, 4, .inr (.inl mT.2.1))), (m_signals, .inl (cZ, 32, .inl mC.1)), (m_waits, .inl (cZ, 32, .inl mC.2.1)), (m_served, .inl (cZ, 32, .inl mC.2.2.1)), (m_priorities, .inl (cI, 32, .inl mC.2.2.2.1)), (m_enabled, .inl (cI, 8, .inl mC.2.2.2.2.1)), (m_thresholds, .inl (cI, 8, .inl mC.2.2.2.2.2)), (m_registers, .inl (cI, 8, .inl mS.1)), (m_others, .inl (cI, 2, .inl mS.2.1)), (m_came, .inl (cI, 16, .inl mQ.1)), (m_out, .inl (cI, 4096, .inl mO.1))] sz) [(mH, .inr (6, [.int (f_X6_processors n).2, .int (nI n), .ref m_soft, .ref m_compares, .long mT.2.2, .ref m_signals, .ref m_waits, .ref m_served, .ref m_priorities, .ref m_enabled, .ref m_thresholds, .ref m_registers, .ref m_others, .int mS.2.2.1, .int mS.2.2.2.1, .int mS.2.2.2.2, .ref m_came, .int mQ.2, .ref m_out, .long mO.2])), (m_soft, .inl (cZ, 4, .inl mT.1)), (m_compares, .inl (cJ, 4, .inr (.inl mT.2.1))), (m_signals, .inl (cZ, 32, .inl mC.1)), (m_waits, .inl (cZ, 32, .inl mC.2.1)), (m_served, .inl (cZ, 32, .inl mC.2.2.1)), (m_priorities, .inl (cI, 32, .inl mC.2.2.2.1)), (m_enabled, .inl (cI, 8, .inl mC.2.2.2.2.1)), (m_thresholds, .inl (cI, 8, .inl mC.2.2.2.2.2)), (m_registers, .inl (cI, 8, .inl mS.1)), (m_others, .inl (cI, 2, .inl mS.2.1)), (m_came, .inl (cI, 16, .inl mQ.1)), (m_out, .inl (cI, 4096, .inl mO.1))]) (va_A [(mH, .inr (6, [.int mX, .int (nI n), .ref m_soft, .ref m_compares, .long mT.2.2, .ref m_signals, .ref m_waits, .ref m_served, .ref m_priorities, .ref m_enabled, .ref m_thresholds, .ref m_registers, .ref m_others, .int mS.2.2.1, .int mS.2.2.2.1, .int mS.2.2.2.2, .ref m_came, .int mQ.2, .ref m_out, .long mO.2])), (m_soft, .inl (cZ, 4, .inl mT.1)), (m_compares, .inl (cJ, 4, .inr (.inl mT.2.1))), (m_signals, .inl (cZ, 32, .inl mC.1)), (m_waits, .inl (cZ, 32, .inl mC.2.1)), (m_served, .inl (cZ, 32, .inl mC.2.2.1)), (m_priorities, .inl (cI, 32, .inl mC.2.2.2.1)), (m_enabled, .inl (cI, 8, .inl mC.2.2.2.2.1)), (m_thresholds, .inl (cI, 8, .inl mC.2.2.2.2.2)), (m_registers, .inl (cI, 8, .inl mS.1)), (m_others, .inl (cI, 2, .inl mS.2.1)), (m_came, .inl (cI, 16, .inl mQ.1)), (m_out, .inl (cI, 4096, .inl mO.1))] sz)) 0 0 (va_A [(mH, .inr (6, [.int mX, .int (nI n), .ref m_soft, .ref m_compares, .long mT.2.2, .ref m_signals, .ref m_waits, .ref m_served, .ref m_priorities, .ref m_enabled, .ref m_thresholds, .ref m_registers, .ref m_others, .int mS.2.2.1, .int mS.2.2.2.1, .int mS.2.2.2.2, .ref m_came, .int mQ.2, .ref m_out, .long mO.2])), (m_soft, .inl (cZ, 4, .inl mT.1)), (m_compares, .inl (cJ, 4, .inr (.inl mT.2.1))), (m_signals, .inl (cZ, 32, .inl mC.1)), (m_waits, .inl (cZ, 32, .inl mC.2.1)), (m_served, .inl (cZ, 32, .inl mC.2.2.1)), (m_priorities, .inl (cI, 32, .inl mC.2.2.2.1)), (m_enabled, .inl (cI, 8, .inl mC.2.2.2.2.1)), (m_thresholds, .inl (cI, 8, .inl mC.2.2.2.2.2)), (m_registers, .inl (cI, 8, .inl mS.1)), (m_others, .inl (cI, 2, .inl mS.2.1)), (m_came, .inl (cI, 16, .inl mQ.1)), (m_out, .inl (cI, 4096, .inl mO.1))] sz) := by
  refine Met.ofW (cc := prog_8_method_3_code) (maxL := 1) (ret := (some .int)) (by decide) rfl ?_
  intro p e s m args below meth c s₁ B hml hv
  obtain ⟨rfl, hsz, hP, hK, hD0, hN⟩ := hv
  have hx := B.exec
  have hb := B.bytes
  have hr := B.returns
  have hw := hw_of (atoms_spec (ws := wsX6_processors) B.pre)
  have hown : s.vm.findClass RX6 = some m.cls := findClass_of_methodNamed B.named
  have hlocks := B.notSynchronized
  subst hsz
  have hD := hD0.self (sz := s.heap.size)
  generalize hAe : va_A [(mH, .inr (6, [.int mX, .int (nI n), .ref m_soft, .ref m_compares, .long mT.2.2, .ref m_signals, .ref m_waits, .ref m_served, .ref m_priorities, .ref m_enabled, .ref m_thresholds, .ref m_registers, .ref m_others, .int mS.2.2.1, .int mS.2.2.2.1, .int mS.2.2.2.2, .ref m_came, .int mQ.2, .ref m_out, .long mO.2])), (m_soft, .inl (cZ, 4, .inl mT.1)), (m_compares, .inl (cJ, 4, .inr (.inl mT.2.1))), (m_signals, .inl (cZ, 32, .inl mC.1)), (m_waits, .inl (cZ, 32, .inl mC.2.1)), (m_served, .inl (cZ, 32, .inl mC.2.2.1)), (m_priorities, .inl (cI, 32, .inl mC.2.2.2.1)), (m_enabled, .inl (cI, 8, .inl mC.2.2.2.2.1)), (m_thresholds, .inl (cI, 8, .inl mC.2.2.2.2.2)), (m_registers, .inl (cI, 8, .inl mS.1)), (m_others, .inl (cI, 2, .inl mS.2.1)), (m_came, .inl (cI, 16, .inl mQ.1)), (m_out, .inl (cI, 4096, .inl mO.1))] s.heap.size = A at hD ⊢
  have hA : ∀ q : Nat, s.heap.size ≤ q → A q := fun q h => by rw [← hAe]; exact Or.inr h
  have hS : va_S A s.heap s.heap [] := va_S.rf
  have hP : va_P (dC, dI) vwCl [(mH, .inr (6, [.int mX, .int (nI n), .ref m_soft, .ref m_compares, .long mT.2.2, .ref m_signals, .ref m_waits, .ref m_served, .ref m_priorities, .ref m_enabled, .ref m_thresholds, .ref m_registers, .ref m_others, .int mS.2.2.1, .int mS.2.2.2.1, .int mS.2.2.2.2, .ref m_came, .int mQ.2, .ref m_out, .long mO.2])), (m_soft, .inl (cZ, 4, .inl mT.1)), (m_compares, .inl (cJ, 4, .inr (.inl mT.2.1))), (m_signals, .inl (cZ, 32, .inl mC.1)), (m_waits, .inl (cZ, 32, .inl mC.2.1)), (m_served, .inl (cZ, 32, .inl mC.2.2.1)), (m_priorities, .inl (cI, 32, .inl mC.2.2.2.1)), (m_enabled, .inl (cI, 8, .inl mC.2.2.2.2.1)), (m_thresholds, .inl (cI, 8, .inl mC.2.2.2.2.2)), (m_registers, .inl (cI, 8, .inl mS.1)), (m_others, .inl (cI, 2, .inl mS.2.1)), (m_came, .inl (cI, 16, .inl mQ.1)), (m_out, .inl (cI, 4096, .inl mO.1))] s.heap := hP
  have hl := lv_entry ([.ref mH]) (n := 1) (Nat.le_of_ble_eq_true rfl)
  rw [lg_entry_eq]
  generalize (lg_sl ([.ref mH]) ++ List.replicate (1 - (lg_sl ([.ref mH])).length) Slot.unset).toArray = ls at hl ⊢
  have hl : lv_has ls 1 [(0, .ref mH)] := hl
  refine lv_aload_n hx hb dX6_processors_0 rfl (lv_at hl 0 rfl) ?_
  refine lv_iconst (v := 0) hx hb dX6_processors_1 (by decide) ?_
  refine va_put (D := (dC, dI)) (ci := 6) (v := .int 0) (ty := .int) (C := RX6) (T := TX6) (N := 20) hx hb hw inWX6 tyX6 tyX6_ok nmX6 hown hK hP hD hS 0 rfl rfl 0 (by decide) (hw _ w_456) (fun _ h9 => h9) rfl (by decide +kernel) rfl rfl (Nat.le_of_ble_eq_true rfl) dX6_processors_2 (fun H locs hP hD hS => ?_)
  have hP : va_P (dC, dI) vwCl [(mH, .inr (6, [.int 0, .int (nI n), .ref m_soft, .ref m_compares, .long mT.2.2, .ref m_signals, .ref m_waits, .ref m_served, .ref m_priorities, .ref m_enabled, .ref m_thresholds, .ref m_registers, .ref m_others, .int mS.2.2.1, .int mS.2.2.2.1, .int mS.2.2.2.2, .ref m_came, .int mQ.2, .ref m_out, .long mO.2])), (m_soft, .inl (cZ, 4, .inl mT.1)), (m_compares, .inl (cJ, 4, .inr (.inl mT.2.1))), (m_signals, .inl (cZ, 32, .inl mC.1)), (m_waits, .inl (cZ, 32, .inl mC.2.1)), (m_served, .inl (cZ, 32, .inl mC.2.2.1)), (m_priorities, .inl (cI, 32, .inl mC.2.2.2.1)), (m_enabled, .inl (cI, 8, .inl mC.2.2.2.2.1)), (m_thresholds, .inl (cI, 8, .inl mC.2.2.2.2.2)), (m_registers, .inl (cI, 8, .inl mS.1)), (m_others, .inl (cI, 2, .inl mS.2.1)), (m_came, .inl (cI, 16, .inl mQ.1)), (m_out, .inl (cI, 4096, .inl mO.1))] H := hP
  have hD : va_D A [(mH, .inr (6, [.int 0, .int (nI n), .ref m_soft, .ref m_compares, .long mT.2.2, .ref m_signals, .ref m_waits, .ref m_served, .ref m_priorities, .ref m_enabled, .ref m_thresholds, .ref m_registers, .ref m_others, .int mS.2.2.1, .int mS.2.2.2.1, .int mS.2.2.2.2, .ref m_came, .int mQ.2, .ref m_out, .long mO.2])), (m_soft, .inl (cZ, 4, .inl mT.1)), (m_compares, .inl (cJ, 4, .inr (.inl mT.2.1))), (m_signals, .inl (cZ, 32, .inl mC.1)), (m_waits, .inl (cZ, 32, .inl mC.2.1)), (m_served, .inl (cZ, 32, .inl mC.2.2.1)), (m_priorities, .inl (cI, 32, .inl mC.2.2.2.1)), (m_enabled, .inl (cI, 8, .inl mC.2.2.2.2.1)), (m_thresholds, .inl (cI, 8, .inl mC.2.2.2.2.2)), (m_registers, .inl (cI, 8, .inl mS.1)), (m_others, .inl (cI, 2, .inl mS.2.1)), (m_came, .inl (cI, 16, .inl mQ.1)), (m_out, .inl (cI, 4096, .inl mO.1))] := hD
  refine lv_aload_n hx hb dX6_processors_5 rfl (lv_at hl 0 rfl) ?_
  refine va_get (D := (dC, dI)) (ci := 6) (v := .int (nI n)) (C := RX6) (T := TX6) (N := 20) hx hb hw inWX6 hown hK hP 0 rfl rfl 1 (by decide) (hw _ w_457) (fun _ h9 => h9) rfl dX6_processors_6 ?_
  have hF : (f_X6_processors n) = ((nI n), 0) := by rfl
  have hP9 := hP.sub (ws' := [(mH, .inr (6, [.int 0, .int (nI n), .ref m_soft, .ref m_compares, .long mT.2.2, .ref m_signals, .ref m_waits, .ref m_served, .ref m_priorities, .ref m_enabled, .ref m_thresholds, .ref m_registers, .ref m_others, .int mS.2.2.1, .int mS.2.2.2.1, .int mS.2.2.2.2, .ref m_came, .int mQ.2, .ref m_out, .long mO.2])), (m_soft, .inl (cZ, 4, .inl mT.1)), (m_compares, .inl (cJ, 4, .inr (.inl mT.2.1))), (m_signals, .inl (cZ, 32, .inl mC.1)), (m_waits, .inl (cZ, 32, .inl mC.2.1)), (m_served, .inl (cZ, 32, .inl mC.2.2.1)), (m_priorities, .inl (cI, 32, .inl mC.2.2.2.1)), (m_enabled, .inl (cI, 8, .inl mC.2.2.2.2.1)), (m_thresholds, .inl (cI, 8, .inl mC.2.2.2.2.2)), (m_registers, .inl (cI, 8, .inl mS.1)), (m_others, .inl (cI, 2, .inl mS.2.1)), (m_came, .inl (cI, 16, .inl mQ.1)), (m_out, .inl (cI, 4096, .inl mO.1))]) [0, 1, 2, 3, 4, 5, 6, 7, 8, 9, 10, 11, 12] rfl
  have hD9 := hD.sub (ws' := [(mH, .inr (6, [.int 0, .int (nI n), .ref m_soft, .ref m_compares, .long mT.2.2, .ref m_signals, .ref m_waits, .ref m_served, .ref m_priorities, .ref m_enabled, .ref m_thresholds, .ref m_registers, .ref m_others, .int mS.2.2.1, .int mS.2.2.2.1, .int mS.2.2.2.2, .ref m_came, .int mQ.2, .ref m_out, .long mO.2])), (m_soft, .inl (cZ, 4, .inl mT.1)), (m_compares, .inl (cJ, 4, .inr (.inl mT.2.1))), (m_signals, .inl (cZ, 32, .inl mC.1)), (m_waits, .inl (cZ, 32, .inl mC.2.1)), (m_served, .inl (cZ, 32, .inl mC.2.2.1)), (m_priorities, .inl (cI, 32, .inl mC.2.2.2.1)), (m_enabled, .inl (cI, 8, .inl mC.2.2.2.2.1)), (m_thresholds, .inl (cI, 8, .inl mC.2.2.2.2.2)), (m_registers, .inl (cI, 8, .inl mS.1)), (m_others, .inl (cI, 2, .inl mS.2.1)), (m_came, .inl (cI, 16, .inl mQ.1)), (m_out, .inl (cI, 4096, .inl mO.1))]) [0, 1, 2, 3, 4, 5, 6, 7, 8, 9, 10, 11, 12] (by decide) rfl
  have hF_mX : (f_X6_processors n).2 = 0 := congrArg (fun z => z.2) hF
  exact W.iret (v := (nI n)) hx hb hr (fun u hu hW => ⟨⟨(nI n), (), rfl, (congrArg Prod.fst hF).symm, by rw [hu, hF_mX]; exact hP9, by rw [hF_mX]; exact hD9⟩, hS.F hu⟩) hS.2.2 dX6_processors_9
def f_X6_eightAt (n : Nat) (p1 : Int64) : Int32 :=
  if (lg_cmp p1 49144) < 0 then if (lg_cmp p1 16384) < 0 then (-1)
    else if 0 ≤ (lg_cmp p1 ((16384 : Int64) + ((8 : Int64) * (Int32.toInt64 (nI n))))) then (-1)
      else (Int64.toInt32 ((p1 - 16384) / 8))
  else if 0 ≤ (lg_cmp p1 49152) then if (lg_cmp p1 16384) < 0 then (-1)
      else if 0 ≤ (lg_cmp p1 ((16384 : Int64) + ((8 : Int64) * (Int32.toInt64 (nI n))))) then (-1)
        else (Int64.toInt32 ((p1 - 16384) / 8))
    else (nI n)
set_option maxHeartbeats 4000000 in
set_option maxRecDepth 100000 in
theorem k_X6_eightAt (l : Launch) (dC : Nat → ClassId) (dI : Nat → Nat → Nat) (cI cJ cB cZ : ClassId) (mH m_soft m_compares m_signals m_waits m_served m_priorities m_enabled m_thresholds m_registers m_others m_came m_out : Nat) (sz : Nat) (n : Nat) (mX : Int32) (mT : MTs) (mC : MCs) (mS : MSs) (mQ : MQs) (mO : MOs) (p1 : Int64)  : Met l yX6_eightAt wsX6_eightAt ({ frames := 0, cells := 0, slots := 0, locals := 0 }) (va_Pc [.ref mH, .long p1] (fun U => U.heap.size = sz ∧ va_P (dC, dI) vwCl [(mH, .inr (6, [.int mX, .int (nI n), .ref m_soft, .ref m_compares, .long mT.2.2, .ref m_signals, .ref m_waits, .ref m_served, .ref m_priorities, .ref m_enabled, .ref m_thresholds, .ref m_registers, .ref m_others, .int mS.2.2.1, .int mS.2.2.2.1, .int mS.2.2.2.2, .ref m_came, .int mQ.2, .ref m_out, .long mO.2])), (m_soft, .inl (cZ, 4, .inl mT.1)), (m_compares, .inl (cJ, 4, .inr (.inl mT.2.1))), (m_signals, .inl (cZ, 32, .inl mC.1)), (m_waits, .inl (cZ, 32, .inl mC.2.1)), (m_served, .inl (cZ, 32, .inl mC.2.2.1)), (m_priorities, .inl (cI, 32, .inl mC.2.2.2.1)), (m_enabled, .inl (cI, 8, .inl mC.2.2.2.2.1)), (m_thresholds, .inl (cI, 8, .inl mC.2.2.2.2.2)), (m_registers, .inl (cI, 8, .inl mS.1)), (m_others, .inl (cI, 2, .inl mS.2.1)), (m_came, .inl (cI, 16, .inl mQ.1)), (m_out, .inl (cI, 4096, .inl mO.1))] U.heap ∧ va_K (dC, dI) vwCl [(cI, .int), (cJ, .long), (cB, .byte), (cZ, .boolean)] U ∧ va_D (fun _ => True) [(mH, .inr (6, [.int mX, .int (nI n), .ref m_soft, .ref m_compares, .long mT.2.2, .ref m_signals, .ref m_waits, .ref m_served, .ref m_priorities, .ref m_enabled, .ref m_thresholds, .ref m_registers, .ref m_others, .int mS.2.2.1, .int mS.2.2.2.1, .int mS.2.2.2.2, .ref m_came, .int mQ.2, .ref m_out, .long mO.2])), (m_soft, .inl (cZ, 4, .inl mT.1)), (m_compares, .inl (cJ, 4, .inr (.inl mT.2.1))), (m_signals, .inl (cZ, 32, .inl mC.1)), (m_waits, .inl (cZ, 32, .inl mC.2.1)), (m_served, .inl (cZ, 32, .inl mC.2.2.1)), (m_priorities, .inl (cI, 32, .inl mC.2.2.2.1)), (m_enabled, .inl (cI, 8, .inl mC.2.2.2.2.1)), (m_thresholds, .inl (cI, 8, .inl mC.2.2.2.2.2)), (m_registers, .inl (cI, 8, .inl mS.1)), (m_others, .inl (cI, 2, .inl mS.2.1)), (m_came, .inl (cI, 16, .inl mQ.1)), (m_out, .inl (cI, 4096, .inl mO.1))] ∧ nw_ U)) (va_Qi (fun (r : Int32) (_ : Unit) => r = (f_X6_eightAt n p1)) (fun (_ : Unit) (w : State) => va_P (dC, dI) vwCl [(mH, .inr (6, [.int mX, .int (nI n), .ref m_soft, .ref m_compares, .long mT.2.2, .ref m_signals, .ref m_waits, .ref m_served, .ref m_priorities, .ref m_enabled, .ref m_thresholds, .ref m_registers, .ref m_others, .int mS.2.2.1, .int mS.2.2.2.1, .int mS.2.2.2.2, .ref m_came, .int mQ.2, .ref m_out, .long mO.2])), (m_soft, .inl (cZ, 4, .inl mT.1)), (m_compares, .inl (cJ, 4, .inr (.inl mT.2.1))), (m_signals, .inl (cZ, 32, .inl mC.1)), (m_waits, .inl (cZ, 32, .inl mC.2.1)), (m_served, .inl (cZ, 32, .inl mC.2.2.1)), (m_priorities, .inl (cI, 32, .inl mC.2.2.2.1)), (m_enabled, .inl (cI, 8, .inl mC.2.2.2.2.1)), (m_thresholds, .inl (cI, 8, .inl mC.2.2.2.2.2)), (m_registers, .inl (cI, 8, .inl mS.1)), (m_others, .inl (cI, 2, .inl mS.2.1)), (m_came, .inl (cI, 16, .inl mQ.1)), (m_out, .inl (cI, 4096, .inl mO.1))] w.heap ∧ va_D (va_A [(mH, .inr (6, [.int mX, .int (nI n), .ref m_soft, .ref m_compares, .long mT.2.2, .ref m_signals, .ref m_waits, .ref m_served, .ref m_priorities, .ref m_enabled, .ref m_thresholds, .ref m_registers, .ref m_others, .int mS.2.2.1, .int mS.2.2.2.1, .int mS.2.2.2.2, .ref m_came, .int mQ.2, .ref m_out, .long mO.2])), (m_soft, .inl (cZ, 4, .inl mT.1)), (m_compares, .inl (cJ, 4, .inr (.inl mT.2.1))), (m_signals, .inl (cZ, 32, .inl mC.1)), (m_waits, .inl (cZ, 32, .inl mC.2.1)), (m_served, .inl (cZ, 32, .inl mC.2.2.1)), (m_priorities, .inl (cI, 32, .inl mC.2.2.2.1)), (m_enabled, .inl (cI, 8, .inl mC.2.2.2.2.1)), (m_thresholds, .inl (cI, 8, .inl mC.2.2.2.2.2)), (m_registers, .inl (cI, 8, .inl mS.1)), (m_others, .inl (cI, 2, .inl mS.2.1)), (m_came, .inl (cI, 16, .inl mQ.1)), (m_out, .inl (cI, 4096, .inl mO.1))] sz) [(mH, .inr (6, [.int mX, .int (nI n), .ref m_soft, .ref m_compares, .long mT.2.2, .ref m_signals, .ref m_waits, .ref m_served, .ref m_priorities, .ref m_enabled, .ref m_thresholds, .ref m_registers, .ref m_others, .int mS.2.2.1, .int mS.2.2.2.1, .int mS.2.2.2.2, .ref m_came, .int mQ.2, .ref m_out, .long mO.2])), (m_soft, .inl (cZ, 4, .inl mT.1)), (m_compares, .inl (cJ, 4, .inr (.inl mT.2.1))), (m_signals, .inl (cZ, 32, .inl mC.1)), (m_waits, .inl (cZ, 32, .inl mC.2.1)), (m_served, .inl (cZ, 32, .inl mC.2.2.1)), (m_priorities, .inl (cI, 32, .inl mC.2.2.2.1)), (m_enabled, .inl (cI, 8, .inl mC.2.2.2.2.1)), (m_thresholds, .inl (cI, 8, .inl mC.2.2.2.2.2)), (m_registers, .inl (cI, 8, .inl mS.1)), (m_others, .inl (cI, 2, .inl mS.2.1)), (m_came, .inl (cI, 16, .inl mQ.1)), (m_out, .inl (cI, 4096, .inl mO.1))]) (va_A [(mH, .inr (6, [.int mX, .int (nI n), .ref m_soft, .ref m_compares, .long mT.2.2, .ref m_signals, .ref m_waits, .ref m_served, .ref m_priorities, .ref m_enabled, .ref m_thresholds, .ref m_registers, .ref m_others, .int mS.2.2.1, .int mS.2.2.2.1, .int mS.2.2.2.2, .ref m_came, .int mQ.2, .ref m_out, .long mO.2])), (m_soft, .inl (cZ, 4, .inl mT.1)), (m_compares, .inl (cJ, 4, .inr (.inl mT.2.1))), (m_signals, .inl (cZ, 32, .inl mC.1)), (m_waits, .inl (cZ, 32, .inl mC.2.1)), (m_served, .inl (cZ, 32, .inl mC.2.2.1)), (m_priorities, .inl (cI, 32, .inl mC.2.2.2.1)), (m_enabled, .inl (cI, 8, .inl mC.2.2.2.2.1)), (m_thresholds, .inl (cI, 8, .inl mC.2.2.2.2.2)), (m_registers, .inl (cI, 8, .inl mS.1)), (m_others, .inl (cI, 2, .inl mS.2.1)), (m_came, .inl (cI, 16, .inl mQ.1)), (m_out, .inl (cI, 4096, .inl mO.1))] sz)) 0 0 (va_A [(mH, .inr (6, [.int mX, .int (nI n), .ref m_soft, .ref m_compares, .long mT.2.2, .ref m_signals, .ref m_waits, .ref m_served, .ref m_priorities, .ref m_enabled, .ref m_thresholds, .ref m_registers, .ref m_others, .int mS.2.2.1, .int mS.2.2.2.1, .int mS.2.2.2.2, .ref m_came, .int mQ.2, .ref m_out, .long mO.2])), (m_soft, .inl (cZ, 4, .inl mT.1)), (m_compares, .inl (cJ, 4, .inr (.inl mT.2.1))), (m_signals, .inl (cZ, 32, .inl mC.1)), (m_waits, .inl (cZ, 32, .inl mC.2.1)), (m_served, .inl (cZ, 32, .inl mC.2.2.1)), (m_priorities, .inl (cI, 32, .inl mC.2.2.2.1)), (m_enabled, .inl (cI, 8, .inl mC.2.2.2.2.1)), (m_thresholds, .inl (cI, 8, .inl mC.2.2.2.2.2)), (m_registers, .inl (cI, 8, .inl mS.1)), (m_others, .inl (cI, 2, .inl mS.2.1)), (m_came, .inl (cI, 16, .inl mQ.1)), (m_out, .inl (cI, 4096, .inl mO.1))] sz) := by
  refine Met.ofW (cc := prog_8_method_5_code) (maxL := 3) (ret := (some .int)) (by decide) rfl ?_
  intro p e s m args below meth c s₁ B hml hv
  obtain ⟨rfl, hsz, hP, hK, hD0, hN⟩ := hv
  have hx := B.exec
  have hb := B.bytes
  have hr := B.returns
  have hw := hw_of (atoms_spec (ws := wsX6_eightAt) B.pre)
  have hown : s.vm.findClass RX6 = some m.cls := findClass_of_methodNamed B.named
  have hlocks := B.notSynchronized
  subst hsz
  have hD := hD0.self (sz := s.heap.size)
  generalize hAe : va_A [(mH, .inr (6, [.int mX, .int (nI n), .ref m_soft, .ref m_compares, .long mT.2.2, .ref m_signals, .ref m_waits, .ref m_served, .ref m_priorities, .ref m_enabled, .ref m_thresholds, .ref m_registers, .ref m_others, .int mS.2.2.1, .int mS.2.2.2.1, .int mS.2.2.2.2, .ref m_came, .int mQ.2, .ref m_out, .long mO.2])), (m_soft, .inl (cZ, 4, .inl mT.1)), (m_compares, .inl (cJ, 4, .inr (.inl mT.2.1))), (m_signals, .inl (cZ, 32, .inl mC.1)), (m_waits, .inl (cZ, 32, .inl mC.2.1)), (m_served, .inl (cZ, 32, .inl mC.2.2.1)), (m_priorities, .inl (cI, 32, .inl mC.2.2.2.1)), (m_enabled, .inl (cI, 8, .inl mC.2.2.2.2.1)), (m_thresholds, .inl (cI, 8, .inl mC.2.2.2.2.2)), (m_registers, .inl (cI, 8, .inl mS.1)), (m_others, .inl (cI, 2, .inl mS.2.1)), (m_came, .inl (cI, 16, .inl mQ.1)), (m_out, .inl (cI, 4096, .inl mO.1))] s.heap.size = A at hD ⊢
  have hA : ∀ q : Nat, s.heap.size ≤ q → A q := fun q h => by rw [← hAe]; exact Or.inr h
  have hS : va_S A s.heap s.heap [] := va_S.rf
  have hP : va_P (dC, dI) vwCl [(mH, .inr (6, [.int mX, .int (nI n), .ref m_soft, .ref m_compares, .long mT.2.2, .ref m_signals, .ref m_waits, .ref m_served, .ref m_priorities, .ref m_enabled, .ref m_thresholds, .ref m_registers, .ref m_others, .int mS.2.2.1, .int mS.2.2.2.1, .int mS.2.2.2.2, .ref m_came, .int mQ.2, .ref m_out, .long mO.2])), (m_soft, .inl (cZ, 4, .inl mT.1)), (m_compares, .inl (cJ, 4, .inr (.inl mT.2.1))), (m_signals, .inl (cZ, 32, .inl mC.1)), (m_waits, .inl (cZ, 32, .inl mC.2.1)), (m_served, .inl (cZ, 32, .inl mC.2.2.1)), (m_priorities, .inl (cI, 32, .inl mC.2.2.2.1)), (m_enabled, .inl (cI, 8, .inl mC.2.2.2.2.1)), (m_thresholds, .inl (cI, 8, .inl mC.2.2.2.2.2)), (m_registers, .inl (cI, 8, .inl mS.1)), (m_others, .inl (cI, 2, .inl mS.2.1)), (m_came, .inl (cI, 16, .inl mQ.1)), (m_out, .inl (cI, 4096, .inl mO.1))] s.heap := hP
  have hl := lv_entry ([.ref mH, .long p1]) (n := 3) (Nat.le_of_ble_eq_true rfl)
  rw [lg_entry_eq]
  generalize (lg_sl ([.ref mH, .long p1]) ++ List.replicate (3 - (lg_sl ([.ref mH, .long p1])).length) Slot.unset).toArray = ls at hl ⊢
  have hl : lv_has ls 3 [(0, .ref mH), (1, .long p1)] := hl
  refine lv_lload_n hx hb dX6_eightAt_0 rfl (lv_at hl 1 rfl) ?_
  refine lv_ldc2 (v := 49144) hx hb hown (hw _ w_542) dX6_eightAt_1 ?_
  refine W.lcmp hx hb dX6_eightAt_4 ?_
  refine lv_if_lt (tgt := 21) hx hb dX6_eightAt_5 (by decide) (fun c_5 => ?_) (fun c_5 => ?_)
  · refine lv_lload_n hx hb dX6_eightAt_21 rfl (lv_at hl 1 rfl) ?_
    refine lv_ldc2 (v := 16384) hx hb hown (hw _ w_544) dX6_eightAt_22 ?_
    refine W.lcmp hx hb dX6_eightAt_25 ?_
    refine lv_if_lt (tgt := 60) hx hb dX6_eightAt_26 (by decide) (fun c_26 => ?_) (fun c_26 => ?_)
    · refine lv_iconst (v := (-1)) hx hb dX6_eightAt_60 (by decide) ?_
      have hF : (f_X6_eightAt n p1) = (-1) := by rw [f_X6_eightAt, if_pos c_5, if_pos c_26]
      have hP9 := hP.sub (ws' := [(mH, .inr (6, [.int mX, .int (nI n), .ref m_soft, .ref m_compares, .long mT.2.2, .ref m_signals, .ref m_waits, .ref m_served, .ref m_priorities, .ref m_enabled, .ref m_thresholds, .ref m_registers, .ref m_others, .int mS.2.2.1, .int mS.2.2.2.1, .int mS.2.2.2.2, .ref m_came, .int mQ.2, .ref m_out, .long mO.2])), (m_soft, .inl (cZ, 4, .inl mT.1)), (m_compares, .inl (cJ, 4, .inr (.inl mT.2.1))), (m_signals, .inl (cZ, 32, .inl mC.1)), (m_waits, .inl (cZ, 32, .inl mC.2.1)), (m_served, .inl (cZ, 32, .inl mC.2.2.1)), (m_priorities, .inl (cI, 32, .inl mC.2.2.2.1)), (m_enabled, .inl (cI, 8, .inl mC.2.2.2.2.1)), (m_thresholds, .inl (cI, 8, .inl mC.2.2.2.2.2)), (m_registers, .inl (cI, 8, .inl mS.1)), (m_others, .inl (cI, 2, .inl mS.2.1)), (m_came, .inl (cI, 16, .inl mQ.1)), (m_out, .inl (cI, 4096, .inl mO.1))]) [0, 1, 2, 3, 4, 5, 6, 7, 8, 9, 10, 11, 12] rfl
      have hD9 := hD.sub (ws' := [(mH, .inr (6, [.int mX, .int (nI n), .ref m_soft, .ref m_compares, .long mT.2.2, .ref m_signals, .ref m_waits, .ref m_served, .ref m_priorities, .ref m_enabled, .ref m_thresholds, .ref m_registers, .ref m_others, .int mS.2.2.1, .int mS.2.2.2.1, .int mS.2.2.2.2, .ref m_came, .int mQ.2, .ref m_out, .long mO.2])), (m_soft, .inl (cZ, 4, .inl mT.1)), (m_compares, .inl (cJ, 4, .inr (.inl mT.2.1))), (m_signals, .inl (cZ, 32, .inl mC.1)), (m_waits, .inl (cZ, 32, .inl mC.2.1)), (m_served, .inl (cZ, 32, .inl mC.2.2.1)), (m_priorities, .inl (cI, 32, .inl mC.2.2.2.1)), (m_enabled, .inl (cI, 8, .inl mC.2.2.2.2.1)), (m_thresholds, .inl (cI, 8, .inl mC.2.2.2.2.2)), (m_registers, .inl (cI, 8, .inl mS.1)), (m_others, .inl (cI, 2, .inl mS.2.1)), (m_came, .inl (cI, 16, .inl mQ.1)), (m_out, .inl (cI, 4096, .inl mO.1))]) [0, 1, 2, 3, 4, 5, 6, 7, 8, 9, 10, 11, 12] (by decide) rfl
      exact W.iret (v := (-1)) hx hb hr (fun u hu hW => ⟨⟨(-1), (), rfl, hF.symm, by rw [hu]; exact hP9, hD9⟩, hS.F hu⟩) hS.2.2 dX6_eightAt_61
    · refine lv_lload_n hx hb dX6_eightAt_29 rfl (lv_at hl 1 rfl) ?_
      refine lv_ldc2 (v := 16384) hx hb hown (hw _ w_544) dX6_eightAt_30 ?_
      refine lv_ldc2 (v := 8) hx hb hown (hw _ w_545) dX6_eightAt_33 ?_
      refine lv_aload_n hx hb dX6_eightAt_36 rfl (lv_at hl 0 rfl) ?_
      refine va_get (D := (dC, dI)) (ci := 6) (v := .int (nI n)) (C := RX6) (T := TX6) (N := 20) hx hb hw inWX6 hown hK hP 0 rfl rfl 1 (by decide) (hw _ w_457) (fun _ h9 => h9) rfl dX6_eightAt_37 ?_
      refine lv_i2l hx hb dX6_eightAt_40 rfl ?_
      refine lv_lmul hx hb dX6_eightAt_41 ?_
      refine lv_ladd hx hb dX6_eightAt_42 ?_
      refine W.lcmp hx hb dX6_eightAt_43 ?_
      refine lv_if_ge (tgt := 60) hx hb dX6_eightAt_44 (by decide) (fun c_44 => ?_) (fun c_44 => ?_)
      · refine lv_iconst (v := (-1)) hx hb dX6_eightAt_60 (by decide) ?_
        have hF : (f_X6_eightAt n p1) = (-1) := by rw [f_X6_eightAt, if_pos c_5, if_neg c_26, if_pos c_44]
        have hP9 := hP.sub (ws' := [(mH, .inr (6, [.int mX, .int (nI n), .ref m_soft, .ref m_compares, .long mT.2.2, .ref m_signals, .ref m_waits, .ref m_served, .ref m_priorities, .ref m_enabled, .ref m_thresholds, .ref m_registers, .ref m_others, .int mS.2.2.1, .int mS.2.2.2.1, .int mS.2.2.2.2, .ref m_came, .int mQ.2, .ref m_out, .long mO.2])), (m_soft, .inl (cZ, 4, .inl mT.1)), (m_compares, .inl (cJ, 4, .inr (.inl mT.2.1))), (m_signals, .inl (cZ, 32, .inl mC.1)), (m_waits, .inl (cZ, 32, .inl mC.2.1)), (m_served, .inl (cZ, 32, .inl mC.2.2.1)), (m_priorities, .inl (cI, 32, .inl mC.2.2.2.1)), (m_enabled, .inl (cI, 8, .inl mC.2.2.2.2.1)), (m_thresholds, .inl (cI, 8, .inl mC.2.2.2.2.2)), (m_registers, .inl (cI, 8, .inl mS.1)), (m_others, .inl (cI, 2, .inl mS.2.1)), (m_came, .inl (cI, 16, .inl mQ.1)), (m_out, .inl (cI, 4096, .inl mO.1))]) [0, 1, 2, 3, 4, 5, 6, 7, 8, 9, 10, 11, 12] rfl
        have hD9 := hD.sub (ws' := [(mH, .inr (6, [.int mX, .int (nI n), .ref m_soft, .ref m_compares, .long mT.2.2, .ref m_signals, .ref m_waits, .ref m_served, .ref m_priorities, .ref m_enabled, .ref m_thresholds, .ref m_registers, .ref m_others, .int mS.2.2.1, .int mS.2.2.2.1, .int mS.2.2.2.2, .ref m_came, .int mQ.2, .ref m_out, .long mO.2])), (m_soft, .inl (cZ, 4, .inl mT.1)), (m_compares, .inl (cJ, 4, .inr (.inl mT.2.1))), (m_signals, .inl (cZ, 32, .inl mC.1)), (m_waits, .inl (cZ, 32, .inl mC.2.1)), (m_served, .inl (cZ, 32, .inl mC.2.2.1)), (m_priorities, .inl (cI, 32, .inl mC.2.2.2.1)), (m_enabled, .inl (cI, 8, .inl mC.2.2.2.2.1)), (m_thresholds, .inl (cI, 8, .inl mC.2.2.2.2.2)), (m_registers, .inl (cI, 8, .inl mS.1)), (m_others, .inl (cI, 2, .inl mS.2.1)), (m_came, .inl (cI, 16, .inl mQ.1)), (m_out, .inl (cI, 4096, .inl mO.1))]) [0, 1, 2, 3, 4, 5, 6, 7, 8, 9, 10, 11, 12] (by decide) rfl
        exact W.iret (v := (-1)) hx hb hr (fun u hu hW => ⟨⟨(-1), (), rfl, hF.symm, by rw [hu]; exact hP9, hD9⟩, hS.F hu⟩) hS.2.2 dX6_eightAt_61
      · refine lv_lload_n hx hb dX6_eightAt_47 rfl (lv_at hl 1 rfl) ?_
        refine lv_ldc2 (v := 16384) hx hb hown (hw _ w_544) dX6_eightAt_48 ?_
        refine lv_lsub hx hb dX6_eightAt_51 ?_
        refine lv_ldc2 (v := 8) hx hb hown (hw _ w_545) dX6_eightAt_52 ?_
        refine lv_ldiv hx hb dX6_eightAt_55 (by decide) ?_
        refine lv_l2i hx hb dX6_eightAt_56 rfl ?_
        refine lv_goto (tgt := 61) hx hb dX6_eightAt_57 (by decide) ?_
        have hF : (f_X6_eightAt n p1) = (Int64.toInt32 ((p1 - 16384) / 8)) := by rw [f_X6_eightAt, if_pos c_5, if_neg c_26, if_neg c_44]
        have hP9 := hP.sub (ws' := [(mH, .inr (6, [.int mX, .int (nI n), .ref m_soft, .ref m_compares, .long mT.2.2, .ref m_signals, .ref m_waits, .ref m_served, .ref m_priorities, .ref m_enabled, .ref m_thresholds, .ref m_registers, .ref m_others, .int mS.2.2.1, .int mS.2.2.2.1, .int mS.2.2.2.2, .ref m_came, .int mQ.2, .ref m_out, .long mO.2])), (m_soft, .inl (cZ, 4, .inl mT.1)), (m_compares, .inl (cJ, 4, .inr (.inl mT.2.1))), (m_signals, .inl (cZ, 32, .inl mC.1)), (m_waits, .inl (cZ, 32, .inl mC.2.1)), (m_served, .inl (cZ, 32, .inl mC.2.2.1)), (m_priorities, .inl (cI, 32, .inl mC.2.2.2.1)), (m_enabled, .inl (cI, 8, .inl mC.2.2.2.2.1)), (m_thresholds, .inl (cI, 8, .inl mC.2.2.2.2.2)), (m_registers, .inl (cI, 8, .inl mS.1)), (m_others, .inl (cI, 2, .inl mS.2.1)), (m_came, .inl (cI, 16, .inl mQ.1)), (m_out, .inl (cI, 4096, .inl mO.1))]) [0, 1, 2, 3, 4, 5, 6, 7, 8, 9, 10, 11, 12] rfl
        have hD9 := hD.sub (ws' := [(mH, .inr (6, [.int mX, .int (nI n), .ref m_soft, .ref m_compares, .long mT.2.2, .ref m_signals, .ref m_waits, .ref m_served, .ref m_priorities, .ref m_enabled, .ref m_thresholds, .ref m_registers, .ref m_others, .int mS.2.2.1, .int mS.2.2.2.1, .int mS.2.2.2.2, .ref m_came, .int mQ.2, .ref m_out, .long mO.2])), (m_soft, .inl (cZ, 4, .inl mT.1)), (m_compares, .inl (cJ, 4, .inr (.inl mT.2.1))), (m_signals, .inl (cZ, 32, .inl mC.1)), (m_waits, .inl (cZ, 32, .inl mC.2.1)), (m_served, .inl (cZ, 32, .inl mC.2.2.1)), (m_priorities, .inl (cI, 32, .inl mC.2.2.2.1)), (m_enabled, .inl (cI, 8, .inl mC.2.2.2.2.1)), (m_thresholds, .inl (cI, 8, .inl mC.2.2.2.2.2)), (m_registers, .inl (cI, 8, .inl mS.1)), (m_others, .inl (cI, 2, .inl mS.2.1)), (m_came, .inl (cI, 16, .inl mQ.1)), (m_out, .inl (cI, 4096, .inl mO.1))]) [0, 1, 2, 3, 4, 5, 6, 7, 8, 9, 10, 11, 12] (by decide) rfl
        exact W.iret (v := (Int64.toInt32 ((p1 - 16384) / 8))) hx hb hr (fun u hu hW => ⟨⟨(Int64.toInt32 ((p1 - 16384) / 8)), (), rfl, hF.symm, by rw [hu]; exact hP9, hD9⟩, hS.F hu⟩) hS.2.2 dX6_eightAt_61
  · refine lv_lload_n hx hb dX6_eightAt_8 rfl (lv_at hl 1 rfl) ?_
    refine lv_ldc2 (v := 49152) hx hb hown (hw _ w_543) dX6_eightAt_9 ?_
    refine W.lcmp hx hb dX6_eightAt_12 ?_
    refine lv_if_ge (tgt := 21) hx hb dX6_eightAt_13 (by decide) (fun c_13 => ?_) (fun c_13 => ?_)
    · refine lv_lload_n hx hb dX6_eightAt_21 rfl (lv_at hl 1 rfl) ?_
      refine lv_ldc2 (v := 16384) hx hb hown (hw _ w_544) dX6_eightAt_22 ?_
      refine W.lcmp hx hb dX6_eightAt_25 ?_
      refine lv_if_lt (tgt := 60) hx hb dX6_eightAt_26 (by decide) (fun c_26 => ?_) (fun c_26 => ?_)
      · refine lv_iconst (v := (-1)) hx hb dX6_eightAt_60 (by decide) ?_
        have hF : (f_X6_eightAt n p1) = (-1) := by rw [f_X6_eightAt, if_neg c_5, if_pos c_13, if_pos c_26]
        have hP9 := hP.sub (ws' := [(mH, .inr (6, [.int mX, .int (nI n), .ref m_soft, .ref m_compares, .long mT.2.2, .ref m_signals, .ref m_waits, .ref m_served, .ref m_priorities, .ref m_enabled, .ref m_thresholds, .ref m_registers, .ref m_others, .int mS.2.2.1, .int mS.2.2.2.1, .int mS.2.2.2.2, .ref m_came, .int mQ.2, .ref m_out, .long mO.2])), (m_soft, .inl (cZ, 4, .inl mT.1)), (m_compares, .inl (cJ, 4, .inr (.inl mT.2.1))), (m_signals, .inl (cZ, 32, .inl mC.1)), (m_waits, .inl (cZ, 32, .inl mC.2.1)), (m_served, .inl (cZ, 32, .inl mC.2.2.1)), (m_priorities, .inl (cI, 32, .inl mC.2.2.2.1)), (m_enabled, .inl (cI, 8, .inl mC.2.2.2.2.1)), (m_thresholds, .inl (cI, 8, .inl mC.2.2.2.2.2)), (m_registers, .inl (cI, 8, .inl mS.1)), (m_others, .inl (cI, 2, .inl mS.2.1)), (m_came, .inl (cI, 16, .inl mQ.1)), (m_out, .inl (cI, 4096, .inl mO.1))]) [0, 1, 2, 3, 4, 5, 6, 7, 8, 9, 10, 11, 12] rfl
        have hD9 := hD.sub (ws' := [(mH, .inr (6, [.int mX, .int (nI n), .ref m_soft, .ref m_compares, .long mT.2.2, .ref m_signals, .ref m_waits, .ref m_served, .ref m_priorities, .ref m_enabled, .ref m_thresholds, .ref m_registers, .ref m_others, .int mS.2.2.1, .int mS.2.2.2.1, .int mS.2.2.2.2, .ref m_came, .int mQ.2, .ref m_out, .long mO.2])), (m_soft, .inl (cZ, 4, .inl mT.1)), (m_compares, .inl (cJ, 4, .inr (.inl mT.2.1))), (m_signals, .inl (cZ, 32, .inl mC.1)), (m_waits, .inl (cZ, 32, .inl mC.2.1)), (m_served, .inl (cZ, 32, .inl mC.2.2.1)), (m_priorities, .inl (cI, 32, .inl mC.2.2.2.1)), (m_enabled, .inl (cI, 8, .inl mC.2.2.2.2.1)), (m_thresholds, .inl (cI, 8, .inl mC.2.2.2.2.2)), (m_registers, .inl (cI, 8, .inl mS.1)), (m_others, .inl (cI, 2, .inl mS.2.1)), (m_came, .inl (cI, 16, .inl mQ.1)), (m_out, .inl (cI, 4096, .inl mO.1))]) [0, 1, 2, 3, 4, 5, 6, 7, 8, 9, 10, 11, 12] (by decide) rfl
        exact W.iret (v := (-1)) hx hb hr (fun u hu hW => ⟨⟨(-1), (), rfl, hF.symm, by rw [hu]; exact hP9, hD9⟩, hS.F hu⟩) hS.2.2 dX6_eightAt_61
      · refine lv_lload_n hx hb dX6_eightAt_29 rfl (lv_at hl 1 rfl) ?_
        refine lv_ldc2 (v := 16384) hx hb hown (hw _ w_544) dX6_eightAt_30 ?_
        refine lv_ldc2 (v := 8) hx hb hown (hw _ w_545) dX6_eightAt_33 ?_
        refine lv_aload_n hx hb dX6_eightAt_36 rfl (lv_at hl 0 rfl) ?_
        refine va_get (D := (dC, dI)) (ci := 6) (v := .int (nI n)) (C := RX6) (T := TX6) (N := 20) hx hb hw inWX6 hown hK hP 0 rfl rfl 1 (by decide) (hw _ w_457) (fun _ h9 => h9) rfl dX6_eightAt_37 ?_
        refine lv_i2l hx hb dX6_eightAt_40 rfl ?_
        refine lv_lmul hx hb dX6_eightAt_41 ?_
        refine lv_ladd hx hb dX6_eightAt_42 ?_
        refine W.lcmp hx hb dX6_eightAt_43 ?_
        refine lv_if_ge (tgt := 60) hx hb dX6_eightAt_44 (by decide) (fun c_44 => ?_) (fun c_44 => ?_)
        · refine lv_iconst (v := (-1)) hx hb dX6_eightAt_60 (by decide) ?_
          have hF : (f_X6_eightAt n p1) = (-1) := by rw [f_X6_eightAt, if_neg c_5, if_pos c_13, if_neg c_26, if_pos c_44]
          have hP9 := hP.sub (ws' := [(mH, .inr (6, [.int mX, .int (nI n), .ref m_soft, .ref m_compares, .long mT.2.2, .ref m_signals, .ref m_waits, .ref m_served, .ref m_priorities, .ref m_enabled, .ref m_thresholds, .ref m_registers, .ref m_others, .int mS.2.2.1, .int mS.2.2.2.1, .int mS.2.2.2.2, .ref m_came, .int mQ.2, .ref m_out, .long mO.2])), (m_soft, .inl (cZ, 4, .inl mT.1)), (m_compares, .inl (cJ, 4, .inr (.inl mT.2.1))), (m_signals, .inl (cZ, 32, .inl mC.1)), (m_waits, .inl (cZ, 32, .inl mC.2.1)), (m_served, .inl (cZ, 32, .inl mC.2.2.1)), (m_priorities, .inl (cI, 32, .inl mC.2.2.2.1)), (m_enabled, .inl (cI, 8, .inl mC.2.2.2.2.1)), (m_thresholds, .inl (cI, 8, .inl mC.2.2.2.2.2)), (m_registers, .inl (cI, 8, .inl mS.1)), (m_others, .inl (cI, 2, .inl mS.2.1)), (m_came, .inl (cI, 16, .inl mQ.1)), (m_out, .inl (cI, 4096, .inl mO.1))]) [0, 1, 2, 3, 4, 5, 6, 7, 8, 9, 10, 11, 12] rfl
          have hD9 := hD.sub (ws' := [(mH, .inr (6, [.int mX, .int (nI n), .ref m_soft, .ref m_compares, .long mT.2.2, .ref m_signals, .ref m_waits, .ref m_served, .ref m_priorities, .ref m_enabled, .ref m_thresholds, .ref m_registers, .ref m_others, .int mS.2.2.1, .int mS.2.2.2.1, .int mS.2.2.2.2, .ref m_came, .int mQ.2, .ref m_out, .long mO.2])), (m_soft, .inl (cZ, 4, .inl mT.1)), (m_compares, .inl (cJ, 4, .inr (.inl mT.2.1))), (m_signals, .inl (cZ, 32, .inl mC.1)), (m_waits, .inl (cZ, 32, .inl mC.2.1)), (m_served, .inl (cZ, 32, .inl mC.2.2.1)), (m_priorities, .inl (cI, 32, .inl mC.2.2.2.1)), (m_enabled, .inl (cI, 8, .inl mC.2.2.2.2.1)), (m_thresholds, .inl (cI, 8, .inl mC.2.2.2.2.2)), (m_registers, .inl (cI, 8, .inl mS.1)), (m_others, .inl (cI, 2, .inl mS.2.1)), (m_came, .inl (cI, 16, .inl mQ.1)), (m_out, .inl (cI, 4096, .inl mO.1))]) [0, 1, 2, 3, 4, 5, 6, 7, 8, 9, 10, 11, 12] (by decide) rfl
          exact W.iret (v := (-1)) hx hb hr (fun u hu hW => ⟨⟨(-1), (), rfl, hF.symm, by rw [hu]; exact hP9, hD9⟩, hS.F hu⟩) hS.2.2 dX6_eightAt_61
        · refine lv_lload_n hx hb dX6_eightAt_47 rfl (lv_at hl 1 rfl) ?_
          refine lv_ldc2 (v := 16384) hx hb hown (hw _ w_544) dX6_eightAt_48 ?_
          refine lv_lsub hx hb dX6_eightAt_51 ?_
          refine lv_ldc2 (v := 8) hx hb hown (hw _ w_545) dX6_eightAt_52 ?_
          refine lv_ldiv hx hb dX6_eightAt_55 (by decide) ?_
          refine lv_l2i hx hb dX6_eightAt_56 rfl ?_
          refine lv_goto (tgt := 61) hx hb dX6_eightAt_57 (by decide) ?_
          have hF : (f_X6_eightAt n p1) = (Int64.toInt32 ((p1 - 16384) / 8)) := by rw [f_X6_eightAt, if_neg c_5, if_pos c_13, if_neg c_26, if_neg c_44]
          have hP9 := hP.sub (ws' := [(mH, .inr (6, [.int mX, .int (nI n), .ref m_soft, .ref m_compares, .long mT.2.2, .ref m_signals, .ref m_waits, .ref m_served, .ref m_priorities, .ref m_enabled, .ref m_thresholds, .ref m_registers, .ref m_others, .int mS.2.2.1, .int mS.2.2.2.1, .int mS.2.2.2.2, .ref m_came, .int mQ.2, .ref m_out, .long mO.2])), (m_soft, .inl (cZ, 4, .inl mT.1)), (m_compares, .inl (cJ, 4, .inr (.inl mT.2.1))), (m_signals, .inl (cZ, 32, .inl mC.1)), (m_waits, .inl (cZ, 32, .inl mC.2.1)), (m_served, .inl (cZ, 32, .inl mC.2.2.1)), (m_priorities, .inl (cI, 32, .inl mC.2.2.2.1)), (m_enabled, .inl (cI, 8, .inl mC.2.2.2.2.1)), (m_thresholds, .inl (cI, 8, .inl mC.2.2.2.2.2)), (m_registers, .inl (cI, 8, .inl mS.1)), (m_others, .inl (cI, 2, .inl mS.2.1)), (m_came, .inl (cI, 16, .inl mQ.1)), (m_out, .inl (cI, 4096, .inl mO.1))]) [0, 1, 2, 3, 4, 5, 6, 7, 8, 9, 10, 11, 12] rfl
          have hD9 := hD.sub (ws' := [(mH, .inr (6, [.int mX, .int (nI n), .ref m_soft, .ref m_compares, .long mT.2.2, .ref m_signals, .ref m_waits, .ref m_served, .ref m_priorities, .ref m_enabled, .ref m_thresholds, .ref m_registers, .ref m_others, .int mS.2.2.1, .int mS.2.2.2.1, .int mS.2.2.2.2, .ref m_came, .int mQ.2, .ref m_out, .long mO.2])), (m_soft, .inl (cZ, 4, .inl mT.1)), (m_compares, .inl (cJ, 4, .inr (.inl mT.2.1))), (m_signals, .inl (cZ, 32, .inl mC.1)), (m_waits, .inl (cZ, 32, .inl mC.2.1)), (m_served, .inl (cZ, 32, .inl mC.2.2.1)), (m_priorities, .inl (cI, 32, .inl mC.2.2.2.1)), (m_enabled, .inl (cI, 8, .inl mC.2.2.2.2.1)), (m_thresholds, .inl (cI, 8, .inl mC.2.2.2.2.2)), (m_registers, .inl (cI, 8, .inl mS.1)), (m_others, .inl (cI, 2, .inl mS.2.1)), (m_came, .inl (cI, 16, .inl mQ.1)), (m_out, .inl (cI, 4096, .inl mO.1))]) [0, 1, 2, 3, 4, 5, 6, 7, 8, 9, 10, 11, 12] (by decide) rfl
          exact W.iret (v := (Int64.toInt32 ((p1 - 16384) / 8))) hx hb hr (fun u hu hW => ⟨⟨(Int64.toInt32 ((p1 - 16384) / 8)), (), rfl, hF.symm, by rw [hu]; exact hP9, hD9⟩, hS.F hu⟩) hS.2.2 dX6_eightAt_61
    · refine lv_aload_n hx hb dX6_eightAt_16 rfl (lv_at hl 0 rfl) ?_
      refine va_get (D := (dC, dI)) (ci := 6) (v := .int (nI n)) (C := RX6) (T := TX6) (N := 20) hx hb hw inWX6 hown hK hP 0 rfl rfl 1 (by decide) (hw _ w_457) (fun _ h9 => h9) rfl dX6_eightAt_17 ?_
      have hF : (f_X6_eightAt n p1) = (nI n) := by rw [f_X6_eightAt, if_neg c_5, if_neg c_13]
      have hP9 := hP.sub (ws' := [(mH, .inr (6, [.int mX, .int (nI n), .ref m_soft, .ref m_compares, .long mT.2.2, .ref m_signals, .ref m_waits, .ref m_served, .ref m_priorities, .ref m_enabled, .ref m_thresholds, .ref m_registers, .ref m_others, .int mS.2.2.1, .int mS.2.2.2.1, .int mS.2.2.2.2, .ref m_came, .int mQ.2, .ref m_out, .long mO.2])), (m_soft, .inl (cZ, 4, .inl mT.1)), (m_compares, .inl (cJ, 4, .inr (.inl mT.2.1))), (m_signals, .inl (cZ, 32, .inl mC.1)), (m_waits, .inl (cZ, 32, .inl mC.2.1)), (m_served, .inl (cZ, 32, .inl mC.2.2.1)), (m_priorities, .inl (cI, 32, .inl mC.2.2.2.1)), (m_enabled, .inl (cI, 8, .inl mC.2.2.2.2.1)), (m_thresholds, .inl (cI, 8, .inl mC.2.2.2.2.2)), (m_registers, .inl (cI, 8, .inl mS.1)), (m_others, .inl (cI, 2, .inl mS.2.1)), (m_came, .inl (cI, 16, .inl mQ.1)), (m_out, .inl (cI, 4096, .inl mO.1))]) [0, 1, 2, 3, 4, 5, 6, 7, 8, 9, 10, 11, 12] rfl
      have hD9 := hD.sub (ws' := [(mH, .inr (6, [.int mX, .int (nI n), .ref m_soft, .ref m_compares, .long mT.2.2, .ref m_signals, .ref m_waits, .ref m_served, .ref m_priorities, .ref m_enabled, .ref m_thresholds, .ref m_registers, .ref m_others, .int mS.2.2.1, .int mS.2.2.2.1, .int mS.2.2.2.2, .ref m_came, .int mQ.2, .ref m_out, .long mO.2])), (m_soft, .inl (cZ, 4, .inl mT.1)), (m_compares, .inl (cJ, 4, .inr (.inl mT.2.1))), (m_signals, .inl (cZ, 32, .inl mC.1)), (m_waits, .inl (cZ, 32, .inl mC.2.1)), (m_served, .inl (cZ, 32, .inl mC.2.2.1)), (m_priorities, .inl (cI, 32, .inl mC.2.2.2.1)), (m_enabled, .inl (cI, 8, .inl mC.2.2.2.2.1)), (m_thresholds, .inl (cI, 8, .inl mC.2.2.2.2.2)), (m_registers, .inl (cI, 8, .inl mS.1)), (m_others, .inl (cI, 2, .inl mS.2.1)), (m_came, .inl (cI, 16, .inl mQ.1)), (m_out, .inl (cI, 4096, .inl mO.1))]) [0, 1, 2, 3, 4, 5, 6, 7, 8, 9, 10, 11, 12] (by decide) rfl
      exact W.iret (v := (nI n)) hx hb hr (fun u hu hW => ⟨⟨(nI n), (), rfl, hF.symm, by rw [hu]; exact hP9, hD9⟩, hS.F hu⟩) hS.2.2 dX6_eightAt_20
def f_X6_eight (n : Nat) (mT : MTs) (p1 : Int32) : Int64 :=
  if p1 = (nI n) then mT.2.2
  else (mT.2.1 (Int32.toNatClampNeg p1))
set_option maxHeartbeats 4000000 in
set_option maxRecDepth 100000 in
theorem k_X6_eight (l : Launch) (dC : Nat → ClassId) (dI : Nat → Nat → Nat) (cI cJ cB cZ : ClassId) (mH m_soft m_compares m_signals m_waits m_served m_priorities m_enabled m_thresholds m_registers m_others m_came m_out : Nat) (sz : Nat) (n : Nat) (mX : Int32) (mT : MTs) (mC : MCs) (mS : MSs) (mQ : MQs) (mO : MOs) (p1 : Int32) (hn : n ≤ 4) (he : vp_in p1 (n + 1)) : Met l yX6_eight wsX6_eight ({ frames := 0, cells := 0, slots := 0, locals := 0 }) (va_Pc [.ref mH, .int p1] (fun U => U.heap.size = sz ∧ va_P (dC, dI) vwCl [(mH, .inr (6, [.int mX, .int (nI n), .ref m_soft, .ref m_compares, .long mT.2.2, .ref m_signals, .ref m_waits, .ref m_served, .ref m_priorities, .ref m_enabled, .ref m_thresholds, .ref m_registers, .ref m_others, .int mS.2.2.1, .int mS.2.2.2.1, .int mS.2.2.2.2, .ref m_came, .int mQ.2, .ref m_out, .long mO.2])), (m_soft, .inl (cZ, 4, .inl mT.1)), (m_compares, .inl (cJ, 4, .inr (.inl mT.2.1))), (m_signals, .inl (cZ, 32, .inl mC.1)), (m_waits, .inl (cZ, 32, .inl mC.2.1)), (m_served, .inl (cZ, 32, .inl mC.2.2.1)), (m_priorities, .inl (cI, 32, .inl mC.2.2.2.1)), (m_enabled, .inl (cI, 8, .inl mC.2.2.2.2.1)), (m_thresholds, .inl (cI, 8, .inl mC.2.2.2.2.2)), (m_registers, .inl (cI, 8, .inl mS.1)), (m_others, .inl (cI, 2, .inl mS.2.1)), (m_came, .inl (cI, 16, .inl mQ.1)), (m_out, .inl (cI, 4096, .inl mO.1))] U.heap ∧ va_K (dC, dI) vwCl [(cI, .int), (cJ, .long), (cB, .byte), (cZ, .boolean)] U ∧ va_D (fun _ => True) [(mH, .inr (6, [.int mX, .int (nI n), .ref m_soft, .ref m_compares, .long mT.2.2, .ref m_signals, .ref m_waits, .ref m_served, .ref m_priorities, .ref m_enabled, .ref m_thresholds, .ref m_registers, .ref m_others, .int mS.2.2.1, .int mS.2.2.2.1, .int mS.2.2.2.2, .ref m_came, .int mQ.2, .ref m_out, .long mO.2])), (m_soft, .inl (cZ, 4, .inl mT.1)), (m_compares, .inl (cJ, 4, .inr (.inl mT.2.1))), (m_signals, .inl (cZ, 32, .inl mC.1)), (m_waits, .inl (cZ, 32, .inl mC.2.1)), (m_served, .inl (cZ, 32, .inl mC.2.2.1)), (m_priorities, .inl (cI, 32, .inl mC.2.2.2.1)), (m_enabled, .inl (cI, 8, .inl mC.2.2.2.2.1)), (m_thresholds, .inl (cI, 8, .inl mC.2.2.2.2.2)), (m_registers, .inl (cI, 8, .inl mS.1)), (m_others, .inl (cI, 2, .inl mS.2.1)), (m_came, .inl (cI, 16, .inl mQ.1)), (m_out, .inl (cI, 4096, .inl mO.1))] ∧ nw_ U)) (va_Ql (fun (r : Int64) (_ : Unit) => r = (f_X6_eight n mT p1)) (fun (_ : Unit) (w : State) => va_P (dC, dI) vwCl [(mH, .inr (6, [.int mX, .int (nI n), .ref m_soft, .ref m_compares, .long mT.2.2, .ref m_signals, .ref m_waits, .ref m_served, .ref m_priorities, .ref m_enabled, .ref m_thresholds, .ref m_registers, .ref m_others, .int mS.2.2.1, .int mS.2.2.2.1, .int mS.2.2.2.2, .ref m_came, .int mQ.2, .ref m_out, .long mO.2])), (m_soft, .inl (cZ, 4, .inl mT.1)), (m_compares, .inl (cJ, 4, .inr (.inl mT.2.1))), (m_signals, .inl (cZ, 32, .inl mC.1)), (m_waits, .inl (cZ, 32, .inl mC.2.1)), (m_served, .inl (cZ, 32, .inl mC.2.2.1)), (m_priorities, .inl (cI, 32, .inl mC.2.2.2.1)), (m_enabled, .inl (cI, 8, .inl mC.2.2.2.2.1)), (m_thresholds, .inl (cI, 8, .inl mC.2.2.2.2.2)), (m_registers, .inl (cI, 8, .inl mS.1)), (m_others, .inl (cI, 2, .inl mS.2.1)), (m_came, .inl (cI, 16, .inl mQ.1)), (m_out, .inl (cI, 4096, .inl mO.1))] w.heap ∧ va_D (va_A [(mH, .inr (6, [.int mX, .int (nI n), .ref m_soft, .ref m_compares, .long mT.2.2, .ref m_signals, .ref m_waits, .ref m_served, .ref m_priorities, .ref m_enabled, .ref m_thresholds, .ref m_registers, .ref m_others, .int mS.2.2.1, .int mS.2.2.2.1, .int mS.2.2.2.2, .ref m_came, .int mQ.2, .ref m_out, .long mO.2])), (m_soft, .inl (cZ, 4, .inl mT.1)), (m_compares, .inl (cJ, 4, .inr (.inl mT.2.1))), (m_signals, .inl (cZ, 32, .inl mC.1)), (m_waits, .inl (cZ, 32, .inl mC.2.1)), (m_served, .inl (cZ, 32, .inl mC.2.2.1)), (m_priorities, .inl (cI, 32, .inl mC.2.2.2.1)), (m_enabled, .inl (cI, 8, .inl mC.2.2.2.2.1)), (m_thresholds, .inl (cI, 8, .inl mC.2.2.2.2.2)), (m_registers, .inl (cI, 8, .inl mS.1)), (m_others, .inl (cI, 2, .inl mS.2.1)), (m_came, .inl (cI, 16, .inl mQ.1)), (m_out, .inl (cI, 4096, .inl mO.1))] sz) [(mH, .inr (6, [.int mX, .int (nI n), .ref m_soft, .ref m_compares, .long mT.2.2, .ref m_signals, .ref m_waits, .ref m_served, .ref m_priorities, .ref m_enabled, .ref m_thresholds, .ref m_registers, .ref m_others, .int mS.2.2.1, .int mS.2.2.2.1, .int mS.2.2.2.2, .ref m_came, .int mQ.2, .ref m_out, .long mO.2])), (m_soft, .inl (cZ, 4, .inl mT.1)), (m_compares, .inl (cJ, 4, .inr (.inl mT.2.1))), (m_signals, .inl (cZ, 32, .inl mC.1)), (m_waits, .inl (cZ, 32, .inl mC.2.1)), (m_served, .inl (cZ, 32, .inl mC.2.2.1)), (m_priorities, .inl (cI, 32, .inl mC.2.2.2.1)), (m_enabled, .inl (cI, 8, .inl mC.2.2.2.2.1)), (m_thresholds, .inl (cI, 8, .inl mC.2.2.2.2.2)), (m_registers, .inl (cI, 8, .inl mS.1)), (m_others, .inl (cI, 2, .inl mS.2.1)), (m_came, .inl (cI, 16, .inl mQ.1)), (m_out, .inl (cI, 4096, .inl mO.1))]) (va_A [(mH, .inr (6, [.int mX, .int (nI n), .ref m_soft, .ref m_compares, .long mT.2.2, .ref m_signals, .ref m_waits, .ref m_served, .ref m_priorities, .ref m_enabled, .ref m_thresholds, .ref m_registers, .ref m_others, .int mS.2.2.1, .int mS.2.2.2.1, .int mS.2.2.2.2, .ref m_came, .int mQ.2, .ref m_out, .long mO.2])), (m_soft, .inl (cZ, 4, .inl mT.1)), (m_compares, .inl (cJ, 4, .inr (.inl mT.2.1))), (m_signals, .inl (cZ, 32, .inl mC.1)), (m_waits, .inl (cZ, 32, .inl mC.2.1)), (m_served, .inl (cZ, 32, .inl mC.2.2.1)), (m_priorities, .inl (cI, 32, .inl mC.2.2.2.1)), (m_enabled, .inl (cI, 8, .inl mC.2.2.2.2.1)), (m_thresholds, .inl (cI, 8, .inl mC.2.2.2.2.2)), (m_registers, .inl (cI, 8, .inl mS.1)), (m_others, .inl (cI, 2, .inl mS.2.1)), (m_came, .inl (cI, 16, .inl mQ.1)), (m_out, .inl (cI, 4096, .inl mO.1))] sz)) 0 0 (va_A [(mH, .inr (6, [.int mX, .int (nI n), .ref m_soft, .ref m_compares, .long mT.2.2, .ref m_signals, .ref m_waits, .ref m_served, .ref m_priorities, .ref m_enabled, .ref m_thresholds, .ref m_registers, .ref m_others, .int mS.2.2.1, .int mS.2.2.2.1, .int mS.2.2.2.2, .ref m_came, .int mQ.2, .ref m_out, .long mO.2])), (m_soft, .inl (cZ, 4, .inl mT.1)), (m_compares, .inl (cJ, 4, .inr (.inl mT.2.1))), (m_signals, .inl (cZ, 32, .inl mC.1)), (m_waits, .inl (cZ, 32, .inl mC.2.1)), (m_served, .inl (cZ, 32, .inl mC.2.2.1)), (m_priorities, .inl (cI, 32, .inl mC.2.2.2.1)), (m_enabled, .inl (cI, 8, .inl mC.2.2.2.2.1)), (m_thresholds, .inl (cI, 8, .inl mC.2.2.2.2.2)), (m_registers, .inl (cI, 8, .inl mS.1)), (m_others, .inl (cI, 2, .inl mS.2.1)), (m_came, .inl (cI, 16, .inl mQ.1)), (m_out, .inl (cI, 4096, .inl mO.1))] sz) := by
  refine Met.ofW (cc := prog_8_method_6_code) (maxL := 2) (ret := (some .long)) (by decide) rfl ?_
  intro p e s m args below meth c s₁ B hml hv
  obtain ⟨rfl, hsz, hP, hK, hD0, hN⟩ := hv
  have hx := B.exec
  have hb := B.bytes
  have hr := B.returns
  have hw := hw_of (atoms_spec (ws := wsX6_eight) B.pre)
  have hown : s.vm.findClass RX6 = some m.cls := findClass_of_methodNamed B.named
  have hlocks := B.notSynchronized
  subst hsz
  have hD := hD0.self (sz := s.heap.size)
  generalize hAe : va_A [(mH, .inr (6, [.int mX, .int (nI n), .ref m_soft, .ref m_compares, .long mT.2.2, .ref m_signals, .ref m_waits, .ref m_served, .ref m_priorities, .ref m_enabled, .ref m_thresholds, .ref m_registers, .ref m_others, .int mS.2.2.1, .int mS.2.2.2.1, .int mS.2.2.2.2, .ref m_came, .int mQ.2, .ref m_out, .long mO.2])), (m_soft, .inl (cZ, 4, .inl mT.1)), (m_compares, .inl (cJ, 4, .inr (.inl mT.2.1))), (m_signals, .inl (cZ, 32, .inl mC.1)), (m_waits, .inl (cZ, 32, .inl mC.2.1)), (m_served, .inl (cZ, 32, .inl mC.2.2.1)), (m_priorities, .inl (cI, 32, .inl mC.2.2.2.1)), (m_enabled, .inl (cI, 8, .inl mC.2.2.2.2.1)), (m_thresholds, .inl (cI, 8, .inl mC.2.2.2.2.2)), (m_registers, .inl (cI, 8, .inl mS.1)), (m_others, .inl (cI, 2, .inl mS.2.1)), (m_came, .inl (cI, 16, .inl mQ.1)), (m_out, .inl (cI, 4096, .inl mO.1))] s.heap.size = A at hD ⊢
  have hA : ∀ q : Nat, s.heap.size ≤ q → A q := fun q h => by rw [← hAe]; exact Or.inr h
  have hS : va_S A s.heap s.heap [] := va_S.rf
  have hP : va_P (dC, dI) vwCl [(mH, .inr (6, [.int mX, .int (nI n), .ref m_soft, .ref m_compares, .long mT.2.2, .ref m_signals, .ref m_waits, .ref m_served, .ref m_priorities, .ref m_enabled, .ref m_thresholds, .ref m_registers, .ref m_others, .int mS.2.2.1, .int mS.2.2.2.1, .int mS.2.2.2.2, .ref m_came, .int mQ.2, .ref m_out, .long mO.2])), (m_soft, .inl (cZ, 4, .inl mT.1)), (m_compares, .inl (cJ, 4, .inr (.inl mT.2.1))), (m_signals, .inl (cZ, 32, .inl mC.1)), (m_waits, .inl (cZ, 32, .inl mC.2.1)), (m_served, .inl (cZ, 32, .inl mC.2.2.1)), (m_priorities, .inl (cI, 32, .inl mC.2.2.2.1)), (m_enabled, .inl (cI, 8, .inl mC.2.2.2.2.1)), (m_thresholds, .inl (cI, 8, .inl mC.2.2.2.2.2)), (m_registers, .inl (cI, 8, .inl mS.1)), (m_others, .inl (cI, 2, .inl mS.2.1)), (m_came, .inl (cI, 16, .inl mQ.1)), (m_out, .inl (cI, 4096, .inl mO.1))] s.heap := hP
  have hl := lv_entry ([.ref mH, .int p1]) (n := 2) (Nat.le_of_ble_eq_true rfl)
  rw [lg_entry_eq]
  generalize (lg_sl ([.ref mH, .int p1]) ++ List.replicate (2 - (lg_sl ([.ref mH, .int p1])).length) Slot.unset).toArray = ls at hl ⊢
  have hl : lv_has ls 2 [(0, .ref mH), (1, .int p1)] := hl
  refine lv_iload_n hx hb dX6_eight_0 rfl (lv_at hl 1 rfl) ?_
  refine lv_aload_n hx hb dX6_eight_1 rfl (lv_at hl 0 rfl) ?_
  refine va_get (D := (dC, dI)) (ci := 6) (v := .int (nI n)) (C := RX6) (T := TX6) (N := 20) hx hb hw inWX6 hown hK hP 0 rfl rfl 1 (by decide) (hw _ w_457) (fun _ h9 => h9) rfl dX6_eight_2 ?_
  refine lv_icmp_ne (tgt := 15) hx hb dX6_eight_5 (by decide) (fun c_5 => ?_) (fun c_5 => ?_)
  · refine lv_aload_n hx hb dX6_eight_15 rfl (lv_at hl 0 rfl) ?_
    refine va_get (D := (dC, dI)) (ci := 6) (v := .ref m_compares) (C := RX6) (T := TX6) (N := 20) hx hb hw inWX6 hown hK hP 0 rfl rfl 3 (by decide) (hw _ w_459) (fun _ h9 => h9) rfl dX6_eight_16 ?_
    refine lv_iload_n hx hb dX6_eight_19 rfl (lv_at hl 1 rfl) ?_
    have h_20 : vp_in p1 4 := (in_e hn he c_5)
    refine va_lald hx hb hK hP 2 1 rfl rfl h_20 dX6_eight_20 ?_
    have hF : (f_X6_eight n mT p1) = (mT.2.1 (Int32.toNatClampNeg p1)) := by rw [f_X6_eight, if_neg c_5]
    have hP9 := hP.sub (ws' := [(mH, .inr (6, [.int mX, .int (nI n), .ref m_soft, .ref m_compares, .long mT.2.2, .ref m_signals, .ref m_waits, .ref m_served, .ref m_priorities, .ref m_enabled, .ref m_thresholds, .ref m_registers, .ref m_others, .int mS.2.2.1, .int mS.2.2.2.1, .int mS.2.2.2.2, .ref m_came, .int mQ.2, .ref m_out, .long mO.2])), (m_soft, .inl (cZ, 4, .inl mT.1)), (m_compares, .inl (cJ, 4, .inr (.inl mT.2.1))), (m_signals, .inl (cZ, 32, .inl mC.1)), (m_waits, .inl (cZ, 32, .inl mC.2.1)), (m_served, .inl (cZ, 32, .inl mC.2.2.1)), (m_priorities, .inl (cI, 32, .inl mC.2.2.2.1)), (m_enabled, .inl (cI, 8, .inl mC.2.2.2.2.1)), (m_thresholds, .inl (cI, 8, .inl mC.2.2.2.2.2)), (m_registers, .inl (cI, 8, .inl mS.1)), (m_others, .inl (cI, 2, .inl mS.2.1)), (m_came, .inl (cI, 16, .inl mQ.1)), (m_out, .inl (cI, 4096, .inl mO.1))]) [0, 1, 2, 3, 4, 5, 6, 7, 8, 9, 10, 11, 12] rfl
    have hD9 := hD.sub (ws' := [(mH, .inr (6, [.int mX, .int (nI n), .ref m_soft, .ref m_compares, .long mT.2.2, .ref m_signals, .ref m_waits, .ref m_served, .ref m_priorities, .ref m_enabled, .ref m_thresholds, .ref m_registers, .ref m_others, .int mS.2.2.1, .int mS.2.2.2.1, .int mS.2.2.2.2, .ref m_came, .int mQ.2, .ref m_out, .long mO.2])), (m_soft, .inl (cZ, 4, .inl mT.1)), (m_compares, .inl (cJ, 4, .inr (.inl mT.2.1))), (m_signals, .inl (cZ, 32, .inl mC.1)), (m_waits, .inl (cZ, 32, .inl mC.2.1)), (m_served, .inl (cZ, 32, .inl mC.2.2.1)), (m_priorities, .inl (cI, 32, .inl mC.2.2.2.1)), (m_enabled, .inl (cI, 8, .inl mC.2.2.2.2.1)), (m_thresholds, .inl (cI, 8, .inl mC.2.2.2.2.2)), (m_registers, .inl (cI, 8, .inl mS.1)), (m_others, .inl (cI, 2, .inl mS.2.1)), (m_came, .inl (cI, 16, .inl mQ.1)), (m_out, .inl (cI, 4096, .inl mO.1))]) [0, 1, 2, 3, 4, 5, 6, 7, 8, 9, 10, 11, 12] (by decide) rfl
    exact W.lret (v := (mT.2.1 (Int32.toNatClampNeg p1))) hx hb hr (fun u hu hW => ⟨⟨(mT.2.1 (Int32.toNatClampNeg p1)), (), rfl, hF.symm, by rw [hu]; exact hP9, hD9⟩, hS.F hu⟩) hS.2.2 dX6_eight_21
  · refine lv_aload_n hx hb dX6_eight_8 rfl (lv_at hl 0 rfl) ?_
    refine va_get (D := (dC, dI)) (ci := 6) (v := .long mT.2.2) (C := RX6) (T := TX6) (N := 20) hx hb hw inWX6 hown hK hP 0 rfl rfl 4 (by decide) (hw _ w_460) (fun _ h9 => h9) rfl dX6_eight_9 ?_
    refine lv_goto (tgt := 21) hx hb dX6_eight_12 (by decide) ?_
    have hF : (f_X6_eight n mT p1) = mT.2.2 := by rw [f_X6_eight, if_pos c_5]
    have hP9 := hP.sub (ws' := [(mH, .inr (6, [.int mX, .int (nI n), .ref m_soft, .ref m_compares, .long mT.2.2, .ref m_signals, .ref m_waits, .ref m_served, .ref m_priorities, .ref m_enabled, .ref m_thresholds, .ref m_registers, .ref m_others, .int mS.2.2.1, .int mS.2.2.2.1, .int mS.2.2.2.2, .ref m_came, .int mQ.2, .ref m_out, .long mO.2])), (m_soft, .inl (cZ, 4, .inl mT.1)), (m_compares, .inl (cJ, 4, .inr (.inl mT.2.1))), (m_signals, .inl (cZ, 32, .inl mC.1)), (m_waits, .inl (cZ, 32, .inl mC.2.1)), (m_served, .inl (cZ, 32, .inl mC.2.2.1)), (m_priorities, .inl (cI, 32, .inl mC.2.2.2.1)), (m_enabled, .inl (cI, 8, .inl mC.2.2.2.2.1)), (m_thresholds, .inl (cI, 8, .inl mC.2.2.2.2.2)), (m_registers, .inl (cI, 8, .inl mS.1)), (m_others, .inl (cI, 2, .inl mS.2.1)), (m_came, .inl (cI, 16, .inl mQ.1)), (m_out, .inl (cI, 4096, .inl mO.1))]) [0, 1, 2, 3, 4, 5, 6, 7, 8, 9, 10, 11, 12] rfl
    have hD9 := hD.sub (ws' := [(mH, .inr (6, [.int mX, .int (nI n), .ref m_soft, .ref m_compares, .long mT.2.2, .ref m_signals, .ref m_waits, .ref m_served, .ref m_priorities, .ref m_enabled, .ref m_thresholds, .ref m_registers, .ref m_others, .int mS.2.2.1, .int mS.2.2.2.1, .int mS.2.2.2.2, .ref m_came, .int mQ.2, .ref m_out, .long mO.2])), (m_soft, .inl (cZ, 4, .inl mT.1)), (m_compares, .inl (cJ, 4, .inr (.inl mT.2.1))), (m_signals, .inl (cZ, 32, .inl mC.1)), (m_waits, .inl (cZ, 32, .inl mC.2.1)), (m_served, .inl (cZ, 32, .inl mC.2.2.1)), (m_priorities, .inl (cI, 32, .inl mC.2.2.2.1)), (m_enabled, .inl (cI, 8, .inl mC.2.2.2.2.1)), (m_thresholds, .inl (cI, 8, .inl mC.2.2.2.2.2)), (m_registers, .inl (cI, 8, .inl mS.1)), (m_others, .inl (cI, 2, .inl mS.2.1)), (m_came, .inl (cI, 16, .inl mQ.1)), (m_out, .inl (cI, 4096, .inl mO.1))]) [0, 1, 2, 3, 4, 5, 6, 7, 8, 9, 10, 11, 12] (by decide) rfl
    exact W.lret (v := mT.2.2) hx hb hr (fun u hu hW => ⟨⟨mT.2.2, (), rfl, hF.symm, by rw [hu]; exact hP9, hD9⟩, hS.F hu⟩) hS.2.2 dX6_eight_21
def f_X6_setEight (n : Nat) (mT : MTs) (p1 : Int32) (p2 : Int64) : MTs :=
  if p1 = (nI n) then (mT.1, mT.2.1, p2)
  else (mT.1, (vp_updL mT.2.1 (Int32.toNatClampNeg p1) p2), mT.2.2)
set_option maxHeartbeats 4000000 in
set_option maxRecDepth 100000 in
theorem k_X6_setEight (l : Launch) (dC : Nat → ClassId) (dI : Nat → Nat → Nat) (cI cJ cB cZ : ClassId) (mH m_soft m_compares m_signals m_waits m_served m_priorities m_enabled m_thresholds m_registers m_others m_came m_out : Nat) (sz : Nat) (n : Nat) (mX : Int32) (mT : MTs) (mC : MCs) (mS : MSs) (mQ : MQs) (mO : MOs) (p1 : Int32) (p2 : Int64) (hn : n ≤ 4) (he : vp_in p1 (n + 1)) : Met l yX6_setEight wsX6_setEight ({ frames := 0, cells := 0, slots := 0, locals := 0 }) (va_Pc [.ref mH, .int p1, .long p2] (fun U => U.heap.size = sz ∧ va_P (dC, dI) vwCl [(mH, .inr (6, [.int mX, .int (nI n), .ref m_soft, .ref m_compares, .long mT.2.2, .ref m_signals, .ref m_waits, .ref m_served, .ref m_priorities, .ref m_enabled, .ref m_thresholds, .ref m_registers, .ref m_others, .int mS.2.2.1, .int mS.2.2.2.1, .int mS.2.2.2.2, .ref m_came, .int mQ.2, .ref m_out, .long mO.2])), (m_soft, .inl (cZ, 4, .inl mT.1)), (m_compares, .inl (cJ, 4, .inr (.inl mT.2.1))), (m_signals, .inl (cZ, 32, .inl mC.1)), (m_waits, .inl (cZ, 32, .inl mC.2.1)), (m_served, .inl (cZ, 32, .inl mC.2.2.1)), (m_priorities, .inl (cI, 32, .inl mC.2.2.2.1)), (m_enabled, .inl (cI, 8, .inl mC.2.2.2.2.1)), (m_thresholds, .inl (cI, 8, .inl mC.2.2.2.2.2)), (m_registers, .inl (cI, 8, .inl mS.1)), (m_others, .inl (cI, 2, .inl mS.2.1)), (m_came, .inl (cI, 16, .inl mQ.1)), (m_out, .inl (cI, 4096, .inl mO.1))] U.heap ∧ va_K (dC, dI) vwCl [(cI, .int), (cJ, .long), (cB, .byte), (cZ, .boolean)] U ∧ va_D (fun _ => True) [(mH, .inr (6, [.int mX, .int (nI n), .ref m_soft, .ref m_compares, .long mT.2.2, .ref m_signals, .ref m_waits, .ref m_served, .ref m_priorities, .ref m_enabled, .ref m_thresholds, .ref m_registers, .ref m_others, .int mS.2.2.1, .int mS.2.2.2.1, .int mS.2.2.2.2, .ref m_came, .int mQ.2, .ref m_out, .long mO.2])), (m_soft, .inl (cZ, 4, .inl mT.1)), (m_compares, .inl (cJ, 4, .inr (.inl mT.2.1))), (m_signals, .inl (cZ, 32, .inl mC.1)), (m_waits, .inl (cZ, 32, .inl mC.2.1)), (m_served, .inl (cZ, 32, .inl mC.2.2.1)), (m_priorities, .inl (cI, 32, .inl mC.2.2.2.1)), (m_enabled, .inl (cI, 8, .inl mC.2.2.2.2.1)), (m_thresholds, .inl (cI, 8, .inl mC.2.2.2.2.2)), (m_registers, .inl (cI, 8, .inl mS.1)), (m_others, .inl (cI, 2, .inl mS.2.1)), (m_came, .inl (cI, 16, .inl mQ.1)), (m_out, .inl (cI, 4096, .inl mO.1))] ∧ nw_ U)) (va_Qv (fun (_ : Unit) => True) (fun (_ : Unit) (w : State) => va_P (dC, dI) vwCl [(mH, .inr (6, [.int mX, .int (nI n), .ref m_soft, .ref m_compares, .long (f_X6_setEight n mT p1 p2).2.2, .ref m_signals, .ref m_waits, .ref m_served, .ref m_priorities, .ref m_enabled, .ref m_thresholds, .ref m_registers, .ref m_others, .int mS.2.2.1, .int mS.2.2.2.1, .int mS.2.2.2.2, .ref m_came, .int mQ.2, .ref m_out, .long mO.2])), (m_soft, .inl (cZ, 4, .inl (f_X6_setEight n mT p1 p2).1)), (m_compares, .inl (cJ, 4, .inr (.inl (f_X6_setEight n mT p1 p2).2.1))), (m_signals, .inl (cZ, 32, .inl mC.1)), (m_waits, .inl (cZ, 32, .inl mC.2.1)), (m_served, .inl (cZ, 32, .inl mC.2.2.1)), (m_priorities, .inl (cI, 32, .inl mC.2.2.2.1)), (m_enabled, .inl (cI, 8, .inl mC.2.2.2.2.1)), (m_thresholds, .inl (cI, 8, .inl mC.2.2.2.2.2)), (m_registers, .inl (cI, 8, .inl mS.1)), (m_others, .inl (cI, 2, .inl mS.2.1)), (m_came, .inl (cI, 16, .inl mQ.1)), (m_out, .inl (cI, 4096, .inl mO.1))] w.heap ∧ va_D (va_A [(mH, .inr (6, [.int mX, .int (nI n), .ref m_soft, .ref m_compares, .long mT.2.2, .ref m_signals, .ref m_waits, .ref m_served, .ref m_priorities, .ref m_enabled, .ref m_thresholds, .ref m_registers, .ref m_others, .int mS.2.2.1, .int mS.2.2.2.1, .int mS.2.2.2.2, .ref m_came, .int mQ.2, .ref m_out, .long mO.2])), (m_soft, .inl (cZ, 4, .inl mT.1)), (m_compares, .inl (cJ, 4, .inr (.inl mT.2.1))), (m_signals, .inl (cZ, 32, .inl mC.1)), (m_waits, .inl (cZ, 32, .inl mC.2.1)), (m_served, .inl (cZ, 32, .inl mC.2.2.1)), (m_priorities, .inl (cI, 32, .inl mC.2.2.2.1)), (m_enabled, .inl (cI, 8, .inl mC.2.2.2.2.1)), (m_thresholds, .inl (cI, 8, .inl mC.2.2.2.2.2)), (m_registers, .inl (cI, 8, .inl mS.1)), (m_others, .inl (cI, 2, .inl mS.2.1)), (m_came, .inl (cI, 16, .inl mQ.1)), (m_out, .inl (cI, 4096, .inl mO.1))] sz) [(mH, .inr (6, [.int mX, .int (nI n), .ref m_soft, .ref m_compares, .long (f_X6_setEight n mT p1 p2).2.2, .ref m_signals, .ref m_waits, .ref m_served, .ref m_priorities, .ref m_enabled, .ref m_thresholds, .ref m_registers, .ref m_others, .int mS.2.2.1, .int mS.2.2.2.1, .int mS.2.2.2.2, .ref m_came, .int mQ.2, .ref m_out, .long mO.2])), (m_soft, .inl (cZ, 4, .inl (f_X6_setEight n mT p1 p2).1)), (m_compares, .inl (cJ, 4, .inr (.inl (f_X6_setEight n mT p1 p2).2.1))), (m_signals, .inl (cZ, 32, .inl mC.1)), (m_waits, .inl (cZ, 32, .inl mC.2.1)), (m_served, .inl (cZ, 32, .inl mC.2.2.1)), (m_priorities, .inl (cI, 32, .inl mC.2.2.2.1)), (m_enabled, .inl (cI, 8, .inl mC.2.2.2.2.1)), (m_thresholds, .inl (cI, 8, .inl mC.2.2.2.2.2)), (m_registers, .inl (cI, 8, .inl mS.1)), (m_others, .inl (cI, 2, .inl mS.2.1)), (m_came, .inl (cI, 16, .inl mQ.1)), (m_out, .inl (cI, 4096, .inl mO.1))]) (va_A [(mH, .inr (6, [.int mX, .int (nI n), .ref m_soft, .ref m_compares, .long mT.2.2, .ref m_signals, .ref m_waits, .ref m_served, .ref m_priorities, .ref m_enabled, .ref m_thresholds, .ref m_registers, .ref m_others, .int mS.2.2.1, .int mS.2.2.2.1, .int mS.2.2.2.2, .ref m_came, .int mQ.2, .ref m_out, .long mO.2])), (m_soft, .inl (cZ, 4, .inl mT.1)), (m_compares, .inl (cJ, 4, .inr (.inl mT.2.1))), (m_signals, .inl (cZ, 32, .inl mC.1)), (m_waits, .inl (cZ, 32, .inl mC.2.1)), (m_served, .inl (cZ, 32, .inl mC.2.2.1)), (m_priorities, .inl (cI, 32, .inl mC.2.2.2.1)), (m_enabled, .inl (cI, 8, .inl mC.2.2.2.2.1)), (m_thresholds, .inl (cI, 8, .inl mC.2.2.2.2.2)), (m_registers, .inl (cI, 8, .inl mS.1)), (m_others, .inl (cI, 2, .inl mS.2.1)), (m_came, .inl (cI, 16, .inl mQ.1)), (m_out, .inl (cI, 4096, .inl mO.1))] sz)) 0 0 (va_A [(mH, .inr (6, [.int mX, .int (nI n), .ref m_soft, .ref m_compares, .long mT.2.2, .ref m_signals, .ref m_waits, .ref m_served, .ref m_priorities, .ref m_enabled, .ref m_thresholds, .ref m_registers, .ref m_others, .int mS.2.2.1, .int mS.2.2.2.1, .int mS.2.2.2.2, .ref m_came, .int mQ.2, .ref m_out, .long mO.2])), (m_soft, .inl (cZ, 4, .inl mT.1)), (m_compares, .inl (cJ, 4, .inr (.inl mT.2.1))), (m_signals, .inl (cZ, 32, .inl mC.1)), (m_waits, .inl (cZ, 32, .inl mC.2.1)), (m_served, .inl (cZ, 32, .inl mC.2.2.1)), (m_priorities, .inl (cI, 32, .inl mC.2.2.2.1)), (m_enabled, .inl (cI, 8, .inl mC.2.2.2.2.1)), (m_thresholds, .inl (cI, 8, .inl mC.2.2.2.2.2)), (m_registers, .inl (cI, 8, .inl mS.1)), (m_others, .inl (cI, 2, .inl mS.2.1)), (m_came, .inl (cI, 16, .inl mQ.1)), (m_out, .inl (cI, 4096, .inl mO.1))] sz) := by
  refine Met.ofW (cc := prog_8_method_7_code) (maxL := 4) (ret := none) (by decide) rfl ?_
  intro p e s m args below meth c s₁ B hml hv
  obtain ⟨rfl, hsz, hP, hK, hD0, hN⟩ := hv
  have hx := B.exec
  have hb := B.bytes
  have hr := B.returns
  have hw := hw_of (atoms_spec (ws := wsX6_setEight) B.pre)
  have hown : s.vm.findClass RX6 = some m.cls := findClass_of_methodNamed B.named
  have hlocks := B.notSynchronized
  subst hsz
  have hD := hD0.self (sz := s.heap.size)
  generalize hAe : va_A [(mH, .inr (6, [.int mX, .int (nI n), .ref m_soft, .ref m_compares, .long mT.2.2, .ref m_signals, .ref m_waits, .ref m_served, .ref m_priorities, .ref m_enabled, .ref m_thresholds, .ref m_registers, .ref m_others, .int mS.2.2.1, .int mS.2.2.2.1, .int mS.2.2.2.2, .ref m_came, .int mQ.2, .ref m_out, .long mO.2])), (m_soft, .inl (cZ, 4, .inl mT.1)), (m_compares, .inl (cJ, 4, .inr (.inl mT.2.1))), (m_signals, .inl (cZ, 32, .inl mC.1)), (m_waits, .inl (cZ, 32, .inl mC.2.1)), (m_served, .inl (cZ, 32, .inl mC.2.2.1)), (m_priorities, .inl (cI, 32, .inl mC.2.2.2.1)), (m_enabled, .inl (cI, 8, .inl mC.2.2.2.2.1)), (m_thresholds, .inl (cI, 8, .inl mC.2.2.2.2.2)), (m_registers, .inl (cI, 8, .inl mS.1)), (m_others, .inl (cI, 2, .inl mS.2.1)), (m_came, .inl (cI, 16, .inl mQ.1)), (m_out, .inl (cI, 4096, .inl mO.1))] s.heap.size = A at hD ⊢
  have hA : ∀ q : Nat, s.heap.size ≤ q → A q := fun q h => by rw [← hAe]; exact Or.inr h
  have hS : va_S A s.heap s.heap [] := va_S.rf
  have hP : va_P (dC, dI) vwCl [(mH, .inr (6, [.int mX, .int (nI n), .ref m_soft, .ref m_compares, .long mT.2.2, .ref m_signals, .ref m_waits, .ref m_served, .ref m_priorities, .ref m_enabled, .ref m_thresholds, .ref m_registers, .ref m_others, .int mS.2.2.1, .int mS.2.2.2.1, .int mS.2.2.2.2, .ref m_came, .int mQ.2, .ref m_out, .long mO.2])), (m_soft, .inl (cZ, 4, .inl mT.1)), (m_compares, .inl (cJ, 4, .inr (.inl mT.2.1))), (m_signals, .inl (cZ, 32, .inl mC.1)), (m_waits, .inl (cZ, 32, .inl mC.2.1)), (m_served, .inl (cZ, 32, .inl mC.2.2.1)), (m_priorities, .inl (cI, 32, .inl mC.2.2.2.1)), (m_enabled, .inl (cI, 8, .inl mC.2.2.2.2.1)), (m_thresholds, .inl (cI, 8, .inl mC.2.2.2.2.2)), (m_registers, .inl (cI, 8, .inl mS.1)), (m_others, .inl (cI, 2, .inl mS.2.1)), (m_came, .inl (cI, 16, .inl mQ.1)), (m_out, .inl (cI, 4096, .inl mO.1))] s.heap := hP
  have hl := lv_entry ([.ref mH, .int p1, .long p2]) (n := 4) (Nat.le_of_ble_eq_true rfl)
  rw [lg_entry_eq]
  generalize (lg_sl ([.ref mH, .int p1, .long p2]) ++ List.replicate (4 - (lg_sl ([.ref mH, .int p1, .long p2])).length) Slot.unset).toArray = ls at hl ⊢
  have hl : lv_has ls 4 [(0, .ref mH), (1, .int p1), (2, .long p2)] := hl
  refine lv_iload_n hx hb dX6_setEight_0 rfl (lv_at hl 1 rfl) ?_
  refine lv_aload_n hx hb dX6_setEight_1 rfl (lv_at hl 0 rfl) ?_
  refine va_get (D := (dC, dI)) (ci := 6) (v := .int (nI n)) (C := RX6) (T := TX6) (N := 20) hx hb hw inWX6 hown hK hP 0 rfl rfl 1 (by decide) (hw _ w_457) (fun _ h9 => h9) rfl dX6_setEight_2 ?_
  refine lv_icmp_ne (tgt := 16) hx hb dX6_setEight_5 (by decide) (fun c_5 => ?_) (fun c_5 => ?_)
  · refine lv_aload_n hx hb dX6_setEight_16 rfl (lv_at hl 0 rfl) ?_
    refine va_get (D := (dC, dI)) (ci := 6) (v := .ref m_compares) (C := RX6) (T := TX6) (N := 20) hx hb hw inWX6 hown hK hP 0 rfl rfl 3 (by decide) (hw _ w_459) (fun _ h9 => h9) rfl dX6_setEight_17 ?_
    refine lv_iload_n hx hb dX6_setEight_20 rfl (lv_at hl 1 rfl) ?_
    refine lv_lload_n hx hb dX6_setEight_21 rfl (lv_at hl 2 rfl) ?_
    have h_22 : vp_in p1 4 := (in_e hn he c_5)
    refine va_last hx hb hK hP hD hS 2 1 rfl rfl h_22 dX6_setEight_22 (fun H locs hP hD hS => ?_)
    have hP : va_P (dC, dI) vwCl [(mH, .inr (6, [.int mX, .int (nI n), .ref m_soft, .ref m_compares, .long mT.2.2, .ref m_signals, .ref m_waits, .ref m_served, .ref m_priorities, .ref m_enabled, .ref m_thresholds, .ref m_registers, .ref m_others, .int mS.2.2.1, .int mS.2.2.2.1, .int mS.2.2.2.2, .ref m_came, .int mQ.2, .ref m_out, .long mO.2])), (m_soft, .inl (cZ, 4, .inl mT.1)), (m_compares, .inl (cJ, 4, .inr (.inl (vp_updL mT.2.1 (Int32.toNatClampNeg p1) p2)))), (m_signals, .inl (cZ, 32, .inl mC.1)), (m_waits, .inl (cZ, 32, .inl mC.2.1)), (m_served, .inl (cZ, 32, .inl mC.2.2.1)), (m_priorities, .inl (cI, 32, .inl mC.2.2.2.1)), (m_enabled, .inl (cI, 8, .inl mC.2.2.2.2.1)), (m_thresholds, .inl (cI, 8, .inl mC.2.2.2.2.2)), (m_registers, .inl (cI, 8, .inl mS.1)), (m_others, .inl (cI, 2, .inl mS.2.1)), (m_came, .inl (cI, 16, .inl mQ.1)), (m_out, .inl (cI, 4096, .inl mO.1))] H := hP
    have hD : va_D A [(mH, .inr (6, [.int mX, .int (nI n), .ref m_soft, .ref m_compares, .long mT.2.2, .ref m_signals, .ref m_waits, .ref m_served, .ref m_priorities, .ref m_enabled, .ref m_thresholds, .ref m_registers, .ref m_others, .int mS.2.2.1, .int mS.2.2.2.1, .int mS.2.2.2.2, .ref m_came, .int mQ.2, .ref m_out, .long mO.2])), (m_soft, .inl (cZ, 4, .inl mT.1)), (m_compares, .inl (cJ, 4, .inr (.inl (vp_updL mT.2.1 (Int32.toNatClampNeg p1) p2)))), (m_signals, .inl (cZ, 32, .inl mC.1)), (m_waits, .inl (cZ, 32, .inl mC.2.1)), (m_served, .inl (cZ, 32, .inl mC.2.2.1)), (m_priorities, .inl (cI, 32, .inl mC.2.2.2.1)), (m_enabled, .inl (cI, 8, .inl mC.2.2.2.2.1)), (m_thresholds, .inl (cI, 8, .inl mC.2.2.2.2.2)), (m_registers, .inl (cI, 8, .inl mS.1)), (m_others, .inl (cI, 2, .inl mS.2.1)), (m_came, .inl (cI, 16, .inl mQ.1)), (m_out, .inl (cI, 4096, .inl mO.1))] := hD
    have hF : (f_X6_setEight n mT p1 p2) = (mT.1, (vp_updL mT.2.1 (Int32.toNatClampNeg p1) p2), mT.2.2) := by rw [f_X6_setEight, if_neg c_5]
    have hP9 := hP.sub (ws' := [(mH, .inr (6, [.int mX, .int (nI n), .ref m_soft, .ref m_compares, .long mT.2.2, .ref m_signals, .ref m_waits, .ref m_served, .ref m_priorities, .ref m_enabled, .ref m_thresholds, .ref m_registers, .ref m_others, .int mS.2.2.1, .int mS.2.2.2.1, .int mS.2.2.2.2, .ref m_came, .int mQ.2, .ref m_out, .long mO.2])), (m_soft, .inl (cZ, 4, .inl mT.1)), (m_compares, .inl (cJ, 4, .inr (.inl (vp_updL mT.2.1 (Int32.toNatClampNeg p1) p2)))), (m_signals, .inl (cZ, 32, .inl mC.1)), (m_waits, .inl (cZ, 32, .inl mC.2.1)), (m_served, .inl (cZ, 32, .inl mC.2.2.1)), (m_priorities, .inl (cI, 32, .inl mC.2.2.2.1)), (m_enabled, .inl (cI, 8, .inl mC.2.2.2.2.1)), (m_thresholds, .inl (cI, 8, .inl mC.2.2.2.2.2)), (m_registers, .inl (cI, 8, .inl mS.1)), (m_others, .inl (cI, 2, .inl mS.2.1)), (m_came, .inl (cI, 16, .inl mQ.1)), (m_out, .inl (cI, 4096, .inl mO.1))]) [0, 1, 2, 3, 4, 5, 6, 7, 8, 9, 10, 11, 12] rfl
    have hD9 := hD.sub (ws' := [(mH, .inr (6, [.int mX, .int (nI n), .ref m_soft, .ref m_compares, .long mT.2.2, .ref m_signals, .ref m_waits, .ref m_served, .ref m_priorities, .ref m_enabled, .ref m_thresholds, .ref m_registers, .ref m_others, .int mS.2.2.1, .int mS.2.2.2.1, .int mS.2.2.2.2, .ref m_came, .int mQ.2, .ref m_out, .long mO.2])), (m_soft, .inl (cZ, 4, .inl mT.1)), (m_compares, .inl (cJ, 4, .inr (.inl (vp_updL mT.2.1 (Int32.toNatClampNeg p1) p2)))), (m_signals, .inl (cZ, 32, .inl mC.1)), (m_waits, .inl (cZ, 32, .inl mC.2.1)), (m_served, .inl (cZ, 32, .inl mC.2.2.1)), (m_priorities, .inl (cI, 32, .inl mC.2.2.2.1)), (m_enabled, .inl (cI, 8, .inl mC.2.2.2.2.1)), (m_thresholds, .inl (cI, 8, .inl mC.2.2.2.2.2)), (m_registers, .inl (cI, 8, .inl mS.1)), (m_others, .inl (cI, 2, .inl mS.2.1)), (m_came, .inl (cI, 16, .inl mQ.1)), (m_out, .inl (cI, 4096, .inl mO.1))]) [0, 1, 2, 3, 4, 5, 6, 7, 8, 9, 10, 11, 12] (by decide) rfl
    have hF_mT : (f_X6_setEight n mT p1 p2) = (mT.1, (vp_updL mT.2.1 (Int32.toNatClampNeg p1) p2), mT.2.2) := hF
    exact W.vret hx hb hr (fun u hu hW => ⟨⟨(), rfl, trivial, by rw [hu, hF_mT]; exact hP9, by rw [hF_mT]; exact hD9⟩, hS.F hu⟩) hS.2.2 dX6_setEight_23
  · refine lv_aload_n hx hb dX6_setEight_8 rfl (lv_at hl 0 rfl) ?_
    refine lv_lload_n hx hb dX6_setEight_9 rfl (lv_at hl 2 rfl) ?_
    refine va_put (D := (dC, dI)) (ci := 6) (v := .long p2) (ty := .long) (C := RX6) (T := TX6) (N := 20) hx hb hw inWX6 tyX6 tyX6_ok nmX6 hown hK hP hD hS 0 rfl rfl 4 (by decide) (hw _ w_460) (fun _ h9 => h9) rfl (by decide +kernel) rfl rfl (Nat.le_of_ble_eq_true rfl) dX6_setEight_10 (fun H locs hP hD hS => ?_)
    have hP : va_P (dC, dI) vwCl [(mH, .inr (6, [.int mX, .int (nI n), .ref m_soft, .ref m_compares, .long p2, .ref m_signals, .ref m_waits, .ref m_served, .ref m_priorities, .ref m_enabled, .ref m_thresholds, .ref m_registers, .ref m_others, .int mS.2.2.1, .int mS.2.2.2.1, .int mS.2.2.2.2, .ref m_came, .int mQ.2, .ref m_out, .long mO.2])), (m_soft, .inl (cZ, 4, .inl mT.1)), (m_compares, .inl (cJ, 4, .inr (.inl mT.2.1))), (m_signals, .inl (cZ, 32, .inl mC.1)), (m_waits, .inl (cZ, 32, .inl mC.2.1)), (m_served, .inl (cZ, 32, .inl mC.2.2.1)), (m_priorities, .inl (cI, 32, .inl mC.2.2.2.1)), (m_enabled, .inl (cI, 8, .inl mC.2.2.2.2.1)), (m_thresholds, .inl (cI, 8, .inl mC.2.2.2.2.2)), (m_registers, .inl (cI, 8, .inl mS.1)), (m_others, .inl (cI, 2, .inl mS.2.1)), (m_came, .inl (cI, 16, .inl mQ.1)), (m_out, .inl (cI, 4096, .inl mO.1))] H := hP
    have hD : va_D A [(mH, .inr (6, [.int mX, .int (nI n), .ref m_soft, .ref m_compares, .long p2, .ref m_signals, .ref m_waits, .ref m_served, .ref m_priorities, .ref m_enabled, .ref m_thresholds, .ref m_registers, .ref m_others, .int mS.2.2.1, .int mS.2.2.2.1, .int mS.2.2.2.2, .ref m_came, .int mQ.2, .ref m_out, .long mO.2])), (m_soft, .inl (cZ, 4, .inl mT.1)), (m_compares, .inl (cJ, 4, .inr (.inl mT.2.1))), (m_signals, .inl (cZ, 32, .inl mC.1)), (m_waits, .inl (cZ, 32, .inl mC.2.1)), (m_served, .inl (cZ, 32, .inl mC.2.2.1)), (m_priorities, .inl (cI, 32, .inl mC.2.2.2.1)), (m_enabled, .inl (cI, 8, .inl mC.2.2.2.2.1)), (m_thresholds, .inl (cI, 8, .inl mC.2.2.2.2.2)), (m_registers, .inl (cI, 8, .inl mS.1)), (m_others, .inl (cI, 2, .inl mS.2.1)), (m_came, .inl (cI, 16, .inl mQ.1)), (m_out, .inl (cI, 4096, .inl mO.1))] := hD
    refine lv_goto (tgt := 23) hx hb dX6_setEight_13 (by decide) ?_
    have hF : (f_X6_setEight n mT p1 p2) = (mT.1, mT.2.1, p2) := by rw [f_X6_setEight, if_pos c_5]
    have hP9 := hP.sub (ws' := [(mH, .inr (6, [.int mX, .int (nI n), .ref m_soft, .ref m_compares, .long p2, .ref m_signals, .ref m_waits, .ref m_served, .ref m_priorities, .ref m_enabled, .ref m_thresholds, .ref m_registers, .ref m_others, .int mS.2.2.1, .int mS.2.2.2.1, .int mS.2.2.2.2, .ref m_came, .int mQ.2, .ref m_out, .long mO.2])), (m_soft, .inl (cZ, 4, .inl mT.1)), (m_compares, .inl (cJ, 4, .inr (.inl mT.2.1))), (m_signals, .inl (cZ, 32, .inl mC.1)), (m_waits, .inl (cZ, 32, .inl mC.2.1)), (m_served, .inl (cZ, 32, .inl mC.2.2.1)), (m_priorities, .inl (cI, 32, .inl mC.2.2.2.1)), (m_enabled, .inl (cI, 8, .inl mC.2.2.2.2.1)), (m_thresholds, .inl (cI, 8, .inl mC.2.2.2.2.2)), (m_registers, .inl (cI, 8, .inl mS.1)), (m_others, .inl (cI, 2, .inl mS.2.1)), (m_came, .inl (cI, 16, .inl mQ.1)), (m_out, .inl (cI, 4096, .inl mO.1))]) [0, 1, 2, 3, 4, 5, 6, 7, 8, 9, 10, 11, 12] rfl
    have hD9 := hD.sub (ws' := [(mH, .inr (6, [.int mX, .int (nI n), .ref m_soft, .ref m_compares, .long p2, .ref m_signals, .ref m_waits, .ref m_served, .ref m_priorities, .ref m_enabled, .ref m_thresholds, .ref m_registers, .ref m_others, .int mS.2.2.1, .int mS.2.2.2.1, .int mS.2.2.2.2, .ref m_came, .int mQ.2, .ref m_out, .long mO.2])), (m_soft, .inl (cZ, 4, .inl mT.1)), (m_compares, .inl (cJ, 4, .inr (.inl mT.2.1))), (m_signals, .inl (cZ, 32, .inl mC.1)), (m_waits, .inl (cZ, 32, .inl mC.2.1)), (m_served, .inl (cZ, 32, .inl mC.2.2.1)), (m_priorities, .inl (cI, 32, .inl mC.2.2.2.1)), (m_enabled, .inl (cI, 8, .inl mC.2.2.2.2.1)), (m_thresholds, .inl (cI, 8, .inl mC.2.2.2.2.2)), (m_registers, .inl (cI, 8, .inl mS.1)), (m_others, .inl (cI, 2, .inl mS.2.1)), (m_came, .inl (cI, 16, .inl mQ.1)), (m_out, .inl (cI, 4096, .inl mO.1))]) [0, 1, 2, 3, 4, 5, 6, 7, 8, 9, 10, 11, 12] (by decide) rfl
    have hF_mT : (f_X6_setEight n mT p1 p2) = (mT.1, mT.2.1, p2) := hF
    exact W.vret hx hb hr (fun u hu hW => ⟨⟨(), rfl, trivial, by rw [hu, hF_mT]; exact hP9, by rw [hF_mT]; exact hD9⟩, hS.F hu⟩) hS.2.2 dX6_setEight_23
