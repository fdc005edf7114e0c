theorem in_ge {L : Nat} {x : Int32} (hL : L ≤ 3585) (h0 : ¬ x < 0) (h : ¬ nI L ≤ x) : vp_in x L := by
  rcases pk_ix x (n := L) (by omega) with a | a | ⟨j, hj, rfl⟩
  · exact absurd a h0
  · exact absurd a h
  · exact vp_in_nI hj (by omega)
theorem lt_exit {L i : Nat} (hL : L ≤ 3585) (hi : i ≤ 4000) : (nI L - 7 < nI i) ↔ L < i + 7 := by
  rw [Int32.lt_iff_toInt_lt, show (7 : Int32) = nI 7 from rfl, pk_sub_toInt (by omega) (by omega), nI_toInt (by omega)]
  omega
theorem cnt_ex (x : Int32) : ∃ n : Nat, n ≤ 4 ∧ 1 ≤ n ∧ (if x < 1 then (1 : Int32) else if 4 < x then 1 else x) = nI n := by
  by_cases c1 : x < 1
  · exact ⟨1, by omega, by omega, by rw [if_pos c1]; rfl⟩
  · by_cases c2 : 4 < x
    · exact ⟨1, by omega, by omega, by rw [if_neg c1, if_pos c2]; rfl⟩
    · rw [if_neg c1, if_neg c2]
      have h0 : ¬ x < 0 := fun q => c1 (by rw [Int32.lt_iff_toInt_lt] at q ⊢; have a : (0 : Int32).toInt = 0 := rfl; have b : (1 : Int32).toInt = 1 := rfl; omega)
      obtain ⟨k, hk, rfl⟩ := nI_of h0
      rw [show (1 : Int32) = nI 1 from rfl, nI_ltI hk (by omega)] at c1
      rw [show (4 : Int32) = nI 4 from rfl, nI_ltI (by omega) hk] at c2
      exact ⟨k, by omega, by omega, rfl⟩

def f_L_cell (L : Nat) (xs : Nat → Int32) (p1 : Int32) : Int32 :=
  if (Int32.ofNat L) ≤ p1 then 0
  else (xs (Int32.toNatClampNeg p1))
set_option maxHeartbeats 4000000 in
set_option maxRecDepth 100000 in
theorem k_L_cell (l : Launch) (dC : Nat → ClassId) (dI : Nat → Nat → Nat) (cI cJ cB cZ : ClassId) (b : Nat) (sz : Nat) (L : Nat) (xs : Nat → Int32) (p1 : Int32) (h0 : ¬ p1 < 0) (hL : L ≤ 3585) : Met l yL_cell wsL_cell ({ frames := 0, cells := 0, slots := 0, locals := 0 }) (va_Pc [.ref b, .int p1] (fun U => U.heap.size = sz ∧ va_P (dC, dI) vwCl [] U.heap ∧ va_K (dC, dI) vwCl [(cI, .int), (cJ, .long), (cB, .byte), (cZ, .boolean)] U ∧ va_D (fun _ => True) [] ∧ nw_ U ∧ va_X b L xs U U.heap ∧ b < sz)) (va_Qi (fun (r : Int32) (_ : Unit) => r = (f_L_cell L xs p1)) (fun (_ : Unit) (w : State) => va_P (dC, dI) vwCl [] w.heap ∧ va_D (va_A [] sz) []) (va_A [] sz)) 0 0 (va_A [] sz) := by
  refine Met.ofW (cc := method_2_code) (maxL := 2) (ret := (some .int)) (by decide) rfl ?_
  intro p e s m args below meth c s₁ B hml hv
  obtain ⟨rfl, hsz, hP, hK, hD0, hN, hX, hbl⟩ := hv
  have hx := B.exec
  have hb := B.bytes
  have hr := B.returns
  have hw := hw_of (atoms_spec (ws := wsL_cell) B.pre)
  have hown : s.vm.findClass RL = some m.cls := findClass_of_methodNamed B.named
  have hlocks := B.notSynchronized
  subst hsz
  have hD := hD0.self (sz := s.heap.size)
  generalize hAe : va_A [] s.heap.size = A at hD ⊢
  have hA : ∀ q : Nat, s.heap.size ≤ q → A q := fun q h => by rw [← hAe]; exact Or.inr h
  have hbA : ¬ A b := by
    rw [← hAe]
    rintro (⟨k, e9, h9⟩ | h9)
    · simp at h9
    · omega
  have hS : va_S A s.heap s.heap [] := va_S.rf
  have hP : va_P (dC, dI) vwCl [] s.heap := hP
  have hl := lv_entry ([.ref b, .int p1]) (n := 2) (Nat.le_of_ble_eq_true rfl)
  rw [lg_entry_eq]
  generalize (lg_sl ([.ref b, .int p1]) ++ List.replicate (2 - (lg_sl ([.ref b, .int p1])).length) Slot.unset).toArray = ls at hl ⊢
  have hl : lv_has ls 2 [(0, .ref b), (1, .int p1)] := hl
  refine lv_iload_n hx hb dL_cell_0 rfl (lv_at hl 1 rfl) ?_
  refine lv_aload_n hx hb dL_cell_1 rfl (lv_at hl 0 rfl) ?_
  refine va_slen hx hb hX hbl hbA hS dL_cell_2 ?_
  refine lv_icmp_ge (tgt := 12) hx hb dL_cell_3 (by decide) (fun c_3 => ?_) (fun c_3 => ?_)
  · refine lv_iconst (v := 0) hx hb dL_cell_12 (by decide) ?_
    have hF : (f_L_cell L xs p1) = 0 := by rw [f_L_cell, if_pos c_3]
    have hP9 := hP.sub (ws' := []) [] rfl
    have hD9 := hD.sub (ws' := []) [] (by decide) rfl
    exact W.iret (v := 0) hx hb hr (fun u hu hW => ⟨⟨0, (), rfl, hF.symm, by rw [hu]; exact hP9, hD9⟩, hS.F hu⟩) hS.2.2 dL_cell_13
  · refine lv_aload_n hx hb dL_cell_6 rfl (lv_at hl 0 rfl) ?_
    refine lv_iload_n hx hb dL_cell_7 rfl (lv_at hl 1 rfl) ?_
    have h_8 : vp_in p1 L := (in_ge hL h0 c_3)
    refine va_sld hx hb hX hbl hbA hS h_8 dL_cell_8 ?_
    refine lv_goto (tgt := 13) hx hb dL_cell_9 (by decide) ?_
    have hF : (f_L_cell L xs p1) = (xs (Int32.toNatClampNeg p1)) := by rw [f_L_cell, if_neg c_3]
    have hP9 := hP.sub (ws' := []) [] rfl
    have hD9 := hD.sub (ws' := []) [] (by decide) rfl
    exact W.iret (v := (xs (Int32.toNatClampNeg p1))) hx hb hr (fun u hu hW => ⟨⟨(xs (Int32.toNatClampNeg p1)), (), rfl, hF.symm, by rw [hu]; exact hP9, hD9⟩, hS.F hu⟩) hS.2.2 dL_cell_13
