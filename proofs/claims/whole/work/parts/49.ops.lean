theorem due_i (x : Int64) : (x + (-9223372036854775808)).toInt = (uN x : Int) - 9223372036854775808 := by
  have h := uN_lt x
  rw [uN_int, uN_add, show uN (-9223372036854775808) = 9223372036854775808 by decide]
  split <;> omega
theorem due_eq (x y : Int64) : (f_J13_compareUnsigned x y < 0) ↔ ¬ f_X6_isLess x y = 0 := by
  have hx := uN_lt x
  have hy := uN_lt y
  have ix := uN_int x
  have iy := uN_int y
  have z0 : (0 : Int64).toInt = 0 := rfl
  have q0 : (0 ≤ lg_cmp (x + (-9223372036854775808)) (y + (-9223372036854775808))) ↔ uN y ≤ uN x := by
    rw [lg_cmp_ge, Int64.le_iff_toInt_le, due_i, due_i]; omega
  have q1 : (0 ≤ lg_cmp x 0) ↔ uN x < 9223372036854775808 := by
    rw [lg_cmp_ge, Int64.le_iff_toInt_le, z0, ix]; split <;> omega
  have q2 : (0 ≤ lg_cmp y 0) ↔ uN y < 9223372036854775808 := by
    rw [lg_cmp_ge, Int64.le_iff_toInt_le, z0, iy]; split <;> omega
  have q3 : (0 ≤ lg_cmp x y) ↔ ((uN y < 9223372036854775808 ∧ uN x < 9223372036854775808 ∧ uN y ≤ uN x) ∨ (9223372036854775808 ≤ uN y ∧ (uN x < 9223372036854775808 ∨ uN y ≤ uN x))) := by
    rw [lg_cmp_ge, Int64.le_iff_toInt_le, ix, iy]; split <;> split <;> omega
  have l : (f_J13_compareUnsigned x y < 0) ↔ ¬ uN y ≤ uN x := by
    unfold f_J13_compareUnsigned f_J13_compare
    by_cases c : uN y ≤ uN x
    · rw [if_pos (q0.mpr c)]
      split
      · exact ⟨fun q => absurd q (by decide), fun q => absurd c q⟩
      · exact ⟨fun q => absurd q (by decide), fun q => absurd c q⟩
    · rw [if_neg (fun q => c (q0.mp q))]
      exact ⟨fun _ => c, fun _ => by decide⟩
  rw [l]
  unfold f_X6_isLess
  by_cases c1 : uN x < 9223372036854775808
  · rw [if_pos (q1.mpr c1)]
    by_cases c2 : uN y < 9223372036854775808
    · rw [if_pos (q2.mpr c2)]
      by_cases c3 : uN y ≤ uN x
      · rw [if_pos (q3.mpr (by omega))]
        exact ⟨fun q => absurd c3 q, fun q => absurd rfl q⟩
      · rw [if_neg (fun q => by have := q3.mp q; omega)]
        exact ⟨fun _ => by decide, fun _ => c3⟩
    · rw [if_neg (fun q => c2 (q2.mp q))]
      exact ⟨fun _ => by decide, fun _ => by omega⟩
  · rw [if_neg (fun q => c1 (q1.mp q))]
    by_cases c2 : uN y < 9223372036854775808
    · rw [if_pos (q2.mpr c2)]
      exact ⟨fun q => by omega, fun q => absurd rfl q⟩
    · rw [if_neg (fun q => c2 (q2.mp q))]
      by_cases c3 : uN y ≤ uN x
      · rw [if_pos (q3.mpr (by omega))]
        exact ⟨fun q => absurd c3 q, fun q => absurd rfl q⟩
      · rw [if_neg (fun q => by have := q3.mp q; omega)]
        exact ⟨fun _ => by decide, fun _ => c3⟩
theorem src_spec (p1 : Int32) : (f_X6_isSource (Int32.toInt64 p1) = 0 ∧ (p1 < 1 ∨ 32 ≤ p1)) ∨ ∃ s, 1 ≤ s ∧ s < 32 ∧ p1 = nI s ∧ ¬ f_X6_isSource (Int32.toInt64 p1) = 0 := by
  unfold f_X6_isSource
  have z0 : (0 : Int64).toInt = 0 := rfl
  have z32 : (32 : Int64).toInt = 32 := rfl
  have y0 : (0 : Int32).toInt = 0 := rfl
  have y1 : (1 : Int32).toInt = 1 := rfl
  have y32 : (nI 32).toInt = 32 := rfl
  have k1 : (lg_cmp (Int32.toInt64 p1) 0 ≤ 0) ↔ p1.toInt ≤ 0 := by rw [lg_cmp_le, Int64.le_iff_toInt_le, Int32.toInt_toInt64, z0]
  have k2 : (0 ≤ lg_cmp (Int32.toInt64 p1) 32) ↔ 32 ≤ p1.toInt := by rw [lg_cmp_ge, Int64.le_iff_toInt_le, Int32.toInt_toInt64, z32]
  rcases pk_ix p1 (n := 32) (by omega) with c | c | ⟨s, hs, e⟩
  · have c' := c
    rw [Int32.lt_iff_toInt_lt, y0] at c'
    rw [if_pos (k1.mpr (by omega))]
    exact .inl ⟨rfl, .inl (by rw [Int32.lt_iff_toInt_lt, y1]; omega)⟩
  · have c' := c
    rw [Int32.le_iff_toInt_le, y32] at c'
    rw [if_neg (fun q => by have := k1.mp q; omega), if_pos (k2.mpr c')]
    exact .inl ⟨rfl, .inr c⟩
  · have c' : p1.toInt = s := by rw [e]; exact nI_toInt (by omega)
    by_cases s0 : s = 0
    · rw [if_pos (k1.mpr (by omega))]
      exact .inl ⟨rfl, .inl (by rw [Int32.lt_iff_toInt_lt, y1]; omega)⟩
    · rw [if_neg (fun q => by have := k1.mp q; omega), if_neg (fun q => by have := k2.mp q; omega)]
      exact .inr ⟨s, by omega, hs, e, by decide⟩
theorem byte_v (p4 : Int64) : ∃ v, v < 256 ∧ Int64.toInt32 (p4 &&& 255) = nI v := by
  obtain ⟨v, hv, e⟩ := and_nI (Int64.toInt32 p4) 255
  exact ⟨v, by omega, (to32_and p4 255).trans e⟩
theorem win_2 {w : Int32} (h1 : ¬ w < 0) (h2 : ¬ 2 < w) (h3 : ¬ w = 0) (h4 : ¬ w = 1) : w = 2 := by
  obtain ⟨j, hj, rfl⟩ := nI_of h1
  have a : j ≤ 2 := by
    rcases Nat.lt_or_ge 2 j with q | q
    · exact absurd (show (2 : Int32) < nI j from nI_lt (a := 2) q hj) h2
    · exact q
  rcases (show j = 0 ∨ j = 1 ∨ j = 2 by omega) with e | e | e
  · subst e; exact absurd rfl h3
  · subst e; exact absurd rfl h4
  · subst e; rfl
section
variable {n j : Nat} {vT : TS} {vC : CS} {vS : SS} {vQ : QS} {vO : OS} {mT : MTs} {mC : MCs} {mS : MSs} {mQ : MQs} {mO : MOs}
theorem op_same (h : Inv n j vT vC vS vQ vO mT mC mS mQ mO) : Inv n (j + 1) vT vC vS vQ vO mT mC mS mQ mO := by
  obtain ⟨a, b, c, d, e, ⟨t, ht, f⟩, g⟩ := h
  exact ⟨a, b, c, d, e, ⟨t, by omega, f⟩, g⟩
theorem rd_ok {vU : Nat → Int64} {p1 : Int32} {p2 : Int64} {p3 : Int32} {r : Int64} {C : CS} {S : SS} {Q : QS} {D : MCs} {S2 : MSs} {Q2 : MQs} (eV : f_X5_read n vT vC vS vQ p1 p2 p3 = (0, r, C, S, Q)) (eW : f_X6_read n mT mC mS mQ p1 p2 p3 = (r, 0, D, S2, Q2)) (hI : Inv n (j + 1) vT C S Q vO mT D S2 Q2 mO) :
    (f_X6_read n mT mC mS mQ p1 p2 p3).2.1 = (f_L_read n vT vC vS vQ vU p1 p2 p3).1 ∧ ((f_L_read n vT vC vS vQ vU p1 p2 p3).1 = 0 → (f_L_read n vT vC vS vQ vU p1 p2 p3).2.2.2.2 (Int32.toNatClampNeg 0) = (f_X6_read n mT mC mS mQ p1 p2 p3).1) ∧
    Inv n (j + 1) vT (f_L_read n vT vC vS vQ vU p1 p2 p3).2.1 (f_L_read n vT vC vS vQ vU p1 p2 p3).2.2.1 (f_L_read n vT vC vS vQ vU p1 p2 p3).2.2.2.1 vO mT (f_X6_read n mT mC mS mQ p1 p2 p3).2.2.1 (f_X6_read n mT mC mS mQ p1 p2 p3).2.2.2.1 (f_X6_read n mT mC mS mQ p1 p2 p3).2.2.2.2 mO := by
  have eL : f_L_read n vT vC vS vQ vU p1 p2 p3 = (0, C, S, Q, vp_updL vU (Int32.toNatClampNeg 0) r) := by
    unfold f_L_read
    rw [eV]
    exact if_neg (show ¬ (0 : Int32) = 1 by decide)
  rw [eL, eW]
  exact ⟨rfl, fun _ => (show vp_updL vU (Int32.toNatClampNeg 0) r (Int32.toNatClampNeg 0) = r from pk_uLs), hI⟩
theorem rd_no {vU : Nat → Int64} {p1 : Int32} {p2 : Int64} {p3 : Int32} (eV : f_X5_read n vT vC vS vQ p1 p2 p3 = (1, 0, vC, vS, vQ)) (eW : f_X6_read n mT mC mS mQ p1 p2 p3 = (0, 1, mC, mS, mQ)) (hI : Inv n (j + 1) vT vC vS vQ vO mT mC mS mQ mO) :
    (f_X6_read n mT mC mS mQ p1 p2 p3).2.1 = (f_L_read n vT vC vS vQ vU p1 p2 p3).1 ∧ ((f_L_read n vT vC vS vQ vU p1 p2 p3).1 = 0 → (f_L_read n vT vC vS vQ vU p1 p2 p3).2.2.2.2 (Int32.toNatClampNeg 0) = (f_X6_read n mT mC mS mQ p1 p2 p3).1) ∧
    Inv n (j + 1) vT (f_L_read n vT vC vS vQ vU p1 p2 p3).2.1 (f_L_read n vT vC vS vQ vU p1 p2 p3).2.2.1 (f_L_read n vT vC vS vQ vU p1 p2 p3).2.2.2.1 vO mT (f_X6_read n mT mC mS mQ p1 p2 p3).2.2.1 (f_X6_read n mT mC mS mQ p1 p2 p3).2.2.2.1 (f_X6_read n mT mC mS mQ p1 p2 p3).2.2.2.2 mO := by
  have eL : f_L_read n vT vC vS vQ vU p1 p2 p3 = (1, vC, vS, vQ, vU) := by
    unfold f_L_read
    rw [eV]
    exact if_pos rfl
  rw [eL, eW]
  exact ⟨rfl, fun q => absurd (show (1 : Int32) = 0 from q) (by decide), hI⟩
theorem wr_ok {p1 : Int32} {p2 : Int64} {p3 : Int32} {p4 : Int64} {T : TS} {C : CS} {S : SS} {Q : QS} {O : OS} {T2 : MTs} {D : MCs} {S2 : MSs} {Q2 : MQs} {O2 : MOs} (eV : f_X5_write n vT vC vS vQ vO p1 p2 p3 p4 = (0, T, C, S, Q, O)) (eW : f_X6_write n mT mC mS mQ mO p1 p2 p3 p4 = (0, T2, D, S2, Q2, O2)) (hI : Inv n (j + 1) T C S Q O T2 D S2 Q2 O2) :
    (f_X6_write n mT mC mS mQ mO p1 p2 p3 p4).1 = (f_L_write n vT vC vS vQ vO p1 p2 p3 p4).1 ∧
    Inv n (j + 1) (f_L_write n vT vC vS vQ vO p1 p2 p3 p4).2.1 (f_L_write n vT vC vS vQ vO p1 p2 p3 p4).2.2.1 (f_L_write n vT vC vS vQ vO p1 p2 p3 p4).2.2.2.1 (f_L_write n vT vC vS vQ vO p1 p2 p3 p4).2.2.2.2.1 (f_L_write n vT vC vS vQ vO p1 p2 p3 p4).2.2.2.2.2 (f_X6_write n mT mC mS mQ mO p1 p2 p3 p4).2.1 (f_X6_write n mT mC mS mQ mO p1 p2 p3 p4).2.2.1 (f_X6_write n mT mC mS mQ mO p1 p2 p3 p4).2.2.2.1 (f_X6_write n mT mC mS mQ mO p1 p2 p3 p4).2.2.2.2.1 (f_X6_write n mT mC mS mQ mO p1 p2 p3 p4).2.2.2.2.2 := by
  have eL : f_L_write n vT vC vS vQ vO p1 p2 p3 p4 = (0, T, C, S, Q, O) := by
    unfold f_L_write
    rw [eV]
    exact if_neg (show ¬ (0 : Int32) = 1 by decide)
  rw [eL, eW]
  exact ⟨rfl, hI⟩
theorem wr_no {p1 : Int32} {p2 : Int64} {p3 : Int32} {p4 : Int64} (eV : f_X5_write n vT vC vS vQ vO p1 p2 p3 p4 = (1, vT, vC, vS, vQ, vO)) (eW : f_X6_write n mT mC mS mQ mO p1 p2 p3 p4 = (1, mT, mC, mS, mQ, mO)) (hI : Inv n (j + 1) vT vC vS vQ vO mT mC mS mQ mO) :
    (f_X6_write n mT mC mS mQ mO p1 p2 p3 p4).1 = (f_L_write n vT vC vS vQ vO p1 p2 p3 p4).1 ∧
    Inv n (j + 1) (f_L_write n vT vC vS vQ vO p1 p2 p3 p4).2.1 (f_L_write n vT vC vS vQ vO p1 p2 p3 p4).2.2.1 (f_L_write n vT vC vS vQ vO p1 p2 p3 p4).2.2.2.1 (f_L_write n vT vC vS vQ vO p1 p2 p3 p4).2.2.2.2.1 (f_L_write n vT vC vS vQ vO p1 p2 p3 p4).2.2.2.2.2 (f_X6_write n mT mC mS mQ mO p1 p2 p3 p4).2.1 (f_X6_write n mT mC mS mQ mO p1 p2 p3 p4).2.2.1 (f_X6_write n mT mC mS mQ mO p1 p2 p3 p4).2.2.2.1 (f_X6_write n mT mC mS mQ mO p1 p2 p3 p4).2.2.2.2.1 (f_X6_write n mT mC mS mQ mO p1 p2 p3 p4).2.2.2.2.2 := by
  have eL : f_L_write n vT vC vS vQ vO p1 p2 p3 p4 = (1, vT, vC, vS, vQ, vO) := by
    unfold f_L_write
    rw [eV]
    exact if_pos rfl
  rw [eL, eW]
  exact ⟨rfl, hI⟩
theorem ln_ok {vU : Nat → Int64} {p1 p2 r s : Int32} (eV : f_X5_line n vT vC p1 p2 = (0, r)) (eW : f_X6_line n mT mC p1 p2 = (s, 0)) (hrs : r = 0 ↔ s = 0) :
    (f_X6_line n mT mC p1 p2).2 = (f_L_line n vT vC vU p1 p2).1 ∧ ((f_L_line n vT vC vU p1 p2).1 = 0 → (f_L_line n vT vC vU p1 p2).2 (Int32.toNatClampNeg 0) = if (f_X6_line n mT mC p1 p2).1 = 0 then 0 else 1) := by
  by_cases c : r = 0
  · have eL : f_L_line n vT vC vU p1 p2 = (0, vp_updL vU (Int32.toNatClampNeg 0) 0) := by
      unfold f_L_line
      rw [eV]
      exact (if_neg (show ¬ (0 : Int32) = 1 by decide)).trans (if_pos c)
    rw [eL, eW]
    refine ⟨rfl, fun _ => ?_⟩
    show vp_updL vU (Int32.toNatClampNeg 0) 0 (Int32.toNatClampNeg 0) = if s = 0 then 0 else 1
    rw [if_pos (hrs.mp c), pk_uLs]
  · have eL : f_L_line n vT vC vU p1 p2 = (0, vp_updL vU (Int32.toNatClampNeg 0) 1) := by
      unfold f_L_line
      rw [eV]
      exact (if_neg (show ¬ (0 : Int32) = 1 by decide)).trans (if_neg c)
    rw [eL, eW]
    refine ⟨rfl, fun _ => ?_⟩
    show vp_updL vU (Int32.toNatClampNeg 0) 1 (Int32.toNatClampNeg 0) = if s = 0 then 0 else 1
    rw [if_neg (fun q => c (hrs.mpr q)), pk_uLs]
theorem ln_no {vU : Nat → Int64} {p1 p2 : Int32} (eV : f_X5_line n vT vC p1 p2 = (1, 0)) (eW : f_X6_line n mT mC p1 p2 = (0, 1)) :
    (f_X6_line n mT mC p1 p2).2 = (f_L_line n vT vC vU p1 p2).1 ∧ ((f_L_line n vT vC vU p1 p2).1 = 0 → (f_L_line n vT vC vU p1 p2).2 (Int32.toNatClampNeg 0) = if (f_X6_line n mT mC p1 p2).1 = 0 then 0 else 1) := by
  have eL : f_L_line n vT vC vU p1 p2 = (1, vU) := by
    unfold f_L_line
    rw [eV]
    exact if_pos rfl
  rw [eL, eW]
  exact ⟨rfl, fun q => absurd (show (1 : Int32) = 0 from q) (by decide)⟩
theorem op_processors : f_X5_processors n = (f_X6_processors n).1 := rfl
theorem op_read (vU : Nat → Int64) (p1 : Int32) (p2 : Int64) (p3 : Int32) (hj : j ≤ 600) (h : Inv n j vT vC vS vQ vO mT mC mS mQ mO) :
    (f_X6_read n mT mC mS mQ p1 p2 p3).2.1 = (f_L_read n vT vC vS vQ vU p1 p2 p3).1 ∧ ((f_L_read n vT vC vS vQ vU p1 p2 p3).1 = 0 → (f_L_read n vT vC vS vQ vU p1 p2 p3).2.2.2.2 (Int32.toNatClampNeg 0) = (f_X6_read n mT mC mS mQ p1 p2 p3).1) ∧
    Inv n (j + 1) vT (f_L_read n vT vC vS vQ vU p1 p2 p3).2.1 (f_L_read n vT vC vS vQ vU p1 p2 p3).2.2.1 (f_L_read n vT vC vS vQ vU p1 p2 p3).2.2.2.1 vO mT (f_X6_read n mT mC mS mQ p1 p2 p3).2.2.1 (f_X6_read n mT mC mS mQ p1 p2 p3).2.2.2.1 (f_X6_read n mT mC mS mQ p1 p2 p3).2.2.2.2 mO := by
  obtain ⟨hn, hT, hC, hS, hQ, hO, hl⟩ := op_same h
  have hl' : bt vC.1 10 = true ↔ ¬ f_X6_cause mS mQ = 1 := by rw [← cause_eq hS hQ]; exact hl
  by_cases c : f_X6_isProper p1 p2 p3 = 0
  · refine rd_no ?_ ?_ ⟨hn, hT, hC, hS, hQ, hO, hl⟩
    · unfold f_X5_read
      rw [if_pos (show f_X5_canAccess p1 p2 p3 = 0 by rw [acc_eq]; exact c)]
    · unfold f_X6_read
      rw [if_pos c]
  · obtain ⟨⟨w1, w2⟩, o1, hz⟩ := pr_spec c
    obtain ⟨x, hx, rfl⟩ := pk_lOf o1
    have c' : ¬ f_X5_canAccess p1 (lN x) p3 = 0 := by rw [acc_eq]; exact c
    by_cases d0 : p1 = 0
    · refine rd_ok (r := f_X4_load n vT (lN x) p3) ?_ ?_ ⟨hn, hT, se_id hC hl', hS, hQ, hO, hl⟩
      · unfold f_X5_read
        rw [if_neg c', if_pos d0]
      · unfold f_X6_read
        rw [if_neg c, if_pos d0, t_read hx hn hT hz]
    · by_cases d1 : p1 = 1
      · by_cases z4 : p3 = 4
        · subst z4
          obtain ⟨r1, r2, r3⟩ := c_read hx hn hC
          refine rd_ok (r := (f_X0_load n vC (lN x) 4).1) ?_ ?_ ⟨hn, hT, se_id r2 (by rw [r3]; exact hl'), hS, hQ, hO, by rw [r3]; exact hl⟩
          · unfold f_X5_read
            rw [if_neg c', if_neg d0, if_pos d1]
          · unfold f_X6_read
            rw [if_neg c, if_neg d0, if_pos d1, if_pos (show (4 : Int32) = 4 from rfl), r1]
        · have e : f_X0_load n vC (lN x) p3 = (0, vC) := by unfold f_X0_load; rw [if_neg z4]
          refine rd_ok (r := 0) ?_ ?_ ⟨hn, hT, se_id hC hl', hS, hQ, hO, hl⟩
          · unfold f_X5_read
            rw [if_neg c', if_neg d0, if_pos d1, e]
          · unfold f_X6_read
            rw [if_neg c, if_neg d0, if_pos d1, if_neg z4]
      · have a8 : (0 ≤ lg_cmp (lN x) 8) ↔ 8 ≤ x := k_ge hx (b := 8) (by omega)
        have a7 : (lg_cmp (lN x) 7 ≤ 0) ↔ x ≤ 7 := k_le hx (b := 7) (by omega)
        obtain ⟨y1, y2⟩ := wire_sim hC (cause_eq hS hQ)
        by_cases z1 : p3 = 1
        · subst z1
          by_cases x8 : 8 ≤ x
          · have e : f_X3_load vS vQ (lN x) 1 = (0, vS, vQ) := by unfold f_X3_load; rw [if_pos (show (1 : Int32) = 1 from rfl), if_neg (fun q => by have := a7.mp q; omega)]
            refine rd_ok (r := 0) ?_ ?_ ⟨hn, hT, y1, hS, hQ, hO, y2⟩
            · unfold f_X5_read
              rw [if_neg c', if_neg d0, if_neg d1, e] <;> rfl
            · unfold f_X6_read
              rw [if_neg c, if_neg d0, if_neg d1, if_pos (show (1 : Int32) = 1 from rfl), if_pos (a8.mpr x8)]
          · obtain ⟨r1, r2, r3⟩ := s_read (x := x) (by omega) hS hQ
            obtain ⟨y1, y2⟩ := wire_sim hC (cause_eq r2 r3)
            refine rd_ok (r := Int32.toInt64 (f_X3_load vS vQ (lN x) 1).1) ?_ ?_ ⟨hn, hT, y1, r2, r3, hO, y2⟩
            · unfold f_X5_read
              rw [if_neg c', if_neg d0, if_neg d1]
            · unfold f_X6_read
              rw [if_neg c, if_neg d0, if_neg d1, if_pos (show (1 : Int32) = 1 from rfl), if_neg (fun q => x8 (a8.mp q)), lN_i, r1]
        · have e : f_X3_load vS vQ (lN x) p3 = (0, vS, vQ) := by unfold f_X3_load; rw [if_neg z1]
          refine rd_ok (r := 0) ?_ ?_ ⟨hn, hT, y1, hS, hQ, hO, y2⟩
          · unfold f_X5_read
            rw [if_neg c', if_neg d0, if_neg d1, e] <;> rfl
          · unfold f_X6_read
            rw [if_neg c, if_neg d0, if_neg d1, if_neg z1]
theorem op_write (p1 : Int32) (p2 : Int64) (p3 : Int32) (p4 : Int64) (hj : j ≤ 600) (h : Inv n j vT vC vS vQ vO mT mC mS mQ mO) :
    (f_X6_write n mT mC mS mQ mO p1 p2 p3 p4).1 = (f_L_write n vT vC vS vQ vO p1 p2 p3 p4).1 ∧
    Inv n (j + 1) (f_L_write n vT vC vS vQ vO p1 p2 p3 p4).2.1 (f_L_write n vT vC vS vQ vO p1 p2 p3 p4).2.2.1 (f_L_write n vT vC vS vQ vO p1 p2 p3 p4).2.2.2.1 (f_L_write n vT vC vS vQ vO p1 p2 p3 p4).2.2.2.2.1 (f_L_write n vT vC vS vQ vO p1 p2 p3 p4).2.2.2.2.2 (f_X6_write n mT mC mS mQ mO p1 p2 p3 p4).2.1 (f_X6_write n mT mC mS mQ mO p1 p2 p3 p4).2.2.1 (f_X6_write n mT mC mS mQ mO p1 p2 p3 p4).2.2.2.1 (f_X6_write n mT mC mS mQ mO p1 p2 p3 p4).2.2.2.2.1 (f_X6_write n mT mC mS mQ mO p1 p2 p3 p4).2.2.2.2.2 := by
  have hOj : SimO j vO mO := h.2.2.2.2.2.1
  obtain ⟨hn, hT, hC, hS, hQ, hO, hl⟩ := op_same h
  have hl' : bt vC.1 10 = true ↔ ¬ f_X6_cause mS mQ = 1 := by rw [← cause_eq hS hQ]; exact hl
  by_cases c : f_X6_isProper p1 p2 p3 = 0
  · refine wr_no ?_ ?_ ⟨hn, hT, hC, hS, hQ, hO, hl⟩
    · unfold f_X5_write
      rw [if_pos (show f_X5_canAccess p1 p2 p3 = 0 by rw [acc_eq]; exact c)]
    · unfold f_X6_write
      rw [if_pos c]
  · obtain ⟨⟨w1, w2⟩, o1, hz⟩ := pr_spec c
    obtain ⟨x, hx, rfl⟩ := pk_lOf o1
    have c' : ¬ f_X5_canAccess p1 (lN x) p3 = 0 := by rw [acc_eq]; exact c
    by_cases d0 : p1 = 0
    · refine wr_ok ?_ ?_ ⟨hn, t_write (v := p4) hx hn hT hz, se_id hC hl', hS, hQ, hO, hl⟩
      · unfold f_X5_write
        rw [if_neg c', if_pos d0]
      · unfold f_X6_write
        rw [if_neg c, if_pos d0]
    · by_cases d1 : p1 = 1
      · by_cases z4 : p3 = 4
        · subst z4
          obtain ⟨r1, r2⟩ := c_write (p4 := p4) hx hn hC hl'
          refine wr_ok ?_ ?_ ⟨hn, hT, r1, hS, hQ, hO, by rw [r2]; exact hl⟩
          · unfold f_X5_write
            rw [if_neg c', if_neg d0, if_pos d1]
          · unfold f_X6_write
            rw [if_neg c, if_neg d0, if_pos d1, if_pos (show (4 : Int32) = 4 from rfl)]
        · have e : f_X0_store n vC (lN x) p3 (Int64.toInt32 p4) = vC := by unfold f_X0_store; rw [if_neg z4]
          refine wr_ok ?_ ?_ ⟨hn, hT, se_id hC hl', hS, hQ, hO, hl⟩
          · unfold f_X5_write
            rw [if_neg c', if_neg d0, if_pos d1, e]
          · unfold f_X6_write
            rw [if_neg c, if_neg d0, if_pos d1, if_neg z4, if_neg (show ¬ p1 = 2 by rw [d1]; decide)]
      · have d2 : p1 = 2 := win_2 w1 w2 d0 d1
        have a8 : (0 ≤ lg_cmp (lN x) 8) ↔ 8 ≤ x := k_ge hx (b := 8) (by omega)
        have a7 : (lg_cmp (lN x) 7 ≤ 0) ↔ x ≤ 7 := k_le hx (b := 7) (by omega)
        obtain ⟨y1, y2⟩ := wire_sim hC (cause_eq hS hQ)
        by_cases z1 : p3 = 1
        · subst z1
          by_cases x8 : 8 ≤ x
          · have e : f_X3_store vS vQ vO (lN x) 1 (Int64.toInt32 (p4 &&& 255)) = (vS, vQ, vO) := by unfold f_X3_store; rw [if_pos (show (1 : Int32) = 1 from rfl), if_neg (fun q => by have := a7.mp q; omega)]
            refine wr_ok ?_ ?_ ⟨hn, hT, y1, hS, hQ, hO, y2⟩
            · unfold f_X5_write
              rw [if_neg c', if_neg d0, if_neg d1, e]
            · unfold f_X6_write
              rw [if_neg c, if_neg d0, if_neg d1, if_pos d2, if_pos (show (1 : Int32) = 1 from rfl), if_pos (a8.mpr x8)]
          · obtain ⟨r1, r2, r3⟩ := s_write (x := x) (by omega) hj (byte_v p4) hS hQ hOj
            obtain ⟨y1, y2⟩ := wire_sim hC (cause_eq r1 r2)
            refine wr_ok ?_ ?_ ⟨hn, hT, y1, r1, r2, r3, y2⟩
            · unfold f_X5_write
              rw [if_neg c', if_neg d0, if_neg d1]
            · unfold f_X6_write
              rw [if_neg c, if_neg d0, if_neg d1, if_pos d2, if_pos (show (1 : Int32) = 1 from rfl), if_neg (fun q => x8 (a8.mp q)), lN_i]
        · have e : f_X3_store vS vQ vO (lN x) p3 (Int64.toInt32 (p4 &&& 255)) = (vS, vQ, vO) := by unfold f_X3_store; rw [if_neg z1]
          refine wr_ok ?_ ?_ ⟨hn, hT, y1, hS, hQ, hO, y2⟩
          · unfold f_X5_write
            rw [if_neg c', if_neg d0, if_neg d1, e]
          · unfold f_X6_write
            rw [if_neg c, if_neg d0, if_neg d1, if_pos d2, if_neg z1]
theorem op_signal (p1 p2 : Int32) (hz : p2 = 0 ∨ p2 = 1) (hj : j ≤ 600) (h : Inv n j vT vC vS vQ vO mT mC mS mQ mO) :
    (f_X6_signal mC mS mQ p1 p2).1 = (f_L_signal vC p1 p2).1 ∧ Inv n (j + 1) vT (f_L_signal vC p1 p2).2 vS vQ vO mT (f_X6_signal mC mS mQ p1 p2).2 mS mQ mO := by
  obtain ⟨hn, hT, hC, hS, hQ, hO, hl⟩ := op_same h
  have hl' : bt vC.1 10 = true ↔ ¬ f_X6_cause mS mQ = 1 := by rw [← cause_eq hS hQ]; exact hl
  have no : f_X5_signal vC p1 p2 = (1, vC) → f_X6_signal mC mS mQ p1 p2 = (1, mC) → (f_X6_signal mC mS mQ p1 p2).1 = (f_L_signal vC p1 p2).1 ∧ Inv n (j + 1) vT (f_L_signal vC p1 p2).2 vS vQ vO mT (f_X6_signal mC mS mQ p1 p2).2 mS mQ mO := by
    intro eV eW
    have eL : f_L_signal vC p1 p2 = (1, vC) := by
      unfold f_L_signal
      rw [eV]
      exact if_pos rfl
    rw [eL, eW]
    exact ⟨rfl, hn, hT, hC, hS, hQ, hO, hl⟩
  rcases src_spec p1 with ⟨c, d⟩ | ⟨s, s1, s2, e, c⟩
  · refine no ?_ ?_
    · unfold f_X5_signal
      by_cases d1 : p1 < 1
      · rw [if_pos d1]
      · rw [if_neg d1, if_pos (d.resolve_left d1)]
    · unfold f_X6_signal
      rw [if_pos c]
  · have n1 : ¬ p1 < 1 := by rw [e]; exact nI_nlt (b := 1) s1 (by omega)
    have n2 : ¬ (32 : Int32) ≤ p1 := by rw [e]; exact nI_ge (b := 32) s2 (by omega)
    by_cases c10 : p1 = 10
    · refine no ?_ ?_
      · unfold f_X5_signal
        rw [if_neg n1, if_neg n2, if_pos c10]
      · unfold f_X6_signal
        rw [if_neg c, if_pos c10]
    · have eV : f_X5_signal vC p1 p2 = (0, f_X0_drive vC p1 p2) := by
        unfold f_X5_signal
        rw [if_neg n1, if_neg n2, if_neg c10]
      have eL : f_L_signal vC p1 p2 = (0, f_X0_drive vC p1 p2) := by
        unfold f_L_signal
        rw [eV]
        exact if_neg (show ¬ (0 : Int32) = 1 by decide)
      have eW : f_X6_signal mC mS mQ p1 p2 = (0, (f_X6_settle ((upd mC.1 s p2), mC.2.1, mC.2.2.1, mC.2.2.2.1, mC.2.2.2.2.1, mC.2.2.2.2.2) mS mQ)) := by
        unfold f_X6_signal
        rw [if_neg c, if_neg c10, e, nI_clamp (by omega)]
        rcases hz with z | z <;> rw [z] <;> rfl
      have s10 : ¬ 10 = s := fun q => c10 (by rw [e, ← q]; rfl)
      rw [eL, eW]
      refine ⟨rfl, hn, hT, ?_, hS, hQ, hO, ?_⟩
      · show SimC n (f_X0_drive vC p1 p2) _
        unfold f_X0_drive
        obtain ⟨h1, h2, h3, h4, h5, h6, h7⟩ := simC_0 hC
        rcases hz with z | z
        · rw [z, if_pos rfl, e]
          refine se_lw ⟨sb_clr s2 h1, h2, h3, h4, h5, h6, h7⟩ ?_
          show bt (vC.1 &&& (((1 : Int32) <<< (nI s &&& 31)) ^^^ (-1))) 10 = true ↔ _
          rw [b_clr s2 (by omega), decide_eq_false s10, Bool.not_false, Bool.and_true]
          exact hl'
        · rw [z, if_neg (by decide), e]
          refine se_lw ⟨sb_set s1 s2 h1, h2, h3, h4, h5, h6, h7⟩ ?_
          show bt (vC.1 ||| ((1 : Int32) <<< (nI s &&& 31))) 10 = true ↔ _
          rw [b_set s2 (by omega), decide_eq_false s10, Bool.or_false]
          exact hl'
      · show bt (f_X0_drive vC p1 p2).1 10 = true ↔ _
        unfold f_X0_drive
        rcases hz with z | z
        · rw [z, if_pos rfl, e]
          show bt (vC.1 &&& (((1 : Int32) <<< (nI s &&& 31)) ^^^ (-1))) 10 = true ↔ _
          rw [b_clr s2 (by omega), decide_eq_false s10, Bool.not_false, Bool.and_true]
          exact hl
        · rw [z, if_neg (by decide), e]
          show bt (vC.1 ||| ((1 : Int32) <<< (nI s &&& 31))) 10 = true ↔ _
          rw [b_set s2 (by omega), decide_eq_false s10, Bool.or_false]
          exact hl
theorem op_come (p1 : Int32) (hj : j ≤ 600) (h : Inv n j vT vC vS vQ vO mT mC mS mQ mO) :
    (f_X5_come vC vS vQ p1).1 = (f_X6_come mC mS mQ p1).1 ∧ Inv n (j + 1) vT (f_X5_come vC vS vQ p1).2.1 (f_X5_come vC vS vQ p1).2.2.1 (f_X5_come vC vS vQ p1).2.2.2 vO mT (f_X6_come mC mS mQ p1).2.2.1 (f_X6_come mC mS mQ p1).2.2.2.1 (f_X6_come mC mS mQ p1).2.2.2.2 mO := by
  obtain ⟨hn, hT, hC, hS, hQ, hO, hl⟩ := op_same h
  obtain ⟨r1, r2, r3⟩ := rc_sim p1 (p1 &&& 255) rfl hS hQ
  obtain ⟨y1, y2⟩ := wire_sim hC (cause_eq r2 r3)
  unfold f_X5_come f_X6_come
  generalize f_X3_receive vS vQ (p1 &&& 255) = A at r1 r2 r3 y1 y2 ⊢
  generalize f_X6_takeIn mS mQ p1 = B at r1 r2 r3 y1 y2 ⊢
  exact ⟨r1, hn, hT, y1, r2, r3, hO, y2⟩
theorem op_room (h : Inv n j vT vC vS vQ vO mT mC mS mQ mO) : f_X5_room vQ = (f_X6_room mS mQ).1 := by
  obtain ⟨_, _, _, _, ⟨e1, hz, x, f, e2, e3, _⟩, _⟩ := h
  unfold f_X5_room f_X1_space f_X6_room f_X6_space
  dsimp only
  rw [e1, e2, e3]
theorem op_pass (p1 : Int64) (h : Inv n j vT vC vS vQ vO mT mC mS mQ mO) : Inv n (j + 1) (f_X5_pass n vT p1) vC vS vQ vO (f_X6_pass mT p1).2 mC mS mQ mO := by
  obtain ⟨a, ⟨t1, t2, t3, t4⟩, c, d, e, f, g⟩ := op_same h
  refine ⟨a, ⟨t1, ?_, ?_, t4⟩, c, d, e, f, g⟩
  · intro h hh
    show vp_updL vT.2 (Int32.toNatClampNeg (nI n)) _ h = _
    rw [nI_clamp (by omega), pk_uLn (by omega)]
    exact t2 h hh
  · show vp_updL vT.2 (Int32.toNatClampNeg (nI n)) _ n = mT.2.2 + p1
    rw [nI_clamp (by omega), pk_uLs, t3]
theorem op_line (vU : Nat → Int64) (p1 p2 : Int32) (h : Inv n j vT vC vS vQ vO mT mC mS mQ mO) :
    (f_X6_line n mT mC p1 p2).2 = (f_L_line n vT vC vU p1 p2).1 ∧ ((f_L_line n vT vC vU p1 p2).1 = 0 → (f_L_line n vT vC vU p1 p2).2 (Int32.toNatClampNeg 0) = if (f_X6_line n mT mC p1 p2).1 = 0 then 0 else 1) := by
  obtain ⟨hn, ⟨t1, t2, t3, t4⟩, hC, _⟩ := h
  have h0 := simC_0 hC
  by_cases c0 : p1 < 0
  · refine ln_no ?_ ?_
    · unfold f_X5_line
      rw [if_pos c0]
    · unfold f_X6_line
      rw [if_pos c0]
  · rcases pk_ix p1 (n := n) (by omega) with c | c | ⟨x, hx, e⟩
    · exact absurd c c0
    · refine ln_no ?_ ?_
      · unfold f_X5_line
        rw [if_neg c0, if_neg (Int32.not_lt.mpr c)]
      · unfold f_X6_line
        rw [if_neg c0, if_pos c]
    · have k1 : p1 < nI n := by rw [e]; exact nI_lt hx (by omega)
      have k2 : ¬ nI n ≤ p1 := by rw [e]; exact nI_ge hx (by omega)
      by_cases p3 : p2 = 3
      · refine ln_ok (r := f_X4_isSoft n vT p1) (s := mT.1 x) ?_ ?_ ?_
        · unfold f_X5_line
          rw [if_neg c0, if_pos k1, if_pos p3]
        · unfold f_X6_line
          rw [if_neg c0, if_neg k2, if_pos p3, e, nI_clamp (by omega)]
        · unfold f_X4_isSoft
          rw [if_neg c0, if_neg k2, e, nI_clamp (by omega), t1 x hx]
          by_cases d : mT.1 x = 0
          · rw [if_pos d]; exact ⟨fun _ => d, fun _ => rfl⟩
          · rw [if_neg d]; exact ⟨fun q => absurd q (by decide), fun q => absurd q d⟩
      · by_cases p7 : p2 = 7
        · refine ln_ok (r := f_X4_isDue n vT p1) (s := if f_X6_isLess mT.2.2 (mT.2.1 x) = 0 then 1 else 0) ?_ ?_ ?_
          · unfold f_X5_line
            rw [if_neg c0, if_pos k1, p7]
            rfl
          · unfold f_X6_line
            rw [if_neg c0, if_neg k2, if_neg p3, if_pos p7, e, nI_clamp (by omega)]
            split <;> rfl
          · unfold f_X4_isDue
            rw [if_neg c0, if_neg k2, e, nI_clamp (n := n) (by omega), nI_clamp (n := x) (by omega), t2 x hx, t3]
            have k := due_eq mT.2.2 (mT.2.1 x)
            by_cases d : f_X6_isLess mT.2.2 (mT.2.1 x) = 0
            · rw [if_neg (fun q => k.mp q d), if_pos d]
            · rw [if_pos (k.mpr d), if_neg d]
        · by_cases p9 : p2 = 9
          · have ec : (2 : Int32) * p1 + 1 = nI (2 * x + 1) := by
              rw [e, show (2 : Int32) = nI 2 from rfl, show (1 : Int32) = nI 1 from rfl, ← nI_add, show nI 2 * nI x = nI (2 * x) from (Int32.ofNat_mul 2 x).symm]
            refine ln_ok (r := f_X0_calls n vC (nI (2 * x + 1))) (s := f_X6_above mC (nI (2 * x + 1))) ?_ ?_ (calls_eq hn h0 (by omega))
            · unfold f_X5_line
              rw [if_neg c0, if_pos k1, p9, ec]
              rfl
            · unfold f_X6_line
              rw [if_neg c0, if_neg k2, if_neg p3, if_neg p7, if_pos p9, ec]
          · by_cases p11 : p2 = 11
            · have ec : (2 : Int32) * p1 = nI (2 * x) := by
                rw [e, show (2 : Int32) = nI 2 from rfl, show nI 2 * nI x = nI (2 * x) from (Int32.ofNat_mul 2 x).symm]
              have ec0 : nI (2 * x) + 0 = nI (2 * x) := Int32.add_zero _
              refine ln_ok (r := f_X0_calls n vC (nI (2 * x))) (s := f_X6_above mC (nI (2 * x))) ?_ ?_ (calls_eq hn h0 (by omega))
              · unfold f_X5_line
                rw [if_neg c0, if_pos k1, p11, ec]
                rfl
              · unfold f_X6_line
                rw [if_neg c0, if_neg k2, if_neg p3, if_neg p7, if_neg p9, if_pos p11, ec, ec0]
            · refine ln_no ?_ ?_
              · unfold f_X5_line
                simp only [if_neg c0, if_pos k1, if_neg p3, if_neg p7, if_neg p9, if_neg p11, ite_self]
              · unfold f_X6_line
                rw [if_neg c0, if_neg k2, if_neg p3, if_neg p7, if_neg p9, if_neg p11]
theorem op_sent (h : Inv n j vT vC vS vQ vO mT mC mS mQ mO) : f_X5_sent vO = (f_X6_sent mO).1 := by
  obtain ⟨_, _, _, _, _, ⟨t, _, e1, e2, _⟩, _⟩ := h
  unfold f_X5_sent f_X6_sent
  dsimp only
  rw [e1, e2]
theorem op_out (p1 : Int64) (hj : j ≤ 600) (h : Inv n j vT vC vS vQ vO mT mC mS mQ mO) : f_X5_out vO p1 = (f_X6_out mO p1).1 := by
  obtain ⟨_, _, _, _, _, ⟨t, ht, e1, e2, e3⟩, _⟩ := h
  unfold f_X5_out f_X2_at f_X6_out
  by_cases c0 : lg_cmp p1 0 < 0
  · rw [if_pos c0, if_pos c0]
  · rw [if_neg c0, if_neg c0, e1, e2]
    rw [lg_cmp_lt] at c0
    obtain ⟨k, hk, rfl⟩ := pk_lOf c0
    have a1 : (0 ≤ lg_cmp (lN k) (lN t)) ↔ t ≤ k := k_ge hk (by omega)
    by_cases c1 : t ≤ k
    · rw [if_pos (a1.mpr c1), if_pos (a1.mpr c1)]
    · have a2 : lg_cmp (lN t - lN k) 4096 ≤ 0 := by
        rw [lN_sub (by omega)]
        exact (k_le (by omega) (b := 4096) (by omega)).mpr (by omega)
      have a3 : 0 ≤ lg_cmp (lN k) (lN t - 4096) := by
        rw [lg_cmp_ge]
        have q : lN t - lN 4096 < 0 := l_subneg (by omega) (by omega)
        rw [Int64.lt_iff_toInt_lt] at q
        rw [Int64.le_iff_toInt_le, pk_lT hk]
        have z0 : (0 : Int64).toInt = 0 := rfl
        have q' : (lN t - 4096).toInt < (0 : Int64).toInt := q
        omega
      rw [if_neg (fun q => c1 (a1.mp q)), if_neg (fun q => c1 (a1.mp q)), if_pos a2, if_pos a3, show lN k &&& 4095 = lN (k % 4096) from g_mask (s := 12) (p := 4096) rfl (by omega) (by omega), show lN k - lN k / 4096 * 4096 = lN (k % 4096) from pk_lRem (b := 4096) (by omega) (by omega) (by omega), lN_i, nI_clamp (by omega), Nat.mod_eq_of_lt (by omega)]
      exact e3 k (by omega)
end
