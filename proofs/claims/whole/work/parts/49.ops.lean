section
variable {n j : Nat} {vT : TS} {vC : CS} {vS : SS} {vQ : QS} {vO : OS} {mT : MTs} {mC : MCs} {mS : MSs} {mQ : MQs} {mO : MOs}
theorem op_processors : f_X5_processors n = (f_X6_processors n).1 := rfl
theorem op_read (vU : Nat → Int64) (p1 : Int32) (p2 : Int64) (p3 : Int32) (hj : j ≤ 600) (h : Inv n j vT vC vS vQ vO mT mC mS mQ mO) :
    (f_X6_read n mT mC mS mQ p1 p2 p3).2.1 = (f_L_read n vT vC vS vQ vU p1 p2 p3).1 ∧ ((f_L_read n vT vC vS vQ vU p1 p2 p3).1 = 0 → (f_L_read n vT vC vS vQ vU p1 p2 p3).2.2.2.2 (Int32.toNatClampNeg 0) = (f_X6_read n mT mC mS mQ p1 p2 p3).1) ∧
    Inv n (j + 1) vT (f_L_read n vT vC vS vQ vU p1 p2 p3).2.1 (f_L_read n vT vC vS vQ vU p1 p2 p3).2.2.1 (f_L_read n vT vC vS vQ vU p1 p2 p3).2.2.2.1 vO mT (f_X6_read n mT mC mS mQ p1 p2 p3).2.2.1 (f_X6_read n mT mC mS mQ p1 p2 p3).2.2.2.1 (f_X6_read n mT mC mS mQ p1 p2 p3).2.2.2.2 mO := sorry
theorem op_write (p1 : Int32) (p2 : Int64) (p3 : Int32) (p4 : Int64) (hj : j ≤ 600) (h : Inv n j vT vC vS vQ vO mT mC mS mQ mO) :
    (f_X6_write n mT mC mS mQ mO p1 p2 p3 p4).1 = (f_L_write n vT vC vS vQ vO p1 p2 p3 p4).1 ∧
    Inv n (j + 1) (f_L_write n vT vC vS vQ vO p1 p2 p3 p4).2.1 (f_L_write n vT vC vS vQ vO p1 p2 p3 p4).2.2.1 (f_L_write n vT vC vS vQ vO p1 p2 p3 p4).2.2.2.1 (f_L_write n vT vC vS vQ vO p1 p2 p3 p4).2.2.2.2.1 (f_L_write n vT vC vS vQ vO p1 p2 p3 p4).2.2.2.2.2 (f_X6_write n mT mC mS mQ mO p1 p2 p3 p4).2.1 (f_X6_write n mT mC mS mQ mO p1 p2 p3 p4).2.2.1 (f_X6_write n mT mC mS mQ mO p1 p2 p3 p4).2.2.2.1 (f_X6_write n mT mC mS mQ mO p1 p2 p3 p4).2.2.2.2.1 (f_X6_write n mT mC mS mQ mO p1 p2 p3 p4).2.2.2.2.2 := sorry
theorem op_signal (p1 p2 : Int32) (hz : p2 = 0 ∨ p2 = 1) (hj : j ≤ 600) (h : Inv n j vT vC vS vQ vO mT mC mS mQ mO) :
    (f_X6_signal mC mS mQ p1 p2).1 = (f_L_signal vC p1 p2).1 ∧ Inv n (j + 1) vT (f_L_signal vC p1 p2).2 vS vQ vO mT (f_X6_signal mC mS mQ p1 p2).2 mS mQ mO := sorry
theorem op_come (p1 : Int32) (hj : j ≤ 600) (h : Inv n j vT vC vS vQ vO mT mC mS mQ mO) :
    (f_X5_come vC vS vQ p1).1 = (f_X6_come mC mS mQ p1).1 ∧ Inv n (j + 1) vT (f_X5_come vC vS vQ p1).2.1 (f_X5_come vC vS vQ p1).2.2.1 (f_X5_come vC vS vQ p1).2.2.2 vO mT (f_X6_come mC mS mQ p1).2.2.1 (f_X6_come mC mS mQ p1).2.2.2.1 (f_X6_come mC mS mQ p1).2.2.2.2 mO := sorry
theorem op_same (h : Inv n j vT vC vS vQ vO mT mC mS mQ mO) : Inv n (j + 1) vT vC vS vQ vO mT mC mS mQ mO := by
  obtain ⟨a, b, c, d, e, ⟨t, ht, f⟩, g⟩ := h
  exact ⟨a, b, c, d, e, ⟨t, by omega, f⟩, g⟩
theorem op_room (h : Inv n j vT vC vS vQ vO mT mC mS mQ mO) : f_X5_room vQ = (f_X6_room mS mQ).1 := by
  obtain ⟨_, _, _, _, ⟨e1, hz, x, f, e2, e3, _⟩, _⟩ := h
  unfold f_X5_room f_X1_space f_X6_room f_X6_space
  dsimp only
  rw [e1, e2, e3]
theorem op_pass (p1 : Int64) (h : Inv n j vT vC vS vQ vO mT mC mS mQ mO) : Inv n (j + 1) (f_X5_pass n vT p1) vC vS vQ vO (f_X6_pass mT p1).2 mC mS mQ mO := by
  obtain ⟨a, ⟨t1, t2, t3, t4⟩, c, d, e, f, g⟩ := op_same h
  refine ⟨a, ⟨t1, ?_, ?_, t4⟩, c, d, e, f, g⟩
  · intro h hh
    show vp_updL vT.2 (Int32.toNatClampNeg (nI n)) _ h = _
    rw [nI_clamp (by omega), pk_uLn (by omega)]
    exact t2 h hh
  · show vp_updL vT.2 (Int32.toNatClampNeg (nI n)) _ n = mT.2.2 + p1
    rw [nI_clamp (by omega), pk_uLs, t3]
theorem op_line (vU : Nat → Int64) (p1 p2 : Int32) (h : Inv n j vT vC vS vQ vO mT mC mS mQ mO) :
    (f_X6_line n mT mC p1 p2).2 = (f_L_line n vT vC vU p1 p2).1 ∧ ((f_L_line n vT vC vU p1 p2).1 = 0 → (f_L_line n vT vC vU p1 p2).2 (Int32.toNatClampNeg 0) = if (f_X6_line n mT mC p1 p2).1 = 0 then 0 else 1) := sorry
theorem op_sent (h : Inv n j vT vC vS vQ vO mT mC mS mQ mO) : f_X5_sent vO = (f_X6_sent mO).1 := by
  obtain ⟨_, _, _, _, _, ⟨t, _, e1, e2, _⟩, _⟩ := h
  unfold f_X5_sent f_X6_sent
  dsimp only
  rw [e1, e2]
theorem op_out (p1 : Int64) (hj : j ≤ 600) (h : Inv n j vT vC vS vQ vO mT mC mS mQ mO) : f_X5_out vO p1 = (f_X6_out mO p1).1 := sorry
end
