def bt (x : Int32) (i : Nat) : Bool := x.toBitVec.getLsbD i
def SimT (n : Nat) (a : TS) (b : MTs) : Prop := (∀ h, h < n → a.1 h = b.1 h) ∧ (∀ h, h < n → a.2 h = b.2.1 h) ∧ a.2 n = b.2.2 ∧ ∀ h, b.1 h = 0 ∨ b.1 h = 1
def SimB (a : Int32) (f : Nat → Int32) : Prop := bt a 0 = false ∧ ∀ s, 1 ≤ s → s < 32 → (bt a s = true ↔ ¬ f s = 0)
def SimC (n : Nat) (a : CS) (b : MCs) : Prop :=
  SimB a.1 b.1 ∧ SimB a.2.1 b.2.1 ∧ SimB a.2.2.1 b.2.2.1 ∧
  (∀ s, s < 32 → a.2.2.2.1 s = b.2.2.2.1 s ∧ ∃ v, v < 8 ∧ a.2.2.2.1 s = nI v) ∧ a.2.2.2.1 0 = 0 ∧
  (∀ c, c < 2 * n → a.2.2.2.2.1 c = b.2.2.2.2.1 c ∧ bt (a.2.2.2.2.1 c) 0 = false) ∧
  (∀ c, c < 2 * n → a.2.2.2.2.2 c = b.2.2.2.2.2 c ∧ ∃ v, v < 8 ∧ a.2.2.2.2.2 c = nI v) ∧
  ∀ s, 1 ≤ s → s < 32 → bt a.1 s = true → bt a.2.2.1 s = false → bt a.2.1 s = true
def SimS (a : SS) (b : MSs) : Prop :=
  (∃ r, r < 16 ∧ a.1 = nI r ∧ b.1 1 = nI r) ∧ (∃ r, r < 256 ∧ a.2.1 = nI r ∧ b.1 3 = nI r) ∧ (∃ r, r < 32 ∧ a.2.2.1 = nI r ∧ b.1 4 = nI r) ∧ a.2.2.2.1 = b.1 7 ∧
  a.2.2.2.2.1 = b.2.1 0 ∧ a.2.2.2.2.2.1 = b.2.1 1 ∧ a.2.2.2.2.2.2.1 = b.2.2.2.1 ∧ a.2.2.2.2.2.2.2 = b.2.2.2.2 ∧ (b.2.2.2.1 = 0 ∨ b.2.2.2.1 = 1) ∧ (b.2.2.2.2 = 0 ∨ b.2.2.2.2 = 1)
def SimQ (q : QS) (b : MSs) (m : MQs) : Prop :=
  q.2.2.2 = b.2.2.1 ∧ (b.2.2.1 = 0 ∨ b.2.2.1 = 1) ∧ ∃ h f, q.2.2.1 = nI h ∧ m.2 = nI h ∧ q.2.1 = nI f ∧ f < 16 ∧ (b.2.2.1 = 0 → h ≤ 1) ∧ h ≤ 16 ∧ ∀ j, j < h → q.1 ((f + j) % 16) = m.1 j
def SimO (j : Nat) (a : OS) (b : MOs) : Prop := ∃ t, t ≤ j ∧ a.2 = lN t ∧ b.2 = lN t ∧ ∀ k, k < t → (a.1 k &&& 255) = b.1 k
def Inv (n j : Nat) (vT : TS) (vC : CS) (vS : SS) (vQ : QS) (vO : OS) (mT : MTs) (mC : MCs) (mS : MSs) (mQ : MQs) (mO : MOs) : Prop :=
  n ≤ 4 ∧ SimT n vT mT ∧ SimC n vC mC ∧ SimS vS mS ∧ SimQ vQ mS mQ ∧ SimO j vO mO ∧ (bt vC.1 10 = true ↔ ¬ f_X3_cause vS vQ = 1)
section
variable {n j : Nat} {vT : TS} {vC : CS} {vS : SS} {vQ : QS} {vO : OS} {mT : MTs} {mC : MCs} {mS : MSs} {mQ : MQs} {mO : MOs}
theorem inv_n (h : Inv n j vT vC vS vQ vO mT mC mS mQ mO) : n ≤ 4 := h.1
theorem inv_q (h : Inv n j vT vC vS vQ vO mT mC mS mQ mO) : vp_in vQ.2.1 16 := by
  obtain ⟨_, _, _, _, ⟨_, _, x, f, _, _, e, hf, _⟩, _⟩ := h
  rw [e]
  exact vp_in_nI hf (by omega)
theorem inv_z (h : Inv n j vT vC vS vQ vO mT mC mS mQ mO) : mS.2.2.2.2 = 0 ∨ mS.2.2.2.2 = 1 := by
  obtain ⟨_, _, _, ⟨_, _, _, _, _, _, _, _, _, z⟩, _⟩ := h
  exact z
theorem inv_m2 (h : Inv n j vT vC vS vQ vO mT mC mS mQ mO) : ∃ k, k ≤ 16 ∧ mQ.2 = nI k := by
  obtain ⟨_, _, _, _, ⟨_, _, x, f, _, e, _, _, _, h6, _⟩, _⟩ := h
  exact ⟨x, h6, e⟩
theorem inv_m (h : Inv n j vT vC vS vQ vO mT mC mS mQ mO) : ¬ f_X6_space mS mQ = 0 → vp_in mQ.2 16 := by
  intro hs
  obtain ⟨_, _, _, _, ⟨_, hz, x, f, _, e, _, _, h1, h6, _⟩, _⟩ := h
  unfold f_X6_space at hs
  rw [e] at hs ⊢
  refine vp_in_nI ?_ (by omega)
  rcases hz with z | z
  · have := h1 z; omega
  · rw [z, if_neg (by decide)] at hs
    rcases Nat.lt_or_ge x 16 with q | q
    · exact q
    · exact absurd (by rw [show x = 16 by omega]; decide) hs
theorem inv_se (hj : j ≤ 600) (h : Inv n j vT vC vS vQ vO mT mC mS mQ mO) : ¬ mO.2 < 0 := by
  obtain ⟨_, _, _, _, _, ⟨t, ht, _, e, _⟩, _⟩ := h
  rw [e, show (0 : Int64) = lN 0 from rfl, pk_lLT (by omega) (by omega)]
  omega
theorem inv_sf (h : Inv n j vT vC vS vQ vO mT mC mS mQ mO) : ∀ k, mT.1 k = 0 ∨ mT.1 k = 1 := h.2.1.2.2.2
end
