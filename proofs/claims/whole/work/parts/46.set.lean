def SimC0 (n : Nat) (a : CS) (b : MCs) : Prop :=
  SimB a.1 b.1 ∧ SimB a.2.1 b.2.1 ∧ SimB a.2.2.1 b.2.2.1 ∧
  (∀ s, s < 32 → a.2.2.2.1 s = b.2.2.2.1 s ∧ ∃ v, v < 8 ∧ a.2.2.2.1 s = nI v) ∧ a.2.2.2.1 0 = 0 ∧
  (∀ c, c < 2 * n → a.2.2.2.2.1 c = b.2.2.2.2.1 c ∧ bt (a.2.2.2.2.1 c) 0 = false) ∧
  (∀ c, c < 2 * n → a.2.2.2.2.2 c = b.2.2.2.2.2 c ∧ ∃ v, v < 8 ∧ a.2.2.2.2.2 c = nI v)
def Clo (a : CS) : Prop := ∀ s, 1 ≤ s → s < 32 → bt a.1 s = true → bt a.2.2.1 s = false → bt a.2.1 s = true
theorem simC_of {n : Nat} {a : CS} {b : MCs} (h : SimC0 n a b) (k : Clo a) : SimC n a b := by
  obtain ⟨h1, h2, h3, h4, h5, h6, h7⟩ := h
  exact ⟨h1, h2, h3, h4, h5, h6, h7, k⟩
theorem simC_0 {n : Nat} {a : CS} {b : MCs} (h : SimC n a b) : SimC0 n a b := by
  obtain ⟨h1, h2, h3, h4, h5, h6, h7, _⟩ := h
  exact ⟨h1, h2, h3, h4, h5, h6, h7⟩
theorem simC_c {n : Nat} {a : CS} {b : MCs} (h : SimC n a b) : Clo a := by
  obtain ⟨h1, h2, h3, h4, h5, h6, h7, k⟩ := h
  exact k
theorem b_1 : ∀ i, i < 32 → bt 1 i = decide (i = 0) := by decide +kernel
theorem b_bit {s i : Nat} (hs : s < 32) (hi : i < 32) : bt ((1 : Int32) <<< (nI s &&& 31)) i = decide (i = s) := by
  rw [b_shl s hs _ hi, b_1 (i - s) (by omega)]
  by_cases c : i = s
  · subst c; simp
  · by_cases d : s ≤ i
    · rw [decide_eq_true d, decide_eq_false (show ¬ i - s = 0 by omega), decide_eq_false c]; rfl
    · rw [decide_eq_false d, decide_eq_false c]; rfl
theorem b_not (x : Int32) {i : Nat} (hi : i < 32) : bt (x ^^^ (-1)) i = !bt x i := by
  rw [b_xor, b_m1 i hi, Bool.xor_true]
theorem b_has {O : Int32} {s : Nat} (hs : s < 32) : ((O &&& ((1 : Int32) <<< (nI s &&& 31))) = 0) ↔ bt O s = false := by
  constructor
  · intro h
    have h2 : bt (O &&& ((1 : Int32) <<< (nI s &&& 31))) s = bt 0 s := by rw [h]
    rw [b_and, b_bit hs hs, decide_eq_true rfl, Bool.and_true, b_0] at h2
    exact h2
  · intro h
    apply b_ext
    intro i hi
    rw [b_and, b_bit hs hi, b_0]
    by_cases c : i = s
    · subst c; rw [h]; rfl
    · rw [decide_eq_false c, Bool.and_false]
theorem st_spec (sg sv : Nat → Int32) : ∀ k i w s, st_go sg sv k i w s = if i ≤ s ∧ s < i + k then (if w s = 0 then (if sg s = 0 then 0 else if sv s = 0 then 1 else 0) else 1) else w s
  | 0, i, w, s => by rw [if_neg (by omega)]; rfl
  | k + 1, i, w, s => by
    show st_go sg sv k (i + 1) (upd w i _) s = _
    rw [st_spec sg sv k (i + 1)]
    by_cases c : s = i
    · subst c
      rw [if_neg (show ¬ (s + 1 ≤ s ∧ s < s + 1 + k) by omega), if_pos (show s ≤ s ∧ s < s + (k + 1) by omega), pk_us]
      by_cases c1 : w s = 0
      · rw [if_pos c1]
        by_cases c2 : sg s = 0
        · rw [if_pos c2]; rfl
        · rw [if_neg c2]
          by_cases c3 : sv s = 0
          · rw [if_pos c3]; rfl
          · rw [if_neg c3]; rfl
      · rw [if_neg c1]; rfl
    · rw [pk_un c]
      by_cases d : i + 1 ≤ s ∧ s < i + 1 + k
      · rw [if_pos d, if_pos (show i ≤ s ∧ s < i + (k + 1) by omega)]
      · rw [if_neg d, if_neg (show ¬ (i ≤ s ∧ s < i + (k + 1)) by omega)]
theorem lw_bit {x w v : Int32} {s : Nat} (hs : s < 32) : bt (w ||| (x &&& (v ^^^ (-1)))) s = (bt w s || (bt x s && !bt v s)) := by rw [b_or, b_and, b_not _ hs]
theorem lw_logic {w x v : Bool} {W X V : Int32} (e1 : w = true ↔ ¬ W = 0) (e2 : x = true ↔ ¬ X = 0) (e3 : v = true ↔ ¬ V = 0) : ((w || (x && !v)) = true ↔ ¬ (if W = 0 then (if X = 0 then (0 : Int32) else if V = 0 then 1 else 0) else 1) = 0) := by
  by_cases p : W = 0 <;> by_cases q : X = 0 <;> by_cases r : V = 0 <;> simp_all
theorem se_sim {n : Nat} {a : CS} {b : MCs} {mS : MSs} {mQ : MQs} {x : Int32} (h0 : bt x 0 = false)
    (h1 : ∀ s, 1 ≤ s → s < 32 → s ≠ 10 → (bt x s = true ↔ ¬ b.1 s = 0)) (h2 : bt x 10 = true ↔ ¬ f_X6_cause mS mQ = 1) (hC : SimC0 n a b) :
    SimC n (f_X0_letWait (x, a.2)) (f_X6_settle b mS mQ) := by
  obtain ⟨_, ⟨w0, w1⟩, ⟨v0, v1⟩, c4, c5, c6, c7⟩ := hC
  have key : ∀ z : Int32, (bt x 10 = true ↔ ¬ z = 0) → SimC n (f_X0_letWait (x, a.2)) ((upd b.1 10 z), (st_go (upd b.1 10 z) b.2.2.1 31 1 b.2.1), b.2.2.1, b.2.2.2.1, b.2.2.2.2.1, b.2.2.2.2.2) := by
    intro z hz
    have hx : ∀ s, 1 ≤ s → s < 32 → (bt x s = true ↔ ¬ upd b.1 10 z s = 0) := by
      intro s hs1 hs2
      by_cases c : s = 10
      · subst c; rw [pk_us]; exact hz
      · rw [pk_un c]; exact h1 s hs1 hs2 c
    refine ⟨⟨h0, hx⟩, ⟨?_, ?_⟩, ⟨v0, v1⟩, c4, c5, c6, c7, ?_⟩
    · show bt (a.2.1 ||| (x &&& (a.2.2.1 ^^^ (-1)))) 0 = false
      rw [lw_bit (by omega), w0, h0]; rfl
    · intro s hs1 hs2
      show bt (a.2.1 ||| (x &&& (a.2.2.1 ^^^ (-1)))) s = true ↔ ¬ st_go _ _ 31 1 _ s = 0
      rw [lw_bit hs2, st_spec, if_pos (by omega)]
      exact lw_logic (w1 s hs1 hs2) (hx s hs1 hs2) (v1 s hs1 hs2)
    · intro s hs1 hs2
      show bt x s = true → bt a.2.2.1 s = false → bt (a.2.1 ||| (x &&& (a.2.2.1 ^^^ (-1)))) s = true
      intro q1 q2
      rw [lw_bit hs2, q1, q2, Bool.not_false, Bool.and_true, Bool.or_true]
  unfold f_X6_settle
  rw [show Int32.toNatClampNeg 10 = 10 from rfl, show vp_nar .boolean 0 = 0 from rfl, show vp_nar .boolean 1 = 1 from rfl]
  by_cases c : f_X6_cause mS mQ = 1
  · rw [if_pos c]; exact key 0 (by rw [h2]; simp [c])
  · rw [if_neg c]; exact key 1 (by rw [h2]; simp [c])
theorem lw_same {a : CS} (h0 : bt a.1 0 = false) (h : Clo a) : f_X0_letWait a = a := by
  unfold f_X0_letWait
  have e : a.2.1 ||| (a.1 &&& (a.2.2.1 ^^^ (-1))) = a.2.1 := by
    apply b_ext
    intro i hi
    rw [lw_bit hi]
    by_cases c : i = 0
    · subst c; rw [h0]; simp
    · cases q1 : bt a.1 i
      · simp
      · cases q2 : bt a.2.2.1 i
        · rw [h i (by omega) hi q1 q2]; rfl
        · simp
  rw [e]
theorem se_lw {n : Nat} {a : CS} {b : MCs} {mS : MSs} {mQ : MQs} (hC : SimC0 n a b) (h2 : bt a.1 10 = true ↔ ¬ f_X6_cause mS mQ = 1) : SimC n (f_X0_letWait a) (f_X6_settle b mS mQ) :=
  se_sim (x := a.1) hC.1.1 (fun s p q _ => hC.1.2 s p q) h2 hC
theorem se_id {n : Nat} {a : CS} {b : MCs} {mS : MSs} {mQ : MQs} (hC : SimC n a b) (h2 : bt a.1 10 = true ↔ ¬ f_X6_cause mS mQ = 1) : SimC n a (f_X6_settle b mS mQ) := by
  have k := se_lw (simC_0 hC) h2
  rw [lw_same hC.1.1 (simC_c hC)] at k
  exact k
theorem b_clr {x : Int32} {s i : Nat} (hs : s < 32) (hi : i < 32) : bt (x &&& (((1 : Int32) <<< (nI s &&& 31)) ^^^ (-1))) i = (bt x i && !decide (i = s)) := by
  rw [b_and, b_not _ hi, b_bit hs hi]
theorem b_set {x : Int32} {s i : Nat} (hs : s < 32) (hi : i < 32) : bt (x ||| ((1 : Int32) <<< (nI s &&& 31))) i = (bt x i || decide (i = s)) := by
  rw [b_or, b_bit hs hi]
theorem sb_clr {x : Int32} {f : Nat → Int32} {s : Nat} (hs : s < 32) (h : SimB x f) : SimB (x &&& (((1 : Int32) <<< (nI s &&& 31)) ^^^ (-1))) (upd f s 0) := by
  refine ⟨by rw [b_clr hs (by omega), h.1]; rfl, ?_⟩
  intro i h1 h2
  rw [b_clr hs h2]
  by_cases c : i = s
  · subst c; rw [pk_us]; simp
  · rw [pk_un c, decide_eq_false c, Bool.not_false, Bool.and_true]; exact h.2 i h1 h2
theorem sb_set {x : Int32} {f : Nat → Int32} {s : Nat} (h0 : 1 ≤ s) (hs : s < 32) (h : SimB x f) : SimB (x ||| ((1 : Int32) <<< (nI s &&& 31))) (upd f s 1) := by
  refine ⟨by rw [b_set hs (by omega), h.1, decide_eq_false (by omega)]; rfl, ?_⟩
  intro i h1 h2
  rw [b_set hs h2]
  by_cases c : i = s
  · subst c; rw [pk_us]; simp
  · rw [pk_un c, decide_eq_false c, Bool.or_false]; exact h.2 i h1 h2
theorem wire_sim {n : Nat} {a : CS} {b : MCs} {vS : SS} {vQ : QS} {mS : MSs} {mQ : MQs} (hC : SimC n a b) (h : f_X3_cause vS vQ = f_X6_cause mS mQ) :
    SimC n (f_X5_wireSerial a vS vQ) (f_X6_settle b mS mQ) ∧ (bt (f_X5_wireSerial a vS vQ).1 10 = true ↔ ¬ f_X3_cause vS vQ = 1) := by
  have h0 := simC_0 hC
  have b0 := h0.1.1
  unfold f_X5_wireSerial
  by_cases c : f_X3_cause vS vQ = 1
  · rw [if_pos c]
    unfold f_X0_drive
    rw [if_pos rfl]
    have e : bt (a.1 &&& (((1 : Int32) <<< ((10 : Int32) &&& 31)) ^^^ (-1))) 10 = false := by
      rw [show (10 : Int32) = nI 10 from rfl, b_clr (by omega) (by omega)]; simp
    refine ⟨?_, ?_⟩
    · refine se_sim (a := a) ?_ ?_ ?_ h0
      · rw [show (10 : Int32) = nI 10 from rfl, b_clr (by omega) (by omega), b0]; rfl
      · intro s p q r
        rw [show (10 : Int32) = nI 10 from rfl, b_clr (by omega) q, decide_eq_false r, Bool.not_false, Bool.and_true]
        exact h0.1.2 s p q
      · rw [e, ← h, c]; simp
    · show bt (a.1 &&& (((1 : Int32) <<< ((10 : Int32) &&& 31)) ^^^ (-1))) 10 = true ↔ _
      rw [e]; simp [c]
  · rw [if_neg c]
    unfold f_X0_drive
    rw [if_neg (by decide)]
    have e : bt (a.1 ||| ((1 : Int32) <<< ((10 : Int32) &&& 31))) 10 = true := by
      rw [show (10 : Int32) = nI 10 from rfl, b_set (by omega) (by omega)]; simp
    refine ⟨?_, ?_⟩
    · refine se_sim (a := a) ?_ ?_ ?_ h0
      · rw [show (10 : Int32) = nI 10 from rfl, b_set (by omega) (by omega), b0]; rfl
      · intro s p q r
        rw [show (10 : Int32) = nI 10 from rfl, b_set (by omega) q, decide_eq_false r, Bool.or_false]
        exact h0.1.2 s p q
      · rw [e, ← h]; simp [c]
    · show bt (a.1 ||| ((1 : Int32) <<< ((10 : Int32) &&& 31))) 10 = true ↔ _
      rw [e]; simp [c]
