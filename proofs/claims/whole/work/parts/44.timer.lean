theorem soft_eq {x n : Nat} (hx : x < 2 ^ 63) (hn : n ≤ 4) : f_X4_softAt n (lN x) 4 = if x % 4 = 0 ∧ x / 4 < n then nI (x / 4) else -1 := by
  unfold f_X4_softAt
  rw [if_pos rfl]
  have h := slot_eq (x := x) (f := 0) (k := 2) (N := n) hx (by omega) (by omega) (by omega)
  rw [Nat.sub_zero, show 2 ^ 2 = 4 from rfl] at h
  refine Eq.trans h ?_
  by_cases c : x % 4 = 0 ∧ x / 4 < n
  · rw [if_pos ⟨Nat.zero_le _, c⟩, if_pos c]
  · rw [if_neg (fun q => c q.2), if_neg c]
theorem soft_ne {x n : Nat} {z : Int32} (h : ¬ z = 4) : f_X4_softAt n (lN x) z = -1 := by
  unfold f_X4_softAt
  rw [if_neg h]
theorem k_lt {a b : Nat} (ha : a < 2 ^ 63) (hb : b < 2 ^ 63) : (lg_cmp (lN a) (lN b) < 0) ↔ a < b := by rw [lg_cmp_lt, pk_lLT ha hb]
theorem k_ge {a b : Nat} (ha : a < 2 ^ 63) (hb : b < 2 ^ 63) : (0 ≤ lg_cmp (lN a) (lN b)) ↔ b ≤ a := by rw [lg_cmp_ge, pk_lLE hb ha]
theorem k_le {a b : Nat} (ha : a < 2 ^ 63) (hb : b < 2 ^ 63) : (lg_cmp (lN a) (lN b) ≤ 0) ↔ a ≤ b := by rw [lg_cmp_le, pk_lLE ha hb]
theorem k_eq {a b : Nat} (ha : a < 2 ^ 63) (hb : b < 2 ^ 63) : (lg_cmp (lN a) (lN b) = 0) ↔ a = b := by rw [lg_cmp_eq, pk_lEQ ha hb]
theorem eightAt_eq {x n : Nat} (hx : x < 2 ^ 63) (hn : n ≤ 4) : f_X6_eightAt n (lN x) = if 49144 ≤ x ∧ x < 49152 then nI n else if 16384 ≤ x ∧ x < 16384 + 8 * n then nI ((x - 16384) / 8) else -1 := by
  have e1 : (16384 : Int64) + (8 : Int64) * (Int32.toInt64 (nI n)) = lN (16384 + 8 * n) := by
    rw [nI_l (by omega), show (16384 : Int64) = lN 16384 from rfl, show (8 : Int64) = lN 8 from rfl, lN_mul, lN_add]
  have a1 : (lg_cmp (lN x) 49144 < 0) ↔ x < 49144 := k_lt hx (b := 49144) (by omega)
  have a2 : (0 ≤ lg_cmp (lN x) 49152) ↔ 49152 ≤ x := k_ge hx (b := 49152) (by omega)
  have a3 : (lg_cmp (lN x) 16384 < 0) ↔ x < 16384 := k_lt hx (b := 16384) (by omega)
  have a4 : (0 ≤ lg_cmp (lN x) (lN (16384 + 8 * n))) ↔ 16384 + 8 * n ≤ x := k_ge hx (by omega)
  have a5 : 16384 ≤ x → Int64.toInt32 ((lN x - 16384) / 8) = nI ((x - 16384) / 8) := by
    intro h
    rw [show (16384 : Int64) = lN 16384 from rfl, show (8 : Int64) = lN 8 from rfl, lN_sub h, pk_lDiv (by omega) (by omega) (by omega), lN_i]
  have low : (if x < 16384 then (-1 : Int32) else if 16384 + 8 * n ≤ x then (-1) else (Int64.toInt32 ((lN x - 16384) / 8))) = if 16384 ≤ x ∧ x < 16384 + 8 * n then nI ((x - 16384) / 8) else -1 := by
    by_cases c1 : x < 16384
    · rw [if_pos c1, if_neg (by omega)]
    · rw [if_neg c1]
      by_cases c2 : 16384 + 8 * n ≤ x
      · rw [if_pos c2, if_neg (by omega)]
      · rw [if_neg c2, if_pos (by omega), a5 (by omega)]
  unfold f_X6_eightAt
  rw [e1]
  simp only [a1, a2, a3, a4]
  rw [low]
  by_cases c1 : x < 49144
  · rw [if_pos c1, if_neg (c := 49144 ≤ x ∧ x < 49152) (by omega)]
  · rw [if_neg c1]
    by_cases c2 : 49152 ≤ x
    · rw [if_pos c2, if_neg (c := 49144 ≤ x ∧ x < 49152) (by omega)]
    · rw [if_neg c2, if_pos (by omega)]
theorem m7 {x : Nat} (hx : x < 2 ^ 63) : lN x &&& 7 = lN (x % 8) := g_mask (s := 3) (p := 8) rfl (by omega) (by omega)
theorem m3 {x : Nat} (hx : x < 2 ^ 63) : lN x &&& 3 = lN (x % 4) := g_mask (s := 2) (p := 4) rfl (by omega) (by omega)
theorem m8 {x : Nat} (hx : x < 2 ^ 63) : lN x &&& (-8) = lN (x - x % 8) := by
  rw [show (-8 : Int64) = 7 ^^^ (-1) by decide, l_and_not, m7 hx, lN_sub (Nat.mod_le _ _)]
theorem l_zero {x : Nat} (hx : x < 2 ^ 63) : (lg_cmp (lN x) 0 = 0) ↔ x = 0 := by
  rw [lg_cmp_eq, show (0 : Int64) = lN 0 from rfl, pk_lEQ hx (by omega)]
theorem wide_base {x n : Nat} (hx : x < 2 ^ 63) (hn : n ≤ 4) : (if (lg_cmp (lN x &&& (-8)) 49144) = 0 then (nI n) else (f_X5_slotAt (lN x &&& (-8)) 16384 3 (nI n))) = f_X6_eightAt n (lN x) := by
  have h8 : x % 8 < 8 := Nat.mod_lt _ (by omega)
  have hs := slot_eq (x := x - x % 8) (f := 16384) (k := 3) (N := n) (by omega) (by omega) (by omega) (by omega)
  have hs2 : f_X5_slotAt (lN (x - x % 8)) 16384 3 (nI n) = _ := hs
  have a1 : (lg_cmp (lN (x - x % 8)) 49144 = 0) ↔ x - x % 8 = 49144 := k_eq (by omega) (b := 49144) (by omega)
  rw [m8 hx, hs2, eightAt_eq hx hn, show 2 ^ 3 = 8 from rfl]
  by_cases c1 : x - x % 8 = 49144
  · rw [if_pos (a1.mpr c1), if_pos (by omega)]
  · rw [if_neg (fun q => c1 (a1.mp q)), if_neg (c := 49144 ≤ x ∧ x < 49152) (by omega)]
    by_cases c2 : 16384 ≤ x ∧ x < 16384 + 8 * n
    · rw [if_pos c2, if_pos (by omega), show (x - x % 8 - 16384) / 8 = (x - 16384) / 8 by omega]
    · rw [if_neg c2, if_neg (by omega)]
theorem wide_8 {x n : Nat} (hx : x < 2 ^ 63) (hn : n ≤ 4) : f_X4_wideAt n (lN x) 8 = if x % 8 = 0 then f_X6_eightAt n (lN x) else -1 := by
  have h8 : x % 8 < 8 := Nat.mod_lt _ (by omega)
  have a1 : (lg_cmp (lN x &&& 7) 0 = 0) ↔ x % 8 = 0 := by rw [m7 hx]; exact l_zero (by omega)
  unfold f_X4_wideAt
  rw [if_pos rfl]
  by_cases c : x % 8 = 0
  · rw [if_pos (a1.mpr c), if_neg (by decide), wide_base hx hn, if_pos c]
  · rw [if_neg (fun q => c (a1.mp q)), if_neg (by decide), if_neg c]
theorem wide_4 {x n : Nat} (hx : x < 2 ^ 63) (hn : n ≤ 4) : f_X4_wideAt n (lN x) 4 = if x % 4 = 0 then f_X6_eightAt n (lN x) else -1 := by
  have h4 : x % 4 < 4 := Nat.mod_lt _ (by omega)
  unfold f_X4_wideAt
  rw [if_neg (by decide), if_pos rfl, wide_base hx hn, m3 hx]
  by_cases c : x % 4 = 0
  · rw [if_pos ((l_zero (by omega)).mpr c), if_pos c]
  · rw [if_neg (fun q => c ((l_zero (by omega)).mp q)), if_neg c]
theorem wide_ne {x n : Nat} {z : Int32} (h8 : ¬ z = 8) (h4 : ¬ z = 4) : f_X4_wideAt n (lN x) z = -1 := by
  unfold f_X4_wideAt
  rw [if_neg h8, if_neg h4]
theorem upper_eq {x : Nat} (hx : x < 2 ^ 63) (h4 : x % 4 = 0) : (f_X4_isUpperHalf (lN x) = 0) ↔ x % 8 = 0 := by
  have e : lN x &&& 4 = lN (x &&& 4) := wb_and (b := 4) (by omega) (by omega)
  have t : (x &&& 4) = 0 ↔ x % 8 = 0 := by
    have h := Nat.testBit_eq_decide_div_mod_eq (x := x) (i := 2)
    constructor
    · intro q
      have h2 : (x &&& 4).testBit 2 = false := by rw [q]; rfl
      rw [Nat.testBit_and, h, show (4 : Nat).testBit 2 = true from rfl, Bool.and_true, decide_eq_false_iff_not, show 2 ^ 2 = 4 from rfl] at h2
      omega
    · intro q
      apply Nat.eq_of_testBit_eq
      intro i
      rw [Nat.testBit_and, Nat.zero_testBit]
      by_cases c : i = 2
      · subst c
        rw [h, decide_eq_false (by rw [show 2 ^ 2 = 4 from rfl]; omega)]
        rfl
      · rw [show (4 : Nat).testBit i = false from by rw [show 4 = 2 ^ 2 from rfl, Nat.testBit_two_pow_of_ne (fun q => c q.symm)], Bool.and_false]
  have hlt : x &&& 4 ≤ 4 := Nat.and_le_right
  unfold f_X4_isUpperHalf
  rw [e]
  by_cases c : (x &&& 4) = 0
  · rw [if_pos ((l_zero (by omega)).mpr c)]
    exact ⟨fun _ => t.mp c, fun _ => rfl⟩
  · rw [if_neg (fun q => c ((l_zero (by omega)).mp q))]
    exact ⟨fun q => absurd q (by decide), fun q => absurd (t.mpr q) c⟩
theorem eight_eq {n : Nat} {a : TS} {b : MTs} {E : Int32} (hn : n ≤ 4) (h : SimT n a b) (hE : vp_in E (n + 1)) : a.2 (Int32.toNatClampNeg E) = f_X6_eight n b E := by
  obtain ⟨_, t2, t3, _⟩ := h
  obtain ⟨j, hj, rfl⟩ := vp_in_of hE (by omega)
  unfold f_X6_eight
  rw [nI_clamp (by omega)]
  by_cases c : j = n
  · subst c; rw [if_pos rfl]; exact t3
  · rw [if_neg (fun q => c ((nI_eq (by omega) (by omega)).mp q))]
    exact t2 j (by omega)
