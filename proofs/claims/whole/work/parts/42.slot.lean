theorem l_subneg {x f : Nat} (hf : f < 2 ^ 63) (h : x < f) : lN x - lN f < 0 := by
  rw [Int64.lt_iff_toInt_lt, Int64.toInt_sub, pk_lT (by omega), pk_lT hf]
  have z : (0 : Int64).toInt = 0 := rfl
  rw [z, Int.bmod_eq_of_le (by omega) (by omega)]
  omega
theorem l_shrN {d k : Nat} (hd : d < 2 ^ 63) (hk : k < 64) : lN d >>> ((nI k).toInt64 &&& 63) = lN (d / 2 ^ k) := by
  have h2 : d / 2 ^ k ≤ d := Nat.div_le_self _ _
  have h3 : (((nI k).toInt64 &&& 63).toBitVec.smod 64).toNat = k := by
    rw [wb_c k hk, wb_tb, wb_sm k hk, BitVec.toNat_ofNat, Nat.mod_eq_of_lt (by omega)]
  apply Int64.toInt_inj.mp
  rw [l_shr, h3, Int.shiftRight_eq_div_pow, pk_lT hd, pk_lT (by omega)]
  rfl
theorem slot_eq {x f k N : Nat} (hx : x < 2 ^ 63) (hf : f < 2 ^ 63) (hk : k < 63) (hN : N < 2 ^ 31) :
    f_X5_slotAt (lN x) (lN f) (nI k) (nI N) = if f ≤ x ∧ (x - f) % 2 ^ k = 0 ∧ (x - f) / 2 ^ k < N then nI ((x - f) / 2 ^ k) else -1 := by
  unfold f_X5_slotAt
  rcases Nat.lt_or_ge x f with h | h
  · rw [if_pos (by rw [lg_cmp_lt]; exact l_subneg hf h), if_neg (by omega)]
  · have hd : (x - f) / 2 ^ k ≤ x - f := Nat.div_le_self _ _
    rw [lN_sub h, l_shrN (by omega) (by omega), wb_shl _ (by omega), nI_l hN, lN_i]
    rw [if_neg (by rw [lg_cmp_lt, show (0 : Int64) = lN 0 from rfl, pk_lLT (by omega) (by omega)]; omega)]
    have hm : (x - f) / 2 ^ k * 2 ^ k ≤ x - f := Nat.div_mul_le_self _ _
    have hdm := Nat.div_add_mod (x - f) (2 ^ k)
    rw [Nat.mul_comm] at hdm
    by_cases c2 : (x - f) / 2 ^ k < N
    · rw [if_neg (by rw [lg_cmp_ge, pk_lLE (by omega) (by omega)]; omega)]
      by_cases c3 : (x - f) % 2 ^ k = 0
      · rw [if_pos (by rw [lg_cmp_eq, pk_lEQ (by omega) (by omega)]; omega), if_pos ⟨h, c3, c2⟩]
      · rw [if_neg (by rw [lg_cmp_eq, pk_lEQ (by omega) (by omega)]; omega), if_neg (fun q => c3 q.2.1)]
    · rw [if_pos (by rw [lg_cmp_ge, pk_lLE (by omega) (by omega)]; omega), if_neg (fun q => c2 q.2.2)]
theorem ctx_eq {x f T n : Nat} (hx : x < 2 ^ 63) (hf : f < 2 ^ 63) (hT0 : 0 < T) (hT : T < 2 ^ 63) (hn : n ≤ 4) :
    f_X6_contextAt n (lN x) (lN f) (lN T) = if f ≤ x ∧ (x - f) % T = 0 ∧ (x - f) / T < 2 * n then nI ((x - f) / T) else -1 := by
  unfold f_X6_contextAt
  rcases Nat.lt_or_ge x f with h | h
  · rw [if_pos (by rw [lg_cmp_lt, pk_lLT hx hf]; exact h), if_neg (by omega)]
  · have hd : (x - f) / T ≤ x - f := Nat.div_le_self _ _
    rw [if_neg (by rw [lg_cmp_lt, pk_lLT hx hf]; omega), lN_sub h, pk_lRem (by omega) hT0 hT, pk_lDiv (by omega) hT0 hT, nI_l (by omega), show (2 : Int64) = lN 2 from rfl, lN_mul, lN_i]
    have hm : (x - f) % T < T := Nat.mod_lt _ hT0
    by_cases c3 : (x - f) % T = 0
    · rw [if_pos (by rw [lg_cmp_eq, show (0 : Int64) = lN 0 from rfl, pk_lEQ (by omega) (by omega)]; exact c3)]
      by_cases c2 : (x - f) / T < 2 * n
      · rw [if_neg (by rw [lg_cmp_ge, pk_lLE (by omega) (by omega)]; omega), if_pos ⟨h, c3, c2⟩]
      · rw [if_pos (by rw [lg_cmp_ge, pk_lLE (by omega) (by omega)]; omega), if_neg (fun q => c2 q.2.2)]
    · rw [if_neg (by rw [lg_cmp_eq, show (0 : Int64) = lN 0 from rfl, pk_lEQ (by omega) (by omega)]; exact c3), if_neg (fun q => c3 q.2.1)]
theorem slot_ctx {x f k n : Nat} (hx : x < 2 ^ 63) (hf : f < 2 ^ 63) (hk : k < 63) (hn : n ≤ 4) : f_X5_slotAt (lN x) (lN f) (nI k) (nI (2 * n)) = f_X6_contextAt n (lN x) (lN f) (lN (2 ^ k)) := by
  rw [slot_eq hx hf hk (by omega), ctx_eq hx hf (Nat.pow_pos (by omega)) (wb_lt2 (by omega)) hn]
