theorem ei_spec {x n : Nat} (hx : x < 2 ^ 63) (hn : n ≤ 4) : f_X6_eightAt n (lN x) = -1 ∨ ∃ j, j ≤ n ∧ f_X6_eightAt n (lN x) = nI j := by
  rw [eightAt_eq hx hn]
  by_cases c1 : 49144 ≤ x ∧ x < 49152
  · rw [if_pos c1]; exact .inr ⟨n, Nat.le_refl _, rfl⟩
  · rw [if_neg c1]
    by_cases c2 : 16384 ≤ x ∧ x < 16384 + 8 * n
    · rw [if_pos c2]; exact .inr ⟨_, by omega, rfl⟩
    · rw [if_neg c2]; exact .inl rfl
theorem ei_low {x n : Nat} (hx : x < 2 ^ 63) (hn : n ≤ 4) (h : x < 4 * n) : f_X6_eightAt n (lN x) = -1 := by
  rw [eightAt_eq hx hn, if_neg (by omega), if_neg (by omega)]
theorem rem_l {x m : Nat} (hx : x < 2 ^ 63) (h0 : 0 < m) (hm : m < 2 ^ 63) : (lg_cmp (lN x - lN x / lN m * lN m) 0 = 0) ↔ x % m = 0 := by
  have := Nat.mod_lt x h0
  rw [pk_lRem hx h0 hm]
  exact l_zero (by omega)
theorem rem_8i {x : Nat} (hx : x < 2 ^ 63) : (lg_cmp (lN x - lN x / (Int32.toInt64 8) * (Int32.toInt64 8)) 0 = 0) ↔ x % 8 = 0 := by
  rw [show Int32.toInt64 8 = lN 8 by decide]
  exact rem_l hx (by omega) (by omega)
theorem rem_4i {x : Nat} (hx : x < 2 ^ 63) : (lg_cmp (lN x - lN x / (Int32.toInt64 4) * (Int32.toInt64 4)) 0 = 0) ↔ x % 4 = 0 := by
  rw [show Int32.toInt64 4 = lN 4 by decide]
  exact rem_l hx (by omega) (by omega)
theorem rem_8 {x : Nat} (hx : x < 2 ^ 63) : (lg_cmp (lN x - lN x / 8 * 8) 0 = 0) ↔ x % 8 = 0 := rem_l (m := 8) hx (by omega) (by omega)
theorem rem_4 {x : Nat} (hx : x < 2 ^ 63) : (lg_cmp (lN x - lN x / 4 * 4) 0 = 0) ↔ x % 4 = 0 := rem_l (m := 4) hx (by omega) (by omega)
theorem div_4 {x : Nat} (hx : x < 2 ^ 63) (h : x < 2 ^ 31) : (Int32.toNatClampNeg (Int64.toInt32 (lN x / 4))) = x / 4 := by
  rw [show (4 : Int64) = lN 4 from rfl, pk_lDiv hx (by omega) (by omega), lN_i, nI_clamp (by omega)]
theorem lim_4 {x n : Nat} (hx : x < 2 ^ 63) (hn : n ≤ 4) : (0 ≤ (lg_cmp (lN x) ((4 : Int64) * (Int32.toInt64 (nI n))))) ↔ 4 * n ≤ x := by
  rw [nI_l (by omega), show (4 : Int64) = lN 4 from rfl, lN_mul]
  exact k_ge hx (by omega)
theorem rt_small {x n : Nat} {b : MTs} {z : Int32} (hz : ¬ 4 ≤ z) : f_X6_readTimer_49 n b (lN x) z = 0 := by
  unfold f_X6_readTimer_49
  split
  · rfl
  · split
    · first | rfl | rw [if_neg hz]
    · rfl
theorem rt_8 {x n : Nat} {a : TS} {b : MTs} (hx : x < 2 ^ 63) (hn : n ≤ 4) (h : SimT n a b) : f_X4_load n a (lN x) 8 = f_X6_readTimer_49 n b (lN x) 8 := by
  unfold f_X4_load f_X6_readTimer_49
  rw [soft_ne (by decide), if_pos (by decide), wide_8 hx hn]
  by_cases c : x % 8 = 0
  · rw [if_pos c]
    rcases ei_spec hx hn with e | ⟨j, hj, e⟩
    · rw [e, if_neg (by decide), if_pos (by decide)]
    · rw [e, if_pos (nI_pos' (by omega)), if_pos rfl, if_neg (nI_pos (by omega)), if_pos ((rem_8i hx).mpr c), if_pos (by decide), if_pos rfl]
      exact eight_eq hn h (vp_in_nI (by omega) (by omega))
  · rw [if_neg c, if_neg (by decide), if_neg (fun q => c ((rem_8i hx).mp q))]
    split <;> rfl
theorem rt_4 {x n : Nat} {a : TS} {b : MTs} (hx : x < 2 ^ 63) (hn : n ≤ 4) (h : SimT n a b) (hs : f_X4_softAt n (lN x) 4 = -1) : f_X4_load n a (lN x) 4 = f_X6_readTimer_49 n b (lN x) 4 := by
  unfold f_X4_load f_X6_readTimer_49
  rw [hs, if_pos (by decide), wide_4 hx hn]
  by_cases c : x % 4 = 0
  · rw [if_pos c]
    rcases ei_spec hx hn with e | ⟨j, hj, e⟩
    · rw [e, if_neg (by decide), if_pos (by decide)]
    · rw [e, if_pos (nI_pos' (by omega)), if_neg (show ¬ (4 : Int32) = 8 by decide), if_neg (nI_pos (by omega)), if_pos ((rem_4i hx).mpr c), if_pos (show (4 : Int32) ≤ 4 by decide), if_neg (show ¬ (4 : Int32) = 8 by decide), eight_eq hn h (vp_in_nI (by omega) (by omega))]
      by_cases c8 : x % 8 = 0
      · rw [if_pos ((upper_eq hx c).mpr c8), if_pos ((rem_8 hx).mpr c8), t_lo]
      · rw [if_neg (fun q => c8 ((upper_eq hx c).mp q)), if_neg (fun q => c8 ((rem_8 hx).mp q)), t_hi]
  · rw [if_neg c, if_neg (by decide), if_neg (fun q => c ((rem_4i hx).mp q))]
    split <;> rfl
theorem t_read {x n : Nat} {a : TS} {b : MTs} {z : Int32} (hx : x < 2 ^ 63) (hn : n ≤ 4) (h : SimT n a b) (hz : z = 1 ∨ z = 2 ∨ z = 4 ∨ z = 8) : f_X4_load n a (lN x) z = f_X6_readTimer n b (lN x) z := by
  unfold f_X6_readTimer
  by_cases h4 : z = 4
  · subst h4
    rw [if_pos rfl]
    by_cases c1 : 4 * n ≤ x
    · rw [if_pos ((lim_4 hx hn).mpr c1)]
      exact rt_4 hx hn h (by rw [soft_eq hx hn, if_neg (show ¬ (x % 4 = 0 ∧ x / 4 < n) by omega)])
    · rw [if_neg (fun q => c1 ((lim_4 hx hn).mp q))]
      by_cases c2 : x % 4 = 0
      · rw [if_pos ((rem_4 hx).mpr c2), div_4 hx (by omega)]
        unfold f_X4_load
        rw [soft_eq hx hn, if_pos (show x % 4 = 0 ∧ x / 4 < n by omega), if_neg (nI_pos (by omega)), nI_clamp (by omega), h.1 (x / 4) (by omega)]
        rcases h.2.2.2 (x / 4) with e | e
        · rw [e, if_pos rfl]; rfl
        · rw [e, if_neg (by decide)]; rfl
      · rw [if_neg (fun q => c2 ((rem_4 hx).mp q))]
        exact rt_4 hx hn h (by rw [soft_eq hx hn, if_neg (show ¬ (x % 4 = 0 ∧ x / 4 < n) by omega)])
  · rw [if_neg h4]
    by_cases h8 : z = 8
    · subst h8
      exact rt_8 hx hn h
    · rw [rt_small (by rcases hz with e | e | e | e <;> subst e <;> first | decide | exact absurd rfl h4 | exact absurd rfl h8)]
      unfold f_X4_load
      rw [soft_ne h4, if_pos (by decide), wide_ne h8 h4, if_neg (by decide)]
theorem tm_set {n j : Nat} {a : TS} {b : MTs} (hn : n ≤ 4) (h : SimT n a b) (hj : j ≤ n) (w : Int64) : SimT n (a.1, vp_updL a.2 (Int32.toNatClampNeg (nI j)) w) (f_X6_setEight n b (nI j) w) := by
  obtain ⟨t1, t2, t3, t4⟩ := h
  unfold f_X6_setEight
  rw [nI_clamp (by omega)]
  by_cases c : j = n
  · subst c
    rw [if_pos rfl]
    refine ⟨t1, ?_, pk_uLs, t4⟩
    intro i hi
    show vp_updL a.2 j w i = _
    rw [pk_uLn (by omega)]
    exact t2 i hi
  · rw [if_neg (fun q => c ((nI_eq (by omega) (by omega)).mp q))]
    refine ⟨t1, ?_, ?_, t4⟩
    · intro i hi
      show vp_updL a.2 j w i = vp_updL b.2.1 j w i
      by_cases d : i = j
      · subst d; rw [pk_uLs, pk_uLs]
      · rw [pk_uLn d, pk_uLn d]; exact t2 i hi
    · show vp_updL a.2 j w n = _
      rw [pk_uLn (by omega)]; exact t3
theorem t_odd (v : Int64) : (lg_cmp (v &&& 1) 1 = 0 ∧ Int64.toInt32 (v &&& 1) = 1) ∨ (¬ lg_cmp (v &&& 1) 1 = 0 ∧ Int64.toInt32 (v &&& 1) = 0) := by
  obtain ⟨k, hk, rfl⟩ := wb_of v
  rw [g_and1 hk]
  rcases Nat.mod_two_eq_zero_or_one k with e | e
  · rw [e]; exact .inr (by decide)
  · rw [e]; exact .inl (by decide)
theorem wt_small {x n : Nat} {b : MTs} {z : Int32} {v : Int64} (hz : ¬ 4 ≤ z) : f_X6_writeTimer_54 n (lN x) z v b = b := by
  unfold f_X6_writeTimer_54
  split
  · rfl
  · split
    · first | rfl | rw [if_neg hz]
    · rfl
theorem wt_8 {x n : Nat} {a : TS} {b : MTs} {v : Int64} (hx : x < 2 ^ 63) (hn : n ≤ 4) (h : SimT n a b) : SimT n (f_X4_store n a (lN x) 8 v) (f_X6_writeTimer_54 n (lN x) 8 v b) := by
  unfold f_X4_store f_X6_writeTimer_54
  rw [soft_ne (by decide), if_pos (by decide), wide_8 hx hn]
  by_cases c : x % 8 = 0
  · rw [if_pos c]
    rcases ei_spec hx hn with e | ⟨j, hj, e⟩
    · rw [e, if_neg (by decide), if_pos (by decide)]; exact h
    · rw [e, if_pos (nI_pos' (by omega)), if_pos rfl, if_neg (nI_pos (by omega)), if_pos ((rem_8i hx).mpr c), if_pos (by decide), if_pos rfl]
      exact tm_set hn h hj v
  · rw [if_neg c, if_neg (by decide), if_neg (fun q => c ((rem_8i hx).mp q))]
    split <;> exact h
theorem wt_4 {x n : Nat} {a : TS} {b : MTs} {v : Int64} (hx : x < 2 ^ 63) (hn : n ≤ 4) (h : SimT n a b) (hs : f_X4_softAt n (lN x) 4 = -1) : SimT n (f_X4_store n a (lN x) 4 v) (f_X6_writeTimer_54 n (lN x) 4 v b) := by
  unfold f_X4_store f_X6_writeTimer_54
  rw [hs, if_pos (by decide), wide_4 hx hn]
  by_cases c : x % 4 = 0
  · rw [if_pos c]
    rcases ei_spec hx hn with e | ⟨j, hj, e⟩
    · rw [e, if_neg (by decide), if_pos (by decide)]; exact h
    · rw [e, if_pos (nI_pos' (by omega)), if_neg (show ¬ (4 : Int32) = 8 by decide), if_neg (nI_pos (by omega)), if_pos ((rem_4i hx).mpr c), if_pos (show (4 : Int32) ≤ 4 by decide), if_neg (show ¬ (4 : Int32) = 8 by decide), eight_eq hn h (vp_in_nI (by omega) (by omega))]
      by_cases c8 : x % 8 = 0
      · rw [if_pos ((upper_eq hx c).mpr c8), if_pos ((rem_8 hx).mpr c8), t_stlo]
        exact tm_set hn h hj _
      · rw [if_neg (fun q => c8 ((upper_eq hx c).mp q)), if_neg (fun q => c8 ((rem_8 hx).mp q)), t_sthi]
        exact tm_set hn h hj _
  · rw [if_neg c, if_neg (by decide), if_neg (fun q => c ((rem_4i hx).mp q))]
    split <;> exact h
theorem wt_low {x n : Nat} {b : MTs} {z : Int32} {v : Int64} (hx : x < 2 ^ 63) (hn : n ≤ 4) (h : x < 4 * n) : f_X6_writeTimer_54 n (lN x) z v b = b := by
  unfold f_X6_writeTimer_54
  rw [ei_low hx hn h, if_pos (by decide)]
theorem t_soft {n j : Nat} {a : TS} {b : MTs} {w : Int32} (hn : n ≤ 4) (h : SimT n a b) (hw : w = 0 ∨ w = 1) : SimT n (upd a.1 j w, a.2) (upd b.1 j w, b.2.1, b.2.2) := by
  obtain ⟨t1, t2, t3, t4⟩ := h
  refine ⟨?_, t2, t3, ?_⟩
  · intro i hi
    show upd a.1 j w i = upd b.1 j w i
    by_cases d : i = j
    · subst d; rw [pk_us, pk_us]
    · rw [pk_un d, pk_un d]; exact t1 i hi
  · intro i
    show upd b.1 j w i = 0 ∨ upd b.1 j w i = 1
    by_cases d : i = j
    · subst d; rw [pk_us]; exact hw
    · rw [pk_un d]; exact t4 i
theorem t_write {x n : Nat} {a : TS} {b : MTs} {z : Int32} {v : Int64} (hx : x < 2 ^ 63) (hn : n ≤ 4) (h : SimT n a b) (hz : z = 1 ∨ z = 2 ∨ z = 4 ∨ z = 8) : SimT n (f_X4_store n a (lN x) z v) (f_X6_writeTimer n b (lN x) z v) := by
  unfold f_X6_writeTimer
  by_cases h4 : z = 4
  · subst h4
    rw [if_pos rfl]
    by_cases c1 : 4 * n ≤ x
    · rw [if_pos ((lim_4 hx hn).mpr c1)]
      exact wt_4 hx hn h (by rw [soft_eq hx hn, if_neg (show ¬ (x % 4 = 0 ∧ x / 4 < n) by omega)])
    · rw [if_neg (fun q => c1 ((lim_4 hx hn).mp q))]
      by_cases c2 : x % 4 = 0
      · rw [if_pos ((rem_4 hx).mpr c2), div_4 hx (by omega), wt_low hx hn (by omega), wt_low hx hn (by omega)]
        unfold f_X4_store
        rw [soft_eq hx hn, if_pos (show x % 4 = 0 ∧ x / 4 < n by omega), if_neg (nI_pos (by omega)), nI_clamp (by omega)]
        rcases t_odd v with ⟨e1, e2⟩ | ⟨e1, e2⟩
        · rw [if_pos e1, e2]; exact t_soft hn h (.inr rfl)
        · rw [if_neg e1, e2]; exact t_soft hn h (.inl rfl)
      · rw [if_neg (fun q => c2 ((rem_4 hx).mp q))]
        exact wt_4 hx hn h (by rw [soft_eq hx hn, if_neg (show ¬ (x % 4 = 0 ∧ x / 4 < n) by omega)])
  · rw [if_neg h4]
    by_cases h8 : z = 8
    · subst h8
      exact wt_8 hx hn h
    · rw [wt_small (by rcases hz with e | e | e | e <;> subst e <;> first | decide | exact absurd rfl h4 | exact absurd rfl h8)]
      unfold f_X4_store
      rw [soft_ne h4, if_pos (by decide), wide_ne h8 h4, if_neg (by decide)]
      exact h
