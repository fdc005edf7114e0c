theorem wt_bit : ∀ i, i < 32 → ∀ s, s < 64 → ((1 : Int64) <<< ((Int32.toInt64 (nI i)) &&& 63)).toBitVec.getLsbD s = decide (s = i) := by decide +kernel
theorem wt_spec (f : Nat → Int32) : ∀ k i v s, i + k ≤ 32 → s < 64 → (wt_go f k i v).toBitVec.getLsbD s = (v.toBitVec.getLsbD s || (decide (i ≤ s ∧ s < i + k) && decide (¬ f s = 0)))
  | 0, i, v, s, _, _ => by
    show v.toBitVec.getLsbD s = _
    rw [decide_eq_false (show ¬ (i ≤ s ∧ s < i + 0) by omega), Bool.false_and, Bool.or_false]
  | k + 1, i, v, s, h, hs => by
    show (wt_go f k (i + 1) _).toBitVec.getLsbD s = _
    rw [wt_spec f k (i + 1) _ s (by omega) hs]
    have e : ¬ s = i → decide (i + 1 ≤ s ∧ s < i + 1 + k) = decide (i ≤ s ∧ s < i + (k + 1)) := fun d => decide_eq_decide.mpr (by omega)
    by_cases c : f i = 0
    · rw [if_pos c]
      by_cases d : s = i
      · subst d
        rw [decide_eq_false (show ¬ ¬ f s = 0 from fun q => q c), Bool.and_false, Bool.and_false]
      · rw [e d]
    · rw [if_neg c, Int64.toBitVec_or, BitVec.getLsbD_or, wt_bit i (by omega) s hs]
      by_cases d : s = i
      · subst d
        rw [decide_eq_true rfl, decide_eq_true (show s ≤ s ∧ s < s + (k + 1) by omega), decide_eq_true c, Bool.and_true, Bool.or_true, Bool.true_or, Bool.and_true, Bool.or_true]
      · rw [decide_eq_false d, Bool.or_false, e d]
theorem wait_eq {w : Int32} {f : Nat → Int32} (h : SimB w f) : (Int32.toInt64 w) &&& 4294967295 = wt_go f 31 1 0 := by
  apply Int64.toBitVec_inj.mp
  apply BitVec.eq_of_getLsbD_eq
  intro s hs
  rw [wt_spec f 31 1 0 s (by omega) hs, Int64.toBitVec_and, BitVec.getLsbD_and, show (4294967295 : Int64).toBitVec = 4294967295#64 from rfl, b64_low s hs, Int32.toBitVec_toInt64, BitVec.getLsbD_signExtend, show (0 : Int64).toBitVec = 0#64 from rfl, BitVec.getLsbD_zero, Bool.false_or]
  by_cases c : s < 32
  · rw [if_pos c, decide_eq_true c, decide_eq_true hs, Bool.true_and, Bool.and_true]
    show bt w s = _
    by_cases c0 : s = 0
    · subst c0; rw [h.1]; rfl
    · rw [decide_eq_true (show 1 ≤ s ∧ s < 1 + 31 by omega), Bool.true_and]
      have k := h.2 s (by omega) c
      by_cases d : f s = 0
      · rw [decide_eq_false (fun q => q d)]
        cases q : bt w s
        · rfl
        · exact absurd d (k.mp q)
      · rw [decide_eq_true d]; exact k.mpr d
  · rw [decide_eq_false c, Bool.and_false, decide_eq_false (show ¬ (1 ≤ s ∧ s < 1 + 31) by omega), Bool.false_and]
theorem claim_sim {n c : Nat} {a : CS} {b : MCs} (hn : n ≤ 4) (h : SimC n a b) (hc : c < 2 * n) : Int32.toInt64 (f_X0_claim a (nI c)).1 = (f_X6_claim b (nI c)).1 ∧ SimC n (f_X0_claim a (nI c)).2 (f_X6_claim b (nI c)).2 ∧ (f_X0_claim a (nI c)).2.1 = a.1 := by
  obtain ⟨r, v, e1, e2, hf, v0, hb⟩ := most_eq hn (simC_0 h) hc
  have hr := best_lt hb
  unfold f_X0_claim f_X6_claim
  rw [e1, e2]
  by_cases c0 : r = 0
  · subst c0
    rw [if_pos (show nI 0 ≤ 0 by decide), if_pos (show nI 0 ≤ 0 by decide)]
    exact ⟨rfl, h, rfl⟩
  · rw [if_neg (nI_nle (by omega) (by omega)), if_neg (nI_nle (by omega) (by omega)), nI_clamp (by omega)]
    obtain ⟨h1, h2, h3, h4, h5, h6, h7, h8⟩ := h
    refine ⟨rfl, ⟨h1, sb_clr hr h2, sb_set (by omega) hr h3, h4, h5, h6, h7, ?_⟩, rfl⟩
    intro s p q
    show bt a.1 s = true → bt (a.2.2.1 ||| ((1 : Int32) <<< (nI r &&& 31))) s = false → bt (a.2.1 &&& (((1 : Int32) <<< (nI r &&& 31)) ^^^ (-1))) s = true
    rw [b_set hr q, b_clr hr q]
    intro u1 u2
    rw [Bool.or_eq_false_iff] at u2
    rw [u2.2, Bool.not_false, Bool.and_true]
    exact h8 s p q u1 u2.1
theorem ctx_spec {x f T n : Nat} (hx : x < 2 ^ 63) (hf : f < 2 ^ 63) (hT0 : 0 < T) (hT : T < 2 ^ 63) (hn : n ≤ 4) : f_X6_contextAt n (lN x) (lN f) (lN T) = -1 ∨ ∃ j, j < 2 * n ∧ f_X6_contextAt n (lN x) (lN f) (lN T) = nI j := by
  rw [ctx_eq hx hf hT0 hT hn]
  by_cases c : f ≤ x ∧ (x - f) % T = 0 ∧ (x - f) / T < 2 * n
  · rw [if_pos c]; exact .inr ⟨_, c.2.2, rfl⟩
  · rw [if_neg c]; exact .inl rfl
theorem sl_pri {x : Nat} (hx : x < 2 ^ 63) : f_X5_slotAt (lN x) 0 2 32 = if x % 4 = 0 ∧ x / 4 < 32 then nI (x / 4) else -1 := by
  have h := slot_eq (x := x) (f := 0) (k := 2) (N := 32) hx (by omega) (by omega) (by omega)
  rw [Nat.sub_zero, show 2 ^ 2 = 4 from rfl] at h
  refine Eq.trans h ?_
  by_cases c : x % 4 = 0 ∧ x / 4 < 32
  · rw [if_pos ⟨Nat.zero_le _, c⟩, if_pos c]
  · rw [if_neg (fun q => c q.2), if_neg c]
section
variable {x n : Nat}
theorem sl_en (hx : x < 2 ^ 63) (hn : n ≤ 4) : f_X5_slotAt (lN x) 8192 7 (nI (2 * n)) = f_X6_contextAt n (lN x) 8192 128 := slot_ctx (f := 8192) (k := 7) hx (by omega) (by omega) hn
theorem sl_th (hx : x < 2 ^ 63) (hn : n ≤ 4) : f_X5_slotAt (lN x) 2097152 12 (nI (2 * n)) = f_X6_contextAt n (lN x) 2097152 4096 := slot_ctx (f := 2097152) (k := 12) hx (by omega) (by omega) hn
theorem sl_cl (hx : x < 2 ^ 63) (hn : n ≤ 4) : f_X5_slotAt (lN x) 2097156 12 (nI (2 * n)) = f_X6_contextAt n (lN x) 2097156 4096 := slot_ctx (f := 2097156) (k := 12) hx (by omega) (by omega) hn
theorem cx_en (hx : x < 2 ^ 63) (hn : n ≤ 4) : f_X6_contextAt n (lN x) 8192 128 = -1 ∨ ∃ j, j < 2 * n ∧ f_X6_contextAt n (lN x) 8192 128 = nI j := ctx_spec (f := 8192) (T := 128) hx (by omega) (by omega) (by omega) hn
theorem cx_th (hx : x < 2 ^ 63) (hn : n ≤ 4) : f_X6_contextAt n (lN x) 2097152 4096 = -1 ∨ ∃ j, j < 2 * n ∧ f_X6_contextAt n (lN x) 2097152 4096 = nI j := ctx_spec (f := 2097152) (T := 4096) hx (by omega) (by omega) (by omega) hn
theorem cx_cl (hx : x < 2 ^ 63) (hn : n ≤ 4) : f_X6_contextAt n (lN x) 2097156 4096 = -1 ∨ ∃ j, j < 2 * n ∧ f_X6_contextAt n (lN x) 2097156 4096 = nI j := ctx_spec (f := 2097156) (T := 4096) hx (by omega) (by omega) (by omega) hn
end
theorem m1_lt : (-1 : Int32) < 0 := by decide
theorem c_read {x n : Nat} {a : CS} {b : MCs} (hx : x < 2 ^ 63) (hn : n ≤ 4) (h : SimC n a b) : (f_X0_load n a (lN x) 4).1 = (f_X6_readController n b (lN x)).1 ∧ SimC n (f_X0_load n a (lN x) 4).2 (f_X6_readController n b (lN x)).2 ∧ (f_X0_load n a (lN x) 4).2.1 = a.1 := by
  have h' := h
  obtain ⟨h1, h2, h3, h4, h5, h6, h7, h8⟩ := h'
  have a1 : (lg_cmp (lN x) 4096 = 0) ↔ x = 4096 := k_eq hx (b := 4096) (by omega)
  have a2 : (0 ≤ lg_cmp (lN x) 128) ↔ 128 ≤ x := k_ge hx (b := 128) (by omega)
  unfold f_X0_load f_X6_readController
  rw [if_pos rfl, sl_en hx hn, sl_th hx hn, sl_cl hx hn, sl_pri hx]
  by_cases c0 : x = 4096
  · rw [if_pos (a1.mpr c0), if_pos (a1.mpr c0)]
    exact ⟨wait_eq h2, h, rfl⟩
  · rw [if_neg (fun q => c0 (a1.mp q)), if_neg (fun q => c0 (a1.mp q))]
    by_cases c1 : x % 4 = 0 ∧ x / 4 < 32
    · rw [if_pos c1, if_neg (nI_pos (by omega)), if_neg (fun q => absurd (a2.mp q) (by omega)), if_pos ((rem_4 hx).mpr c1.1), nI_clamp (by omega), div_4 hx (by omega), (h4 (x / 4) c1.2).1]
      exact ⟨rfl, h, rfl⟩
    · rw [if_neg c1, if_pos m1_lt]
      have e44 : (if 0 ≤ lg_cmp (lN x) 128 then f_X6_readController_44 n b (lN x) else if lg_cmp (lN x - lN x / 4 * 4) 0 = 0 then ((b.2.2.2.1 (Int64.toInt32 (lN x / 4)).toNatClampNeg).toInt64, b) else f_X6_readController_44 n b (lN x)) = f_X6_readController_44 n b (lN x) := by
        by_cases c2 : 128 ≤ x
        · rw [if_pos (a2.mpr c2)]
        · rw [if_neg (fun q => c2 (a2.mp q)), if_neg (fun q => c1 ⟨(rem_4 hx).mp q, by omega⟩)]
      rw [e44]
      unfold f_X6_readController_44
      rcases cx_en hx hn with e | ⟨j, hj, e⟩
      · rw [e, if_pos m1_lt, if_pos m1_lt]
        rcases cx_th hx hn with e | ⟨j, hj, e⟩
        · rw [e, if_pos m1_lt, if_pos m1_lt]
          rcases cx_cl hx hn with e | ⟨j, hj, e⟩
          · rw [e, if_pos m1_lt, if_pos m1_lt]
            exact ⟨rfl, h, rfl⟩
          · rw [e, if_neg (nI_pos (by omega)), if_neg (nI_pos (by omega))]
            exact claim_sim hn h hj
        · rw [e, if_neg (nI_pos (by omega)), if_neg (nI_pos (by omega)), nI_clamp (by omega), (h7 j hj).1]
          exact ⟨rfl, h, rfl⟩
      · rw [e, if_neg (nI_pos (by omega)), if_neg (nI_pos (by omega)), nI_clamp (by omega), (h6 j hj).1]
        exact ⟨rfl, h, rfl⟩
theorem nI_and {k M : Nat} : nI k &&& nI M = nI (k &&& M) := by
  apply Int32.toBitVec_inj.mp
  show BitVec.ofNat 32 k &&& BitVec.ofNat 32 M = BitVec.ofNat 32 (k &&& M)
  apply BitVec.eq_of_toNat_eq
  rw [BitVec.toNat_and, BitVec.toNat_ofNat, BitVec.toNat_ofNat, BitVec.toNat_ofNat, Nat.and_mod_two_pow]
theorem and_nI (y : Int32) (M : Nat) : ∃ v, v ≤ M ∧ y &&& nI M = nI v := by
  obtain ⟨k, _, rfl⟩ := wb_of32 y
  exact ⟨_, Nat.and_le_right, nI_and⟩
theorem and_7 (y : Int32) : ∃ v, v < 8 ∧ y &&& 7 = nI v := by
  obtain ⟨v, hv, e⟩ := and_nI y 7
  exact ⟨v, by omega, e⟩
theorem to32_and (y m : Int64) : Int64.toInt32 (y &&& m) = Int64.toInt32 y &&& Int64.toInt32 m := by
  apply Int32.toBitVec_inj.mp
  apply BitVec.eq_of_getLsbD_eq
  intro i hi
  rw [Int32.toBitVec_and, Int64.toBitVec_toInt32, Int64.toBitVec_toInt32, Int64.toBitVec_toInt32, Int64.toBitVec_and, BitVec.getLsbD_and, BitVec.getLsbD_signExtend, BitVec.getLsbD_signExtend, BitVec.getLsbD_signExtend, BitVec.getLsbD_and]
  simp [hi, show i < 64 by omega]
theorem to32_7 (y : Int64) : Int64.toInt32 (y &&& 7) = Int64.toInt32 y &&& 7 := to32_and y 7
theorem nI_mod (k : Nat) : nI k = nI (k % 4294967296) := by
  apply Int32.toBitVec_inj.mp
  show BitVec.ofNat 32 k = BitVec.ofNat 32 (k % 4294967296)
  apply BitVec.eq_of_toNat_eq
  rw [BitVec.toNat_ofNat, BitVec.toNat_ofNat]
  omega
theorem nI_big {m : Nat} (h1 : 2 ^ 31 ≤ m) (h2 : m < 2 ^ 32) : nI m ≤ 0 := by
  rw [Int32.le_iff_toInt_le]
  show (BitVec.ofNat 32 m).toInt ≤ 0
  rw [BitVec.toInt_eq_toNat_cond, BitVec.toNat_ofNat, Nat.mod_eq_of_lt h2, if_neg (by omega)]
  omega
theorem low_eq {k : Nat} (hk : k < 2 ^ 64) : lN k &&& 4294967295 = lN (k % 4294967296) := g_mask (s := 32) (p := 4294967296) rfl (by omega) hk
theorem b_cmp {v e : Int32} {m i : Nat} (hm : m < 32) (hi : i < 32) : bt (v &&& ((e &&& ((1 : Int32) <<< (nI m &&& 31))) ^^^ (-1))) i = (bt v i && !(bt e i && decide (i = m))) := by
  rw [b_and, b_not _ hi, b_and, b_bit hm hi]
theorem comp_sim {n c : Nat} {a : CS} {b : MCs} {p4 : Int64} {mS : MSs} {mQ : MQs} (hn : n ≤ 4) (h : SimC n a b) (hc : c < 2 * n) (hl : bt a.1 10 = true ↔ ¬ f_X6_cause mS mQ = 1) :
    SimC n (f_X0_complete a (nI c) (Int64.toInt32 p4)) (f_X6_settle (if (f_X6_isSource (p4 &&& 4294967295)) = 0 then b
      else if (f_X6_enables b (nI c) (Int64.toInt32 (p4 &&& 4294967295))) = 0 then b
      else (b.1, b.2.1, (upd b.2.2.1 (Int32.toNatClampNeg (Int64.toInt32 (p4 &&& 4294967295))) (vp_nar .boolean 0)), b.2.2.2.1, b.2.2.2.2.1, b.2.2.2.2.2)) mS mQ) ∧ (f_X0_complete a (nI c) (Int64.toInt32 p4)).1 = a.1 := by
  obtain ⟨k, hk, rfl⟩ := wb_of p4
  rw [low_eq hk, lN_i, lN_i, nI_mod k]
  have hm : k % 4294967296 < 2 ^ 32 := by omega
  generalize k % 4294967296 = m at hm
  unfold f_X0_complete f_X6_isSource
  have a1 : (lg_cmp (lN m) 0 ≤ 0) ↔ m ≤ 0 := k_le (by omega) (b := 0) (by omega)
  have a2 : (0 ≤ lg_cmp (lN m) 32) ↔ 32 ≤ m := k_ge (by omega) (b := 32) (by omega)
  by_cases c1 : m = 0
  · subst c1
    rw [if_pos (show nI 0 ≤ 0 by decide), if_pos (a1.mpr (by omega)), if_pos rfl]
    exact ⟨se_id h hl, rfl⟩
  · rw [if_neg (fun q => absurd (a1.mp q) (by omega))]
    by_cases c2 : 32 ≤ m
    · rw [if_pos (a2.mpr c2), if_pos rfl]
      by_cases c3 : m < 2 ^ 31
      · rw [if_neg (nI_nle (by omega) c3), if_pos (show (32 : Int32) ≤ nI m from nI_le (a := 32) c2 c3)]
        exact ⟨se_id h hl, rfl⟩
      · rw [if_pos (nI_big (by omega) hm)]
        exact ⟨se_id h hl, rfl⟩
    · rw [if_neg (fun q => c2 (a2.mp q)), if_neg (show ¬ (1 : Int32) = 0 by decide), if_neg (nI_nle (n := m) (by omega) (by omega)), if_neg (show ¬ (32 : Int32) ≤ nI m from nI_ge (b := 32) (by omega) (by omega)), nI_clamp (n := c) (by omega), nI_clamp (n := m) (by omega)]
      have h0 := simC_0 h
      obtain ⟨h1, h2, h3, h4, h5, h6, h7⟩ := h0
      refine ⟨?_, rfl⟩
      by_cases d : bt (a.2.2.2.2.1 c) m = true
      · rw [if_neg (by rw [en_spec (by omega) (by omega), ← (h6 c hc).1, d]; decide)]
        refine se_lw ⟨h1, h2, ⟨?_, ?_⟩, h4, h5, h6, h7⟩ hl
        · show bt (a.2.2.1 &&& _) 0 = false
          rw [b_cmp (by omega) (by omega), h3.1]; rfl
        · intro s p q
          show bt (a.2.2.1 &&& _) s = true ↔ ¬ upd b.2.2.1 m 0 s = 0
          rw [b_cmp (by omega) q]
          by_cases e : s = m
          · subst e; rw [pk_us, d]; simp
          · rw [pk_un e, decide_eq_false e, Bool.and_false, Bool.not_false, Bool.and_true]
            exact h3.2 s p q
      · rw [if_pos (by rw [en_spec (by omega) (by omega), ← (h6 c hc).1]; simpa using d)]
        have ev : a.2.2.1 &&& ((a.2.2.2.2.1 c &&& ((1 : Int32) <<< (nI m &&& 31))) ^^^ (-1)) = a.2.2.1 := by
          apply b_ext
          intro i hi
          rw [b_cmp (by omega) hi]
          by_cases e : i = m
          · subst e; rw [show bt (a.2.2.2.2.1 c) i = false by simpa using d]; simp
          · rw [decide_eq_false e]; simp
        rw [ev]
        exact se_lw ⟨h1, h2, h3, h4, h5, h6, h7⟩ hl
section
variable {x n : Nat} {a : CS} {b : MCs} {p4 : Int64} {mS : MSs} {mQ : MQs}
theorem w97 (hx : x < 2 ^ 63) (hn : n ≤ 4) (h : SimC n a b) (hl : bt a.1 10 = true ↔ ¬ f_X6_cause mS mQ = 1) : SimC n (f_X0_store_97 n (lN x) (Int64.toInt32 p4) a) (f_X6_settle (f_X6_writeController_107 n (lN x) p4 b) mS mQ) ∧ (f_X0_store_97 n (lN x) (Int64.toInt32 p4) a).1 = a.1 := by
  unfold f_X0_store_97 f_X6_writeController_107
  rw [sl_cl hx hn]
  rcases cx_cl hx hn with e | ⟨j, hj, e⟩
  · rw [e, if_pos m1_lt, if_pos m1_lt]
    exact ⟨se_id h hl, rfl⟩
  · rw [e, if_neg (nI_pos (by omega)), if_neg (nI_pos (by omega))]
    exact comp_sim hn h hj hl
end
theorem up2 {f g : Nat → Int32} {j : Nat} {y : Int32} {P : Int32 → Prop} {N : Nat} (h : ∀ c, c < N → f c = g c ∧ P (f c)) (hy : P y) : ∀ c, c < N → upd f j y c = upd g j y c ∧ P (upd f j y c) := by
  intro c hc
  by_cases e : c = j
  · subst e; rw [pk_us, pk_us]; exact ⟨rfl, hy⟩
  · rw [pk_un e, pk_un e]; exact h c hc
section
variable {x n : Nat} {a : CS} {b : MCs} {p4 : Int64} {mS : MSs} {mQ : MQs}
theorem w65 (hx : x < 2 ^ 63) (hn : n ≤ 4) (h : SimC n a b) (hl : bt a.1 10 = true ↔ ¬ f_X6_cause mS mQ = 1) : SimC n (f_X0_store_65 n (lN x) (Int64.toInt32 p4) a) (f_X6_settle (f_X6_writeController_76 n (lN x) p4 b) mS mQ) ∧ (f_X0_store_65 n (lN x) (Int64.toInt32 p4) a).1 = a.1 := by
  unfold f_X0_store_65 f_X6_writeController_76
  rw [sl_th hx hn]
  rcases cx_th hx hn with e | ⟨j, hj, e⟩
  · rw [e, if_pos m1_lt, if_pos m1_lt]
    exact w97 hx hn h hl
  · rw [e, if_neg (nI_pos (by omega)), if_neg (nI_pos (by omega)), to32_7]
    obtain ⟨h1, h2, h3, h4, h5, h6, h7, h8⟩ := h
    exact w97 (a := (a.1, a.2.1, a.2.2.1, a.2.2.2.1, a.2.2.2.2.1, _)) hx hn ⟨h1, h2, h3, h4, h5, h6, up2 (P := fun y => ∃ v, v < 8 ∧ y = nI v) h7 (and_7 _), h8⟩ hl
theorem w33 (hx : x < 2 ^ 63) (hn : n ≤ 4) (h : SimC n a b) (hl : bt a.1 10 = true ↔ ¬ f_X6_cause mS mQ = 1) : SimC n (f_X0_store_33 n (lN x) (Int64.toInt32 p4) a) (f_X6_settle (f_X6_writeController_46 n (lN x) p4 b) mS mQ) ∧ (f_X0_store_33 n (lN x) (Int64.toInt32 p4) a).1 = a.1 := by
  unfold f_X0_store_33 f_X6_writeController_46
  rw [sl_en hx hn]
  rcases cx_en hx hn with e | ⟨j, hj, e⟩
  · rw [e, if_pos m1_lt, if_pos m1_lt]
    exact w65 hx hn h hl
  · rw [e, if_neg (nI_pos (by omega)), if_neg (nI_pos (by omega))]
    obtain ⟨h1, h2, h3, h4, h5, h6, h7, h8⟩ := h
    exact w65 (a := (a.1, a.2.1, a.2.2.1, a.2.2.2.1, _, a.2.2.2.2.2)) hx hn ⟨h1, h2, h3, h4, h5, up2 (P := fun y => bt y 0 = false) h6 (by rw [b_and, show bt (-2) 0 = false from rfl, Bool.and_false]), h7, h8⟩ hl
theorem c_write (hx : x < 2 ^ 63) (hn : n ≤ 4) (h : SimC n a b) (hl : bt a.1 10 = true ↔ ¬ f_X6_cause mS mQ = 1) : SimC n (f_X0_store n a (lN x) 4 (Int64.toInt32 p4)) (f_X6_settle (f_X6_writeController n b (lN x) p4) mS mQ) ∧ (f_X0_store n a (lN x) 4 (Int64.toInt32 p4)).1 = a.1 := by
  have a2 : (0 ≤ lg_cmp (lN x) 128) ↔ 128 ≤ x := k_ge hx (b := 128) (by omega)
  unfold f_X0_store f_X6_writeController
  rw [if_pos rfl, sl_pri hx]
  by_cases c2 : 128 ≤ x
  · rw [if_pos (a2.mpr c2), if_neg (show ¬ (x % 4 = 0 ∧ x / 4 < 32) by omega), if_pos (by decide)]
    exact w33 hx hn h hl
  · rw [if_neg (fun q => c2 (a2.mp q))]
    by_cases c3 : x % 4 = 0
    · rw [if_pos ((rem_4 hx).mpr c3), if_pos (show x % 4 = 0 ∧ x / 4 < 32 by omega), show lN x / 4 = lN (x / 4) from pk_lDiv (b := 4) hx (by omega) (by omega), lN_i, nI_clamp (by omega)]
      have a3 : (lg_cmp (lN (x / 4)) 0 ≤ 0) ↔ x / 4 ≤ 0 := k_le (by omega) (b := 0) (by omega)
      have a4 : (0 ≤ lg_cmp (lN (x / 4)) 32) ↔ 32 ≤ x / 4 := k_ge (by omega) (b := 32) (by omega)
      unfold f_X6_isSource
      by_cases c4 : x / 4 = 0
      · rw [if_pos (a3.mpr (by omega)), if_pos (show (0 : Int32) = 0 from rfl), if_pos (show nI (x / 4) ≤ 0 by rw [c4]; decide)]
        exact w33 hx hn h hl
      · rw [if_neg (fun q => absurd (a3.mp q) (by omega)), if_neg (fun q => absurd (a4.mp q) (by omega)), if_neg (show ¬ (1 : Int32) = 0 by decide), if_neg (nI_nle (by omega) (by omega)), to32_7]
        obtain ⟨h1, h2, h3, h4, h5, h6, h7, h8⟩ := h
        refine w33 (a := (a.1, a.2.1, a.2.2.1, _, a.2.2.2.2.1, a.2.2.2.2.2)) hx hn ⟨h1, h2, h3, up2 (P := fun y => ∃ v, v < 8 ∧ y = nI v) h4 (and_7 _), ?_, h6, h7, h8⟩ hl
        show upd a.2.2.2.1 (x / 4) _ 0 = 0
        rw [pk_un (by omega)]
        exact h5
    · rw [if_neg (fun q => c3 ((rem_4 hx).mp q)), if_neg (show ¬ (x % 4 = 0 ∧ x / 4 < 32) by omega), if_pos (by decide)]
      exact w33 hx hn h hl
end
theorem acc_eq (p1 : Int32) (p2 : Int64) (p3 : Int32) : f_X5_canAccess p1 p2 p3 = f_X6_isProper p1 p2 p3 := by
  unfold f_X5_canAccess f_X6_isProper
  by_cases c1 : p1 < 0
  · simp only [if_pos c1]
    split <;> split <;> (try split) <;> (try split) <;> (try split) <;> rfl
  · simp only [if_neg c1]
    by_cases c2 : 2 < p1
    · simp only [if_pos c2]
      split <;> split <;> (try split) <;> (try split) <;> (try split) <;> rfl
    · simp only [if_neg c2]
      by_cases c3 : lg_cmp p2 0 < 0
      · simp only [if_pos c3]
        split <;> (try split) <;> (try split) <;> (try split) <;> rfl
      · simp only [if_neg c3]
