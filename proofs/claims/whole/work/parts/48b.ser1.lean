theorem hb_spec {m : MSs} {i s : Nat} (hi : i < 2 ^ 31) (hs : s < 32) : (f_X6_hasBit m (nI i) (nI s) = 0) ↔ bt (m.1 i) s = false := by
  unfold f_X6_hasBit
  rw [nI_clamp hi]
  by_cases q : bt (m.1 i) s = true
  · rw [if_pos ((sh_one hs).mpr q), q]; decide
  · rw [if_neg (fun e => q ((sh_one hs).mp e))]
    exact ⟨fun _ => by simpa using q, fun _ => rfl⟩
theorem k_msk {x M : Int32} {s : Nat} (hs : s < 32) (hM : (1 : Int32) <<< (nI s &&& 31) = M) : ((x &&& M) = 0) ↔ bt x s = false := by
  rw [← hM]; exact b_has hs
theorem k_1 (x : Int32) : ((x &&& 1) = 0) ↔ bt x 0 = false := k_msk (by omega) (by decide)
theorem k_2 (x : Int32) : ((x &&& 2) = 0) ↔ bt x 1 = false := k_msk (by omega) (by decide)
theorem k_4 (x : Int32) : ((x &&& 4) = 0) ↔ bt x 2 = false := k_msk (by omega) (by decide)
theorem k_16 (x : Int32) : ((x &&& 16) = 0) ↔ bt x 4 = false := k_msk (by omega) (by decide)
theorem k_128 (x : Int32) : ((x &&& 128) = 0) ↔ bt x 7 = false := k_msk (by omega) (by decide)
theorem k_11 (x : Int32) : ((x &&& 1) = 1) ↔ bt x 0 = true := by
  have h := k_1 x
  by_cases q : bt x 0 = true
  · refine ⟨fun _ => q, fun _ => ?_⟩
    apply b_ext
    intro i hi
    rw [b_and, b_1 i hi]
    by_cases c : i = 0
    · subst c; rw [q]; rfl
    · rw [decide_eq_false c, Bool.and_false]
  · refine ⟨fun e => ?_, fun e => absurd e q⟩
    rw [h.mpr (by simpa using q)] at e
    exact absurd e (by decide)
theorem k_s1 (x : Int32) : (((x >>> ((1 : Int32) &&& 31)) &&& 1) = 1) ↔ bt x 1 = true := sh_one (s := 1) (by omega)
section
variable {a : SS} {b : MSs} {q : QS} {m : MQs}
theorem sr_1 (h : SimS a b) : a.1 = b.1 1 := by
  obtain ⟨⟨r, _, e1, e2⟩, _⟩ := h
  rw [e1, e2]
theorem sr_3 (h : SimS a b) : a.2.1 = b.1 3 := by
  obtain ⟨_, ⟨r, _, e1, e2⟩, _⟩ := h
  rw [e1, e2]
theorem sr_4 (h : SimS a b) : a.2.2.1 = b.1 4 := by
  obtain ⟨_, _, ⟨r, _, e1, e2⟩, _⟩ := h
  rw [e1, e2]
theorem oth_eq (h : SimS a b) : (f_X3_showsOthers a = 0) ↔ f_X6_hasBit b 3 7 = 0 := by
  have e : (f_X6_hasBit b 3 7 = 0) ↔ bt (b.1 3) 7 = false := hb_spec (i := 3) (s := 7) (by omega) (by omega)
  rw [e, ← sr_3 h, ← k_128]
  unfold f_X3_showsOthers
  by_cases c : (a.2.1 &&& 128) = 0
  · rw [if_pos c]; exact ⟨fun _ => c, fun _ => rfl⟩
  · rw [if_neg c]; exact ⟨fun q => absurd q (by decide), fun q => absurd q c⟩
theorem loop_eq (h : SimS a b) : ((a.2.2.1 &&& 16) = 0) ↔ f_X6_hasBit b 4 4 = 0 := by
  have e : (f_X6_hasBit b 4 4 = 0) ↔ bt (b.1 4) 4 = false := hb_spec (i := 4) (s := 4) (by omega) (by omega)
  rw [e, ← sr_4 h, ← k_16]
theorem cause_eq (h : SimS a b) (hq : SimQ q b m) : f_X3_cause a q = f_X6_cause b m := by
  have e0 : (f_X6_hasBit b 1 0 = 0) ↔ bt (b.1 1) 0 = false := hb_spec (i := 1) (s := 0) (by omega) (by omega)
  have e1 : (f_X6_hasBit b 1 1 = 0) ↔ bt (b.1 1) 1 = false := hb_spec (i := 1) (s := 1) (by omega) (by omega)
  have e2 : (f_X6_hasBit b 1 2 = 0) ↔ bt (b.1 1) 2 = false := hb_spec (i := 1) (s := 2) (by omega) (by omega)
  have hr := sr_1 h
  obtain ⟨_, _, _, _, _, _, ho, he, _⟩ := h
  obtain ⟨_, _, x, f, x1, x2, _⟩ := hq
  unfold f_X3_cause f_X6_cause f_X6_cause_19 f_X6_cause_37
  simp only [e0, e1, e2, k_1, k_2, k_4, hr, ho, he, x1, x2]
  by_cases c0 : bt (b.1 1) 0 = false <;> by_cases c1 : bt (b.1 1) 1 = false <;> by_cases c2 : bt (b.1 1) 2 = false <;> by_cases c3 : b.2.2.2.1 = 0 <;> by_cases c4 : b.2.2.2.2 = 0 <;> by_cases c5 : nI x ≤ 0 <;> simp only [c0, c1, c2, c3, c4, c5, if_true, if_false, reduceCtorEq]
theorem cs_val : f_X6_cause b m = 1 ∨ f_X6_cause b m = 2 ∨ f_X6_cause b m = 4 ∨ f_X6_cause b m = 6 := by
  unfold f_X6_cause f_X6_cause_19 f_X6_cause_37
  repeat' split
  all_goals simp
theorem cs_or : f_X6_cause b m ||| 192 = f_X6_cause b m + 192 := by
  rcases cs_val (b := b) (m := m) with e | e | e | e <;> rw [e] <;> decide
theorem lc_sim (h : SimS a b) (hq : SimQ q b m) : (f_X3_loadCause a q).1 = (f_X6_readCause b m).1 ∧ SimS (f_X3_loadCause a q).2 (f_X6_readCause b m).2 ∧ SimQ q (f_X6_readCause b m).2 m := by
  have hc := cause_eq h hq
  have hqq : q.2.2.2 = b.2.2.1 := hq.1
  unfold f_X3_loadCause f_X6_readCause
  rw [hc, hqq, cs_or]
  obtain ⟨h1, h2, h3, h4, h5, h6, h7, h8, h9, h10⟩ := h
  by_cases c1 : f_X6_cause b m = 2
  · rw [if_pos c1, if_pos c1]
    by_cases c2 : b.2.2.1 = 0
    · rw [if_pos c2, if_pos c2]
      exact ⟨rfl, ⟨h1, h2, h3, h4, h5, h6, h7, rfl, h9, .inl rfl⟩, hq⟩
    · rw [if_neg c2, if_neg c2]
      exact ⟨rfl, ⟨h1, h2, h3, h4, h5, h6, h7, rfl, h9, .inl rfl⟩, hq⟩
  · rw [if_neg c1, if_neg c1]
    by_cases c2 : b.2.2.1 = 0
    · rw [if_pos c2, if_pos c2]
      exact ⟨rfl, ⟨h1, h2, h3, h4, h5, h6, h7, h8, h9, h10⟩, hq⟩
    · rw [if_neg c2, if_neg c2]
      exact ⟨rfl, ⟨h1, h2, h3, h4, h5, h6, h7, h8, h9, h10⟩, hq⟩
theorem ls_sim (h : SimS a b) (hq : SimQ q b m) : (f_X3_loadLineState a q).1 = (f_X6_readState b m).1 ∧ SimS (f_X3_loadLineState a q).2 (f_X6_readState b m).2 ∧ SimQ q (f_X6_readState b m).2 m := by
  have hx : q.2.2.1 = m.2 := by
    obtain ⟨_, _, x, f, x1, x2, _⟩ := hq
    rw [x1, x2]
  obtain ⟨h1, h2, h3, h4, h5, h6, h7, h8, h9, h10⟩ := h
  unfold f_X3_loadLineState f_X6_readState
  rw [hx, h7]
  by_cases c1 : m.2 ≤ 0
  · rw [if_pos c1, if_pos c1]
    by_cases c2 : b.2.2.2.1 = 0
    · rw [if_pos c2, if_pos c2]
      exact ⟨(by decide : ((96 : Int32) ||| 0) ||| 0 = ((96 : Int32) + 0) + 0), ⟨h1, h2, h3, h4, h5, h6, rfl, h8, .inl rfl, h10⟩, hq⟩
    · rw [if_neg c2, if_neg c2]
      exact ⟨(by decide : ((96 : Int32) ||| 0) ||| 2 = ((96 : Int32) + 0) + 2), ⟨h1, h2, h3, h4, h5, h6, rfl, h8, .inl rfl, h10⟩, hq⟩
  · rw [if_neg c1, if_neg c1]
    by_cases c2 : b.2.2.2.1 = 0
    · rw [if_pos c2, if_pos c2]
      exact ⟨(by decide : ((96 : Int32) ||| 1) ||| 0 = ((96 : Int32) + 1) + 0), ⟨h1, h2, h3, h4, h5, h6, rfl, h8, .inl rfl, h10⟩, hq⟩
    · rw [if_neg c2, if_neg c2]
      exact ⟨(by decide : ((96 : Int32) ||| 1) ||| 2 = ((96 : Int32) + 1) + 2), ⟨h1, h2, h3, h4, h5, h6, rfl, h8, .inl rfl, h10⟩, hq⟩
end
def lp_ (y : Int32) : Int32 := (if bt y 1 = false then 0 else 16) + (if bt y 0 = false then 0 else 32) + (if bt y 2 = false then 0 else 64) + (if bt y 3 = false then 0 else 128)
theorem lp_all : ∀ r, r < 32 → ((((nI r &&& 2) <<< ((3 : Int32) &&& 31)) ||| ((nI r &&& 1) <<< ((5 : Int32) &&& 31))) ||| ((nI r &&& 12) <<< ((4 : Int32) &&& 31))) = lp_ (nI r) := by decide +kernel
theorem looped_eq {b : MSs} : f_X6_looped b = lp_ (b.1 4) := by
  have e0 : (f_X6_hasBit b 4 0 = 0) ↔ bt (b.1 4) 0 = false := hb_spec (i := 4) (s := 0) (by omega) (by omega)
  have e1 : (f_X6_hasBit b 4 1 = 0) ↔ bt (b.1 4) 1 = false := hb_spec (i := 4) (s := 1) (by omega) (by omega)
  have e2 : (f_X6_hasBit b 4 2 = 0) ↔ bt (b.1 4) 2 = false := hb_spec (i := 4) (s := 2) (by omega) (by omega)
  have e3 : (f_X6_hasBit b 4 3 = 0) ↔ bt (b.1 4) 3 = false := hb_spec (i := 4) (s := 3) (by omega) (by omega)
  unfold f_X6_looped f_X6_looped_16 f_X6_looped_34 f_X6_looped_52 lp_
  simp only [e0, e1, e2, e3]
  by_cases c0 : bt (b.1 4) 0 = false <;> by_cases c1 : bt (b.1 4) 1 = false <;> by_cases c2 : bt (b.1 4) 2 = false <;> by_cases c3 : bt (b.1 4) 3 = false <;> simp only [c0, c1, c2, c3, if_true, if_false, reduceCtorEq] <;> decide
theorem sh_spec : ∀ k i f j, sh_go k i f j = if i ≤ j ∧ j < i + k then f (j + 1) else f j
  | 0, i, f, j => by rw [if_neg (show ¬ (i ≤ j ∧ j < i + 0) by omega)]; rfl
  | k + 1, i, f, j => by
    show sh_go k (i + 1) (upd f i (f (i + 1))) j = _
    rw [sh_spec k (i + 1)]
    by_cases c : i + 1 ≤ j ∧ j < i + 1 + k
    · rw [if_pos c, if_pos (show i ≤ j ∧ j < i + (k + 1) by omega), pk_un (by omega)]
    · rw [if_neg c]
      by_cases d : j = i
      · subst d
        rw [pk_us, if_pos (show j ≤ j ∧ j < j + (k + 1) by omega)]
      · rw [pk_un d, if_neg (show ¬ (i ≤ j ∧ j < i + (k + 1)) by omega)]
theorem nI_and15 (k : Nat) : nI k &&& 15 = nI (k % 16) := by
  rw [show (15 : Int32) = nI 15 from rfl, nI_and, show k &&& 15 = k % 16 from Nat.and_two_pow_sub_one_eq_mod k 4]
theorem sub_16 : ∀ h, h < 17 → (16 : Int32) - nI h = nI (16 - h) := by decide +kernel
theorem sub_1 : ∀ h, h < 2 → (1 : Int32) - nI h = nI (1 - h) := by decide +kernel
theorem dec_h : ∀ h, h < 17 → 0 < h → nI h - 1 = nI (h - 1) := by decide +kernel
section
variable {a : SS} {b : MSs} {q : QS} {m : MQs}
theorem tk_sim (hq : SimQ q b m) : (f_X1_take q).1 = (f_X6_takeOut m).1 ∧ SimQ (f_X1_take q).2 b (f_X6_takeOut m).2 := by
  have hq' := hq
  obtain ⟨h1, h2, h, f, e1, e2, e3, hf, h3, h4, h5⟩ := hq
  unfold f_X1_take f_X6_takeOut
  rw [e1, e2, e3]
  by_cases c : h = 0
  · subst c
    rw [if_pos (show nI 0 = 0 from rfl), if_pos (show nI 0 = 0 from rfl)]
    exact ⟨rfl, hq'⟩
  · rw [if_neg (nI_ne0 (by omega) (by omega)), if_neg (nI_ne0 (by omega) (by omega)), dec_h h (by omega) (by omega), nI_1, nI_and15, nI_clamp (by omega), nI_clamp (by omega)]
    refine ⟨?_, h1, h2, h - 1, (f + 1) % 16, rfl, rfl, rfl, by omega, fun z => by have := h3 z; omega, by omega, ?_⟩
    · have k := h5 0 (by omega)
      rw [Nat.add_zero, Nat.mod_eq_of_lt hf] at k
      exact k
    · intro j hj
      show q.1 (((f + 1) % 16 + j) % 16) = sh_go (h - 1) 0 m.1 j
      rw [sh_spec, if_pos (show 0 ≤ j ∧ j < 0 + (h - 1) by omega), ← h5 (j + 1) (by omega), show ((f + 1) % 16 + j) % 16 = (f + (j + 1)) % 16 by omega]
theorem rc_sim (p y : Int32) (hy : p &&& 255 = y) (h : SimS a b) (hq : SimQ q b m) : (f_X3_receive a q y).1 = (f_X6_takeIn b m p).1 ∧ SimS (f_X3_receive a q y).2.1 (f_X6_takeIn b m p).2.1 ∧ SimQ (f_X3_receive a q y).2.2 (f_X6_takeIn b m p).2.1 (f_X6_takeIn b m p).2.2 := by
  have hq' := hq
  obtain ⟨h1, h2, x, f, e1, e2, e3, hf, h3, h4, h5⟩ := hq
  have sp : ∃ w, f_X1_space q = nI w ∧ f_X6_space b m = nI w ∧ w ≤ 16 ∧ (b.2.2.1 = 0 → x + w = 1) ∧ (¬ b.2.2.1 = 0 → x + w = 16) := by
    unfold f_X1_space f_X6_space
    rw [h1, e1, e2]
    by_cases c : b.2.2.1 = 0
    · have := h3 c
      rw [if_pos c, sub_1 x (by omega)]
      exact ⟨1 - x, rfl, rfl, by omega, fun _ => by omega, fun z => absurd c z⟩
    · rw [if_neg c, sub_16 x (by omega)]
      exact ⟨16 - x, rfl, rfl, by omega, fun z => absurd z c, fun _ => by omega⟩
  obtain ⟨w, s1, s2, hw, w1, w2⟩ := sp
  unfold f_X3_receive f_X1_put f_X6_takeIn
  rw [s1, s2]
  by_cases c : w = 0
  · subst c
    rw [if_neg (show ¬ 0 < nI 0 by decide), if_pos (show (0 : Int32) = 0 from rfl), if_pos (show nI 0 = 0 from rfl)]
    obtain ⟨g1, g2, g3, g4, g5, g6, g7, g8, g9, g10⟩ := h
    exact ⟨rfl, ⟨g1, g2, g3, g4, g5, g6, rfl, g8, .inr rfl, g10⟩, hq'⟩
  · rw [if_pos (show 0 < nI w from nI_lt (a := 0) (by omega) (by omega)), if_neg (show ¬ (1 : Int32) = 0 by decide), if_neg (nI_ne0 (by omega) (by omega)), e1, e2, e3, nI_add, nI_and15, nI_clamp (by omega), nI_clamp (by omega), nI_1, hy]
    refine ⟨rfl, h, h1, h2, x + 1, f, rfl, rfl, rfl, hf, fun z => by have := w1 z; omega, ?_, ?_⟩
    · by_cases z : b.2.2.1 = 0
      · have := w1 z; omega
      · have := w2 z; omega
    · intro j hj
      have hx : x < 16 := by
        by_cases z : b.2.2.1 = 0
        · have := w1 z; omega
        · have := w2 z; omega
      show upd q.1 ((f + x) % 16) y ((f + j) % 16) = upd m.1 x y j
      by_cases d : j = x
      · subst d; rw [pk_us, pk_us]
      · rw [pk_un d, pk_un (by omega)]
        exact h5 j (by omega)
end
