def Best (P : Nat → Prop) (v : Nat → Nat) (lo hi r : Nat) : Prop := (r = 0 ∨ (lo ≤ r ∧ r < hi ∧ P r ∧ 0 < v r)) ∧ ∀ s, lo ≤ s → s < hi → P s → v s < v r ∨ (v s = v r ∧ r ≤ s)
theorem best_uniq {P : Nat → Prop} {v : Nat → Nat} {r r' : Nat} (h0 : v 0 = 0) (h : Best P v 1 32 r) (h' : Best P v 1 32 r') : r = r' := by
  obtain ⟨a, b⟩ := h
  obtain ⟨a', b'⟩ := h'
  rcases a with e | ⟨a1, a2, a3, a4⟩
  · subst e
    rcases a' with e | ⟨c1, c2, c3, c4⟩
    · exact e.symm
    · have := b r' c1 c2 c3; omega
  · rcases a' with e | ⟨c1, c2, c3, c4⟩
    · subst e
      have := b' r a1 a2 a3; omega
    · have := b r' c1 c2 c3
      have := b' r a1 a2 a3
      omega
theorem best_lt {P : Nat → Prop} {v : Nat → Nat} {r : Nat} (h : Best P v 1 32 r) : r < 32 := by
  rcases h.1 with e | ⟨_, e, _⟩ <;> omega
theorem mu_best {O : Int32} {f : Nat → Int32} {v : Nat → Nat} (hf : ∀ s, s < 32 → f s = nI (v s) ∧ v s < 8) : ∀ k i b, i + k = 32 → 1 ≤ i → b < i → Best (fun s => bt O s = true) v 1 i b → Best (fun s => bt O s = true) v 1 32 (mu_go O f k i b)
  | 0, i, b, hi, _, _, h => by rw [show i = 32 by omega] at h; exact h
  | k + 1, i, b, hi, h1, hb, h => by
    show Best _ v 1 32 (mu_go O f k (i + 1) _)
    obtain ⟨ha, hs⟩ := h
    have ei := hf i (by omega)
    have eb := hf b (by omega)
    have ha' : b = 0 ∨ (1 ≤ b ∧ b < i + 1 ∧ bt O b = true ∧ 0 < v b) := by
      rcases ha with e | ⟨p1, p2, p3, p4⟩
      · exact .inl e
      · exact .inr ⟨p1, by omega, p3, p4⟩
    by_cases c : bt O i = true
    · rw [if_neg (fun q => by rw [(b_has (by omega)).mp q] at c; exact absurd c (by decide))]
      by_cases d : v i ≤ v b
      · rw [if_pos (show f i ≤ f b by rw [ei.1, eb.1]; exact (nI_leI (by omega) (by omega)).mpr d)]
        refine mu_best hf k (i + 1) b (by omega) (by omega) (by omega) ⟨ha', ?_⟩
        intro s hs1 hs2 hp
        by_cases e : s = i
        · subst e; omega
        · exact hs s hs1 (by omega) hp
      · rw [if_neg (show ¬ f i ≤ f b by rw [ei.1, eb.1, nI_leI (by omega) (by omega)]; exact d)]
        refine mu_best hf k (i + 1) i (by omega) (by omega) (by omega) ⟨.inr ⟨h1, by omega, c, by omega⟩, ?_⟩
        intro s hs1 hs2 hp
        by_cases e : s = i
        · subst e; exact .inr ⟨rfl, Nat.le_refl _⟩
        · have := hs s hs1 (by omega) hp; omega
    · rw [if_pos ((b_has (by omega)).mpr (by simpa using c))]
      refine mu_best hf k (i + 1) b (by omega) (by omega) (by omega) ⟨ha', ?_⟩
      intro s hs1 hs2 hp
      by_cases e : s = i
      · subst e; exact absurd hp c
      · exact hs s hs1 (by omega) hp
theorem sh_one {x : Int32} {s : Nat} (hs : s < 32) : (((x >>> (nI s &&& 31)) &&& 1) = 1) ↔ bt x s = true := by
  constructor
  · intro h
    have h2 : bt ((x >>> (nI s &&& 31)) &&& 1) 0 = bt 1 0 := by rw [h]
    rw [b_and, b_sshr s hs _ (by omega), Nat.add_zero, if_pos hs, show bt 1 0 = true from rfl, Bool.and_true] at h2
    exact h2
  · intro h
    apply b_ext
    intro i hi
    rw [b_and, b_sshr s hs _ hi, b_1 i hi]
    by_cases c : i = 0
    · subst c; rw [Nat.add_zero, if_pos hs, h]; rfl
    · rw [decide_eq_false c, Bool.and_false]
theorem en_spec {m : MCs} {c s : Nat} (hc : c < 2 ^ 31) (hs : s < 32) : (f_X6_enables m (nI c) (nI s) = 0) ↔ bt (m.2.2.2.2.1 c) s = false := by
  unfold f_X6_enables
  rw [nI_clamp hc]
  by_cases q : bt (m.2.2.2.2.1 c) s = true
  · rw [if_pos ((sh_one hs).mpr q), q]; decide
  · rw [if_neg (fun e => q ((sh_one hs).mp e))]
    exact ⟨fun _ => by simpa using q, fun _ => rfl⟩
theorem bs_best {m : MCs} {p : Int32} {P : Nat → Prop} {v : Nat → Nat} (hP : ∀ s, 1 ≤ s → s < 32 → (P s ↔ ¬ m.2.1 s = 0 ∧ ¬ f_X6_enables m p (nI s) = 0)) (hf : ∀ s, s < 32 → m.2.2.2.1 s = nI (v s) ∧ v s < 8) (h0 : v 0 = 0) :
    ∀ k b, k ≤ 31 → b < 32 → Best P v (k + 1) 32 b → Best P v 1 32 (bs_go m p k b)
  | 0, b, _, _, h => h
  | k + 1, b, hk, hb, h => by
    show Best P v 1 32 (bs_go m p k _)
    obtain ⟨ha, hs⟩ := h
    have ei := hf (k + 1) (by omega)
    have eb := hf b (by omega)
    have ha' : b = 0 ∨ (k + 1 ≤ b ∧ b < 32 ∧ P b ∧ 0 < v b) := by
      rcases ha with e | ⟨p1, p2, p3, p4⟩
      · exact .inl e
      · exact .inr ⟨by omega, p2, p3, p4⟩
    have keep : (¬ P (k + 1) ∨ v (k + 1) = 0 ∧ (b = 0 ∨ 0 < v b) ∨ (b ≠ 0 ∧ v (k + 1) < v b)) → Best P v (k + 1) 32 b := by
      intro hk2
      refine ⟨ha', ?_⟩
      intro s hs1 hs2 hp
      by_cases e : s = k + 1
      · subst e
        rcases hk2 with q | ⟨q, r⟩ | q
        · exact absurd hp q
        · rcases r with r | r
          · omega
          · omega
        · omega
      · exact hs s (by omega) hs2 hp
    have kb : b = 0 ∨ 0 < v b := by
      rcases ha with e | ⟨p1, p2, p3, p4⟩
      · exact .inl e
      · exact .inr p4
    have new : P (k + 1) → 0 < v (k + 1) → (b = 0 ∨ v b ≤ v (k + 1)) → Best P v (k + 1) 32 (k + 1) := by
      intro hp hv hq
      refine ⟨.inr ⟨Nat.le_refl _, by omega, hp, hv⟩, ?_⟩
      intro s hs1 hs2 hp2
      by_cases e : s = k + 1
      · subst e; exact .inr ⟨rfl, Nat.le_refl _⟩
      · have := hs s (by omega) hs2 hp2
        rcases hq with q | q
        · subst q
          rcases this with t | t
          · omega
          · omega
        · omega
    by_cases c1 : m.2.1 (k + 1) = 0
    · rw [if_pos c1]
      exact bs_best hP hf h0 k b (by omega) hb (keep (.inl (fun q => ((hP (k + 1) (by omega) (by omega)).mp q).1 c1)))
    · rw [if_neg c1]
      by_cases c2 : f_X6_enables m p (nI (k + 1)) = 0
      · rw [if_pos c2]
        exact bs_best hP hf h0 k b (by omega) hb (keep (.inl (fun q => ((hP (k + 1) (by omega) (by omega)).mp q).2 c2)))
      · rw [if_neg c2]
        have hp : P (k + 1) := (hP (k + 1) (by omega) (by omega)).mpr ⟨c1, c2⟩
        by_cases c3 : v (k + 1) = 0
        · rw [if_pos (show m.2.2.2.1 (k + 1) ≤ 0 by rw [ei.1, c3]; decide)]
          exact bs_best hP hf h0 k b (by omega) hb (keep (.inr (.inl ⟨c3, kb⟩)))
        · rw [if_neg (show ¬ m.2.2.2.1 (k + 1) ≤ 0 by rw [ei.1]; exact nI_nle (by omega) (by omega))]
          by_cases c4 : b = 0
          · rw [if_pos (show nI b = 0 by rw [c4]; rfl)]
            exact bs_best hP hf h0 k (k + 1) (by omega) (by omega) (new hp (by omega) (.inl c4))
          · rw [if_neg (show ¬ nI b = 0 from nI_ne0 (by omega) (by omega))]
            by_cases c5 : v (k + 1) < v b
            · rw [if_pos (show m.2.2.2.1 (k + 1) < m.2.2.2.1 b by rw [ei.1, eb.1]; exact (nI_ltI (by omega) (by omega)).mpr c5)]
              exact bs_best hP hf h0 k b (by omega) hb (keep (.inr (.inr ⟨c4, c5⟩)))
            · rw [if_neg (show ¬ m.2.2.2.1 (k + 1) < m.2.2.2.1 b by rw [ei.1, eb.1, nI_ltI (by omega) (by omega)]; exact c5)]
              exact bs_best hP hf h0 k (k + 1) (by omega) (by omega) (new hp (by omega) (.inr (by omega)))
theorem most_eq {n c : Nat} {a : CS} {b : MCs} (hn : n ≤ 4) (h : SimC0 n a b) (hc : c < 2 * n) : ∃ r, ∃ v : Nat → Nat, f_X0_mostUrgent a (nI c) = nI r ∧ f_X6_best b (nI c) = nI r ∧ (∀ s, s < 32 → a.2.2.2.1 s = nI (v s) ∧ v s < 8) ∧ v 0 = 0 ∧ Best (fun s => bt (a.2.1 &&& a.2.2.2.2.1 c) s = true) v 1 32 r := by
  obtain ⟨h1, h2, h3, h4, h5, h6, h7⟩ := h
  have hf : ∀ s, s < 32 → a.2.2.2.1 s = nI ((a.2.2.2.1 s).toNatClampNeg) ∧ (a.2.2.2.1 s).toNatClampNeg < 8 := by
    intro s hs
    obtain ⟨_, v, hv, e⟩ := h4 s hs
    rw [e, nI_clamp (by omega)]
    exact ⟨rfl, hv⟩
  have v0 : (a.2.2.2.1 0).toNatClampNeg = 0 := by rw [h5]; rfl
  have st : ∀ hi, Best (fun s => bt (a.2.1 &&& a.2.2.2.2.1 c) s = true) (fun s => (a.2.2.2.1 s).toNatClampNeg) hi hi 0 := fun hi => ⟨.inl rfl, fun s p q => by omega⟩
  have m1 := mu_best (O := a.2.1 &&& a.2.2.2.2.1 c) (v := fun s => (a.2.2.2.1 s).toNatClampNeg) hf 31 1 0 rfl (Nat.le_refl _) (by omega) (st 1)
  have m2 := bs_best (m := b) (p := nI c) (P := fun s => bt (a.2.1 &&& a.2.2.2.2.1 c) s = true) (v := fun s => (a.2.2.2.1 s).toNatClampNeg) (by
    intro s p q
    show bt (a.2.1 &&& a.2.2.2.2.1 c) s = true ↔ _
    rw [en_spec (by omega) q, b_and, Bool.and_eq_true, h2.2 s p q, (h6 c hc).1]
    simp) (fun s hs => by rw [← (h4 s hs).1]; exact hf s hs) v0 31 0 (Nat.le_refl _) (by omega) (st 32)
  refine ⟨_, _, ?_, ?_, hf, v0, m1⟩
  · unfold f_X0_mostUrgent
    rw [nI_clamp (by omega)]
  · unfold f_X6_best
    rw [best_uniq v0 m1 m2]
theorem ab_spec {m : MCs} {p : Int32} : ∀ k i z, (z = 0 ∨ z = 1) → (ab_go m p k i z = 0 ↔ z = 0 ∧ ∀ s, i ≤ s → s < i + k → (m.2.1 s = 0 ∨ f_X6_enables m p (nI s) = 0 ∨ m.2.2.2.1 s ≤ m.2.2.2.2.2 (Int32.toNatClampNeg p)))
  | 0, i, z, _ => by
    show z = 0 ↔ _
    exact ⟨fun e => ⟨e, fun s p q => by omega⟩, fun e => e.1⟩
  | k + 1, i, z, hz => by
    show ab_go m p k (i + 1) _ = 0 ↔ _
    have step : ∀ y : Int32, (y = 0 ∨ y = 1) → ((y = 0) ↔ z = 0 ∧ (m.2.1 i = 0 ∨ f_X6_enables m p (nI i) = 0 ∨ m.2.2.2.1 i ≤ m.2.2.2.2.2 (Int32.toNatClampNeg p))) → (ab_go m p k (i + 1) y = 0 ↔ z = 0 ∧ ∀ s, i ≤ s → s < i + (k + 1) → (m.2.1 s = 0 ∨ f_X6_enables m p (nI s) = 0 ∨ m.2.2.2.1 s ≤ m.2.2.2.2.2 (Int32.toNatClampNeg p))) := by
      intro y hy hyz
      rw [ab_spec k (i + 1) y hy, hyz]
      constructor
      · rintro ⟨⟨e1, e2⟩, e3⟩
        refine ⟨e1, fun s p q => ?_⟩
        by_cases c : s = i
        · subst c; exact e2
        · exact e3 s (by omega) (by omega)
      · rintro ⟨e1, e2⟩
        exact ⟨⟨e1, e2 i (Nat.le_refl _) (by omega)⟩, fun s p q => e2 s (by omega) (by omega)⟩
    rcases hz with e | e
    · subst e
      rw [if_pos rfl]
      by_cases c1 : m.2.1 i = 0
      · rw [if_pos c1]; exact step 0 (.inl rfl) ⟨fun _ => ⟨rfl, .inl c1⟩, fun _ => rfl⟩
      · rw [if_neg c1]
        by_cases c2 : f_X6_enables m p (nI i) = 0
        · rw [if_pos c2]; exact step 0 (.inl rfl) ⟨fun _ => ⟨rfl, .inr (.inl c2)⟩, fun _ => rfl⟩
        · rw [if_neg c2]
          by_cases c3 : m.2.2.2.1 i ≤ m.2.2.2.2.2 (Int32.toNatClampNeg p)
          · rw [if_pos c3]; exact step 0 (.inl rfl) ⟨fun _ => ⟨rfl, .inr (.inr c3)⟩, fun _ => rfl⟩
          · rw [if_neg c3]
            refine step 1 (.inr rfl) ⟨fun q => absurd q (by decide), ?_⟩
            rintro ⟨_, q | q | q⟩
            · exact absurd q c1
            · exact absurd q c2
            · exact absurd q c3
    · subst e
      rw [if_neg (by decide)]
      exact step 1 (.inr rfl) ⟨fun q => absurd q (by decide), fun q => absurd q.1 (by decide)⟩
theorem calls_eq {n c : Nat} {a : CS} {b : MCs} (hn : n ≤ 4) (h : SimC0 n a b) (hc : c < 2 * n) : (f_X0_calls n a (nI c) = 0) ↔ f_X6_above b (nI c) = 0 := by
  obtain ⟨r, v, e1, _, hf, v0, hb⟩ := most_eq hn h hc
  have hr := best_lt hb
  obtain ⟨h1, h2, h3, h4, h5, h6, h7⟩ := h
  obtain ⟨t1, t, ht, t2⟩ := h7 c hc
  unfold f_X0_calls f_X6_above
  rw [if_neg (nI_pos (by omega)), if_neg (nI_ge hc (by omega)), e1, nI_clamp (by omega), nI_clamp (by omega), t2, (hf r hr).1, ab_spec 31 1 0 (.inl rfl), nI_clamp (by omega), ← t1, t2]
  have hvr := (hf r hr).2
  have key : (v r ≤ t) ↔ ∀ s, 1 ≤ s → s < 1 + 31 → (b.2.1 s = 0 ∨ f_X6_enables b (nI c) (nI s) = 0 ∨ b.2.2.2.1 s ≤ nI t) := by
    constructor
    · intro q s p1 p2
      by_cases c1 : b.2.1 s = 0
      · exact .inl c1
      · by_cases c2 : f_X6_enables b (nI c) (nI s) = 0
        · exact .inr (.inl c2)
        · refine .inr (.inr ?_)
          rw [← (h4 s (by omega)).1, (hf s (by omega)).1, nI_leI (by have := (hf s (by omega)).2; omega) (by omega)]
          have hp : bt (a.2.1 &&& a.2.2.2.2.1 c) s = true := by
            rw [en_spec (by omega) (by omega), ← (h6 c hc).1] at c2
            rw [b_and, Bool.and_eq_true, h2.2 s p1 (by omega)]
            exact ⟨c1, by simpa using c2⟩
          have := hb.2 s p1 (by omega) hp
          omega
    · intro q
      rcases hb.1 with e | ⟨p1, p2, p3, p4⟩
      · subst e; omega
      · have p3' : bt (a.2.1 &&& a.2.2.2.2.1 c) r = true := p3
        rw [b_and, Bool.and_eq_true, h2.2 r p1 p2] at p3'
        rcases q r p1 (by omega) with c1 | c2 | c3
        · exact absurd c1 p3'.1
        · rw [en_spec (by omega) (by omega), ← (h6 c hc).1, p3'.2] at c2
          exact absurd c2 (by decide)
        · rw [← (h4 r p2).1, (hf r p2).1, nI_leI (by omega) (by omega)] at c3
          exact c3
  by_cases d : v r ≤ t
  · rw [if_pos ((nI_leI (by omega) (by omega)).mpr d)]
    exact ⟨fun _ => ⟨rfl, key.mp d⟩, fun _ => rfl⟩
  · rw [if_neg (fun q => d ((nI_leI (by omega) (by omega)).mp q))]
    exact ⟨fun q => absurd q (by decide), fun q => absurd (key.mpr q.2) d⟩
