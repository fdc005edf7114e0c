abbrev TS : Type := (Nat → Int32) × (Nat → Int64)
abbrev CS : Type := Int32 × Int32 × Int32 × (Nat → Int32) × (Nat → Int32) × (Nat → Int32)
abbrev SS : Type := Int32 × Int32 × Int32 × Int32 × Int32 × Int32 × Int32 × Int32
abbrev QS : Type := (Nat → Int32) × Int32 × Int32 × Int32
abbrev OS : Type := (Nat → Int32) × Int64
theorem z_nar {x : Int32} (h : x = 0 ∨ x = 1) : narrow .boolean (.int x) = .int x := by rcases h with rfl | rfl <;> rfl
theorem z_fit {x : Int32} (h : x = 0 ∨ x = 1) : fits .boolean (.int x) = true := by rcases h with rfl | rfl <;> rfl
theorem sw_ne {x y : Int32} {k : Int} (h : ¬ x = y) (hy : y.toInt = k) : x.toInt ≠ k := fun e => h (Int32.toInt_inj.mp (e.trans hy.symm))
theorem k_same {D : va_G} {cl : List vw_C} {tys : List (ClassId × FieldType)} {U : State} (h : va_K D cl tys U) (i j : Nat) {c1 c2 : ClassId} {ty : FieldType} (hi : tys[i]? = some (c1, ty)) (hj : tys[j]? = some (c2, ty)) (hp : ∀ c, va_RA U c ty = (U.vm.findClass ("[" ++ ty.toString) = some c) := by intro c; rfl) : c1 = c2 := by
  have a : va_RA U c1 ty := (h.2 i _ hi).2
  have b : va_RA U c2 ty := (h.2 j _ hj).2
  rw [hp] at a b
  exact Option.some.inj (a.symm.trans b)
theorem in_lt {n : Nat} {x : Int32} (hn : n ≤ 4) (h0 : ¬ x < 0) (h : ¬ nI n ≤ x) : vp_in x n := by
  rcases pk_ix x (n := n) (by omega) with a | a | ⟨j, hj, rfl⟩
  · exact absurd a h0
  · exact absurd a h
  · exact vp_in_nI hj (by omega)
theorem in_lt1 {n : Nat} {x : Int32} (hn : n ≤ 4) (h0 : ¬ x < 0) (h : ¬ nI n ≤ x) : vp_in x (n + 1) := by
  rcases pk_ix x (n := n) (by omega) with a | a | ⟨j, hj, rfl⟩
  · exact absurd a h0
  · exact absurd a h
  · exact vp_in_nI (by omega) (by omega)
theorem in_lt2 {n : Nat} {x : Int32} (hn : n ≤ 4) (h0 : ¬ x < 0) (h : ¬ nI (2 * n) ≤ x) : vp_in x (2 * n) := by
  rcases pk_ix x (n := 2 * n) (by omega) with a | a | ⟨j, hj, rfl⟩
  · exact absurd a h0
  · exact absurd a h
  · exact vp_in_nI hj (by omega)
section
variable {p : Program} {l : Launch} {e : Env} {R : Room} {s : State} {m : MethodId} {args : Array Value} {below : List Frame} {meth : Method} {c : Code} {H : Heap} {locs : List Loc} {cells slots : Nat} {Q : State → Prop} {g : JFrame}
theorem w_nameQ (k : ∀ Q9 : State → Prop, Q9 = Q → W p l e R s m args below meth c H locs cells slots Q9 g) : W p l e R s m args below meth c H locs cells slots Q g := k Q rfl
theorem w_gen {H9 : Heap} {locs9 : List Loc} (h : H9 = H) (h2 : locs9 = locs) (k : W p l e R s m args below meth c H9 locs9 cells slots Q g) : W p l e R s m args below meth c H locs cells slots Q g := by subst h; subst h2; exact k
end
