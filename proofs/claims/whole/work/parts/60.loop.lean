set_option maxHeartbeats 4000000 in
set_option maxRecDepth 100000 in
theorem law_loop {p : Program} {l : Launch} {e : Env} {s : State} {m : MethodId} {below : List Frame} {meth : Method} {c : Code} {dC : Nat → ClassId} {dI : Nat → Nat → Nat} {cI cJ cB cZ : ClassId} {b L : Nat} {xs : Nat → Int32} (Cx : lw_Cx p l s m c b L xs (fun q : Nat => s.heap.size ≤ q) dC dI cI cJ cB cZ) (hr : meth.sig.returnType = ret) (hlocks : meth.locks = false) (hL : L ≤ 3585) (bH tH kH sH tS tW kP kE kT qH oH qA oA mH m_soft m_compares m_signals m_waits m_served m_priorities m_enabled m_thresholds m_registers m_others m_came m_out uA n : Nat) :
    ∀ (k j i C S : Nat) (vT : TS) (vC : CS) (vS : SS) (vQ : QS) (vO : OS) (mX : Int32) (mT : MTs) (mC : MCs) (mS : MSs) (mQ : MQs) (mO : MOs) (vU : Nat → Int64) (H : Heap) (locs : List Loc) (ls : Array Slot), i = 1 + 7 * j → L < i + 7 + 7 * k → i ≤ L + 7 → C = 40 + j → S = 9000 + 6 * j → Inv n j vT vC vS vQ vO mT mC mS mQ mO → va_P (dC, dI) vwCl [(bH, .inr (5, [.int (nI n), .ref tH, .ref kH, .ref sH])), (tH, .inr (4, [.ref tS, .ref tW, .int (nI n)])), (tS, .inl (cI, n, .inl vT.1)), (tW, .inl (cJ, (n + 1), .inr (.inl vT.2))), (kH, .inr (0, [.int vC.1, .int vC.2.1, .int vC.2.2.1, .ref kP, .ref kE, .ref kT, .int (nI (2 * n))])), (kP, .inl (cI, 32, .inl vC.2.2.2.1)), (kE, .inl (cI, (2 * n), .inl vC.2.2.2.2.1)), (kT, .inl (cI, (2 * n), .inl vC.2.2.2.2.2)), (sH, .inr (3, [.ref qH, .ref oH, .int vS.1, .int vS.2.1, .int vS.2.2.1, .int vS.2.2.2.1, .int vS.2.2.2.2.1, .int vS.2.2.2.2.2.1, .int vS.2.2.2.2.2.2.1, .int vS.2.2.2.2.2.2.2])), (qH, .inr (1, [.ref qA, .int vQ.2.1, .int vQ.2.2.1, .int vQ.2.2.2])), (qA, .inl (cI, 16, .inl vQ.1)), (oH, .inr (2, [.ref oA, .long vO.2])), (oA, .inl (cB, 4096, .inl vO.1)), (mH, .inr (6, [.int mX, .int (nI n), .ref m_soft, .ref m_compares, .long mT.2.2, .ref m_signals, .ref m_waits, .ref m_served, .ref m_priorities, .ref m_enabled, .ref m_thresholds, .ref m_registers, .ref m_others, .int mS.2.2.1, .int mS.2.2.2.1, .int mS.2.2.2.2, .ref m_came, .int mQ.2, .ref m_out, .long mO.2])), (m_soft, .inl (cZ, 4, .inl mT.1)), (m_compares, .inl (cJ, 4, .inr (.inl mT.2.1))), (m_signals, .inl (cZ, 32, .inl mC.1)), (m_waits, .inl (cZ, 32, .inl mC.2.1)), (m_served, .inl (cZ, 32, .inl mC.2.2.1)), (m_priorities, .inl (cI, 32, .inl mC.2.2.2.1)), (m_enabled, .inl (cI, 8, .inl mC.2.2.2.2.1)), (m_thresholds, .inl (cI, 8, .inl mC.2.2.2.2.2)), (m_registers, .inl (cI, 8, .inl mS.1)), (m_others, .inl (cI, 2, .inl mS.2.1)), (m_came, .inl (cI, 16, .inl mQ.1)), (m_out, .inl (cI, 4096, .inl mO.1)), (uA, .inl (cJ, 1, .inr (.inl vU)))] H → va_D (fun q : Nat => s.heap.size ≤ q) [(bH, .inr (5, [.int (nI n), .ref tH, .ref kH, .ref sH])), (tH, .inr (4, [.ref tS, .ref tW, .int (nI n)])), (tS, .inl (cI, n, .inl vT.1)), (tW, .inl (cJ, (n + 1), .inr (.inl vT.2))), (kH, .inr (0, [.int vC.1, .int vC.2.1, .int vC.2.2.1, .ref kP, .ref kE, .ref kT, .int (nI (2 * n))])), (kP, .inl (cI, 32, .inl vC.2.2.2.1)), (kE, .inl (cI, (2 * n), .inl vC.2.2.2.2.1)), (kT, .inl (cI, (2 * n), .inl vC.2.2.2.2.2)), (sH, .inr (3, [.ref qH, .ref oH, .int vS.1, .int vS.2.1, .int vS.2.2.1, .int vS.2.2.2.1, .int vS.2.2.2.2.1, .int vS.2.2.2.2.2.1, .int vS.2.2.2.2.2.2.1, .int vS.2.2.2.2.2.2.2])), (qH, .inr (1, [.ref qA, .int vQ.2.1, .int vQ.2.2.1, .int vQ.2.2.2])), (qA, .inl (cI, 16, .inl vQ.1)), (oH, .inr (2, [.ref oA, .long vO.2])), (oA, .inl (cB, 4096, .inl vO.1)), (mH, .inr (6, [.int mX, .int (nI n), .ref m_soft, .ref m_compares, .long mT.2.2, .ref m_signals, .ref m_waits, .ref m_served, .ref m_priorities, .ref m_enabled, .ref m_thresholds, .ref m_registers, .ref m_others, .int mS.2.2.1, .int mS.2.2.2.1, .int mS.2.2.2.2, .ref m_came, .int mQ.2, .ref m_out, .long mO.2])), (m_soft, .inl (cZ, 4, .inl mT.1)), (m_compares, .inl (cJ, 4, .inr (.inl mT.2.1))), (m_signals, .inl (cZ, 32, .inl mC.1)), (m_waits, .inl (cZ, 32, .inl mC.2.1)), (m_served, .inl (cZ, 32, .inl mC.2.2.1)), (m_priorities, .inl (cI, 32, .inl mC.2.2.2.1)), (m_enabled, .inl (cI, 8, .inl mC.2.2.2.2.1)), (m_thresholds, .inl (cI, 8, .inl mC.2.2.2.2.2)), (m_registers, .inl (cI, 8, .inl mS.1)), (m_others, .inl (cI, 2, .inl mS.2.1)), (m_came, .inl (cI, 16, .inl mQ.1)), (m_out, .inl (cI, 4096, .inl mO.1)), (uA, .inl (cJ, 1, .inr (.inl vU)))] → va_S (fun q : Nat => s.heap.size ≤ q) s.heap H locs → lv_has ls 8 [(4, .int (nI i)), (3, .ref uA), (2, .ref mH), (1, .ref bH), (0, .ref b)] → W p l e room_1 s m #[Value.ref b] below meth c H locs C S (lw_Z below #[Value.ref b] s) (F0 m 33 ls []) := by
  obtain ⟨hx, hb, hml, hown, hw, hX, hbl, hbA, hA, hK, hN, hxz, hxs, hst⟩ := id Cx
  intro k
  induction k with
  | zero =>
    intro j i C S vT vC vS vQ vO mX mT mC mS mQ mO vU H locs ls ei hk hiL eC eS hI hP hD hS hl
    refine lv_iload hx hb dL_law_33 (lv_at hl 0 rfl) ?_
    refine lv_aload_n hx hb dL_law_35 rfl (lv_at hl 4 rfl) ?_
    refine va_slen hx hb hX hbl hbA hS dL_law_36 ?_
    refine lv_bipush (v := 7) hx hb dL_law_37 (by decide) ?_
    refine lv_isub hx hb dL_law_39 ?_
    refine lv_icmp_gt (tgt := 675) hx hb dL_law_40 (by decide) (fun c_40 => ?_) (fun c_40 => ?_)
    · refine lv_iconst (v := 1) hx hb dL_law_675 (by decide) ?_
      refine va_forget (fun q hq => hS.2.2 q hq) ?_
      refine W.widen (k := 601024) (n := 7293000) (by omega) (by omega) ?_
      exact lw_ret hx hb hr hlocks dL_law_676
    · exact absurd ((lt_exit (by omega) (by omega)).mpr (by omega)) c_40
  | succ k ih =>
    intro j i C S vT vC vS vQ vO mX mT mC mS mQ mO vU H locs ls ei hk hiL eC eS hI hP hD hS hl
    refine lv_iload hx hb dL_law_33 (lv_at hl 0 rfl) ?_
    refine lv_aload_n hx hb dL_law_35 rfl (lv_at hl 4 rfl) ?_
    refine va_slen hx hb hX hbl hbA hS dL_law_36 ?_
    refine lv_bipush (v := 7) hx hb dL_law_37 (by decide) ?_
    refine lv_isub hx hb dL_law_39 ?_
    refine lv_icmp_gt (tgt := 675) hx hb dL_law_40 (by decide) (fun c_40 => ?_) (fun c_40 => ?_)
    · refine lv_iconst (v := 1) hx hb dL_law_675 (by decide) ?_
      refine va_forget (fun q hq => hS.2.2 q hq) ?_
      refine W.widen (k := 601024) (n := 7293000) (by omega) (by omega) ?_
      exact lw_ret hx hb hr hlocks dL_law_676
    · have hlt : i + 7 ≤ L := by
          rcases Nat.lt_or_ge L (i + 7) with q | q
          · exact absurd ((lt_exit (by omega) (by omega)).mpr q) c_40
          · exact q
      have K9 : ∀ (H : Heap) (locs : List Loc) (ls : Array Slot) (vT9 : TS) (vC9 : CS) (vS9 : SS) (vQ9 : QS) (vO9 : OS) (mX9 : Int32) (mT9 : MTs) (mC9 : MCs) (mS9 : MSs) (mQ9 : MQs) (mO9 : MOs) (vU9 : Nat → Int64), Inv n (j + 1) vT9 vC9 vS9 vQ9 vO9 mT9 mC9 mS9 mQ9 mO9 → va_P (dC, dI) vwCl [(bH, .inr (5, [.int (nI n), .ref tH, .ref kH, .ref sH])), (tH, .inr (4, [.ref tS, .ref tW, .int (nI n)])), (tS, .inl (cI, n, .inl vT9.1)), (tW, .inl (cJ, (n + 1), .inr (.inl vT9.2))), (kH, .inr (0, [.int vC9.1, .int vC9.2.1, .int vC9.2.2.1, .ref kP, .ref kE, .ref kT, .int (nI (2 * n))])), (kP, .inl (cI, 32, .inl vC9.2.2.2.1)), (kE, .inl (cI, (2 * n), .inl vC9.2.2.2.2.1)), (kT, .inl (cI, (2 * n), .inl vC9.2.2.2.2.2)), (sH, .inr (3, [.ref qH, .ref oH, .int vS9.1, .int vS9.2.1, .int vS9.2.2.1, .int vS9.2.2.2.1, .int vS9.2.2.2.2.1, .int vS9.2.2.2.2.2.1, .int vS9.2.2.2.2.2.2.1, .int vS9.2.2.2.2.2.2.2])), (qH, .inr (1, [.ref qA, .int vQ9.2.1, .int vQ9.2.2.1, .int vQ9.2.2.2])), (qA, .inl (cI, 16, .inl vQ9.1)), (oH, .inr (2, [.ref oA, .long vO9.2])), (oA, .inl (cB, 4096, .inl vO9.1)), (mH, .inr (6, [.int mX9, .int (nI n), .ref m_soft, .ref m_compares, .long mT9.2.2, .ref m_signals, .ref m_waits, .ref m_served, .ref m_priorities, .ref m_enabled, .ref m_thresholds, .ref m_registers, .ref m_others, .int mS9.2.2.1, .int mS9.2.2.2.1, .int mS9.2.2.2.2, .ref m_came, .int mQ9.2, .ref m_out, .long mO9.2])), (m_soft, .inl (cZ, 4, .inl mT9.1)), (m_compares, .inl (cJ, 4, .inr (.inl mT9.2.1))), (m_signals, .inl (cZ, 32, .inl mC9.1)), (m_waits, .inl (cZ, 32, .inl mC9.2.1)), (m_served, .inl (cZ, 32, .inl mC9.2.2.1)), (m_priorities, .inl (cI, 32, .inl mC9.2.2.2.1)), (m_enabled, .inl (cI, 8, .inl mC9.2.2.2.2.1)), (m_thresholds, .inl (cI, 8, .inl mC9.2.2.2.2.2)), (m_registers, .inl (cI, 8, .inl mS9.1)), (m_others, .inl (cI, 2, .inl mS9.2.1)), (m_came, .inl (cI, 16, .inl mQ9.1)), (m_out, .inl (cI, 4096, .inl mO9.1)), (uA, .inl (cJ, 1, .inr (.inl vU9)))] H → va_D (fun q : Nat => s.heap.size ≤ q) [(bH, .inr (5, [.int (nI n), .ref tH, .ref kH, .ref sH])), (tH, .inr (4, [.ref tS, .ref tW, .int (nI n)])), (tS, .inl (cI, n, .inl vT9.1)), (tW, .inl (cJ, (n + 1), .inr (.inl vT9.2))), (kH, .inr (0, [.int vC9.1, .int vC9.2.1, .int vC9.2.2.1, .ref kP, .ref kE, .ref kT, .int (nI (2 * n))])), (kP, .inl (cI, 32, .inl vC9.2.2.2.1)), (kE, .inl (cI, (2 * n), .inl vC9.2.2.2.2.1)), (kT, .inl (cI, (2 * n), .inl vC9.2.2.2.2.2)), (sH, .inr (3, [.ref qH, .ref oH, .int vS9.1, .int vS9.2.1, .int vS9.2.2.1, .int vS9.2.2.2.1, .int vS9.2.2.2.2.1, .int vS9.2.2.2.2.2.1, .int vS9.2.2.2.2.2.2.1, .int vS9.2.2.2.2.2.2.2])), (qH, .inr (1, [.ref qA, .int vQ9.2.1, .int vQ9.2.2.1, .int vQ9.2.2.2])), (qA, .inl (cI, 16, .inl vQ9.1)), (oH, .inr (2, [.ref oA, .long vO9.2])), (oA, .inl (cB, 4096, .inl vO9.1)), (mH, .inr (6, [.int mX9, .int (nI n), .ref m_soft, .ref m_compares, .long mT9.2.2, .ref m_signals, .ref m_waits, .ref m_served, .ref m_priorities, .ref m_enabled, .ref m_thresholds, .ref m_registers, .ref m_others, .int mS9.2.2.1, .int mS9.2.2.2.1, .int mS9.2.2.2.2, .ref m_came, .int mQ9.2, .ref m_out, .long mO9.2])), (m_soft, .inl (cZ, 4, .inl mT9.1)), (m_compares, .inl (cJ, 4, .inr (.inl mT9.2.1))), (m_signals, .inl (cZ, 32, .inl mC9.1)), (m_waits, .inl (cZ, 32, .inl mC9.2.1)), (m_served, .inl (cZ, 32, .inl mC9.2.2.1)), (m_priorities, .inl (cI, 32, .inl mC9.2.2.2.1)), (m_enabled, .inl (cI, 8, .inl mC9.2.2.2.2.1)), (m_thresholds, .inl (cI, 8, .inl mC9.2.2.2.2.2)), (m_registers, .inl (cI, 8, .inl mS9.1)), (m_others, .inl (cI, 2, .inl mS9.2.1)), (m_came, .inl (cI, 16, .inl mQ9.1)), (m_out, .inl (cI, 4096, .inl mO9.1)), (uA, .inl (cJ, 1, .inr (.inl vU9)))] → va_S (fun q : Nat => s.heap.size ≤ q) s.heap H locs → lv_has ls 8 [(4, .int (nI i)), (3, .ref uA), (2, .ref mH), (1, .ref bH), (0, .ref b)] → W p l e room_1 s m #[Value.ref b] below meth c H locs (C + 1) (S + 6) (lw_Z below #[Value.ref b] s) (F0 m 669 ls []) := by
        intro H locs ls vT9 vC9 vS9 vQ9 vO9 mX9 mT9 mC9 mS9 mQ9 mO9 vU9 hI hP hD hS hl
        refine lv_iinc (v := nI (i + 7)) (lv' := [(4, .int (nI (i + 7))), (3, .ref uA), (2, .ref mH), (1, .ref bH), (0, .ref b)]) hx hb dL_law_669 hl (k := 0) rfl (show nI i + nI 7 = nI (i + 7) from nI_add i 7) (by decide) rfl (fun ls hl => ?_)
        refine lv_goto (tgt := 33) hx hb dL_law_672 (by decide) ?_
        exact ih (j + 1) (i + 7) (C + 1) (S + 6) vT9 vC9 vS9 vQ9 vO9 mX9 mT9 mC9 mS9 mQ9 mO9 vU9 H locs ls (by omega) (by omega) (by omega) (by omega) (by omega) hI hP hD hS hl
      have hj : j ≤ 600 := by omega
      have hi6 : i + 6 < L := by omega
      have hC1 : C + 1 ≤ 601024 := by omega
      have hS1 : S + 6 ≤ 7293000 := by omega
      refine lv_aload_n hx hb dL_law_43 rfl (lv_at hl 4 rfl) ?_
      refine lv_iload hx hb dL_law_44 (lv_at hl 0 rfl) ?_
      have h_46 : vp_in (nI i) L := vp_in_nI (by omega) (by omega)
      refine va_sld hx hb hX hbl hbA hS h_46 dL_law_46 ?_
      refine lv_bipush (v := 15) hx hb dL_law_47 (by decide) ?_
      refine lv_iand hx hb dL_law_49 ?_
      refine lv_topi (fun x ex => ?_)
      clear ex
      by_cases c_0 : x = 0
      · refine lv_tableIn (tgt := 104) hx hb dL_law_50 (by rw [c_0]; decide) (by rw [c_0]; decide) (by rw [c_0]; rfl) (by decide) ?_
        exact law_c0 Cx bH tH kH sH tS tW kP kE kT qH oH qA oA mH m_soft m_compares m_signals m_waits m_served m_priorities m_enabled m_thresholds m_registers m_others m_came m_out uA n j i C S vT vC vS vQ vO mX mT mC mS mQ mO vU hI hj hi6 hL hC1 hS1 H locs ls hP hD hS hl K9
      by_cases c_1 : x = 1
      · refine lv_tableIn (tgt := 117) hx hb dL_law_50 (by rw [c_1]; decide) (by rw [c_1]; decide) (by rw [c_1]; rfl) (by decide) ?_
        exact law_c1 Cx bH tH kH sH tS tW kP kE kT qH oH qA oA mH m_soft m_compares m_signals m_waits m_served m_priorities m_enabled m_thresholds m_registers m_others m_came m_out uA n j i C S vT vC vS vQ vO mX mT mC mS mQ mO vU hI hj hi6 hL hC1 hS1 H locs ls hP hD hS hl K9
      by_cases c_2 : x = 2
      · refine lv_tableIn (tgt := 228) hx hb dL_law_50 (by rw [c_2]; decide) (by rw [c_2]; decide) (by rw [c_2]; rfl) (by decide) ?_
        exact law_c2 Cx bH tH kH sH tS tW kP kE kT qH oH qA oA mH m_soft m_compares m_signals m_waits m_served m_priorities m_enabled m_thresholds m_registers m_others m_came m_out uA n j i C S vT vC vS vQ vO mX mT mC mS mQ mO vU hI hj hi6 hL hC1 hS1 H locs ls hP hD hS hl K9
      by_cases c_3 : x = 3
      · refine lv_tableIn (tgt := 366) hx hb dL_law_50 (by rw [c_3]; decide) (by rw [c_3]; decide) (by rw [c_3]; rfl) (by decide) ?_
        exact law_c3 Cx bH tH kH sH tS tW kP kE kT qH oH qA oA mH m_soft m_compares m_signals m_waits m_served m_priorities m_enabled m_thresholds m_registers m_others m_came m_out uA n j i C S vT vC vS vQ vO mX mT mC mS mQ mO vU hI hj hi6 hL hC1 hS1 H locs ls hP hD hS hl K9
      by_cases c_4 : x = 4
      · refine lv_tableIn (tgt := 430) hx hb dL_law_50 (by rw [c_4]; decide) (by rw [c_4]; decide) (by rw [c_4]; rfl) (by decide) ?_
        exact law_c4 Cx bH tH kH sH tS tW kP kE kT qH oH qA oA mH m_soft m_compares m_signals m_waits m_served m_priorities m_enabled m_thresholds m_registers m_others m_came m_out uA n j i C S vT vC vS vQ vO mX mT mC mS mQ mO vU hI hj hi6 hL hC1 hS1 H locs ls hP hD hS hl K9
      by_cases c_5 : x = 5
      · refine lv_tableIn (tgt := 455) hx hb dL_law_50 (by rw [c_5]; decide) (by rw [c_5]; decide) (by rw [c_5]; rfl) (by decide) ?_
        exact law_c5 Cx bH tH kH sH tS tW kP kE kT qH oH qA oA mH m_soft m_compares m_signals m_waits m_served m_priorities m_enabled m_thresholds m_registers m_others m_came m_out uA n j i C S vT vC vS vQ vO mX mT mC mS mQ mO vU hI hj hi6 hL hC1 hS1 H locs ls hP hD hS hl K9
      by_cases c_6 : x = 6
      · refine lv_tableIn (tgt := 468) hx hb dL_law_50 (by rw [c_6]; decide) (by rw [c_6]; decide) (by rw [c_6]; rfl) (by decide) ?_
        exact law_c6 Cx bH tH kH sH tS tW kP kE kT qH oH qA oA mH m_soft m_compares m_signals m_waits m_served m_priorities m_enabled m_thresholds m_registers m_others m_came m_out uA n j i C S vT vC vS vQ vO mX mT mC mS mQ mO vU hI hj hi6 hL hC1 hS1 H locs ls hP hD hS hl K9
      by_cases c_7 : x = 7
      · refine lv_tableIn (tgt := 523) hx hb dL_law_50 (by rw [c_7]; decide) (by rw [c_7]; decide) (by rw [c_7]; rfl) (by decide) ?_
        exact law_c7 Cx bH tH kH sH tS tW kP kE kT qH oH qA oA mH m_soft m_compares m_signals m_waits m_served m_priorities m_enabled m_thresholds m_registers m_others m_came m_out uA n j i C S vT vC vS vQ vO mX mT mC mS mQ mO vU hI hj hi6 hL hC1 hS1 H locs ls hP hD hS hl K9
      by_cases c_8 : x = 8
      · refine lv_tableIn (tgt := 598) hx hb dL_law_50 (by rw [c_8]; decide) (by rw [c_8]; decide) (by rw [c_8]; rfl) (by decide) ?_
        exact law_c8 Cx bH tH kH sH tS tW kP kE kT qH oH qA oA mH m_soft m_compares m_signals m_waits m_served m_priorities m_enabled m_thresholds m_registers m_others m_came m_out uA n j i C S vT vC vS vQ vO mX mT mC mS mQ mO vU hI hj hi6 hL hC1 hS1 H locs ls hP hD hS hl K9
      by_cases c_9 : x = 9
      · refine lv_tableIn (tgt := 612) hx hb dL_law_50 (by rw [c_9]; decide) (by rw [c_9]; decide) (by rw [c_9]; rfl) (by decide) ?_
        exact law_c9 Cx bH tH kH sH tS tW kP kE kT qH oH qA oA mH m_soft m_compares m_signals m_waits m_served m_priorities m_enabled m_thresholds m_registers m_others m_came m_out uA n j i C S vT vC vS vQ vO mX mT mC mS mQ mO vU hI hj hi6 hL hC1 hS1 H locs ls hP hD hS hl K9
      refine lv_tableOut (tgt := 669) hx hb dL_law_50 (by have z_0 := sw_ne (k := 0) c_0 rfl; have z_1 := sw_ne (k := 1) c_1 rfl; have z_2 := sw_ne (k := 2) c_2 rfl; have z_3 := sw_ne (k := 3) c_3 rfl; have z_4 := sw_ne (k := 4) c_4 rfl; have z_5 := sw_ne (k := 5) c_5 rfl; have z_6 := sw_ne (k := 6) c_6 rfl; have z_7 := sw_ne (k := 7) c_7 rfl; have z_8 := sw_ne (k := 8) c_8 rfl; have z_9 := sw_ne (k := 9) c_9 rfl; omega) (by decide) ?_
      refine W.widen (k := C + 1) (n := S + 6) (by omega) (by omega) ?_
      exact K9 H locs ls vT vC vS vQ vO mX mT mC mS mQ mO vU (op_same hI) hP hD hS hl

