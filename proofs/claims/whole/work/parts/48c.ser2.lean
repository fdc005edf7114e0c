section
variable {a : SS} {b : MSs} {q : QS} {m : MQs} {vo : OS} {mo : MOs} {p : Int32} {j : Nat}
theorem ld_0 : f_X3_load a q (lN 0) 1 = if f_X3_showsOthers a = 0 then ((f_X1_take q).1, a, (f_X1_take q).2) else (a.2.2.2.2.1, a, q) := by
  unfold f_X3_load
  rw [if_pos (show (1 : Int32) = 1 from rfl), if_pos (show lg_cmp (lN 0) 7 ≤ 0 by decide), show Int64.toInt32 (lN 0) = 0 from rfl, if_pos (show (0 : Int32) = 0 from rfl)]
theorem ld_1 : f_X3_load a q (lN 1) 1 = if f_X3_showsOthers a = 0 then (a.1, a, q) else (a.2.2.2.2.2.1, a, q) := by
  unfold f_X3_load
  rw [if_pos (show (1 : Int32) = 1 from rfl), if_pos (show lg_cmp (lN 1) 7 ≤ 0 by decide), show Int64.toInt32 (lN 1) = 1 from rfl, if_neg (show ¬ (1 : Int32) = 0 by decide), if_pos (show (1 : Int32) = 1 from rfl)]
theorem ld_2 : f_X3_load a q (lN 2) 1 = ((f_X3_loadCause a q).1, (f_X3_loadCause a q).2, q) := by
  unfold f_X3_load
  rw [if_pos (show (1 : Int32) = 1 from rfl), if_pos (show lg_cmp (lN 2) 7 ≤ 0 by decide), show Int64.toInt32 (lN 2) = 2 from rfl, if_neg (show ¬ (2 : Int32) = 0 by decide), if_neg (show ¬ (2 : Int32) = 1 by decide), if_pos (show (2 : Int32) = 2 from rfl)]
theorem ld_3 : f_X3_load a q (lN 3) 1 = (a.2.1, a, q) := by
  unfold f_X3_load
  rw [if_pos (show (1 : Int32) = 1 from rfl), if_pos (show lg_cmp (lN 3) 7 ≤ 0 by decide), show Int64.toInt32 (lN 3) = 3 from rfl, if_neg (show ¬ (3 : Int32) = 0 by decide), if_neg (show ¬ (3 : Int32) = 1 by decide), if_neg (show ¬ (3 : Int32) = 2 by decide), if_pos (show (3 : Int32) = 3 from rfl)]
theorem ld_4 : f_X3_load a q (lN 4) 1 = (a.2.2.1, a, q) := by
  unfold f_X3_load
  rw [if_pos (show (1 : Int32) = 1 from rfl), if_pos (show lg_cmp (lN 4) 7 ≤ 0 by decide), show Int64.toInt32 (lN 4) = 4 from rfl, if_neg (show ¬ (4 : Int32) = 0 by decide), if_neg (show ¬ (4 : Int32) = 1 by decide), if_neg (show ¬ (4 : Int32) = 2 by decide), if_neg (show ¬ (4 : Int32) = 3 by decide), if_pos (show (4 : Int32) = 4 from rfl)]
theorem ld_5 : f_X3_load a q (lN 5) 1 = ((f_X3_loadLineState a q).1, (f_X3_loadLineState a q).2, q) := by
  unfold f_X3_load
  rw [if_pos (show (1 : Int32) = 1 from rfl), if_pos (show lg_cmp (lN 5) 7 ≤ 0 by decide), show Int64.toInt32 (lN 5) = 5 from rfl, if_neg (show ¬ (5 : Int32) = 0 by decide), if_neg (show ¬ (5 : Int32) = 1 by decide), if_neg (show ¬ (5 : Int32) = 2 by decide), if_neg (show ¬ (5 : Int32) = 3 by decide), if_neg (show ¬ (5 : Int32) = 4 by decide), if_pos (show (5 : Int32) = 5 from rfl)]
theorem ld_6 : f_X3_load a q (lN 6) 1 = ((f_X3_modemState a), a, q) := by
  unfold f_X3_load
  rw [if_pos (show (1 : Int32) = 1 from rfl), if_pos (show lg_cmp (lN 6) 7 ≤ 0 by decide), show Int64.toInt32 (lN 6) = 6 from rfl, if_neg (show ¬ (6 : Int32) = 0 by decide), if_neg (show ¬ (6 : Int32) = 1 by decide), if_neg (show ¬ (6 : Int32) = 2 by decide), if_neg (show ¬ (6 : Int32) = 3 by decide), if_neg (show ¬ (6 : Int32) = 4 by decide), if_neg (show ¬ (6 : Int32) = 5 by decide), if_pos (show (6 : Int32) = 6 from rfl)]
theorem ld_7 : f_X3_load a q (lN 7) 1 = (a.2.2.2.1, a, q) := by
  unfold f_X3_load
  rw [if_pos (show (1 : Int32) = 1 from rfl), if_pos (show lg_cmp (lN 7) 7 ≤ 0 by decide), show Int64.toInt32 (lN 7) = 7 from rfl, if_neg (show ¬ (7 : Int32) = 0 by decide), if_neg (show ¬ (7 : Int32) = 1 by decide), if_neg (show ¬ (7 : Int32) = 2 by decide), if_neg (show ¬ (7 : Int32) = 3 by decide), if_neg (show ¬ (7 : Int32) = 4 by decide), if_neg (show ¬ (7 : Int32) = 5 by decide), if_neg (show ¬ (7 : Int32) = 6 by decide), if_pos (show (7 : Int32) = 7 from rfl)]
theorem rs23_0 : f_X6_readSerial_23 b m (nI 0) = ((Int32.toInt64 (f_X6_takeOut m).1), b, (f_X6_takeOut m).2) := by
  unfold f_X6_readSerial_23
  rw [show nI 0 = 0 from rfl, if_pos (show (0 : Int32) = 0 from rfl)]
theorem rs23_1 : f_X6_readSerial_23 b m (nI 1) = ((Int32.toInt64 (b.1 1)), b, m) := by
  unfold f_X6_readSerial_23
  rw [show nI 1 = 1 from rfl, if_neg (show ¬ (1 : Int32) = 0 by decide), if_pos (show (1 : Int32) = 1 from rfl), show Int32.toNatClampNeg 1 = 1 from rfl]
theorem rs23_2 : f_X6_readSerial_23 b m (nI 2) = ((Int32.toInt64 (f_X6_readCause b m).1), (f_X6_readCause b m).2, m) := by
  unfold f_X6_readSerial_23
  rw [show nI 2 = 2 from rfl, if_neg (show ¬ (2 : Int32) = 0 by decide), if_neg (show ¬ (2 : Int32) = 1 by decide), if_pos (show (2 : Int32) = 2 from rfl)]
theorem rs23_3 : f_X6_readSerial_23 b m (nI 3) = ((Int32.toInt64 (b.1 3)), b, m) := by
  unfold f_X6_readSerial_23
  rw [show nI 3 = 3 from rfl, if_neg (show ¬ (3 : Int32) = 0 by decide), if_neg (show ¬ (3 : Int32) = 1 by decide), if_neg (show ¬ (3 : Int32) = 2 by decide), if_pos (show (3 : Int32) = 3 from rfl), show Int32.toNatClampNeg 3 = 3 from rfl]
theorem rs23_4 : f_X6_readSerial_23 b m (nI 4) = ((Int32.toInt64 (b.1 4)), b, m) := by
  unfold f_X6_readSerial_23
  rw [show nI 4 = 4 from rfl, if_neg (show ¬ (4 : Int32) = 0 by decide), if_neg (show ¬ (4 : Int32) = 1 by decide), if_neg (show ¬ (4 : Int32) = 2 by decide), if_neg (show ¬ (4 : Int32) = 3 by decide), if_pos (show (4 : Int32) = 4 from rfl), show Int32.toNatClampNeg 4 = 4 from rfl]
theorem rs23_5 : f_X6_readSerial_23 b m (nI 5) = ((Int32.toInt64 (f_X6_readState b m).1), (f_X6_readState b m).2, m) := by
  unfold f_X6_readSerial_23
  rw [show nI 5 = 5 from rfl, if_neg (show ¬ (5 : Int32) = 0 by decide), if_neg (show ¬ (5 : Int32) = 1 by decide), if_neg (show ¬ (5 : Int32) = 2 by decide), if_neg (show ¬ (5 : Int32) = 3 by decide), if_neg (show ¬ (5 : Int32) = 4 by decide), if_pos (show (5 : Int32) = 5 from rfl)]
theorem rs23_6 : f_X6_readSerial_23 b m (nI 6) = if f_X6_hasBit b 4 4 = 0 then (176, b, m) else ((Int32.toInt64 (f_X6_looped b)), b, m) := by
  unfold f_X6_readSerial_23
  rw [show nI 6 = 6 from rfl, if_neg (show ¬ (6 : Int32) = 0 by decide), if_neg (show ¬ (6 : Int32) = 1 by decide), if_neg (show ¬ (6 : Int32) = 2 by decide), if_neg (show ¬ (6 : Int32) = 3 by decide), if_neg (show ¬ (6 : Int32) = 4 by decide), if_neg (show ¬ (6 : Int32) = 5 by decide), if_pos (show (6 : Int32) = 6 from rfl)]
theorem rs23_7 : f_X6_readSerial_23 b m (nI 7) = ((Int32.toInt64 (b.1 7)), b, m) := by
  unfold f_X6_readSerial_23
  rw [show nI 7 = 7 from rfl, if_neg (show ¬ (7 : Int32) = 0 by decide), if_neg (show ¬ (7 : Int32) = 1 by decide), if_neg (show ¬ (7 : Int32) = 2 by decide), if_neg (show ¬ (7 : Int32) = 3 by decide), if_neg (show ¬ (7 : Int32) = 4 by decide), if_neg (show ¬ (7 : Int32) = 5 by decide), if_neg (show ¬ (7 : Int32) = 6 by decide), show Int32.toNatClampNeg 7 = 7 from rfl]
theorem rs_0 : f_X6_readSerial b m (nI 0) = if f_X6_hasBit b 3 7 = 0 then ((Int32.toInt64 (f_X6_takeOut m).1), b, (f_X6_takeOut m).2) else ((Int32.toInt64 (b.2.1 0)), b, m) := by
  unfold f_X6_readSerial
  rw [rs23_0, if_neg (show ¬ 2 ≤ nI 0 by decide), show Int32.toNatClampNeg (nI 0) = 0 from rfl]
theorem rs_1 : f_X6_readSerial b m (nI 1) = if f_X6_hasBit b 3 7 = 0 then ((Int32.toInt64 (b.1 1)), b, m) else ((Int32.toInt64 (b.2.1 1)), b, m) := by
  unfold f_X6_readSerial
  rw [rs23_1, if_neg (show ¬ 2 ≤ nI 1 by decide), show Int32.toNatClampNeg (nI 1) = 1 from rfl]
theorem rs_2 : f_X6_readSerial b m (nI 2) = ((Int32.toInt64 (f_X6_readCause b m).1), (f_X6_readCause b m).2, m) := by
  unfold f_X6_readSerial
  rw [if_pos (show 2 ≤ nI 2 by decide), rs23_2]
theorem rs_3 : f_X6_readSerial b m (nI 3) = ((Int32.toInt64 (b.1 3)), b, m) := by
  unfold f_X6_readSerial
  rw [if_pos (show 2 ≤ nI 3 by decide), rs23_3]
theorem rs_4 : f_X6_readSerial b m (nI 4) = ((Int32.toInt64 (b.1 4)), b, m) := by
  unfold f_X6_readSerial
  rw [if_pos (show 2 ≤ nI 4 by decide), rs23_4]
theorem rs_5 : f_X6_readSerial b m (nI 5) = ((Int32.toInt64 (f_X6_readState b m).1), (f_X6_readState b m).2, m) := by
  unfold f_X6_readSerial
  rw [if_pos (show 2 ≤ nI 5 by decide), rs23_5]
theorem rs_6 : f_X6_readSerial b m (nI 6) = if f_X6_hasBit b 4 4 = 0 then (176, b, m) else ((Int32.toInt64 (f_X6_looped b)), b, m) := by
  unfold f_X6_readSerial
  rw [if_pos (show 2 ≤ nI 6 by decide), rs23_6]
theorem rs_7 : f_X6_readSerial b m (nI 7) = ((Int32.toInt64 (b.1 7)), b, m) := by
  unfold f_X6_readSerial
  rw [if_pos (show 2 ≤ nI 7 by decide), rs23_7]
theorem sw_0 : f_X3_store a q vo (lN 0) 1 p = ((f_X3_storeData a q vo p).1, (f_X3_storeData a q vo p).2.1, (f_X3_storeData a q vo p).2.2) := by
  unfold f_X3_store
  rw [if_pos (show (1 : Int32) = 1 from rfl), if_pos (show lg_cmp (lN 0) 7 ≤ 0 by decide), show Int64.toInt32 (lN 0) = 0 from rfl, if_pos (show (0 : Int32) = 0 from rfl)]
theorem sw_1 : f_X3_store a q vo (lN 1) 1 p = ((f_X3_storeEnables a p), q, vo) := by
  unfold f_X3_store
  rw [if_pos (show (1 : Int32) = 1 from rfl), if_pos (show lg_cmp (lN 1) 7 ≤ 0 by decide), show Int64.toInt32 (lN 1) = 1 from rfl, if_neg (show ¬ (1 : Int32) = 0 by decide), if_pos (show (1 : Int32) = 1 from rfl)]
theorem sw_2 : f_X3_store a q vo (lN 2) 1 p = if (p &&& 1) = 0 then if (p &&& 2) = 0 then (a, (f_X1_configure q 0 0), vo) else (a, (f_X1_configure q 0 1), vo) else if (p &&& 2) = 0 then (a, (f_X1_configure q 1 0), vo) else (a, (f_X1_configure q 1 1), vo) := by
  unfold f_X3_store
  rw [if_pos (show (1 : Int32) = 1 from rfl), if_pos (show lg_cmp (lN 2) 7 ≤ 0 by decide), show Int64.toInt32 (lN 2) = 2 from rfl, if_neg (show ¬ (2 : Int32) = 0 by decide), if_neg (show ¬ (2 : Int32) = 1 by decide), if_pos (show (2 : Int32) = 2 from rfl)]
theorem sw_3 : f_X3_store a q vo (lN 3) 1 p = ((a.1, p, a.2.2.1, a.2.2.2.1, a.2.2.2.2.1, a.2.2.2.2.2.1, a.2.2.2.2.2.2.1, a.2.2.2.2.2.2.2), q, vo) := by
  unfold f_X3_store
  rw [if_pos (show (1 : Int32) = 1 from rfl), if_pos (show lg_cmp (lN 3) 7 ≤ 0 by decide), show Int64.toInt32 (lN 3) = 3 from rfl, if_neg (show ¬ (3 : Int32) = 0 by decide), if_neg (show ¬ (3 : Int32) = 1 by decide), if_neg (show ¬ (3 : Int32) = 2 by decide), if_pos (show (3 : Int32) = 3 from rfl)]
theorem sw_4 : f_X3_store a q vo (lN 4) 1 p = ((a.1, a.2.1, (p &&& 31), a.2.2.2.1, a.2.2.2.2.1, a.2.2.2.2.2.1, a.2.2.2.2.2.2.1, a.2.2.2.2.2.2.2), q, vo) := by
  unfold f_X3_store
  rw [if_pos (show (1 : Int32) = 1 from rfl), if_pos (show lg_cmp (lN 4) 7 ≤ 0 by decide), show Int64.toInt32 (lN 4) = 4 from rfl, if_neg (show ¬ (4 : Int32) = 0 by decide), if_neg (show ¬ (4 : Int32) = 1 by decide), if_neg (show ¬ (4 : Int32) = 2 by decide), if_neg (show ¬ (4 : Int32) = 3 by decide), if_pos (show (4 : Int32) = 4 from rfl)]
theorem sw_5 : f_X3_store a q vo (lN 5) 1 p = (a, q, vo) := by
  unfold f_X3_store
  rw [if_pos (show (1 : Int32) = 1 from rfl), if_pos (show lg_cmp (lN 5) 7 ≤ 0 by decide), show Int64.toInt32 (lN 5) = 5 from rfl, if_neg (show ¬ (5 : Int32) = 0 by decide), if_neg (show ¬ (5 : Int32) = 1 by decide), if_neg (show ¬ (5 : Int32) = 2 by decide), if_neg (show ¬ (5 : Int32) = 3 by decide), if_neg (show ¬ (5 : Int32) = 4 by decide), if_pos (show (5 : Int32) = 5 from rfl)]
theorem sw_6 : f_X3_store a q vo (lN 6) 1 p = (a, q, vo) := by
  unfold f_X3_store
  rw [if_pos (show (1 : Int32) = 1 from rfl), if_pos (show lg_cmp (lN 6) 7 ≤ 0 by decide), show Int64.toInt32 (lN 6) = 6 from rfl, if_neg (show ¬ (6 : Int32) = 0 by decide), if_neg (show ¬ (6 : Int32) = 1 by decide), if_neg (show ¬ (6 : Int32) = 2 by decide), if_neg (show ¬ (6 : Int32) = 3 by decide), if_neg (show ¬ (6 : Int32) = 4 by decide), if_neg (show ¬ (6 : Int32) = 5 by decide), if_pos (show (6 : Int32) = 6 from rfl)]
theorem sw_7 : f_X3_store a q vo (lN 7) 1 p = ((a.1, a.2.1, a.2.2.1, p, a.2.2.2.2.1, a.2.2.2.2.2.1, a.2.2.2.2.2.2.1, a.2.2.2.2.2.2.2), q, vo) := by
  unfold f_X3_store
  rw [if_pos (show (1 : Int32) = 1 from rfl), if_pos (show lg_cmp (lN 7) 7 ≤ 0 by decide), show Int64.toInt32 (lN 7) = 7 from rfl, if_neg (show ¬ (7 : Int32) = 0 by decide), if_neg (show ¬ (7 : Int32) = 1 by decide), if_neg (show ¬ (7 : Int32) = 2 by decide), if_neg (show ¬ (7 : Int32) = 3 by decide), if_neg (show ¬ (7 : Int32) = 4 by decide), if_neg (show ¬ (7 : Int32) = 5 by decide), if_neg (show ¬ (7 : Int32) = 6 by decide), if_pos (show (7 : Int32) = 7 from rfl)]
theorem ws23_0 : f_X6_writeSerial_23 b m mo (nI 0) p = ((f_X6_send b m mo p).1, (f_X6_send b m mo p).2.1, (f_X6_send b m mo p).2.2) := by
  unfold f_X6_writeSerial_23
  rw [show nI 0 = 0 from rfl, if_pos (show (0 : Int32) = 0 from rfl)]
theorem ws23_1 : f_X6_writeSerial_23 b m mo (nI 1) p = if b.2.2.2.2 = 0 then if (f_X6_hasBit b 1 1) = 0 then if ((p >>> ((1 : Int32) &&& 31)) &&& 1) = 1 then (((upd b.1 1 (p &&& 15)), b.2.1, b.2.2.1, b.2.2.2.1, 1), m, mo) else (((upd b.1 1 (p &&& 15)), b.2.1, b.2.2.1, b.2.2.2.1, 0), m, mo) else (((upd b.1 1 (p &&& 15)), b.2.1, b.2.2.1, b.2.2.2.1, 0), m, mo) else (((upd b.1 1 (p &&& 15)), b.2.1, b.2.2.1, b.2.2.2.1, 1), m, mo) := by
  unfold f_X6_writeSerial_23
  rw [show nI 1 = 1 from rfl, if_neg (show ¬ (1 : Int32) = 0 by decide), if_pos (show (1 : Int32) = 1 from rfl), show Int32.toNatClampNeg 1 = 1 from rfl]
theorem ws23_2 : f_X6_writeSerial_23 b m mo (nI 2) p = if (p &&& 1) = 1 then if b.2.2.1 = 1 then if ((p >>> ((1 : Int32) &&& 31)) &&& 1) = 1 then ((b.1, b.2.1, 1, b.2.2.2.1, b.2.2.2.2), (m.1, 0), mo) else ((b.1, b.2.1, 1, b.2.2.2.1, b.2.2.2.2), (m.1, m.2), mo) else ((b.1, b.2.1, 1, b.2.2.2.1, b.2.2.2.2), (m.1, 0), mo) else if b.2.2.1 = 0 then if ((p >>> ((1 : Int32) &&& 31)) &&& 1) = 1 then ((b.1, b.2.1, 0, b.2.2.2.1, b.2.2.2.2), (m.1, 0), mo) else ((b.1, b.2.1, 0, b.2.2.2.1, b.2.2.2.2), (m.1, m.2), mo) else ((b.1, b.2.1, 0, b.2.2.2.1, b.2.2.2.2), (m.1, 0), mo) := by
  unfold f_X6_writeSerial_23
  rw [show nI 2 = 2 from rfl, if_neg (show ¬ (2 : Int32) = 0 by decide), if_neg (show ¬ (2 : Int32) = 1 by decide), if_pos (show (2 : Int32) = 2 from rfl)]
theorem ws23_3 : f_X6_writeSerial_23 b m mo (nI 3) p = (((upd b.1 3 p), b.2.1, b.2.2.1, b.2.2.2.1, b.2.2.2.2), m, mo) := by
  unfold f_X6_writeSerial_23
  rw [show nI 3 = 3 from rfl, if_neg (show ¬ (3 : Int32) = 0 by decide), if_neg (show ¬ (3 : Int32) = 1 by decide), if_neg (show ¬ (3 : Int32) = 2 by decide), if_pos (show (3 : Int32) = 3 from rfl), show Int32.toNatClampNeg 3 = 3 from rfl]
theorem ws23_4 : f_X6_writeSerial_23 b m mo (nI 4) p = (((upd b.1 4 (p &&& 31)), b.2.1, b.2.2.1, b.2.2.2.1, b.2.2.2.2), m, mo) := by
  unfold f_X6_writeSerial_23
  rw [show nI 4 = 4 from rfl, if_neg (show ¬ (4 : Int32) = 0 by decide), if_neg (show ¬ (4 : Int32) = 1 by decide), if_neg (show ¬ (4 : Int32) = 2 by decide), if_neg (show ¬ (4 : Int32) = 3 by decide), if_pos (show (4 : Int32) = 4 from rfl), show Int32.toNatClampNeg 4 = 4 from rfl]
theorem ws23_5 : f_X6_writeSerial_23 b m mo (nI 5) p = (b, m, mo) := by
  unfold f_X6_writeSerial_23
  rw [show nI 5 = 5 from rfl, if_neg (show ¬ (5 : Int32) = 0 by decide), if_neg (show ¬ (5 : Int32) = 1 by decide), if_neg (show ¬ (5 : Int32) = 2 by decide), if_neg (show ¬ (5 : Int32) = 3 by decide), if_neg (show ¬ (5 : Int32) = 4 by decide), if_pos (show (5 : Int32) = 5 from rfl)]
theorem ws23_6 : f_X6_writeSerial_23 b m mo (nI 6) p = (b, m, mo) := by
  unfold f_X6_writeSerial_23
  rw [show nI 6 = 6 from rfl, if_neg (show ¬ (6 : Int32) = 0 by decide), if_neg (show ¬ (6 : Int32) = 1 by decide), if_neg (show ¬ (6 : Int32) = 2 by decide), if_neg (show ¬ (6 : Int32) = 3 by decide), if_neg (show ¬ (6 : Int32) = 4 by decide), if_neg (show ¬ (6 : Int32) = 5 by decide), if_pos (show (6 : Int32) = 6 from rfl)]
theorem ws23_7 : f_X6_writeSerial_23 b m mo (nI 7) p = (((upd b.1 7 p), b.2.1, b.2.2.1, b.2.2.2.1, b.2.2.2.2), m, mo) := by
  unfold f_X6_writeSerial_23
  rw [show nI 7 = 7 from rfl, if_neg (show ¬ (7 : Int32) = 0 by decide), if_neg (show ¬ (7 : Int32) = 1 by decide), if_neg (show ¬ (7 : Int32) = 2 by decide), if_neg (show ¬ (7 : Int32) = 3 by decide), if_neg (show ¬ (7 : Int32) = 4 by decide), if_neg (show ¬ (7 : Int32) = 5 by decide), if_neg (show ¬ (7 : Int32) = 6 by decide), show Int32.toNatClampNeg 7 = 7 from rfl]
theorem ws_0 : f_X6_writeSerial b m mo (nI 0) p = if f_X6_hasBit b 3 7 = 0 then ((f_X6_send b m mo p).1, (f_X6_send b m mo p).2.1, (f_X6_send b m mo p).2.2) else ((b.1, (upd b.2.1 0 p), b.2.2.1, b.2.2.2.1, b.2.2.2.2), m, mo) := by
  unfold f_X6_writeSerial
  rw [ws23_0, if_neg (show ¬ 2 ≤ nI 0 by decide), show Int32.toNatClampNeg (nI 0) = 0 from rfl]
theorem ws_1 : f_X6_writeSerial b m mo (nI 1) p = if f_X6_hasBit b 3 7 = 0 then if b.2.2.2.2 = 0 then if (f_X6_hasBit b 1 1) = 0 then if ((p >>> ((1 : Int32) &&& 31)) &&& 1) = 1 then (((upd b.1 1 (p &&& 15)), b.2.1, b.2.2.1, b.2.2.2.1, 1), m, mo) else (((upd b.1 1 (p &&& 15)), b.2.1, b.2.2.1, b.2.2.2.1, 0), m, mo) else (((upd b.1 1 (p &&& 15)), b.2.1, b.2.2.1, b.2.2.2.1, 0), m, mo) else (((upd b.1 1 (p &&& 15)), b.2.1, b.2.2.1, b.2.2.2.1, 1), m, mo) else ((b.1, (upd b.2.1 1 p), b.2.2.1, b.2.2.2.1, b.2.2.2.2), m, mo) := by
  unfold f_X6_writeSerial
  rw [ws23_1, if_neg (show ¬ 2 ≤ nI 1 by decide), show Int32.toNatClampNeg (nI 1) = 1 from rfl]
theorem ws_2 : f_X6_writeSerial b m mo (nI 2) p = if (p &&& 1) = 1 then if b.2.2.1 = 1 then if ((p >>> ((1 : Int32) &&& 31)) &&& 1) = 1 then ((b.1, b.2.1, 1, b.2.2.2.1, b.2.2.2.2), (m.1, 0), mo) else ((b.1, b.2.1, 1, b.2.2.2.1, b.2.2.2.2), (m.1, m.2), mo) else ((b.1, b.2.1, 1, b.2.2.2.1, b.2.2.2.2), (m.1, 0), mo) else if b.2.2.1 = 0 then if ((p >>> ((1 : Int32) &&& 31)) &&& 1) = 1 then ((b.1, b.2.1, 0, b.2.2.2.1, b.2.2.2.2), (m.1, 0), mo) else ((b.1, b.2.1, 0, b.2.2.2.1, b.2.2.2.2), (m.1, m.2), mo) else ((b.1, b.2.1, 0, b.2.2.2.1, b.2.2.2.2), (m.1, 0), mo) := by
  unfold f_X6_writeSerial
  rw [if_pos (show 2 ≤ nI 2 by decide), ws23_2]
theorem ws_3 : f_X6_writeSerial b m mo (nI 3) p = (((upd b.1 3 p), b.2.1, b.2.2.1, b.2.2.2.1, b.2.2.2.2), m, mo) := by
  unfold f_X6_writeSerial
  rw [if_pos (show 2 ≤ nI 3 by decide), ws23_3]
theorem ws_4 : f_X6_writeSerial b m mo (nI 4) p = (((upd b.1 4 (p &&& 31)), b.2.1, b.2.2.1, b.2.2.2.1, b.2.2.2.2), m, mo) := by
  unfold f_X6_writeSerial
  rw [if_pos (show 2 ≤ nI 4 by decide), ws23_4]
theorem ws_5 : f_X6_writeSerial b m mo (nI 5) p = (b, m, mo) := by
  unfold f_X6_writeSerial
  rw [if_pos (show 2 ≤ nI 5 by decide), ws23_5]
theorem ws_6 : f_X6_writeSerial b m mo (nI 6) p = (b, m, mo) := by
  unfold f_X6_writeSerial
  rw [if_pos (show 2 ≤ nI 6 by decide), ws23_6]
theorem ws_7 : f_X6_writeSerial b m mo (nI 7) p = (((upd b.1 7 p), b.2.1, b.2.2.1, b.2.2.2.1, b.2.2.2.2), m, mo) := by
  unfold f_X6_writeSerial
  rw [if_pos (show 2 ≤ nI 7 by decide), ws23_7]
theorem ms_eq (h : SimS a b) : Int32.toInt64 (f_X3_modemState a) = if f_X6_hasBit b 4 4 = 0 then 176 else (Int32.toInt64 (f_X6_looped b)) := by
  have hl := loop_eq h
  obtain ⟨_, _, ⟨r, hr, e1, e2⟩, _⟩ := h
  unfold f_X3_modemState
  by_cases c : (a.2.2.1 &&& 16) = 0
  · rw [if_pos c, if_pos (hl.mp c)]; rfl
  · rw [if_neg c, if_neg (fun z => c (hl.mpr z)), looped_eq, e1, e2, lp_all r hr]
def RdS (A : Int32 × SS × QS) (B : Int64 × MSs × MQs) : Prop := Int32.toInt64 A.1 = B.1 ∧ SimS A.2.1 B.2.1 ∧ SimQ A.2.2 B.2.1 B.2.2
theorem s_read {x : Nat} (hx : x < 8) (h : SimS a b) (hq : SimQ q b m) : RdS (f_X3_load a q (lN x) 1) (f_X6_readSerial b m (nI x)) := by
  have h' := h
  obtain ⟨h1, h2, h3, h4, h5, h6, h7, h8, h9, h10⟩ := h'
  have ho := oth_eq h
  rcases (show x = 0 ∨ x = 1 ∨ x = 2 ∨ x = 3 ∨ x = 4 ∨ x = 5 ∨ x = 6 ∨ x = 7 by omega) with e | e | e | e | e | e | e | e <;> subst e
  · rw [ld_0, rs_0]
    by_cases c : f_X3_showsOthers a = 0
    · rw [if_pos c, if_pos (ho.mp c)]
      obtain ⟨t1, t2⟩ := tk_sim hq
      exact ⟨congrArg Int32.toInt64 t1, h, t2⟩
    · rw [if_neg c, if_neg (fun z => c (ho.mpr z)), h5]
      exact ⟨rfl, h, hq⟩
  · rw [ld_1, rs_1]
    by_cases c : f_X3_showsOthers a = 0
    · rw [if_pos c, if_pos (ho.mp c), sr_1 h]
      exact ⟨rfl, h, hq⟩
    · rw [if_neg c, if_neg (fun z => c (ho.mpr z)), h6]
      exact ⟨rfl, h, hq⟩
  · rw [ld_2, rs_2]
    obtain ⟨t1, t2, t3⟩ := lc_sim h hq
    exact ⟨congrArg Int32.toInt64 t1, t2, t3⟩
  · rw [ld_3, rs_3, sr_3 h]
    exact ⟨rfl, h, hq⟩
  · rw [ld_4, rs_4, sr_4 h]
    exact ⟨rfl, h, hq⟩
  · rw [ld_5, rs_5]
    obtain ⟨t1, t2, t3⟩ := ls_sim h hq
    exact ⟨congrArg Int32.toInt64 t1, t2, t3⟩
  · rw [ld_6, rs_6]
    have k := ms_eq h
    by_cases c : f_X6_hasBit b 4 4 = 0
    · rw [if_pos c] at k
      rw [if_pos c]
      exact ⟨k, h, hq⟩
    · rw [if_neg c] at k
      rw [if_neg c]
      exact ⟨k, h, hq⟩
  · rw [ld_7, rs_7, h4]
    exact ⟨rfl, h, hq⟩
theorem by_all : ∀ v, v < 256 → (vp_nar .byte (Int8.toInt32 (Int32.toInt8 (nI v)))) &&& 255 = nI v := by decide +kernel
theorem so_same (h : SimO j vo mo) : SimO (j + 1) vo mo := by
  obtain ⟨t, ht, f⟩ := h
  exact ⟨t, by omega, f⟩
theorem so_add (hj : j ≤ 600) (hp : ∃ v, v < 256 ∧ p = nI v) (h : SimO j vo mo) : SimO (j + 1) (f_X2_add vo p) ((upd mo.1 (Int32.toNatClampNeg (Int64.toInt32 (mo.2 - mo.2 / 4096 * 4096))) p), (mo.2 + 1)) := by
  obtain ⟨t, ht, e1, e2, e3⟩ := h
  obtain ⟨v, hv, ep⟩ := hp
  unfold f_X2_add
  rw [e1, e2, show lN t &&& 4095 = lN (t % 4096) from g_mask (s := 12) (p := 4096) rfl (by omega) (by omega), show lN t - lN t / 4096 * 4096 = lN (t % 4096) from pk_lRem (b := 4096) (by omega) (by omega) (by omega), lN_i, nI_clamp (by omega), Nat.mod_eq_of_lt (by omega), lN_1]
  refine ⟨t + 1, by omega, rfl, rfl, ?_⟩
  intro k hk
  show upd vo.1 t _ k &&& 255 = upd mo.1 t p k
  by_cases c : k = t
  · subst c
    rw [pk_us, pk_us, ep, by_all v hv]
  · rw [pk_un c, pk_un c]
    exact e3 k (by omega)
theorem p_255 (hp : ∃ v, v < 256 ∧ p = nI v) : p &&& 255 = p := by
  obtain ⟨v, hv, rfl⟩ := hp
  rw [show (255 : Int32) = nI 255 from rfl, nI_and, show v &&& 255 = v % 256 from Nat.and_two_pow_sub_one_eq_mod v 8, Nat.mod_eq_of_lt hv]
def WrS (j : Nat) (A : SS × QS × OS) (B : MSs × MQs × MOs) : Prop := SimS A.1 B.1 ∧ SimQ A.2.1 B.1 B.2.1 ∧ SimO j A.2.2 B.2.2
theorem w_data (hj : j ≤ 600) (hp : ∃ v, v < 256 ∧ p = nI v) (h : SimS a b) (hq : SimQ q b m) (hO : SimO j vo mo) (c : f_X3_showsOthers a = 0) : WrS (j + 1) (f_X3_storeData a q vo p) (f_X6_send b m mo p) := by
  have hl := loop_eq h
  unfold f_X3_storeData f_X6_send
  rw [if_pos c]
  by_cases d : (a.2.2.1 &&& 16) = 0
  · rw [if_pos d, if_pos (hl.mp d)]
    obtain ⟨h1, h2, h3, h4, h5, h6, h7, h8, h9, h10⟩ := h
    exact ⟨⟨h1, h2, h3, h4, h5, h6, h7, rfl, h9, .inr rfl⟩, hq, so_add hj hp hO⟩
  · rw [if_neg d, if_neg (fun z => d (hl.mpr z))]
    obtain ⟨t1, t2, t3⟩ := rc_sim p p (p_255 hp) h hq
    generalize f_X3_receive a q p = A at t1 t2 t3
    have ov : (f_X6_takeIn b m p).1 = 0 → (f_X6_takeIn b m p).2.1.2.2.2.1 = 1 := by
      unfold f_X6_takeIn
      by_cases z : f_X6_space b m = 0
      · rw [if_pos z]; intro _; rfl
      · rw [if_neg z]; intro w; exact absurd (show (1 : Int32) = 0 from w) (by decide)
    generalize f_X6_takeIn b m p = B at t1 t2 t3 ov
    obtain ⟨h1, h2, h3, h4, h5, h6, h7, h8, h9, h10⟩ := t2
    by_cases z : B.1 = 0
    · rw [if_pos z]
      refine ⟨⟨h1, h2, h3, h4, h5, h6, ?_, rfl, .inr rfl, .inr rfl⟩, t3, so_same hO⟩
      show A.2.1.2.2.2.2.2.2.1 = 1
      rw [h7, ov z]
    · rw [if_neg z]
      by_cases y : B.2.1.2.2.2.1 = 0
      · rw [if_pos y]
        refine ⟨⟨h1, h2, h3, h4, h5, h6, ?_, rfl, .inl rfl, .inr rfl⟩, t3, so_same hO⟩
        show A.2.1.2.2.2.2.2.2.1 = 0
        rw [h7, y]
      · rw [if_neg y]
        refine ⟨⟨h1, h2, h3, h4, h5, h6, ?_, rfl, .inr rfl, .inr rfl⟩, t3, so_same hO⟩
        show A.2.1.2.2.2.2.2.2.1 = 1
        rw [h7]
        exact h9.resolve_left y
theorem s_write {x : Nat} (hx : x < 8) (hj : j ≤ 600) (hp : ∃ v, v < 256 ∧ p = nI v) (h : SimS a b) (hq : SimQ q b m) (hO : SimO j vo mo) : WrS (j + 1) (f_X3_store a q vo (lN x) 1 p) (f_X6_writeSerial b m mo (nI x) p) := by
  have h' := h
  obtain ⟨h1, h2, h3, h4, h5, h6, h7, h8, h9, h10⟩ := h'
  have ho := oth_eq h
  have hO' := so_same hO
  rcases (show x = 0 ∨ x = 1 ∨ x = 2 ∨ x = 3 ∨ x = 4 ∨ x = 5 ∨ x = 6 ∨ x = 7 by omega) with e | e | e | e | e | e | e | e <;> subst e
  · rw [sw_0, ws_0]
    by_cases c : f_X3_showsOthers a = 0
    · rw [if_pos (ho.mp c)]
      exact w_data hj hp h hq hO c
    · rw [if_neg (fun z => c (ho.mpr z))]
      unfold f_X3_storeData
      rw [if_neg c]
      have g5 : p = upd b.2.1 0 p 0 := pk_us.symm
      have g6 : a.2.2.2.2.2.1 = upd b.2.1 0 p 1 := by rw [pk_un (by decide)]; exact h6
      exact ⟨⟨h1, h2, h3, h4, g5, g6, h7, h8, h9, h10⟩, hq, hO'⟩
  · rw [sw_1, ws_1]
    unfold f_X3_storeEnables
    by_cases c : f_X3_showsOthers a = 0
    · rw [if_pos (ho.mp c), if_pos c]
      obtain ⟨v, hv, ev⟩ := and_nI p 15
      have ev' : p &&& 15 = nI v := ev
      have g1 : ∃ r, r < 16 ∧ (p &&& 15) = nI r ∧ upd b.1 1 (p &&& 15) 1 = nI r := ⟨v, by omega, ev', by rw [pk_us, ev']⟩
      have g2 : ∃ r, r < 256 ∧ a.2.1 = nI r ∧ upd b.1 1 (p &&& 15) 3 = nI r := by rw [pk_un (by decide)]; exact h2
      have g3 : ∃ r, r < 32 ∧ a.2.2.1 = nI r ∧ upd b.1 1 (p &&& 15) 4 = nI r := by rw [pk_un (by decide)]; exact h3
      have g4 : a.2.2.2.1 = upd b.1 1 (p &&& 15) 7 := by rw [pk_un (by decide)]; exact h4
      have k1 : (((p &&& (a.1 ^^^ (-1))) &&& 2) = 0) ↔ ¬ (bt p 1 = true ∧ bt a.1 1 = false) := by
        rw [k_2, b_and, b_not _ (by omega)]
        cases bt p 1 <;> cases bt a.1 1 <;> simp
      have k2 : (f_X6_hasBit b 1 1 = 0) ↔ bt a.1 1 = false := by
        rw [sr_1 h]; exact hb_spec (i := 1) (s := 1) (by omega) (by omega)
      have k3 := k_s1 p
      by_cases d : b.2.2.2.2 = 0
      · rw [if_pos d]
        by_cases d1 : bt a.1 1 = false
        · rw [if_pos (k2.mpr d1)]
          by_cases d2 : bt p 1 = true
          · rw [if_pos (k3.mpr d2), if_neg (fun z => k1.mp z ⟨d2, d1⟩)]
            exact ⟨⟨g1, g2, g3, g4, h5, h6, h7, rfl, h9, .inr rfl⟩, hq, hO'⟩
          · rw [if_neg (fun z => d2 (k3.mp z)), if_pos (k1.mpr (fun z => d2 z.1))]
            exact ⟨⟨g1, g2, g3, g4, h5, h6, h7, h8.trans d, h9, .inl rfl⟩, hq, hO'⟩
        · rw [if_neg (fun z => d1 (k2.mp z)), if_pos (k1.mpr (fun z => d1 z.2))]
          exact ⟨⟨g1, g2, g3, g4, h5, h6, h7, h8.trans d, h9, .inl rfl⟩, hq, hO'⟩
      · rw [if_neg d]
        have d' := h10.resolve_left d
        by_cases d1 : ((p &&& (a.1 ^^^ (-1))) &&& 2) = 0
        · rw [if_pos d1]
          exact ⟨⟨g1, g2, g3, g4, h5, h6, h7, h8.trans d', h9, .inr rfl⟩, hq, hO'⟩
        · rw [if_neg d1]
          exact ⟨⟨g1, g2, g3, g4, h5, h6, h7, rfl, h9, .inr rfl⟩, hq, hO'⟩
    · rw [if_neg (fun z => c (ho.mpr z)), if_neg c]
      have g5 : a.2.2.2.2.1 = upd b.2.1 1 p 0 := by rw [pk_un (by decide)]; exact h5
      have g6 : p = upd b.2.1 1 p 1 := pk_us.symm
      exact ⟨⟨h1, h2, h3, h4, g5, g6, h7, h8, h9, h10⟩, hq, hO'⟩
  · rw [sw_2, ws_2]
    obtain ⟨q1, q2, x, f, x1, x2, x3, x4, x5, x6, x7⟩ := hq
    have z0 : ∀ (y : Int32), (y = 0 ∨ y = 1) → SimQ (q.1, q.2.1, 0, y) (b.1, b.2.1, y, b.2.2.2.1, b.2.2.2.2) (m.1, 0) := fun y hy => ⟨rfl, hy, 0, f, rfl, rfl, x3, x4, fun _ => by omega, by omega, fun i hi => by omega⟩
    have zk : ∀ (y : Int32), y = b.2.2.1 → SimQ (q.1, q.2.1, q.2.2.1, y) (b.1, b.2.1, y, b.2.2.2.1, b.2.2.2.2) (m.1, m.2) := fun y hy => ⟨rfl, by rw [hy]; exact q2, x, f, x1, x2, x3, x4, by rw [hy]; exact x5, x6, x7⟩
    have zs : ∀ (y : Int32), SimS a (b.1, b.2.1, y, b.2.2.2.1, b.2.2.2.2) := fun y => ⟨h1, h2, h3, h4, h5, h6, h7, h8, h9, h10⟩
    have k1 := k_1 p
    have k11 := k_11 p
    have k2 := k_2 p
    have ks := k_s1 p
    by_cases c0 : bt p 0 = true
    · rw [if_neg (fun z => by rw [k1.mp z] at c0; exact absurd c0 (by decide)), if_pos (k11.mpr c0)]
      by_cases c1 : bt p 1 = true
      · rw [if_neg (fun z => by rw [k2.mp z] at c1; exact absurd c1 (by decide)), if_pos (ks.mpr c1), ite_self]
        unfold f_X1_configure
        rw [if_neg (by decide)]
        exact ⟨zs 1, z0 1 (.inr rfl), hO'⟩
      · rw [if_pos (k2.mpr (by simpa using c1)), if_neg (fun z => c1 (ks.mp z))]
        unfold f_X1_configure
        rw [if_pos rfl]
        by_cases d : b.2.2.1 = 1
        · rw [if_pos d, if_pos (by rw [q1, d])]
          exact ⟨zs 1, zk 1 d.symm, hO'⟩
        · rw [if_neg d, if_neg (by rw [q1]; exact fun z => d z.symm)]
          exact ⟨zs 1, z0 1 (.inr rfl), hO'⟩
    · rw [if_pos (k1.mpr (by simpa using c0)), if_neg (fun z => c0 (k11.mp z))]
      by_cases c1 : bt p 1 = true
      · rw [if_neg (fun z => by rw [k2.mp z] at c1; exact absurd c1 (by decide)), if_pos (ks.mpr c1), ite_self]
        unfold f_X1_configure
        rw [if_neg (by decide)]
        exact ⟨zs 0, z0 0 (.inl rfl), hO'⟩
      · rw [if_pos (k2.mpr (by simpa using c1)), if_neg (fun z => c1 (ks.mp z))]
        unfold f_X1_configure
        rw [if_pos rfl]
        by_cases d : b.2.2.1 = 0
        · rw [if_pos d, if_pos (by rw [q1, d])]
          exact ⟨zs 0, zk 0 d.symm, hO'⟩
        · rw [if_neg d, if_neg (by rw [q1]; exact fun z => d z.symm)]
          exact ⟨zs 0, z0 0 (.inl rfl), hO'⟩
  · rw [sw_3, ws_3]
    obtain ⟨v, hv, ep⟩ := hp
    refine ⟨⟨?_, ⟨v, hv, ep, ?_⟩, ?_, ?_, h5, h6, h7, h8, h9, h10⟩, hq, hO'⟩
    · show ∃ r, r < 16 ∧ a.1 = nI r ∧ upd b.1 3 p 1 = nI r
      rw [pk_un (by decide)]; exact h1
    · show upd b.1 3 p 3 = nI v
      rw [pk_us, ep]
    · show ∃ r, r < 32 ∧ a.2.2.1 = nI r ∧ upd b.1 3 p 4 = nI r
      rw [pk_un (by decide)]; exact h3
    · show a.2.2.2.1 = upd b.1 3 p 7
      rw [pk_un (by decide)]; exact h4
  · rw [sw_4, ws_4]
    obtain ⟨v, hv, ev⟩ := and_nI p 31
    have ev' : p &&& 31 = nI v := ev
    refine ⟨⟨?_, ?_, ⟨v, by omega, ev', ?_⟩, ?_, h5, h6, h7, h8, h9, h10⟩, hq, hO'⟩
    · show ∃ r, r < 16 ∧ a.1 = nI r ∧ upd b.1 4 (p &&& 31) 1 = nI r
      rw [pk_un (by decide)]; exact h1
    · show ∃ r, r < 256 ∧ a.2.1 = nI r ∧ upd b.1 4 (p &&& 31) 3 = nI r
      rw [pk_un (by decide)]; exact h2
    · show upd b.1 4 (p &&& 31) 4 = nI v
      rw [pk_us, ev']
    · show a.2.2.2.1 = upd b.1 4 (p &&& 31) 7
      rw [pk_un (by decide)]; exact h4
  · rw [sw_5, ws_5]
    exact ⟨h, hq, hO'⟩
  · rw [sw_6, ws_6]
    exact ⟨h, hq, hO'⟩
  · rw [sw_7, ws_7]
    refine ⟨⟨?_, ?_, ?_, ?_, h5, h6, h7, h8, h9, h10⟩, hq, hO'⟩
    · show ∃ r, r < 16 ∧ a.1 = nI r ∧ upd b.1 7 p 1 = nI r
      rw [pk_un (by decide)]; exact h1
    · show ∃ r, r < 256 ∧ a.2.1 = nI r ∧ upd b.1 7 p 3 = nI r
      rw [pk_un (by decide)]; exact h2
    · show ∃ r, r < 32 ∧ a.2.2.1 = nI r ∧ upd b.1 7 p 4 = nI r
      rw [pk_un (by decide)]; exact h3
    · show p = upd b.1 7 p 7
      rw [pk_us]
end
