set_option maxHeartbeats 4000000 in
set_option maxRecDepth 100000 in
theorem lc_shortestAt {G : KG} {X : KX} {l : Launch} {b L : Nat} {sq : Nat → Int32} {ce sl : Nat} (F : kF false G X l code RL 4 (some .boolean) room_1) (S : LSq X b L sq) (hL : L ≤ 3072) (hcr : ce ≤ 600000 ∧ sl ≤ 7302250) {M N : Mem} (hI : Inv false M) (hX : XX M) (hJ : Inv true N) (hY : YY N) (hm : Tie M N) {i : Int} (hi : 0 ≤ i ∧ i + 6 ≤ L) (K : ∀ M' N' : Mem, Inv false M' → XX M' → Inv true N' → YY N' → Tie M' N' → LJ G X ce sl M' N' 2050 [some (.ref b), some (vR G 0), some (vR G 163), some (vI i)] []) : LJ G X ce sl M N 1430 [some (.ref b), some (vR G 0), some (vR G 163), some (vI i)] [] := by
  refine kw_aload_n 1431 F 1 dL_law_1430 rfl rfl rfl ?_
  refine kw_aload_n 1432 F 0 dL_law_1431 rfl rfl rfl ?_
  refine kw_iload_n 1433 F 3 dL_law_1432 rfl rfl rfl ?_
  refine kw_iconst 1434 F dL_law_1433 rfl ?_
  refine kw_iadd 1435 F (v := i + 1) dL_law_1434 rfl rfl ?_
  refine kw_sld 1436 F S hL (z := i + 1) (by omega) dL_law_1435 rfl ?_
  have hs1 := sv_rng sq (i + 1)
  refine kw_aload_n 1437 F 0 dL_law_1436 rfl rfl rfl ?_
  refine kw_iload_n 1438 F 3 dL_law_1437 rfl rfl rfl ?_
  refine kw_iconst 1439 F dL_law_1438 rfl ?_
  refine kw_iadd 1440 F (v := i + 2) dL_law_1439 rfl rfl ?_
  refine kw_sld 1441 F S hL (z := i + 2) (by omega) dL_law_1440 rfl ?_
  have hs2 := sv_rng sq (i + 2)
  refine kw_VCi 1444 F (As := [vI (sv sq (i + 1)), vI (sv sq (i + 2))]) (st := []) vd_L_147 (c_X11_shortestAt G l M 0 (sv sq (i + 1)) (sv sq (i + 2)) hI kd_0 (by omega) hX) kd_0 rfl rfl rfl ⟨by decide, by decide⟩ rfl rfl (Nat.le_of_ble_eq_true rfl) dL_law_1441 rfl hcr ?_
  intro r3 U4 q5
  obtain ⟨hiU4, hfU4, q5, hxU4⟩ := q5
  refine kw_pop 1445 F dL_law_1444 rfl rfl ?_
  refine kw_aload_n 1446 F 2 dL_law_1445 rfl rfl rfl ?_
  refine kw_aload_n 1447 F 0 dL_law_1446 rfl rfl rfl ?_
  refine kw_iload_n 1448 F 3 dL_law_1447 rfl rfl rfl ?_
  refine kw_iconst 1449 F dL_law_1448 rfl ?_
  refine kw_iadd 1450 F (v := i + 1) dL_law_1449 rfl rfl ?_
  refine kw_sld 1451 F S hL (z := i + 1) (by omega) dL_law_1450 rfl ?_
  refine kw_aload_n 1452 F 0 dL_law_1451 rfl rfl rfl ?_
  refine kw_iload_n 1453 F 3 dL_law_1452 rfl rfl rfl ?_
  refine kw_iconst 1454 F dL_law_1453 rfl ?_
  refine kw_iadd 1455 F (v := i + 2) dL_law_1454 rfl rfl ?_
  refine kw_sld 1456 F S hL (z := i + 2) (by omega) dL_law_1455 rfl ?_
  refine kw_VMi 1459 F (As := [vI (sv sq (i + 1)), vI (sv sq (i + 2))]) (st := []) vd_L_150 (c_X12_shortestAt G l N (sv sq (i + 1)) (sv sq (i + 2)) hJ (by omega)) kd_163 rfl rfl rfl ⟨by decide, by decide⟩ rfl rfl (Nat.le_of_ble_eq_true rfl) dL_law_1456 rfl hcr ?_
  intro r8 U9 q10
  obtain ⟨hiU9, hfU9, q10⟩ := q10
  have hyU9 : YY U9 := YY.fr hY hfU9 rfl
  have ht : Tie U4 U9 := (Tie.m (Tie.c hm hI hfU4 rfl) hJ hfU9 rfl hiU4 (fun i => congrFun (Fr.fn hfU9 kd_164 rfl) i))
  refine kw_pop 1460 F dL_law_1459 rfl rfl ?_
  refine kw_goto 2050 F dL_law_1460 (by decide) ?_
  exact K U4 U9 hiU4 hxU4 hiU9 hyU9 ht
set_option maxHeartbeats 4000000 in
set_option maxRecDepth 100000 in
theorem lc_both {G : KG} {X : KX} {l : Launch} {b L : Nat} {sq : Nat → Int32} {ce sl : Nat} (F : kF false G X l code RL 4 (some .boolean) room_1) (S : LSq X b L sq) (hL : L ≤ 3072) (hcr : ce ≤ 600000 ∧ sl ≤ 7302250) {M N : Mem} (hI : Inv false M) (hX : XX M) (hJ : Inv true N) (hY : YY N) (hm : Tie M N) {i : Int} (hi : 0 ≤ i ∧ i + 6 ≤ L) (K : ∀ M' N' : Mem, Inv false M' → XX M' → Inv true N' → YY N' → Tie M' N' → LJ G X ce sl M' N' 2050 [some (.ref b), some (vR G 0), some (vR G 163), some (vI i)] []) : LJ G X ce sl M N 1463 [some (.ref b), some (vR G 0), some (vR G 163), some (vI i)] [] := by
  refine kw_aload_n 1464 F 1 dL_law_1463 rfl rfl rfl ?_
  refine kw_aload_n 1465 F 0 dL_law_1464 rfl rfl rfl ?_
  refine kw_iload_n 1466 F 3 dL_law_1465 rfl rfl rfl ?_
  refine kw_iconst 1467 F dL_law_1466 rfl ?_
  refine kw_iadd 1468 F (v := i + 1) dL_law_1467 rfl rfl ?_
  refine kw_sld 1469 F S hL (z := i + 1) (by omega) dL_law_1468 rfl ?_
  have hs1 := sv_rng sq (i + 1)
  refine kw_aload_n 1470 F 0 dL_law_1469 rfl rfl rfl ?_
  refine kw_iload_n 1471 F 3 dL_law_1470 rfl rfl rfl ?_
  refine kw_iconst 1472 F dL_law_1471 rfl ?_
  refine kw_iadd 1473 F (v := i + 2) dL_law_1472 rfl rfl ?_
  refine kw_sld 1474 F S hL (z := i + 2) (by omega) dL_law_1473 rfl ?_
  have hs2 := sv_rng sq (i + 2)
  refine kw_VCi 1477 F (As := [vI (sv sq (i + 1)), vI (sv sq (i + 2))]) (st := []) vd_L_151 (c_X11_both G l M 0 (sv sq (i + 1)) (sv sq (i + 2)) hI kd_0 (by omega) hX) kd_0 rfl rfl rfl ⟨by decide, by decide⟩ rfl rfl (Nat.le_of_ble_eq_true rfl) dL_law_1474 rfl hcr ?_
  intro r3 U4 q5
  obtain ⟨hiU4, hfU4, q5, hxU4⟩ := q5
  refine kw_pop 1478 F dL_law_1477 rfl rfl ?_
  refine kw_aload_n 1479 F 2 dL_law_1478 rfl rfl rfl ?_
  refine kw_aload_n 1480 F 0 dL_law_1479 rfl rfl rfl ?_
  refine kw_iload_n 1481 F 3 dL_law_1480 rfl rfl rfl ?_
  refine kw_iconst 1482 F dL_law_1481 rfl ?_
  refine kw_iadd 1483 F (v := i + 1) dL_law_1482 rfl rfl ?_
  refine kw_sld 1484 F S hL (z := i + 1) (by omega) dL_law_1483 rfl ?_
  refine kw_aload_n 1485 F 0 dL_law_1484 rfl rfl rfl ?_
  refine kw_iload_n 1486 F 3 dL_law_1485 rfl rfl rfl ?_
  refine kw_iconst 1487 F dL_law_1486 rfl ?_
  refine kw_iadd 1488 F (v := i + 2) dL_law_1487 rfl rfl ?_
  refine kw_sld 1489 F S hL (z := i + 2) (by omega) dL_law_1488 rfl ?_
  refine kw_VMi 1492 F (As := [vI (sv sq (i + 1)), vI (sv sq (i + 2))]) (st := []) vd_L_154 (c_X12_both G l N (sv sq (i + 1)) (sv sq (i + 2)) hJ (by omega)) kd_163 rfl rfl rfl ⟨by decide, by decide⟩ rfl rfl (Nat.le_of_ble_eq_true rfl) dL_law_1489 rfl hcr ?_
  intro r8 U9 q10
  obtain ⟨hiU9, hfU9, q10⟩ := q10
  have hyU9 : YY U9 := YY.fr hY hfU9 rfl
  have ht : Tie U4 U9 := (Tie.m (Tie.c hm hI hfU4 rfl) hJ hfU9 rfl hiU4 (fun i => congrFun (Fr.fn hfU9 kd_164 rfl) i))
  refine kw_pop 1493 F dL_law_1492 rfl rfl ?_
  refine kw_goto 2050 F dL_law_1493 (by decide) ?_
  exact K U4 U9 hiU4 hxU4 hiU9 hyU9 ht
set_option maxHeartbeats 4000000 in
set_option maxRecDepth 100000 in
theorem lc_bothAt {G : KG} {X : KX} {l : Launch} {b L : Nat} {sq : Nat → Int32} {ce sl : Nat} (F : kF false G X l code RL 4 (some .boolean) room_1) (S : LSq X b L sq) (hL : L ≤ 3072) (hcr : ce ≤ 600000 ∧ sl ≤ 7302250) {M N : Mem} (hI : Inv false M) (hX : XX M) (hJ : Inv true N) (hY : YY N) (hm : Tie M N) {i : Int} (hi : 0 ≤ i ∧ i + 6 ≤ L) (K : ∀ M' N' : Mem, Inv false M' → XX M' → Inv true N' → YY N' → Tie M' N' → LJ G X ce sl M' N' 2050 [some (.ref b), some (vR G 0), some (vR G 163), some (vI i)] []) : LJ G X ce sl M N 1496 [some (.ref b), some (vR G 0), some (vR G 163), some (vI i)] [] := by
  refine kw_aload_n 1497 F 1 dL_law_1496 rfl rfl rfl ?_
  refine kw_aload_n 1498 F 0 dL_law_1497 rfl rfl rfl ?_
  refine kw_iload_n 1499 F 3 dL_law_1498 rfl rfl rfl ?_
  refine kw_iconst 1500 F dL_law_1499 rfl ?_
  refine kw_iadd 1501 F (v := i + 1) dL_law_1500 rfl rfl ?_
  refine kw_sld 1502 F S hL (z := i + 1) (by omega) dL_law_1501 rfl ?_
  have hs1 := sv_rng sq (i + 1)
  refine kw_aload_n 1503 F 0 dL_law_1502 rfl rfl rfl ?_
  refine kw_iload_n 1504 F 3 dL_law_1503 rfl rfl rfl ?_
  refine kw_iconst 1505 F dL_law_1504 rfl ?_
  refine kw_iadd 1506 F (v := i + 2) dL_law_1505 rfl rfl ?_
  refine kw_sld 1507 F S hL (z := i + 2) (by omega) dL_law_1506 rfl ?_
  have hs2 := sv_rng sq (i + 2)
  refine kw_aload_n 1508 F 0 dL_law_1507 rfl rfl rfl ?_
  refine kw_iload_n 1509 F 3 dL_law_1508 rfl rfl rfl ?_
  refine kw_iconst 1510 F dL_law_1509 rfl ?_
  refine kw_iadd 1511 F (v := i + 3) dL_law_1510 rfl rfl ?_
  refine kw_sld 1512 F S hL (z := i + 3) (by omega) dL_law_1511 rfl ?_
  have hs3 := sv_rng sq (i + 3)
  refine kw_VCi 1515 F (As := [vI (sv sq (i + 1)), vI (sv sq (i + 2)), vI (sv sq (i + 3))]) (st := []) vd_L_155 (c_X11_bothAt G l M 0 (sv sq (i + 1)) (sv sq (i + 2)) (sv sq (i + 3)) hI kd_0 (by omega) hX) kd_0 rfl rfl rfl ⟨by decide, by decide⟩ rfl rfl (Nat.le_of_ble_eq_true rfl) dL_law_1512 rfl hcr ?_
  intro r4 U5 q6
  obtain ⟨hiU5, hfU5, q6, hxU5⟩ := q6
  refine kw_pop 1516 F dL_law_1515 rfl rfl ?_
  refine kw_aload_n 1517 F 2 dL_law_1516 rfl rfl rfl ?_
  refine kw_aload_n 1518 F 0 dL_law_1517 rfl rfl rfl ?_
  refine kw_iload_n 1519 F 3 dL_law_1518 rfl rfl rfl ?_
  refine kw_iconst 1520 F dL_law_1519 rfl ?_
  refine kw_iadd 1521 F (v := i + 1) dL_law_1520 rfl rfl ?_
  refine kw_sld 1522 F S hL (z := i + 1) (by omega) dL_law_1521 rfl ?_
  refine kw_aload_n 1523 F 0 dL_law_1522 rfl rfl rfl ?_
  refine kw_iload_n 1524 F 3 dL_law_1523 rfl rfl rfl ?_
  refine kw_iconst 1525 F dL_law_1524 rfl ?_
  refine kw_iadd 1526 F (v := i + 2) dL_law_1525 rfl rfl ?_
  refine kw_sld 1527 F S hL (z := i + 2) (by omega) dL_law_1526 rfl ?_
  refine kw_aload_n 1528 F 0 dL_law_1527 rfl rfl rfl ?_
  refine kw_iload_n 1529 F 3 dL_law_1528 rfl rfl rfl ?_
  refine kw_iconst 1530 F dL_law_1529 rfl ?_
  refine kw_iadd 1531 F (v := i + 3) dL_law_1530 rfl rfl ?_
  refine kw_sld 1532 F S hL (z := i + 3) (by omega) dL_law_1531 rfl ?_
  refine kw_VMi 1535 F (As := [vI (sv sq (i + 1)), vI (sv sq (i + 2)), vI (sv sq (i + 3))]) (st := []) vd_L_158 (c_X12_bothAt G l N (sv sq (i + 1)) (sv sq (i + 2)) (sv sq (i + 3)) hJ (by omega)) kd_163 rfl rfl rfl ⟨by decide, by decide⟩ rfl rfl (Nat.le_of_ble_eq_true rfl) dL_law_1532 rfl hcr ?_
  intro r10 U11 q12
  obtain ⟨hiU11, hfU11, q12⟩ := q12
  have hyU11 : YY U11 := YY.fr hY hfU11 rfl
  have ht : Tie U5 U11 := (Tie.m (Tie.c hm hI hfU5 rfl) hJ hfU11 rfl hiU5 (fun i => congrFun (Fr.fn hfU11 kd_164 rfl) i))
  refine kw_pop 1536 F dL_law_1535 rfl rfl ?_
  refine kw_goto 2050 F dL_law_1536 (by decide) ?_
  exact K U5 U11 hiU5 hxU5 hiU11 hyU11 ht
set_option maxHeartbeats 4000000 in
set_option maxRecDepth 100000 in
theorem lc_parting {G : KG} {X : KX} {l : Launch} {b L : Nat} {sq : Nat → Int32} {ce sl : Nat} (F : kF false G X l code RL 4 (some .boolean) room_1) (S : LSq X b L sq) (hL : L ≤ 3072) (hcr : ce ≤ 600000 ∧ sl ≤ 7302250) {M N : Mem} (hI : Inv false M) (hX : XX M) (hJ : Inv true N) (hY : YY N) (hm : Tie M N) {i : Int} (hi : 0 ≤ i ∧ i + 6 ≤ L) (K : ∀ M' N' : Mem, Inv false M' → XX M' → Inv true N' → YY N' → Tie M' N' → LJ G X ce sl M' N' 2050 [some (.ref b), some (vR G 0), some (vR G 163), some (vI i)] []) : LJ G X ce sl M N 1539 [some (.ref b), some (vR G 0), some (vR G 163), some (vI i)] [] := by
  obtain ⟨q, hV, hS, hU, hR, hT⟩ := hm.2.2.2.2.2.2.2.2.1.1
  have hF : zTF M 0 := hm.2.2.2.2.2.2.2.2.2.2.2.2.1
  have hK : zTC M 0 q := hm.2.2.2.2.2.2.2.2.2.2.2.2.2 q hV hR hT
  refine kw_aload_n 1540 F 1 dL_law_1539 rfl rfl rfl ?_
  refine kw_aload_n 1541 F 0 dL_law_1540 rfl rfl rfl ?_
  refine kw_iload_n 1542 F 3 dL_law_1541 rfl rfl rfl ?_
  refine kw_iconst 1543 F dL_law_1542 rfl ?_
  refine kw_iadd 1544 F (v := i + 1) dL_law_1543 rfl rfl ?_
  refine kw_sld 1545 F S hL (z := i + 1) (by omega) dL_law_1544 rfl ?_
  have hs1 := sv_rng sq (i + 1)
  refine kw_aload_n 1546 F 0 dL_law_1545 rfl rfl rfl ?_
  refine kw_iload_n 1547 F 3 dL_law_1546 rfl rfl rfl ?_
  refine kw_iconst 1548 F dL_law_1547 rfl ?_
  refine kw_iadd 1549 F (v := i + 2) dL_law_1548 rfl rfl ?_
  refine kw_sld 1550 F S hL (z := i + 2) (by omega) dL_law_1549 rfl ?_
  have hs2 := sv_rng sq (i + 2)
  refine kw_VCi 1553 F (As := [vI (sv sq (i + 1)), vI (sv sq (i + 2))]) (st := []) vd_L_159 (e_parting3 G l M 0 (sv sq (i + 1)) (sv sq (i + 2)) hI kd_0 (by omega) hX q hS hU hF hK) kd_0 rfl rfl rfl ⟨by decide, by decide⟩ rfl rfl (Nat.le_of_ble_eq_true rfl) dL_law_1550 rfl hcr ?_
  intro r3 U4 q5
  obtain ⟨hiU4, hfU4, q5, hxU4, huU4⟩ := q5
  refine kw_pop 1554 F dL_law_1553 rfl rfl ?_
  refine kw_aload_n 1555 F 2 dL_law_1554 rfl rfl rfl ?_
  refine kw_aload_n 1556 F 0 dL_law_1555 rfl rfl rfl ?_
  refine kw_iload_n 1557 F 3 dL_law_1556 rfl rfl rfl ?_
  refine kw_iconst 1558 F dL_law_1557 rfl ?_
  refine kw_iadd 1559 F (v := i + 1) dL_law_1558 rfl rfl ?_
  refine kw_sld 1560 F S hL (z := i + 1) (by omega) dL_law_1559 rfl ?_
  refine kw_aload_n 1561 F 0 dL_law_1560 rfl rfl rfl ?_
  refine kw_iload_n 1562 F 3 dL_law_1561 rfl rfl rfl ?_
  refine kw_iconst 1563 F dL_law_1562 rfl ?_
  refine kw_iadd 1564 F (v := i + 2) dL_law_1563 rfl rfl ?_
  refine kw_sld 1565 F S hL (z := i + 2) (by omega) dL_law_1564 rfl ?_
  refine kw_VMi 1568 F (As := [vI (sv sq (i + 1)), vI (sv sq (i + 2))]) (st := []) vd_L_162 (e_parting G l N (sv sq (i + 1)) (sv sq (i + 2)) hJ (by omega) hY) kd_163 rfl rfl rfl ⟨by decide, by decide⟩ rfl rfl (Nat.le_of_ble_eq_true rfl) dL_law_1565 rfl hcr ?_
  intro r8 U9 q10
  obtain ⟨hiU9, hfU9, q10, hyU9⟩ := q10
  have ht : Tie U4 U9 := ⟨(Fr.e hfU4 kd_0 7 rfl).trans (hm.1.trans (Fr.e hfU9 kd_163 50 rfl).symm), (Fr.e hfU4 kd_x5 1 rfl).trans (hm.2.1.trans (Fr.e hfU9 kd_163 10 rfl).symm), (Fr.fn hfU4 kd_x4 rfl).trans (hm.2.2.1.trans (Fr.fn hfU9 kd_y6 rfl).symm), (Fr.fn hfU4 kd_x3 rfl).trans (hm.2.2.2.1.trans (Fr.fn hfU9 kd_y5 rfl).symm), (Fr.fn hfU4 kd_x6 rfl).trans (hm.2.2.2.2.1.trans (Fr.fn hfU9 kd_169 rfl).symm), (Fr.e hfU4 kd_x5 2 rfl).trans (hm.2.2.2.2.2.1.trans (Fr.e hfU9 kd_163 16 rfl).symm), (Fr.e hfU4 kd_x5 3 rfl).trans (hm.2.2.2.2.2.2.1.trans (Fr.e hfU9 kd_163 17 rfl).symm), FZ.fr hm.2.2.2.2.2.2.2.1 hfU4 rfl, (zTS.m (zTS.c hm.2.2.2.2.2.2.2.2.1 hI hfU4 rfl) (fun i _ _ _ => congrFun (Fr.fn hfU9 kd_164 rfl) i)), (Fr.fn hfU4 kd_x2 rfl).trans (hm.2.2.2.2.2.2.2.2.2.1.trans (Fr.fn hfU9 kd_y7 rfl).symm), (zTQ.m (zTQ.c hm.2.2.2.2.2.2.2.2.2.2.1 (Fr.e hfU4 kd_0 7 rfl)) hJ (fun i _ _ _ => congrFun (Fr.fn hfU9 kd_164 rfl) i)), (zTW.m (zTW.c hm.2.2.2.2.2.2.2.2.2.2.2.1 hI hm.2.2.2.2.2.2.2.1 hfU4 rfl) hiU4 (FZ.fr hm.2.2.2.2.2.2.2.1 hfU4 rfl) (fun i _ => congrFun (Fr.fn hfU9 kd_164 rfl) i)), (zTL.q hm.2.2.2.2.2.2.2.2.2.2.2.2 hfU4 rfl huU4 (by rw [Fr.fn hfU9 kd_164 rfl]; exact hR) (by rw [Fr.fn hfU9 kd_164 rfl]; exact hT))⟩
  refine kw_pop 1569 F dL_law_1568 rfl rfl ?_
  refine kw_goto 2050 F dL_law_1569 (by decide) ?_
  exact K U4 U9 hiU4 hxU4 hiU9 hyU9 ht
set_option maxHeartbeats 4000000 in
set_option maxRecDepth 100000 in
theorem lc_partingAt {G : KG} {X : KX} {l : Launch} {b L : Nat} {sq : Nat → Int32} {ce sl : Nat} (F : kF false G X l code RL 4 (some .boolean) room_1) (S : LSq X b L sq) (hL : L ≤ 3072) (hcr : ce ≤ 600000 ∧ sl ≤ 7302250) {M N : Mem} (hI : Inv false M) (hX : XX M) (hJ : Inv true N) (hY : YY N) (hm : Tie M N) {i : Int} (hi : 0 ≤ i ∧ i + 6 ≤ L) (K : ∀ M' N' : Mem, Inv false M' → XX M' → Inv true N' → YY N' → Tie M' N' → LJ G X ce sl M' N' 2050 [some (.ref b), some (vR G 0), some (vR G 163), some (vI i)] []) : LJ G X ce sl M N 1572 [some (.ref b), some (vR G 0), some (vR G 163), some (vI i)] [] := by
  obtain ⟨q, hV, hS, hU, hR, hT⟩ := hm.2.2.2.2.2.2.2.2.1.1
  have hF : zTF M 0 := hm.2.2.2.2.2.2.2.2.2.2.2.2.1
  have hK : zTC M 0 q := hm.2.2.2.2.2.2.2.2.2.2.2.2.2 q hV hR hT
  refine kw_aload_n 1573 F 1 dL_law_1572 rfl rfl rfl ?_
  refine kw_aload_n 1574 F 0 dL_law_1573 rfl rfl rfl ?_
  refine kw_iload_n 1575 F 3 dL_law_1574 rfl rfl rfl ?_
  refine kw_iconst 1576 F dL_law_1575 rfl ?_
  refine kw_iadd 1577 F (v := i + 1) dL_law_1576 rfl rfl ?_
  refine kw_sld 1578 F S hL (z := i + 1) (by omega) dL_law_1577 rfl ?_
  have hs1 := sv_rng sq (i + 1)
  refine kw_aload_n 1579 F 0 dL_law_1578 rfl rfl rfl ?_
  refine kw_iload_n 1580 F 3 dL_law_1579 rfl rfl rfl ?_
  refine kw_iconst 1581 F dL_law_1580 rfl ?_
  refine kw_iadd 1582 F (v := i + 2) dL_law_1581 rfl rfl ?_
  refine kw_sld 1583 F S hL (z := i + 2) (by omega) dL_law_1582 rfl ?_
  have hs2 := sv_rng sq (i + 2)
  refine kw_aload_n 1584 F 0 dL_law_1583 rfl rfl rfl ?_
  refine kw_iload_n 1585 F 3 dL_law_1584 rfl rfl rfl ?_
  refine kw_iconst 1586 F dL_law_1585 rfl ?_
  refine kw_iadd 1587 F (v := i + 3) dL_law_1586 rfl rfl ?_
  refine kw_sld 1588 F S hL (z := i + 3) (by omega) dL_law_1587 rfl ?_
  have hs3 := sv_rng sq (i + 3)
  refine kw_VCi 1591 F (As := [vI (sv sq (i + 1)), vI (sv sq (i + 2)), vI (sv sq (i + 3))]) (st := []) vd_L_163 (e_partingAt3 G l M 0 (sv sq (i + 1)) (sv sq (i + 2)) (sv sq (i + 3)) hI kd_0 (by omega) hX q hS hU hF hK) kd_0 rfl rfl rfl ⟨by decide, by decide⟩ rfl rfl (Nat.le_of_ble_eq_true rfl) dL_law_1588 rfl hcr ?_
  intro r4 U5 q6
  obtain ⟨hiU5, hfU5, q6, hxU5, huU5⟩ := q6
  refine kw_pop 1592 F dL_law_1591 rfl rfl ?_
  refine kw_aload_n 1593 F 2 dL_law_1592 rfl rfl rfl ?_
  refine kw_aload_n 1594 F 0 dL_law_1593 rfl rfl rfl ?_
  refine kw_iload_n 1595 F 3 dL_law_1594 rfl rfl rfl ?_
  refine kw_iconst 1596 F dL_law_1595 rfl ?_
  refine kw_iadd 1597 F (v := i + 1) dL_law_1596 rfl rfl ?_
  refine kw_sld 1598 F S hL (z := i + 1) (by omega) dL_law_1597 rfl ?_
  refine kw_aload_n 1599 F 0 dL_law_1598 rfl rfl rfl ?_
  refine kw_iload_n 1600 F 3 dL_law_1599 rfl rfl rfl ?_
  refine kw_iconst 1601 F dL_law_1600 rfl ?_
  refine kw_iadd 1602 F (v := i + 2) dL_law_1601 rfl rfl ?_
  refine kw_sld 1603 F S hL (z := i + 2) (by omega) dL_law_1602 rfl ?_
  refine kw_aload_n 1604 F 0 dL_law_1603 rfl rfl rfl ?_
  refine kw_iload_n 1605 F 3 dL_law_1604 rfl rfl rfl ?_
  refine kw_iconst 1606 F dL_law_1605 rfl ?_
  refine kw_iadd 1607 F (v := i + 3) dL_law_1606 rfl rfl ?_
  refine kw_sld 1608 F S hL (z := i + 3) (by omega) dL_law_1607 rfl ?_
  refine kw_VMi 1611 F (As := [vI (sv sq (i + 1)), vI (sv sq (i + 2)), vI (sv sq (i + 3))]) (st := []) vd_L_166 (e_partingAt G l N (sv sq (i + 1)) (sv sq (i + 2)) (sv sq (i + 3)) hJ (by omega) hY) kd_163 rfl rfl rfl ⟨by decide, by decide⟩ rfl rfl (Nat.le_of_ble_eq_true rfl) dL_law_1608 rfl hcr ?_
  intro r10 U11 q12
  obtain ⟨hiU11, hfU11, q12, hyU11⟩ := q12
  have ht : Tie U5 U11 := ⟨(Fr.e hfU5 kd_0 7 rfl).trans (hm.1.trans (Fr.e hfU11 kd_163 50 rfl).symm), (Fr.e hfU5 kd_x5 1 rfl).trans (hm.2.1.trans (Fr.e hfU11 kd_163 10 rfl).symm), (Fr.fn hfU5 kd_x4 rfl).trans (hm.2.2.1.trans (Fr.fn hfU11 kd_y6 rfl).symm), (Fr.fn hfU5 kd_x3 rfl).trans (hm.2.2.2.1.trans (Fr.fn hfU11 kd_y5 rfl).symm), (Fr.fn hfU5 kd_x6 rfl).trans (hm.2.2.2.2.1.trans (Fr.fn hfU11 kd_169 rfl).symm), (Fr.e hfU5 kd_x5 2 rfl).trans (hm.2.2.2.2.2.1.trans (Fr.e hfU11 kd_163 16 rfl).symm), (Fr.e hfU5 kd_x5 3 rfl).trans (hm.2.2.2.2.2.2.1.trans (Fr.e hfU11 kd_163 17 rfl).symm), FZ.fr hm.2.2.2.2.2.2.2.1 hfU5 rfl, (zTS.m (zTS.c hm.2.2.2.2.2.2.2.2.1 hI hfU5 rfl) (fun i _ _ _ => congrFun (Fr.fn hfU11 kd_164 rfl) i)), (Fr.fn hfU5 kd_x2 rfl).trans (hm.2.2.2.2.2.2.2.2.2.1.trans (Fr.fn hfU11 kd_y7 rfl).symm), (zTQ.m (zTQ.c hm.2.2.2.2.2.2.2.2.2.2.1 (Fr.e hfU5 kd_0 7 rfl)) hJ (fun i _ _ _ => congrFun (Fr.fn hfU11 kd_164 rfl) i)), (zTW.m (zTW.c hm.2.2.2.2.2.2.2.2.2.2.2.1 hI hm.2.2.2.2.2.2.2.1 hfU5 rfl) hiU5 (FZ.fr hm.2.2.2.2.2.2.2.1 hfU5 rfl) (fun i _ => congrFun (Fr.fn hfU11 kd_164 rfl) i)), (zTL.q hm.2.2.2.2.2.2.2.2.2.2.2.2 hfU5 rfl huU5 (by rw [Fr.fn hfU11 kd_164 rfl]; exact hR) (by rw [Fr.fn hfU11 kd_164 rfl]; exact hT))⟩
  refine kw_pop 1612 F dL_law_1611 rfl rfl ?_
  refine kw_goto 2050 F dL_law_1612 (by decide) ?_
  exact K U5 U11 hiU5 hxU5 hiU11 hyU11 ht
set_option maxHeartbeats 4000000 in
set_option maxRecDepth 100000 in
theorem lc_missing {G : KG} {X : KX} {l : Launch} {b L : Nat} {sq : Nat → Int32} {ce sl : Nat} (F : kF false G X l code RL 4 (some .boolean) room_1) (S : LSq X b L sq) (hL : L ≤ 3072) (hcr : ce ≤ 600000 ∧ sl ≤ 7302250) {M N : Mem} (hI : Inv false M) (hX : XX M) (hJ : Inv true N) (hY : YY N) (hm : Tie M N) {i : Int} (hi : 0 ≤ i ∧ i + 6 ≤ L) (K : ∀ M' N' : Mem, Inv false M' → XX M' → Inv true N' → YY N' → Tie M' N' → LJ G X ce sl M' N' 2050 [some (.ref b), some (vR G 0), some (vR G 163), some (vI i)] []) : LJ G X ce sl M N 1615 [some (.ref b), some (vR G 0), some (vR G 163), some (vI i)] [] := by
  obtain ⟨q, hV, hS, hU, hR, hT⟩ := hm.2.2.2.2.2.2.2.2.1.1
  have hF : zTF M 0 := hm.2.2.2.2.2.2.2.2.2.2.2.2.1
  have hK : zTC M 0 q := hm.2.2.2.2.2.2.2.2.2.2.2.2.2 q hV hR hT
  refine kw_aload_n 1616 F 1 dL_law_1615 rfl rfl rfl ?_
  refine kw_aload_n 1617 F 0 dL_law_1616 rfl rfl rfl ?_
  refine kw_iload_n 1618 F 3 dL_law_1617 rfl rfl rfl ?_
  refine kw_iconst 1619 F dL_law_1618 rfl ?_
  refine kw_iadd 1620 F (v := i + 1) dL_law_1619 rfl rfl ?_
  refine kw_sld 1621 F S hL (z := i + 1) (by omega) dL_law_1620 rfl ?_
  have hs1 := sv_rng sq (i + 1)
  refine kw_VCi 1624 F (As := [vI (sv sq (i + 1))]) (st := []) vd_L_167 (e_missing3 G l M 0 (sv sq (i + 1)) hI kd_0 (by omega) hX q hS hU hF hK) kd_0 rfl rfl rfl ⟨by decide, by decide⟩ rfl rfl (Nat.le_of_ble_eq_true rfl) dL_law_1621 rfl hcr ?_
  intro r2 U3 q4
  obtain ⟨hiU3, hfU3, q4, hxU3, huU3⟩ := q4
  refine kw_pop 1625 F dL_law_1624 rfl rfl ?_
  refine kw_aload_n 1626 F 2 dL_law_1625 rfl rfl rfl ?_
  refine kw_aload_n 1627 F 0 dL_law_1626 rfl rfl rfl ?_
  refine kw_iload_n 1628 F 3 dL_law_1627 rfl rfl rfl ?_
  refine kw_iconst 1629 F dL_law_1628 rfl ?_
  refine kw_iadd 1630 F (v := i + 1) dL_law_1629 rfl rfl ?_
  refine kw_sld 1631 F S hL (z := i + 1) (by omega) dL_law_1630 rfl ?_
  refine kw_VMi 1634 F (As := [vI (sv sq (i + 1))]) (st := []) vd_L_170 (e_missing G l N (sv sq (i + 1)) hJ (by omega) hY) kd_163 rfl rfl rfl ⟨by decide, by decide⟩ rfl rfl (Nat.le_of_ble_eq_true rfl) dL_law_1631 rfl hcr ?_
  intro r6 U7 q8
  obtain ⟨hiU7, hfU7, q8, hyU7⟩ := q8
  have ht : Tie U3 U7 := ⟨(Fr.e hfU3 kd_0 7 rfl).trans (hm.1.trans (Fr.e hfU7 kd_163 50 rfl).symm), (Fr.e hfU3 kd_x5 1 rfl).trans (hm.2.1.trans (Fr.e hfU7 kd_163 10 rfl).symm), (Fr.fn hfU3 kd_x4 rfl).trans (hm.2.2.1.trans (Fr.fn hfU7 kd_y6 rfl).symm), (Fr.fn hfU3 kd_x3 rfl).trans (hm.2.2.2.1.trans (Fr.fn hfU7 kd_y5 rfl).symm), (Fr.fn hfU3 kd_x6 rfl).trans (hm.2.2.2.2.1.trans (Fr.fn hfU7 kd_169 rfl).symm), (Fr.e hfU3 kd_x5 2 rfl).trans (hm.2.2.2.2.2.1.trans (Fr.e hfU7 kd_163 16 rfl).symm), (Fr.e hfU3 kd_x5 3 rfl).trans (hm.2.2.2.2.2.2.1.trans (Fr.e hfU7 kd_163 17 rfl).symm), FZ.fr hm.2.2.2.2.2.2.2.1 hfU3 rfl, (zTS.m (zTS.c hm.2.2.2.2.2.2.2.2.1 hI hfU3 rfl) (fun i _ _ _ => congrFun (Fr.fn hfU7 kd_164 rfl) i)), (Fr.fn hfU3 kd_x2 rfl).trans (hm.2.2.2.2.2.2.2.2.2.1.trans (Fr.fn hfU7 kd_y7 rfl).symm), (zTQ.m (zTQ.c hm.2.2.2.2.2.2.2.2.2.2.1 (Fr.e hfU3 kd_0 7 rfl)) hJ (fun i _ _ _ => congrFun (Fr.fn hfU7 kd_164 rfl) i)), (zTW.m (zTW.c hm.2.2.2.2.2.2.2.2.2.2.2.1 hI hm.2.2.2.2.2.2.2.1 hfU3 rfl) hiU3 (FZ.fr hm.2.2.2.2.2.2.2.1 hfU3 rfl) (fun i _ => congrFun (Fr.fn hfU7 kd_164 rfl) i)), (zTL.q hm.2.2.2.2.2.2.2.2.2.2.2.2 hfU3 rfl huU3 (by rw [Fr.fn hfU7 kd_164 rfl]; exact hR) (by rw [Fr.fn hfU7 kd_164 rfl]; exact hT))⟩
  refine kw_pop 1635 F dL_law_1634 rfl rfl ?_
  refine kw_goto 2050 F dL_law_1635 (by decide) ?_
  exact K U3 U7 hiU3 hxU3 hiU7 hyU7 ht
set_option maxHeartbeats 4000000 in
set_option maxRecDepth 100000 in
theorem lc_missingAt {G : KG} {X : KX} {l : Launch} {b L : Nat} {sq : Nat → Int32} {ce sl : Nat} (F : kF false G X l code RL 4 (some .boolean) room_1) (S : LSq X b L sq) (hL : L ≤ 3072) (hcr : ce ≤ 600000 ∧ sl ≤ 7302250) {M N : Mem} (hI : Inv false M) (hX : XX M) (hJ : Inv true N) (hY : YY N) (hm : Tie M N) {i : Int} (hi : 0 ≤ i ∧ i + 6 ≤ L) (K : ∀ M' N' : Mem, Inv false M' → XX M' → Inv true N' → YY N' → Tie M' N' → LJ G X ce sl M' N' 2050 [some (.ref b), some (vR G 0), some (vR G 163), some (vI i)] []) : LJ G X ce sl M N 1638 [some (.ref b), some (vR G 0), some (vR G 163), some (vI i)] [] := by
  obtain ⟨q, hV, hS, hU, hR, hT⟩ := hm.2.2.2.2.2.2.2.2.1.1
  have hF : zTF M 0 := hm.2.2.2.2.2.2.2.2.2.2.2.2.1
  have hK : zTC M 0 q := hm.2.2.2.2.2.2.2.2.2.2.2.2.2 q hV hR hT
  refine kw_aload_n 1639 F 1 dL_law_1638 rfl rfl rfl ?_
  refine kw_aload_n 1640 F 0 dL_law_1639 rfl rfl rfl ?_
  refine kw_iload_n 1641 F 3 dL_law_1640 rfl rfl rfl ?_
  refine kw_iconst 1642 F dL_law_1641 rfl ?_
  refine kw_iadd 1643 F (v := i + 1) dL_law_1642 rfl rfl ?_
  refine kw_sld 1644 F S hL (z := i + 1) (by omega) dL_law_1643 rfl ?_
  have hs1 := sv_rng sq (i + 1)
  refine kw_aload_n 1645 F 0 dL_law_1644 rfl rfl rfl ?_
  refine kw_iload_n 1646 F 3 dL_law_1645 rfl rfl rfl ?_
  refine kw_iconst 1647 F dL_law_1646 rfl ?_
  refine kw_iadd 1648 F (v := i + 2) dL_law_1647 rfl rfl ?_
  refine kw_sld 1649 F S hL (z := i + 2) (by omega) dL_law_1648 rfl ?_
  have hs2 := sv_rng sq (i + 2)
  refine kw_VCi 1652 F (As := [vI (sv sq (i + 1)), vI (sv sq (i + 2))]) (st := []) vd_L_171 (e_missingAt3 G l M 0 (sv sq (i + 1)) (sv sq (i + 2)) hI kd_0 (by omega) hX q hS hU hF hK) kd_0 rfl rfl rfl ⟨by decide, by decide⟩ rfl rfl (Nat.le_of_ble_eq_true rfl) dL_law_1649 rfl hcr ?_
  intro r3 U4 q5
  obtain ⟨hiU4, hfU4, q5, hxU4, huU4⟩ := q5
  refine kw_pop 1653 F dL_law_1652 rfl rfl ?_
  refine kw_aload_n 1654 F 2 dL_law_1653 rfl rfl rfl ?_
  refine kw_aload_n 1655 F 0 dL_law_1654 rfl rfl rfl ?_
  refine kw_iload_n 1656 F 3 dL_law_1655 rfl rfl rfl ?_
  refine kw_iconst 1657 F dL_law_1656 rfl ?_
  refine kw_iadd 1658 F (v := i + 1) dL_law_1657 rfl rfl ?_
  refine kw_sld 1659 F S hL (z := i + 1) (by omega) dL_law_1658 rfl ?_
  refine kw_aload_n 1660 F 0 dL_law_1659 rfl rfl rfl ?_
  refine kw_iload_n 1661 F 3 dL_law_1660 rfl rfl rfl ?_
  refine kw_iconst 1662 F dL_law_1661 rfl ?_
  refine kw_iadd 1663 F (v := i + 2) dL_law_1662 rfl rfl ?_
  refine kw_sld 1664 F S hL (z := i + 2) (by omega) dL_law_1663 rfl ?_
  refine kw_VMi 1667 F (As := [vI (sv sq (i + 1)), vI (sv sq (i + 2))]) (st := []) vd_L_174 (e_missingAt G l N (sv sq (i + 1)) (sv sq (i + 2)) hJ (by omega) hY) kd_163 rfl rfl rfl ⟨by decide, by decide⟩ rfl rfl (Nat.le_of_ble_eq_true rfl) dL_law_1664 rfl hcr ?_
  intro r8 U9 q10
  obtain ⟨hiU9, hfU9, q10, hyU9⟩ := q10
  have ht : Tie U4 U9 := ⟨(Fr.e hfU4 kd_0 7 rfl).trans (hm.1.trans (Fr.e hfU9 kd_163 50 rfl).symm), (Fr.e hfU4 kd_x5 1 rfl).trans (hm.2.1.trans (Fr.e hfU9 kd_163 10 rfl).symm), (Fr.fn hfU4 kd_x4 rfl).trans (hm.2.2.1.trans (Fr.fn hfU9 kd_y6 rfl).symm), (Fr.fn hfU4 kd_x3 rfl).trans (hm.2.2.2.1.trans (Fr.fn hfU9 kd_y5 rfl).symm), (Fr.fn hfU4 kd_x6 rfl).trans (hm.2.2.2.2.1.trans (Fr.fn hfU9 kd_169 rfl).symm), (Fr.e hfU4 kd_x5 2 rfl).trans (hm.2.2.2.2.2.1.trans (Fr.e hfU9 kd_163 16 rfl).symm), (Fr.e hfU4 kd_x5 3 rfl).trans (hm.2.2.2.2.2.2.1.trans (Fr.e hfU9 kd_163 17 rfl).symm), FZ.fr hm.2.2.2.2.2.2.2.1 hfU4 rfl, (zTS.m (zTS.c hm.2.2.2.2.2.2.2.2.1 hI hfU4 rfl) (fun i _ _ _ => congrFun (Fr.fn hfU9 kd_164 rfl) i)), (Fr.fn hfU4 kd_x2 rfl).trans (hm.2.2.2.2.2.2.2.2.2.1.trans (Fr.fn hfU9 kd_y7 rfl).symm), (zTQ.m (zTQ.c hm.2.2.2.2.2.2.2.2.2.2.1 (Fr.e hfU4 kd_0 7 rfl)) hJ (fun i _ _ _ => congrFun (Fr.fn hfU9 kd_164 rfl) i)), (zTW.m (zTW.c hm.2.2.2.2.2.2.2.2.2.2.2.1 hI hm.2.2.2.2.2.2.2.1 hfU4 rfl) hiU4 (FZ.fr hm.2.2.2.2.2.2.2.1 hfU4 rfl) (fun i _ => congrFun (Fr.fn hfU9 kd_164 rfl) i)), (zTL.q hm.2.2.2.2.2.2.2.2.2.2.2.2 hfU4 rfl huU4 (by rw [Fr.fn hfU9 kd_164 rfl]; exact hR) (by rw [Fr.fn hfU9 kd_164 rfl]; exact hT))⟩
  refine kw_pop 1668 F dL_law_1667 rfl rfl ?_
  refine kw_goto 2050 F dL_law_1668 (by decide) ?_
  exact K U4 U9 hiU4 hxU4 hiU9 hyU9 ht
set_option maxHeartbeats 4000000 in
set_option maxRecDepth 100000 in
theorem lc_includes {G : KG} {X : KX} {l : Launch} {b L : Nat} {sq : Nat → Int32} {ce sl : Nat} (F : kF false G X l code RL 4 (some .boolean) room_1) (S : LSq X b L sq) (hL : L ≤ 3072) (hcr : ce ≤ 600000 ∧ sl ≤ 7302250) {M N : Mem} (hI : Inv false M) (hX : XX M) (hJ : Inv true N) (hY : YY N) (hm : Tie M N) {i : Int} (hi : 0 ≤ i ∧ i + 6 ≤ L) (K : ∀ M' N' : Mem, Inv false M' → XX M' → Inv true N' → YY N' → Tie M' N' → LJ G X ce sl M' N' 2050 [some (.ref b), some (vR G 0), some (vR G 163), some (vI i)] []) : LJ G X ce sl M N 1671 [some (.ref b), some (vR G 0), some (vR G 163), some (vI i)] [] := by
  obtain ⟨q, hV, hS, hU, hR, hT⟩ := hm.2.2.2.2.2.2.2.2.1.1
  have hF : zTF M 0 := hm.2.2.2.2.2.2.2.2.2.2.2.2.1
  have hK : zTC M 0 q := hm.2.2.2.2.2.2.2.2.2.2.2.2.2 q hV hR hT
  refine kw_aload_n 1672 F 1 dL_law_1671 rfl rfl rfl ?_
  refine kw_aload_n 1673 F 0 dL_law_1672 rfl rfl rfl ?_
  refine kw_iload_n 1674 F 3 dL_law_1673 rfl rfl rfl ?_
  refine kw_iconst 1675 F dL_law_1674 rfl ?_
  refine kw_iadd 1676 F (v := i + 1) dL_law_1675 rfl rfl ?_
  refine kw_sld 1677 F S hL (z := i + 1) (by omega) dL_law_1676 rfl ?_
  have hs1 := sv_rng sq (i + 1)
  refine kw_aload_n 1678 F 0 dL_law_1677 rfl rfl rfl ?_
  refine kw_iload_n 1679 F 3 dL_law_1678 rfl rfl rfl ?_
  refine kw_iconst 1680 F dL_law_1679 rfl ?_
  refine kw_iadd 1681 F (v := i + 2) dL_law_1680 rfl rfl ?_
  refine kw_sld 1682 F S hL (z := i + 2) (by omega) dL_law_1681 rfl ?_
  have hs2 := sv_rng sq (i + 2)
  refine kw_VCi 1685 F (As := [vI (sv sq (i + 1)), vI (sv sq (i + 2))]) (st := []) vd_L_175 (e_includes3 G l M 0 (sv sq (i + 1)) (sv sq (i + 2)) hI kd_0 (by omega) hX q hS hU hF hK) kd_0 rfl rfl rfl ⟨by decide, by decide⟩ rfl rfl (Nat.le_of_ble_eq_true rfl) dL_law_1682 rfl hcr ?_
  intro r3 U4 q5
  obtain ⟨hiU4, hfU4, q5, hxU4, huU4⟩ := q5
  refine kw_pop 1686 F dL_law_1685 rfl rfl ?_
  refine kw_aload_n 1687 F 2 dL_law_1686 rfl rfl rfl ?_
  refine kw_aload_n 1688 F 0 dL_law_1687 rfl rfl rfl ?_
  refine kw_iload_n 1689 F 3 dL_law_1688 rfl rfl rfl ?_
  refine kw_iconst 1690 F dL_law_1689 rfl ?_
  refine kw_iadd 1691 F (v := i + 1) dL_law_1690 rfl rfl ?_
  refine kw_sld 1692 F S hL (z := i + 1) (by omega) dL_law_1691 rfl ?_
  refine kw_aload_n 1693 F 0 dL_law_1692 rfl rfl rfl ?_
  refine kw_iload_n 1694 F 3 dL_law_1693 rfl rfl rfl ?_
  refine kw_iconst 1695 F dL_law_1694 rfl ?_
  refine kw_iadd 1696 F (v := i + 2) dL_law_1695 rfl rfl ?_
  refine kw_sld 1697 F S hL (z := i + 2) (by omega) dL_law_1696 rfl ?_
  refine kw_VMi 1700 F (As := [vI (sv sq (i + 1)), vI (sv sq (i + 2))]) (st := []) vd_L_178 (e_includes G l N (sv sq (i + 1)) (sv sq (i + 2)) hJ (by omega) hY) kd_163 rfl rfl rfl ⟨by decide, by decide⟩ rfl rfl (Nat.le_of_ble_eq_true rfl) dL_law_1697 rfl hcr ?_
  intro r8 U9 q10
  obtain ⟨hiU9, hfU9, q10, hyU9⟩ := q10
  have ht : Tie U4 U9 := ⟨(Fr.e hfU4 kd_0 7 rfl).trans (hm.1.trans (Fr.e hfU9 kd_163 50 rfl).symm), (Fr.e hfU4 kd_x5 1 rfl).trans (hm.2.1.trans (Fr.e hfU9 kd_163 10 rfl).symm), (Fr.fn hfU4 kd_x4 rfl).trans (hm.2.2.1.trans (Fr.fn hfU9 kd_y6 rfl).symm), (Fr.fn hfU4 kd_x3 rfl).trans (hm.2.2.2.1.trans (Fr.fn hfU9 kd_y5 rfl).symm), (Fr.fn hfU4 kd_x6 rfl).trans (hm.2.2.2.2.1.trans (Fr.fn hfU9 kd_169 rfl).symm), (Fr.e hfU4 kd_x5 2 rfl).trans (hm.2.2.2.2.2.1.trans (Fr.e hfU9 kd_163 16 rfl).symm), (Fr.e hfU4 kd_x5 3 rfl).trans (hm.2.2.2.2.2.2.1.trans (Fr.e hfU9 kd_163 17 rfl).symm), FZ.fr hm.2.2.2.2.2.2.2.1 hfU4 rfl, (zTS.m (zTS.c hm.2.2.2.2.2.2.2.2.1 hI hfU4 rfl) (fun i _ _ _ => congrFun (Fr.fn hfU9 kd_164 rfl) i)), (Fr.fn hfU4 kd_x2 rfl).trans (hm.2.2.2.2.2.2.2.2.2.1.trans (Fr.fn hfU9 kd_y7 rfl).symm), (zTQ.m (zTQ.c hm.2.2.2.2.2.2.2.2.2.2.1 (Fr.e hfU4 kd_0 7 rfl)) hJ (fun i _ _ _ => congrFun (Fr.fn hfU9 kd_164 rfl) i)), (zTW.m (zTW.c hm.2.2.2.2.2.2.2.2.2.2.2.1 hI hm.2.2.2.2.2.2.2.1 hfU4 rfl) hiU4 (FZ.fr hm.2.2.2.2.2.2.2.1 hfU4 rfl) (fun i _ => congrFun (Fr.fn hfU9 kd_164 rfl) i)), (zTL.q hm.2.2.2.2.2.2.2.2.2.2.2.2 hfU4 rfl huU4 (by rw [Fr.fn hfU9 kd_164 rfl]; exact hR) (by rw [Fr.fn hfU9 kd_164 rfl]; exact hT))⟩
  refine kw_pop 1701 F dL_law_1700 rfl rfl ?_
  refine kw_goto 2050 F dL_law_1701 (by decide) ?_
  exact K U4 U9 hiU4 hxU4 hiU9 hyU9 ht
set_option maxHeartbeats 4000000 in
set_option maxRecDepth 100000 in
theorem lc_equal {G : KG} {X : KX} {l : Launch} {b L : Nat} {sq : Nat → Int32} {ce sl : Nat} (F : kF false G X l code RL 4 (some .boolean) room_1) (S : LSq X b L sq) (hL : L ≤ 3072) (hcr : ce ≤ 600000 ∧ sl ≤ 7302250) {M N : Mem} (hI : Inv false M) (hX : XX M) (hJ : Inv true N) (hY : YY N) (hm : Tie M N) {i : Int} (hi : 0 ≤ i ∧ i + 6 ≤ L) (K : ∀ M' N' : Mem, Inv false M' → XX M' → Inv true N' → YY N' → Tie M' N' → LJ G X ce sl M' N' 2050 [some (.ref b), some (vR G 0), some (vR G 163), some (vI i)] []) : LJ G X ce sl M N 1704 [some (.ref b), some (vR G 0), some (vR G 163), some (vI i)] [] := by
  obtain ⟨q, hV, hS, hU, hR, hT⟩ := hm.2.2.2.2.2.2.2.2.1.1
  have hF : zTF M 0 := hm.2.2.2.2.2.2.2.2.2.2.2.2.1
  have hK : zTC M 0 q := hm.2.2.2.2.2.2.2.2.2.2.2.2.2 q hV hR hT
  refine kw_aload_n 1705 F 1 dL_law_1704 rfl rfl rfl ?_
  refine kw_aload_n 1706 F 0 dL_law_1705 rfl rfl rfl ?_
  refine kw_iload_n 1707 F 3 dL_law_1706 rfl rfl rfl ?_
  refine kw_iconst 1708 F dL_law_1707 rfl ?_
  refine kw_iadd 1709 F (v := i + 1) dL_law_1708 rfl rfl ?_
  refine kw_sld 1710 F S hL (z := i + 1) (by omega) dL_law_1709 rfl ?_
  have hs1 := sv_rng sq (i + 1)
  refine kw_aload_n 1711 F 0 dL_law_1710 rfl rfl rfl ?_
  refine kw_iload_n 1712 F 3 dL_law_1711 rfl rfl rfl ?_
  refine kw_iconst 1713 F dL_law_1712 rfl ?_
  refine kw_iadd 1714 F (v := i + 2) dL_law_1713 rfl rfl ?_
  refine kw_sld 1715 F S hL (z := i + 2) (by omega) dL_law_1714 rfl ?_
  have hs2 := sv_rng sq (i + 2)
  refine kw_VCi 1718 F (As := [vI (sv sq (i + 1)), vI (sv sq (i + 2))]) (st := []) vd_L_179 (e_equal3 G l M 0 (sv sq (i + 1)) (sv sq (i + 2)) hI kd_0 (by omega) hX q hS hU hF hK) kd_0 rfl rfl rfl ⟨by decide, by decide⟩ rfl rfl (Nat.le_of_ble_eq_true rfl) dL_law_1715 rfl hcr ?_
  intro r3 U4 q5
  obtain ⟨hiU4, hfU4, q5, hxU4, huU4⟩ := q5
  refine kw_pop 1719 F dL_law_1718 rfl rfl ?_
  refine kw_aload_n 1720 F 2 dL_law_1719 rfl rfl rfl ?_
  refine kw_aload_n 1721 F 0 dL_law_1720 rfl rfl rfl ?_
  refine kw_iload_n 1722 F 3 dL_law_1721 rfl rfl rfl ?_
  refine kw_iconst 1723 F dL_law_1722 rfl ?_
  refine kw_iadd 1724 F (v := i + 1) dL_law_1723 rfl rfl ?_
  refine kw_sld 1725 F S hL (z := i + 1) (by omega) dL_law_1724 rfl ?_
  refine kw_aload_n 1726 F 0 dL_law_1725 rfl rfl rfl ?_
  refine kw_iload_n 1727 F 3 dL_law_1726 rfl rfl rfl ?_
  refine kw_iconst 1728 F dL_law_1727 rfl ?_
  refine kw_iadd 1729 F (v := i + 2) dL_law_1728 rfl rfl ?_
  refine kw_sld 1730 F S hL (z := i + 2) (by omega) dL_law_1729 rfl ?_
  refine kw_VMi 1733 F (As := [vI (sv sq (i + 1)), vI (sv sq (i + 2))]) (st := []) vd_L_182 (e_equal G l N (sv sq (i + 1)) (sv sq (i + 2)) hJ (by omega) hY) kd_163 rfl rfl rfl ⟨by decide, by decide⟩ rfl rfl (Nat.le_of_ble_eq_true rfl) dL_law_1730 rfl hcr ?_
  intro r8 U9 q10
  obtain ⟨hiU9, hfU9, q10, hyU9⟩ := q10
  have ht : Tie U4 U9 := ⟨(Fr.e hfU4 kd_0 7 rfl).trans (hm.1.trans (Fr.e hfU9 kd_163 50 rfl).symm), (Fr.e hfU4 kd_x5 1 rfl).trans (hm.2.1.trans (Fr.e hfU9 kd_163 10 rfl).symm), (Fr.fn hfU4 kd_x4 rfl).trans (hm.2.2.1.trans (Fr.fn hfU9 kd_y6 rfl).symm), (Fr.fn hfU4 kd_x3 rfl).trans (hm.2.2.2.1.trans (Fr.fn hfU9 kd_y5 rfl).symm), (Fr.fn hfU4 kd_x6 rfl).trans (hm.2.2.2.2.1.trans (Fr.fn hfU9 kd_169 rfl).symm), (Fr.e hfU4 kd_x5 2 rfl).trans (hm.2.2.2.2.2.1.trans (Fr.e hfU9 kd_163 16 rfl).symm), (Fr.e hfU4 kd_x5 3 rfl).trans (hm.2.2.2.2.2.2.1.trans (Fr.e hfU9 kd_163 17 rfl).symm), FZ.fr hm.2.2.2.2.2.2.2.1 hfU4 rfl, (zTS.m (zTS.c hm.2.2.2.2.2.2.2.2.1 hI hfU4 rfl) (fun i _ _ _ => congrFun (Fr.fn hfU9 kd_164 rfl) i)), (Fr.fn hfU4 kd_x2 rfl).trans (hm.2.2.2.2.2.2.2.2.2.1.trans (Fr.fn hfU9 kd_y7 rfl).symm), (zTQ.m (zTQ.c hm.2.2.2.2.2.2.2.2.2.2.1 (Fr.e hfU4 kd_0 7 rfl)) hJ (fun i _ _ _ => congrFun (Fr.fn hfU9 kd_164 rfl) i)), (zTW.m (zTW.c hm.2.2.2.2.2.2.2.2.2.2.2.1 hI hm.2.2.2.2.2.2.2.1 hfU4 rfl) hiU4 (FZ.fr hm.2.2.2.2.2.2.2.1 hfU4 rfl) (fun i _ => congrFun (Fr.fn hfU9 kd_164 rfl) i)), (zTL.q hm.2.2.2.2.2.2.2.2.2.2.2.2 hfU4 rfl huU4 (by rw [Fr.fn hfU9 kd_164 rfl]; exact hR) (by rw [Fr.fn hfU9 kd_164 rfl]; exact hT))⟩
  refine kw_pop 1734 F dL_law_1733 rfl rfl ?_
  refine kw_goto 2050 F dL_law_1734 (by decide) ?_
  exact K U4 U9 hiU4 hxU4 hiU9 hyU9 ht
set_option maxHeartbeats 4000000 in
set_option maxRecDepth 100000 in
theorem lc_count {G : KG} {X : KX} {l : Launch} {b L : Nat} {sq : Nat → Int32} {ce sl : Nat} (F : kF false G X l code RL 4 (some .boolean) room_1) (S : LSq X b L sq) (hL : L ≤ 3072) (hcr : ce ≤ 600000 ∧ sl ≤ 7302250) {M N : Mem} (hI : Inv false M) (hX : XX M) (hJ : Inv true N) (hY : YY N) (hm : Tie M N) {i : Int} (hi : 0 ≤ i ∧ i + 6 ≤ L) (K : ∀ M' N' : Mem, Inv false M' → XX M' → Inv true N' → YY N' → Tie M' N' → LJ G X ce sl M' N' 2050 [some (.ref b), some (vR G 0), some (vR G 163), some (vI i)] []) : LJ G X ce sl M N 1737 [some (.ref b), some (vR G 0), some (vR G 163), some (vI i)] [] := by
  refine kw_aload_n 1738 F 1 dL_law_1737 rfl rfl rfl ?_
  refine kw_aload_n 1739 F 0 dL_law_1738 rfl rfl rfl ?_
  refine kw_iload_n 1740 F 3 dL_law_1739 rfl rfl rfl ?_
  refine kw_iconst 1741 F dL_law_1740 rfl ?_
  refine kw_iadd 1742 F (v := i + 1) dL_law_1741 rfl rfl ?_
  refine kw_sld 1743 F S hL (z := i + 1) (by omega) dL_law_1742 rfl ?_
  have hs1 := sv_rng sq (i + 1)
  refine kw_aload_n 1744 F 0 dL_law_1743 rfl rfl rfl ?_
  refine kw_iload_n 1745 F 3 dL_law_1744 rfl rfl rfl ?_
  refine kw_iconst 1746 F dL_law_1745 rfl ?_
  refine kw_iadd 1747 F (v := i + 2) dL_law_1746 rfl rfl ?_
  refine kw_sld 1748 F S hL (z := i + 2) (by omega) dL_law_1747 rfl ?_
  have hs2 := sv_rng sq (i + 2)
  refine kw_VCi 1751 F (As := [vI (sv sq (i + 1)), vI (sv sq (i + 2))]) (st := []) vd_L_183 (c_X11_count G l M 0 (sv sq (i + 1)) (sv sq (i + 2)) hI kd_0 (by omega)) kd_0 rfl rfl rfl ⟨by decide, by decide⟩ rfl rfl (Nat.le_of_ble_eq_true rfl) dL_law_1748 rfl hcr ?_
  intro r3 U4 q5
  obtain ⟨hiU4, hfU4, q5⟩ := q5
  have hxU4 : XX U4 := XX.fr hX hI hfU4 rfl
  refine kw_pop 1752 F dL_law_1751 rfl rfl ?_
  refine kw_aload_n 1753 F 2 dL_law_1752 rfl rfl rfl ?_
  refine kw_aload_n 1754 F 0 dL_law_1753 rfl rfl rfl ?_
  refine kw_iload_n 1755 F 3 dL_law_1754 rfl rfl rfl ?_
  refine kw_iconst 1756 F dL_law_1755 rfl ?_
  refine kw_iadd 1757 F (v := i + 1) dL_law_1756 rfl rfl ?_
  refine kw_sld 1758 F S hL (z := i + 1) (by omega) dL_law_1757 rfl ?_
  refine kw_aload_n 1759 F 0 dL_law_1758 rfl rfl rfl ?_
  refine kw_iload_n 1760 F 3 dL_law_1759 rfl rfl rfl ?_
  refine kw_iconst 1761 F dL_law_1760 rfl ?_
  refine kw_iadd 1762 F (v := i + 2) dL_law_1761 rfl rfl ?_
  refine kw_sld 1763 F S hL (z := i + 2) (by omega) dL_law_1762 rfl ?_
  refine kw_VMi 1766 F (As := [vI (sv sq (i + 1)), vI (sv sq (i + 2))]) (st := []) vd_L_186 (c_X12_count G l N (sv sq (i + 1)) (sv sq (i + 2)) hJ (by omega)) kd_163 rfl rfl rfl ⟨by decide, by decide⟩ rfl rfl (Nat.le_of_ble_eq_true rfl) dL_law_1763 rfl hcr ?_
  intro r8 U9 q10
  obtain ⟨hiU9, hfU9, q10⟩ := q10
  have hyU9 : YY U9 := YY.fr hY hfU9 rfl
  have ht : Tie U4 U9 := (Tie.m (Tie.c hm hI hfU4 rfl) hJ hfU9 rfl hiU4 (fun i => congrFun (Fr.fn hfU9 kd_164 rfl) i))
  refine kw_pop 1767 F dL_law_1766 rfl rfl ?_
  refine kw_goto 2050 F dL_law_1767 (by decide) ?_
  exact K U4 U9 hiU4 hxU4 hiU9 hyU9 ht
