theorem wq_X5_blame {post : Tp → Prop} {s0 : Tp} {x1 : Int32} {x2 : Int32} {N : Int} (h1463 : tk (N) s0) (h1464 : 0 ≤ (x1).toInt ∧ (x1).toInt ≤ 500 ∧ 1 ≤ (x2).toInt ∧ (x2).toInt ≤ 4) (k : ∀ (u : Tp), tk (N) u → (u.1 1).toInt = (s0.1 1).toInt → (u.1 2).toInt = (s0.1 2).toInt → (u.1 3).toInt = (s0.1 3).toInt → (u.1 4).toInt = (s0.1 4).toInt → ¬ (u.1 5).toInt = 0 → post u) : wp_X5_blame post s0 x1 x2 := by
  unfold wp_X5_blame
  have := h1463.1
  have := h1463.2.1
  have := h1463.2.2
  refine ⟨fun c1465 => ?_, fun c1466 => ?_⟩
  · replace c1465 := q_neq c1465
    rw [li_0] at c1465
    have p1467 : (s0.1 1).toInt = (s0.1 1).toInt := by omega
    have p1468 : (s0.1 2).toInt = (s0.1 2).toInt := by omega
    have p1469 : (s0.1 3).toInt = (s0.1 3).toInt := by omega
    have p1470 : (s0.1 4).toInt = (s0.1 4).toInt := by omega
    have p1471 : ¬ (s0.1 5).toInt = 0 := by omega
    exact k _ h1463 p1467 p1468 p1469 p1470 p1471
  · replace c1466 := q_eq c1466
    rw [li_0] at c1466
    have p1472 : (s0.1 0).toInt = N := by omega
    have e1473 := tq_mulc li_8 x1
    try rw [Int.emod_eq_of_lt (show 0 ≤ 8 * (x1).toInt + 2147483648 by omega) (show 8 * (x1).toInt + 2147483648 < 4294967296 by omega)] at e1473
    have e1474 := tq_add (8 * x1) x2
    try rw [Int.emod_eq_of_lt (show 0 ≤ (8 * x1).toInt + (x2).toInt + 2147483648 by omega) (show (8 * x1).toInt + (x2).toInt + 2147483648 < 4294967296 by omega)] at e1474
    have p1475 : 0 ≤ (s0.1 1).toInt ∧ (s0.1 1).toInt ≤ N + 1 ∧ 0 ≤ (s0.1 2).toInt ∧ (s0.1 2).toInt ≤ (s0.1 1).toInt ∧ (((8 * x1) + x2).toInt ≠ 0 ∨ (s0.1 1).toInt ≤ N) ∧ 0 ≤ ((8 * x1) + x2).toInt ∧ ((8 * x1) + x2).toInt ≤ 5000 := by omega
    have p1476 : 0 ≤ N ∧ N ≤ 400 := by omega
    have B1477 : tk (N) ((va_up s0.1 5 ((8 * x1) + x2)), s0.2) := ⟨p1472, p1475, p1476⟩
    have p1478 : (s0.1 1).toInt = (s0.1 1).toInt := by omega
    have p1479 : (s0.1 2).toInt = (s0.1 2).toInt := by omega
    have p1480 : (s0.1 3).toInt = (s0.1 3).toInt := by omega
    have p1481 : (s0.1 4).toInt = (s0.1 4).toInt := by omega
    have p1482 : ¬ ((8 * x1) + x2).toInt = 0 := by omega
    exact k _ B1477 p1478 p1479 p1480 p1481 p1482
theorem wq_X5_takeThisWord {post : Tp → Prop} {s0 : Tp} {x1 : Int32} {N : Int} (h1483 : tj (N) s0) (k : ∀ (u : Tp), tj (N) u → (u.1 5).toInt ≠ 0 ∨ (s0.1 5).toInt = 0 → post u) : wp_X5_takeThisWord post s0 x1 := by
  unfold wp_X5_takeThisWord
  have := h1483.1
  have := h1483.2.1
  have := h1483.2.2
  refine wq_X5_takeWord h1483 (fun r_1 u_2 q1484 q1485 q1486 q1487 => ?_)
  have := q1484.1
  have := q1484.2.1
  refine ⟨fun c1488 => ?_, fun c1489 => ?_⟩
  · replace c1488 := q_eq c1488
    have p1490 : (u_2.1 5).toInt ≠ 0 ∨ (s0.1 5).toInt = 0 := by omega
    exact k _ q1484 p1490
  · replace c1489 := q_neq c1489
    have p1491 : (u_2.1 0).toInt = N := by omega
    have p1492 : 0 ≤ (u_2.1 1).toInt ∧ (u_2.1 1).toInt ≤ N + 1 ∧ 0 ≤ (u_2.1 2).toInt ∧ (u_2.1 2).toInt ≤ (u_2.1 1).toInt ∧ ((u_2.1 5).toInt ≠ 0 ∨ (u_2.1 1).toInt ≤ N) ∧ 0 ≤ (u_2.1 5).toInt ∧ (u_2.1 5).toInt ≤ 5000 := by omega
    have p1493 : 0 ≤ N ∧ N ≤ 400 := by omega
    have B1494 : tk (N) u_2 := ⟨p1491, p1492, p1493⟩
    have p1495 : 0 ≤ (u_2.1 2).toInt ∧ (u_2.1 2).toInt ≤ 500 ∧ 1 ≤ ((1 : Int32)).toInt ∧ ((1 : Int32)).toInt ≤ 4 := by (have := li_1; omega)
    refine wq_X5_blame B1494 p1495 (fun u_5 q1496 q1497 q1498 q1499 q1500 q1501 => ?_)
    have := q1496.1
    have := q1496.2.1
    have p1502 : (u_5.1 0).toInt = N := by omega
    have p1503 : 0 ≤ (u_5.1 1).toInt ∧ (u_5.1 1).toInt ≤ N ∧ 0 ≤ (u_5.1 2).toInt ∧ (u_5.1 2).toInt ≤ (u_5.1 1).toInt ∧ 0 ≤ (u_5.1 5).toInt ∧ (u_5.1 5).toInt ≤ 5000 := by omega
    have p1504 : 0 ≤ N ∧ N ≤ 400 := by omega
    have B1505 : tj (N) u_5 := ⟨p1502, p1503, p1504⟩
    have p1506 : (u_5.1 5).toInt ≠ 0 ∨ (s0.1 5).toInt = 0 := by omega
    exact k _ B1505 p1506
theorem wq_X5_takeNumber_L15 {post : Int32 → Tp → Prop} {e88 : Tp → Int32 → Int32 → Int32 → Prop} {N F Y Z : Int} (ke88 : ∀ (t0 : Tp) (z1 : Int32) (z2 : Int32) (z3 : Int32), tj (N) t0 → (t0.1 5).toInt = F → (z1).toInt = Y → (z2).toInt = Z → e88 t0 z1 z2 z3) : ∀ (n : Nat) (t0 : Tp) (z1 : Int32) (z2 : Int32) (z3 : Int32), tj (N) t0 → (t0.1 5).toInt = F → (z1).toInt = Y → (z2).toInt = Z → N - (t0.1 1).toInt < (n : Int) → wp_X5_takeNumber_L15 post e88 n t0 z1 z2 z3 := by
  intro n
  induction n with
  | zero =>
    intro t0 z1 z2 z3 i1507 i1508 i1509 i1510 i1511
    have := i1507.1
    have := i1507.2.1
    have := i1507.2.2
    exfalso
    omega
  | succ n ih =>
    intro t0 z1 z2 z3 i1507 i1508 i1509 i1510 i1511
    unfold wp_X5_takeNumber_L15
    have := i1507.1
    have := i1507.2.1
    have := i1507.2.2
    refine ⟨fun c1512 => ?_, fun c1513 => ?_⟩
    · replace c1512 := q_le c1512
      have p1514 : (t0.1 5).toInt = F := by omega
      have p1515 : (z1).toInt = Y := by omega
      have p1516 : (z2).toInt = Z := by omega
      exact ke88 _ _ _ _ i1507 p1514 p1515 p1516
    · replace c1513 := q_nle c1513
      have p1517 : (t0.1 0).toInt = N := by omega
      have p1518 : 0 ≤ N ∧ N ≤ 400 := by omega
      have B1519 : tz (N) t0 := ⟨p1517, p1518⟩
      refine wq_X5_byteAt B1519 (fun r_4 => ?_)
      refine ⟨fun c1520 => ?_, fun c1521 => ?_⟩
      · replace c1520 := q_lt c1520
        rw [li_48] at c1520
        have p1522 : (t0.1 5).toInt = F := by omega
        have p1523 : (z1).toInt = Y := by omega
        have p1524 : (z2).toInt = Z := by omega
        exact ke88 _ _ _ _ i1507 p1522 p1523 p1524
      · replace c1521 := q_nlt c1521
        rw [li_48] at c1521
        refine wq_X5_byteAt B1519 (fun r_7 => ?_)
        refine ⟨fun c1525 => ?_, fun c1526 => ?_⟩
        · replace c1525 := q_lt c1525
          rw [li_57] at c1525
          have p1527 : (t0.1 5).toInt = F := by omega
          have p1528 : (z1).toInt = Y := by omega
          have p1529 : (z2).toInt = Z := by omega
          exact ke88 _ _ _ _ i1507 p1527 p1528 p1529
        · replace c1526 := q_nlt c1526
          rw [li_57] at c1526
          refine wq_X5_byteAt B1519 (fun r_10 => ?_)
          have p1530 : (t0.1 0).toInt = N := by omega
          have e1531 := tq_addr li_1 (t0.1 1)
          try rw [Int.emod_eq_of_lt (show 0 ≤ (t0.1 1).toInt + 1 + 2147483648 by omega) (show (t0.1 1).toInt + 1 + 2147483648 < 4294967296 by omega)] at e1531
          have p1532 : 0 ≤ ((t0.1 1) + 1).toInt ∧ ((t0.1 1) + 1).toInt ≤ N ∧ 0 ≤ (t0.1 2).toInt ∧ (t0.1 2).toInt ≤ ((t0.1 1) + 1).toInt ∧ 0 ≤ (t0.1 5).toInt ∧ (t0.1 5).toInt ≤ 5000 := by omega
          have p1533 : 0 ≤ N ∧ N ≤ 400 := by omega
          have B1534 : tj (N) ((va_up t0.1 1 ((t0.1 1) + 1)), t0.2) := ⟨p1530, p1532, p1533⟩
          have p1535 : (t0.1 5).toInt = F := by omega
          have p1536 : (z1).toInt = Y := by omega
          have p1537 : (z2).toInt = Z := by omega
          have p1538 : N - ((t0.1 1) + 1).toInt < ((n : Nat) : Int) := by (omega)
          exact ih _ _ _ _ B1534 p1535 p1536 p1537 p1538
theorem wq_X5_takeNumber {post : Int32 → Tp → Prop} {s0 : Tp} {x1 : Int32} {x2 : Int32} {N : Int} (h1539 : tj (N) s0) (k : ∀ (r : Int32) (u : Tp), tj (N) u → (u.1 5).toInt ≠ 0 ∨ ((s0.1 5).toInt = 0 ∧ (x1).toInt ≤ (r).toInt ∧ (r).toInt ≤ (x2).toInt) → (r).toInt = (x1).toInt ∨ ((x1).toInt ≤ (r).toInt ∧ (r).toInt ≤ (x2).toInt) → post r u) : wp_X5_takeNumber post s0 x1 x2 := by
  unfold wp_X5_takeNumber
  have := h1539.1
  have := h1539.2.1
  have := h1539.2.2
  refine wq_X5_peek h1539 (fun r_1 u_2 q1540 q1541 q1542 q1543 q1544 q1545 q1546 q1547 q1548 q1549 => ?_)
  have := q1540.1
  have := q1540.2.1
  have p1550 : (u_2.1 0).toInt = N := by omega
  have p1551 : 0 ≤ (u_2.1 1).toInt ∧ (u_2.1 1).toInt ≤ N ∧ 0 ≤ (u_2.1 1).toInt ∧ (u_2.1 1).toInt ≤ (u_2.1 1).toInt ∧ 0 ≤ (u_2.1 5).toInt ∧ (u_2.1 5).toInt ≤ 5000 := by omega
  have p1552 : 0 ≤ N ∧ N ≤ 400 := by omega
  have B1553 : tj (N) ((va_up u_2.1 2 (u_2.1 1)), u_2.2) := ⟨p1550, p1551, p1552⟩
  have p1554 : (u_2.1 5).toInt = ((u_2.1 5).toInt) := by omega
  have p1555 : (x1).toInt = ((x1).toInt) := by omega
  have p1556 : (x2).toInt = ((x2).toInt) := by omega
  obtain ⟨f1557, g1558⟩ := fu_e 500
  have p1559 : N - (u_2.1 1).toInt < (f1557 : Int) := by (omega)
  refine ⟨f1557, wq_X5_takeNumber_L15 (fun t0 z1 z2 z3 q1560 q1561 q1562 q1563 => ?_) f1557 _ _ _ _ B1553 p1554 p1555 p1556 p1559⟩
  have := q1560.1
  have := q1560.2.1
  refine ⟨fun c1564 => ?_, fun c1565 => ?_⟩
  · replace c1564 := q_neq c1564
    refine ⟨fun c1566 => ?_, fun c1567 => ?_⟩
    · replace c1566 := q_lt c1566
      have p1568 : (t0.1 0).toInt = N := by omega
      have p1569 : 0 ≤ (t0.1 1).toInt ∧ (t0.1 1).toInt ≤ N + 1 ∧ 0 ≤ (t0.1 2).toInt ∧ (t0.1 2).toInt ≤ (t0.1 1).toInt ∧ ((t0.1 5).toInt ≠ 0 ∨ (t0.1 1).toInt ≤ N) ∧ 0 ≤ (t0.1 5).toInt ∧ (t0.1 5).toInt ≤ 5000 := by omega
      have p1570 : 0 ≤ N ∧ N ≤ 400 := by omega
      have B1571 : tk (N) t0 := ⟨p1568, p1569, p1570⟩
      have p1572 : 0 ≤ (t0.1 2).toInt ∧ (t0.1 2).toInt ≤ 500 ∧ 1 ≤ ((2 : Int32)).toInt ∧ ((2 : Int32)).toInt ≤ 4 := by (have := li_2; omega)
      refine wq_X5_blame B1571 p1572 (fun u_15 q1573 q1574 q1575 q1576 q1577 q1578 => ?_)
      have := q1573.1
      have := q1573.2.1
      have p1579 : (u_15.1 0).toInt = N := by omega
      have p1580 : 0 ≤ (u_15.1 1).toInt ∧ (u_15.1 1).toInt ≤ N ∧ 0 ≤ (u_15.1 2).toInt ∧ (u_15.1 2).toInt ≤ (u_15.1 1).toInt ∧ 0 ≤ (u_15.1 5).toInt ∧ (u_15.1 5).toInt ≤ 5000 := by omega
      have p1581 : 0 ≤ N ∧ N ≤ 400 := by omega
      have B1582 : tj (N) u_15 := ⟨p1579, p1580, p1581⟩
      have p1583 : (u_15.1 5).toInt ≠ 0 ∨ ((s0.1 5).toInt = 0 ∧ (x1).toInt ≤ (z1).toInt ∧ (z1).toInt ≤ (x2).toInt) := by omega
      have p1584 : (z1).toInt = (x1).toInt ∨ ((x1).toInt ≤ (z1).toInt ∧ (z1).toInt ≤ (x2).toInt) := by omega
      exact k _ _ B1582 p1583 p1584
    · replace c1567 := q_nlt c1567
      refine ⟨fun c1585 => ?_, fun c1586 => ?_⟩
      · replace c1585 := q_le c1585
        have p1587 : (t0.1 5).toInt ≠ 0 ∨ ((s0.1 5).toInt = 0 ∧ (x1).toInt ≤ (z3).toInt ∧ (z3).toInt ≤ (x2).toInt) := by omega
        have p1588 : (z3).toInt = (x1).toInt ∨ ((x1).toInt ≤ (z3).toInt ∧ (z3).toInt ≤ (x2).toInt) := by omega
        exact k _ _ q1560 p1587 p1588
      · replace c1586 := q_nle c1586
        have p1589 : (t0.1 0).toInt = N := by omega
        have p1590 : 0 ≤ (t0.1 1).toInt ∧ (t0.1 1).toInt ≤ N + 1 ∧ 0 ≤ (t0.1 2).toInt ∧ (t0.1 2).toInt ≤ (t0.1 1).toInt ∧ ((t0.1 5).toInt ≠ 0 ∨ (t0.1 1).toInt ≤ N) ∧ 0 ≤ (t0.1 5).toInt ∧ (t0.1 5).toInt ≤ 5000 := by omega
        have p1591 : 0 ≤ N ∧ N ≤ 400 := by omega
        have B1592 : tk (N) t0 := ⟨p1589, p1590, p1591⟩
        have p1593 : 0 ≤ (t0.1 2).toInt ∧ (t0.1 2).toInt ≤ 500 ∧ 1 ≤ ((2 : Int32)).toInt ∧ ((2 : Int32)).toInt ≤ 4 := by (have := li_2; omega)
        refine wq_X5_blame B1592 p1593 (fun u_18 q1594 q1595 q1596 q1597 q1598 q1599 => ?_)
        have := q1594.1
        have := q1594.2.1
        have p1600 : (u_18.1 0).toInt = N := by omega
        have p1601 : 0 ≤ (u_18.1 1).toInt ∧ (u_18.1 1).toInt ≤ N ∧ 0 ≤ (u_18.1 2).toInt ∧ (u_18.1 2).toInt ≤ (u_18.1 1).toInt ∧ 0 ≤ (u_18.1 5).toInt ∧ (u_18.1 5).toInt ≤ 5000 := by omega
        have p1602 : 0 ≤ N ∧ N ≤ 400 := by omega
        have B1603 : tj (N) u_18 := ⟨p1600, p1601, p1602⟩
        have p1604 : (u_18.1 5).toInt ≠ 0 ∨ ((s0.1 5).toInt = 0 ∧ (x1).toInt ≤ (z1).toInt ∧ (z1).toInt ≤ (x2).toInt) := by omega
        have p1605 : (z1).toInt = (x1).toInt ∨ ((x1).toInt ≤ (z1).toInt ∧ (z1).toInt ≤ (x2).toInt) := by omega
        exact k _ _ B1603 p1604 p1605
  · replace c1565 := q_eq c1565
    have p1606 : (t0.1 0).toInt = N := by omega
    have p1607 : 0 ≤ (t0.1 1).toInt ∧ (t0.1 1).toInt ≤ N + 1 ∧ 0 ≤ (t0.1 2).toInt ∧ (t0.1 2).toInt ≤ (t0.1 1).toInt ∧ ((t0.1 5).toInt ≠ 0 ∨ (t0.1 1).toInt ≤ N) ∧ 0 ≤ (t0.1 5).toInt ∧ (t0.1 5).toInt ≤ 5000 := by omega
    have p1608 : 0 ≤ N ∧ N ≤ 400 := by omega
    have B1609 : tk (N) t0 := ⟨p1606, p1607, p1608⟩
    have p1610 : 0 ≤ (t0.1 1).toInt ∧ (t0.1 1).toInt ≤ 500 ∧ 1 ≤ ((1 : Int32)).toInt ∧ ((1 : Int32)).toInt ≤ 4 := by (have := li_1; omega)
    refine wq_X5_blame B1609 p1610 (fun u_20 q1611 q1612 q1613 q1614 q1615 q1616 => ?_)
    have := q1611.1
    have := q1611.2.1
    have p1617 : (u_20.1 0).toInt = N := by omega
    have p1618 : 0 ≤ (u_20.1 1).toInt ∧ (u_20.1 1).toInt ≤ N ∧ 0 ≤ (u_20.1 2).toInt ∧ (u_20.1 2).toInt ≤ (u_20.1 1).toInt ∧ 0 ≤ (u_20.1 5).toInt ∧ (u_20.1 5).toInt ≤ 5000 := by omega
    have p1619 : 0 ≤ N ∧ N ≤ 400 := by omega
    have B1620 : tj (N) u_20 := ⟨p1617, p1618, p1619⟩
    have p1621 : (u_20.1 5).toInt ≠ 0 ∨ ((s0.1 5).toInt = 0 ∧ (x1).toInt ≤ (z1).toInt ∧ (z1).toInt ≤ (x2).toInt) := by omega
    have p1622 : (z1).toInt = (x1).toInt ∨ ((x1).toInt ≤ (z1).toInt ∧ (z1).toInt ≤ (x2).toInt) := by omega
    exact k _ _ B1620 p1621 p1622
theorem wq_X5_isSound {post : Int32 → Prop} {s0 : Tp} (k : ∀ (r : Int32), ((r).toInt = 1 ∧ (s0.1 5).toInt = 0) ∨ ((r).toInt = 0 ∧ (s0.1 5).toInt ≠ 0) → post r) : wp_X5_isSound post s0 := by
  unfold wp_X5_isSound
  refine ⟨fun c1623 => ?_, fun c1624 => ?_⟩
  · replace c1623 := q_neq c1623
    rw [li_0] at c1623
    have p1625 : ((0 : Int32).toInt = 1 ∧ (s0.1 5).toInt = 0) ∨ ((0 : Int32).toInt = 0 ∧ (s0.1 5).toInt ≠ 0) := by (have := li_0; omega)
    exact k _ p1625
  · replace c1624 := q_eq c1624
    rw [li_0] at c1624
    have p1626 : ((1 : Int32).toInt = 1 ∧ (s0.1 5).toInt = 0) ∨ ((1 : Int32).toInt = 0 ∧ (s0.1 5).toInt ≠ 0) := by (have := li_1; omega)
    exact k _ p1626
theorem wq_X6_isSign {post : Int32 → Prop} {x0 : Int32} (k : ∀ (r : Int32), (r).toInt = 0 ∨ (r).toInt = 1 → post r) : wp_X6_isSign post x0 := by
  unfold wp_X6_isSign
  refine ⟨fun c1627 => ?_, fun c1628 => ?_⟩
  · replace c1627 := q_lt c1627
    rw [li_32] at c1627
    have p1629 : (0 : Int32).toInt = 0 ∨ (0 : Int32).toInt = 1 := by (have := li_0; omega)
    exact k _ p1629
  · replace c1628 := q_nlt c1628
    rw [li_32] at c1628
    refine ⟨fun c1630 => ?_, fun c1631 => ?_⟩
    · replace c1630 := q_lt c1630
      rw [li_126] at c1630
      have p1632 : (0 : Int32).toInt = 0 ∨ (0 : Int32).toInt = 1 := by (have := li_0; omega)
      exact k _ p1632
    · replace c1631 := q_nlt c1631
      rw [li_126] at c1631
      refine ⟨fun c1633 => ?_, fun c1634 => ?_⟩
      · replace c1633 := q_eq c1633
        rw [li_39] at c1633
        have p1635 : (0 : Int32).toInt = 0 ∨ (0 : Int32).toInt = 1 := by (have := li_0; omega)
        exact k _ p1635
      · replace c1634 := q_neq c1634
        rw [li_39] at c1634
        have p1636 : (1 : Int32).toInt = 0 ∨ (1 : Int32).toInt = 1 := by (have := li_1; omega)
        exact k _ p1636
theorem wq_X5_takeByte {post : Tp → Prop} {s0 : Tp} {x1 : Int32} {N : Int} (h1 : tj N s0) (h2 : ¬ x1.toInt = -1) (k : ∀ u : Tp, tj N u → ((u.1 5).toInt ≠ 0 ∨ (s0.1 5).toInt = 0) → (s0.1 1).toInt ≤ (u.1 1).toInt → (¬ tp_b s0 = 32 → ¬ tp_b s0 = x1 → ¬ (u.1 5).toInt = 0) → post u) : wp_X5_takeByte post s0 x1 := by
  unfold wp_X5_takeByte
  refine wq_X5_peek h1 (fun r u hu a1 a2 a3 a4 a5 a6 a7 a8 a9 => ?_)
  have u0 := hu.1
  have u1 := hu.2.1
  have u2 := hu.2.2
  have e1 : (1 : Int32).toInt = 1 := rfl
  refine ⟨fun c => ?_, fun c => ?_⟩
  · refine wq_X5_blame (N := N) ⟨u0, by omega, u2⟩ (by omega) (fun v hv b1 b2 b3 b4 b5 => ?_)
    have v0 := hv.1
    have v1 := hv.2.1
    exact k v ⟨v0, by omega, u2⟩ (Or.inl b5) (by omega) (fun _ _ => b5)
  · have e2 := tq_add (u.1 1) 1
    have ne : u.1 1 + 1 = u.1 1 + 1 := rfl
    have lt : (u.1 1).toInt < N := by
      rcases a6 with g | g
      · rw [c] at g
        exact absurd g h2
      · exact g
    refine k _ ⟨u0, ?_, u2⟩ ?_ ?_ (fun g1 g2 => ?_)
    · show 0 ≤ (u.1 1 + 1).toInt ∧ (u.1 1 + 1).toInt ≤ N ∧ 0 ≤ (u.1 2).toInt ∧ (u.1 2).toInt ≤ (u.1 1 + 1).toInt ∧ 0 ≤ (u.1 5).toInt ∧ (u.1 5).toInt ≤ 5000
      omega
    · show (u.1 5).toInt ≠ 0 ∨ (s0.1 5).toInt = 0
      omega
    · show (s0.1 1).toInt ≤ (u.1 1 + 1).toInt
      omega
    · exfalso
      have e := a9 g1
      rw [e] at a7
      exact g2 (a7.symm.trans c)
theorem wq_X5_takeQuoted_L14 {post : Tp → Prop} {e106 : Tp → Int32 → Int32 → Prop} {N F : Int} (ke106 : ∀ (t0 : Tp) (z1 : Int32) (z2 : Int32), tj (N) t0 → 0 ≤ (t0.1 3).toInt ∧ (t0.1 3).toInt ≤ (t0.1 1).toInt → (t0.1 5).toInt ≠ 0 ∨ F = 0 → e106 t0 z1 z2) : ∀ (n : Nat) (t0 : Tp) (z1 : Int32) (z2 : Int32), tj (N) t0 → 0 ≤ (t0.1 3).toInt ∧ (t0.1 3).toInt ≤ (t0.1 1).toInt → (t0.1 5).toInt ≠ 0 ∨ F = 0 → N - (t0.1 1).toInt < (n : Int) → wp_X5_takeQuoted_L14 post e106 n t0 z1 z2 := by
  intro n
  induction n with
  | zero =>
    intro t0 z1 z2 i1637 i1638 i1639 i1640
    have := i1637.1
    have := i1637.2.1
    have := i1637.2.2
    exfalso
    omega
  | succ n ih =>
    intro t0 z1 z2 i1637 i1638 i1639 i1640
    unfold wp_X5_takeQuoted_L14
    have := i1637.1
    have := i1637.2.1
    have := i1637.2.2
    refine ⟨fun c1641 => ?_, fun c1642 => ?_⟩
    · replace c1641 := q_le c1641
      have p1643 : 0 ≤ (t0.1 3).toInt ∧ (t0.1 3).toInt ≤ (t0.1 1).toInt := by omega
      have p1644 : (t0.1 5).toInt ≠ 0 ∨ F = 0 := by omega
      exact ke106 _ _ _ i1637 p1643 p1644
    · replace c1642 := q_nle c1642
      refine wq_X5_isSound (fun r_4 q1645 => ?_)
      refine ⟨fun c1646 => ?_, fun c1647 => ?_⟩
      · replace c1646 := q_eq c1646
        rw [li_0] at c1646
        have p1648 : 0 ≤ (t0.1 3).toInt ∧ (t0.1 3).toInt ≤ (t0.1 1).toInt := by omega
        have p1649 : (t0.1 5).toInt ≠ 0 ∨ F = 0 := by omega
        exact ke106 _ _ _ i1637 p1648 p1649
      · replace c1647 := q_neq c1647
        rw [li_0] at c1647
        have p1650 : (t0.1 0).toInt = N := by omega
        have p1651 : 0 ≤ N ∧ N ≤ 400 := by omega
        have B1652 : tz (N) t0 := ⟨p1650, p1651⟩
        refine wq_X5_byteAt B1652 (fun r_7 => ?_)
        refine ⟨fun c1653 => ?_, fun c1654 => ?_⟩
        · replace c1653 := q_eq c1653
          rw [li_39] at c1653
          have p1655 : 0 ≤ (t0.1 3).toInt ∧ (t0.1 3).toInt ≤ (t0.1 1).toInt := by omega
          have p1656 : (t0.1 5).toInt ≠ 0 ∨ F = 0 := by omega
          exact ke106 _ _ _ i1637 p1655 p1656
        · replace c1654 := q_neq c1654
          rw [li_39] at c1654
          refine wq_X5_byteAt B1652 (fun r_10 => ?_)
          refine wq_X6_isSign (fun r_12 q1657 => ?_)
          refine ⟨fun c1658 => ?_, fun c1659 => ?_⟩
          · replace c1658 := q_neq c1658
            rw [li_0] at c1658
            refine ⟨fun c1660 => ?_, fun c1661 => ?_⟩
            · replace c1660 := q_lt c1660
              have e1662 := tq_sub (t0.1 1) (t0.1 3)
              try rw [Int.emod_eq_of_lt (show 0 ≤ (t0.1 1).toInt - (t0.1 3).toInt + 2147483648 by omega) (show (t0.1 1).toInt - (t0.1 3).toInt + 2147483648 < 4294967296 by omega)] at e1662
              have p1663 : (t0.1 0).toInt = N := by omega
              have e1664 := tq_addr li_1 (t0.1 1)
              try rw [Int.emod_eq_of_lt (show 0 ≤ (t0.1 1).toInt + 1 + 2147483648 by omega) (show (t0.1 1).toInt + 1 + 2147483648 < 4294967296 by omega)] at e1664
              have p1665 : 0 ≤ ((t0.1 1) + 1).toInt ∧ ((t0.1 1) + 1).toInt ≤ N ∧ 0 ≤ (t0.1 2).toInt ∧ (t0.1 2).toInt ≤ ((t0.1 1) + 1).toInt ∧ 0 ≤ (t0.1 5).toInt ∧ (t0.1 5).toInt ≤ 5000 := by omega
              have p1666 : 0 ≤ N ∧ N ≤ 400 := by omega
              have B1667 : tj (N) ((va_up t0.1 1 ((t0.1 1) + 1)), t0.2) := ⟨p1663, p1665, p1666⟩
              have p1668 : 0 ≤ (t0.1 3).toInt ∧ (t0.1 3).toInt ≤ ((t0.1 1) + 1).toInt := by omega
              have p1669 : (t0.1 5).toInt ≠ 0 ∨ F = 0 := by omega
              have p1670 : N - ((t0.1 1) + 1).toInt < ((n : Nat) : Int) := by (omega)
              exact ih _ _ _ B1667 p1668 p1669 p1670
            · replace c1661 := q_nlt c1661
              have e1671 := tq_sub (t0.1 1) (t0.1 3)
              try rw [Int.emod_eq_of_lt (show 0 ≤ (t0.1 1).toInt - (t0.1 3).toInt + 2147483648 by omega) (show (t0.1 1).toInt - (t0.1 3).toInt + 2147483648 < 4294967296 by omega)] at e1671
              have p1672 : (t0.1 0).toInt = N := by omega
              have p1673 : 0 ≤ (t0.1 1).toInt ∧ (t0.1 1).toInt ≤ N + 1 ∧ 0 ≤ (t0.1 2).toInt ∧ (t0.1 2).toInt ≤ (t0.1 1).toInt ∧ ((t0.1 5).toInt ≠ 0 ∨ (t0.1 1).toInt ≤ N) ∧ 0 ≤ (t0.1 5).toInt ∧ (t0.1 5).toInt ≤ 5000 := by omega
              have p1674 : 0 ≤ N ∧ N ≤ 400 := by omega
              have B1675 : tk (N) t0 := ⟨p1672, p1673, p1674⟩
              have p1676 : 0 ≤ (t0.1 1).toInt ∧ (t0.1 1).toInt ≤ 500 ∧ 1 ≤ ((2 : Int32)).toInt ∧ ((2 : Int32)).toInt ≤ 4 := by (have := li_2; omega)
              refine wq_X5_blame B1675 p1676 (fun u_17 q1677 q1678 q1679 q1680 q1681 q1682 => ?_)
              have := q1677.1
              have := q1677.2.1
              have p1683 : (u_17.1 0).toInt = N := by omega
              have e1684 := tq_addr li_1 (u_17.1 1)
              try rw [Int.emod_eq_of_lt (show 0 ≤ (u_17.1 1).toInt + 1 + 2147483648 by omega) (show (u_17.1 1).toInt + 1 + 2147483648 < 4294967296 by omega)] at e1684
              have p1685 : 0 ≤ ((u_17.1 1) + 1).toInt ∧ ((u_17.1 1) + 1).toInt ≤ N ∧ 0 ≤ (u_17.1 2).toInt ∧ (u_17.1 2).toInt ≤ ((u_17.1 1) + 1).toInt ∧ 0 ≤ (u_17.1 5).toInt ∧ (u_17.1 5).toInt ≤ 5000 := by omega
              have p1686 : 0 ≤ N ∧ N ≤ 400 := by omega
              have B1687 : tj (N) ((va_up u_17.1 1 ((u_17.1 1) + 1)), u_17.2) := ⟨p1683, p1685, p1686⟩
              have p1688 : 0 ≤ (u_17.1 3).toInt ∧ (u_17.1 3).toInt ≤ ((u_17.1 1) + 1).toInt := by omega
              have p1689 : (u_17.1 5).toInt ≠ 0 ∨ F = 0 := by omega
              have p1690 : N - ((u_17.1 1) + 1).toInt < ((n : Nat) : Int) := by (omega)
              exact ih _ _ _ B1687 p1688 p1689 p1690
          · replace c1659 := q_eq c1659
            rw [li_0] at c1659
            have p1691 : (t0.1 0).toInt = N := by omega
            have p1692 : 0 ≤ (t0.1 1).toInt ∧ (t0.1 1).toInt ≤ N + 1 ∧ 0 ≤ (t0.1 2).toInt ∧ (t0.1 2).toInt ≤ (t0.1 1).toInt ∧ ((t0.1 5).toInt ≠ 0 ∨ (t0.1 1).toInt ≤ N) ∧ 0 ≤ (t0.1 5).toInt ∧ (t0.1 5).toInt ≤ 5000 := by omega
            have p1693 : 0 ≤ N ∧ N ≤ 400 := by omega
            have B1694 : tk (N) t0 := ⟨p1691, p1692, p1693⟩
            have p1695 : 0 ≤ (t0.1 1).toInt ∧ (t0.1 1).toInt ≤ 500 ∧ 1 ≤ ((1 : Int32)).toInt ∧ ((1 : Int32)).toInt ≤ 4 := by (have := li_1; omega)
            refine wq_X5_blame B1694 p1695 (fun u_19 q1696 q1697 q1698 q1699 q1700 q1701 => ?_)
            have := q1696.1
            have := q1696.2.1
            have p1702 : (u_19.1 0).toInt = N := by omega
            have e1703 := tq_addr li_1 (u_19.1 1)
            try rw [Int.emod_eq_of_lt (show 0 ≤ (u_19.1 1).toInt + 1 + 2147483648 by omega) (show (u_19.1 1).toInt + 1 + 2147483648 < 4294967296 by omega)] at e1703
            have p1704 : 0 ≤ ((u_19.1 1) + 1).toInt ∧ ((u_19.1 1) + 1).toInt ≤ N ∧ 0 ≤ (u_19.1 2).toInt ∧ (u_19.1 2).toInt ≤ ((u_19.1 1) + 1).toInt ∧ 0 ≤ (u_19.1 5).toInt ∧ (u_19.1 5).toInt ≤ 5000 := by omega
            have p1705 : 0 ≤ N ∧ N ≤ 400 := by omega
            have B1706 : tj (N) ((va_up u_19.1 1 ((u_19.1 1) + 1)), u_19.2) := ⟨p1702, p1704, p1705⟩
            have p1707 : 0 ≤ (u_19.1 3).toInt ∧ (u_19.1 3).toInt ≤ ((u_19.1 1) + 1).toInt := by omega
            have p1708 : (u_19.1 5).toInt ≠ 0 ∨ F = 0 := by omega
            have p1709 : N - ((u_19.1 1) + 1).toInt < ((n : Nat) : Int) := by (omega)
            exact ih _ _ _ B1706 p1707 p1708 p1709
theorem wq_X5_takeQuoted {post : Tp → Prop} {s0 : Tp} {x1 : Int32} {x2 : Int32} {N : Int} (h1710 : tj (N) s0) (k : ∀ (u : Tp), tk (N) u → (u.1 5).toInt ≠ 0 ∨ (s0.1 5).toInt = 0 → 0 ≤ (u.1 4).toInt ∧ (u.1 4).toInt ≤ 400 → post u) : wp_X5_takeQuoted post s0 x1 x2 := by
  unfold wp_X5_takeQuoted
  have := h1710.1
  have := h1710.2.1
  have := h1710.2.2
  have p1711 : ¬ ((39 : Int32)).toInt = -1 := by (have := li_39; omega)
  refine wq_X5_takeByte h1710 p1711 (fun u_2 q1712 q1713 q1714 q1715 => ?_)
  have := q1712.1
  have := q1712.2.1
  have p1716 : (u_2.1 0).toInt = N := by omega
  have p1717 : 0 ≤ (u_2.1 1).toInt ∧ (u_2.1 1).toInt ≤ N ∧ 0 ≤ (u_2.1 2).toInt ∧ (u_2.1 2).toInt ≤ (u_2.1 1).toInt ∧ 0 ≤ (u_2.1 5).toInt ∧ (u_2.1 5).toInt ≤ 5000 := by omega
  have p1718 : 0 ≤ N ∧ N ≤ 400 := by omega
  have B1719 : tj (N) ((va_up u_2.1 3 (u_2.1 1)), u_2.2) := ⟨p1716, p1717, p1718⟩
  have p1720 : 0 ≤ (u_2.1 1).toInt ∧ (u_2.1 1).toInt ≤ (u_2.1 1).toInt := by omega
  have p1721 : (u_2.1 5).toInt ≠ 0 ∨ ((u_2.1 5).toInt) = 0 := by omega
  obtain ⟨f1722, g1723⟩ := fu_e 500
  have p1724 : N - (u_2.1 1).toInt < (f1722 : Int) := by (omega)
  refine ⟨f1722, wq_X5_takeQuoted_L14 (fun t0 z1 z2 q1725 q1726 q1727 => ?_) f1722 _ _ _ B1719 p1720 p1721 p1724⟩
  have := q1725.1
  have := q1725.2.1
  refine ⟨fun c1728 => ?_, fun c1729 => ?_⟩
  · replace c1728 := q_lt c1728
    refine ⟨fun c1730 => ?_, fun c1731 => ?_⟩
    · replace c1730 := q_le c1730
      have e1732 := tq_sub (t0.1 1) (t0.1 3)
      try rw [Int.emod_eq_of_lt (show 0 ≤ (t0.1 1).toInt - (t0.1 3).toInt + 2147483648 by omega) (show (t0.1 1).toInt - (t0.1 3).toInt + 2147483648 < 4294967296 by omega)] at e1732
      have p1733 : (t0.1 0).toInt = N := by omega
      have e1734 := tq_addr li_1 (t0.1 1)
      try rw [Int.emod_eq_of_lt (show 0 ≤ (t0.1 1).toInt + 1 + 2147483648 by omega) (show (t0.1 1).toInt + 1 + 2147483648 < 4294967296 by omega)] at e1734
      have p1735 : 0 ≤ ((t0.1 1) + 1).toInt ∧ ((t0.1 1) + 1).toInt ≤ N + 1 ∧ 0 ≤ (t0.1 2).toInt ∧ (t0.1 2).toInt ≤ ((t0.1 1) + 1).toInt ∧ ((t0.1 5).toInt ≠ 0 ∨ ((t0.1 1) + 1).toInt ≤ N) ∧ 0 ≤ (t0.1 5).toInt ∧ (t0.1 5).toInt ≤ 5000 := by omega
      have p1736 : 0 ≤ N ∧ N ≤ 400 := by omega
      have B1737 : tk (N) ((va_up (va_up t0.1 1 ((t0.1 1) + 1)) 4 ((t0.1 1) - (t0.1 3))), t0.2) := ⟨p1733, p1735, p1736⟩
      have p1738 : (t0.1 5).toInt ≠ 0 ∨ (s0.1 5).toInt = 0 := by omega
      have p1739 : 0 ≤ ((t0.1 1) - (t0.1 3)).toInt ∧ ((t0.1 1) - (t0.1 3)).toInt ≤ 400 := by omega
      exact k _ B1737 p1738 p1739
    · replace c1731 := q_nle c1731
      have e1740 := tq_sub (t0.1 1) (t0.1 3)
      try rw [Int.emod_eq_of_lt (show 0 ≤ (t0.1 1).toInt - (t0.1 3).toInt + 2147483648 by omega) (show (t0.1 1).toInt - (t0.1 3).toInt + 2147483648 < 4294967296 by omega)] at e1740
      have p1741 : (t0.1 0).toInt = N := by omega
      have p1742 : 0 ≤ (t0.1 1).toInt ∧ (t0.1 1).toInt ≤ N + 1 ∧ 0 ≤ (t0.1 2).toInt ∧ (t0.1 2).toInt ≤ (t0.1 1).toInt ∧ ((t0.1 5).toInt ≠ 0 ∨ (t0.1 1).toInt ≤ N) ∧ 0 ≤ (t0.1 5).toInt ∧ (t0.1 5).toInt ≤ 5000 := by omega
      have p1743 : 0 ≤ N ∧ N ≤ 400 := by omega
      have B1744 : tk (N) ((va_up t0.1 4 ((t0.1 1) - (t0.1 3))), t0.2) := ⟨p1741, p1742, p1743⟩
      have p1745 : 0 ≤ (t0.1 1).toInt ∧ (t0.1 1).toInt ≤ 500 ∧ 1 ≤ ((2 : Int32)).toInt ∧ ((2 : Int32)).toInt ≤ 4 := by (have := li_2; omega)
      refine wq_X5_blame B1744 p1745 (fun u_23 q1746 q1747 q1748 q1749 q1750 q1751 => ?_)
      have := q1746.1
      have := q1746.2.1
      replace q1747 : (u_23.1 1).toInt = (t0.1 1).toInt := q1747
      replace q1748 : (u_23.1 2).toInt = (t0.1 2).toInt := q1748
      replace q1749 : (u_23.1 3).toInt = (t0.1 3).toInt := q1749
      replace q1750 : (u_23.1 4).toInt = ((t0.1 1) - (t0.1 3)).toInt := q1750
      replace q1751 : ¬ (u_23.1 5).toInt = 0 := q1751
      have p1752 : (u_23.1 0).toInt = N := by omega
      have e1753 := tq_addr li_1 (u_23.1 1)
      try rw [Int.emod_eq_of_lt (show 0 ≤ (u_23.1 1).toInt + 1 + 2147483648 by omega) (show (u_23.1 1).toInt + 1 + 2147483648 < 4294967296 by omega)] at e1753
      have p1754 : 0 ≤ ((u_23.1 1) + 1).toInt ∧ ((u_23.1 1) + 1).toInt ≤ N + 1 ∧ 0 ≤ (u_23.1 2).toInt ∧ (u_23.1 2).toInt ≤ ((u_23.1 1) + 1).toInt ∧ ((u_23.1 5).toInt ≠ 0 ∨ ((u_23.1 1) + 1).toInt ≤ N) ∧ 0 ≤ (u_23.1 5).toInt ∧ (u_23.1 5).toInt ≤ 5000 := by omega
      have p1755 : 0 ≤ N ∧ N ≤ 400 := by omega
      have B1756 : tk (N) ((va_up u_23.1 1 ((u_23.1 1) + 1)), u_23.2) := ⟨p1752, p1754, p1755⟩
      have p1757 : (u_23.1 5).toInt ≠ 0 ∨ (s0.1 5).toInt = 0 := by omega
      have p1758 : 0 ≤ (u_23.1 4).toInt ∧ (u_23.1 4).toInt ≤ 400 := by omega
      exact k _ B1756 p1757 p1758
  · replace c1729 := q_nlt c1729
    have p1759 : (t0.1 0).toInt = N := by omega
    have p1760 : 0 ≤ (t0.1 1).toInt ∧ (t0.1 1).toInt ≤ N + 1 ∧ 0 ≤ (t0.1 2).toInt ∧ (t0.1 2).toInt ≤ (t0.1 1).toInt ∧ ((t0.1 5).toInt ≠ 0 ∨ (t0.1 1).toInt ≤ N) ∧ 0 ≤ (t0.1 5).toInt ∧ (t0.1 5).toInt ≤ 5000 := by omega
    have p1761 : 0 ≤ N ∧ N ≤ 400 := by omega
    have B1762 : tk (N) ((va_up t0.1 4 ((t0.1 1) - (t0.1 3))), t0.2) := ⟨p1759, p1760, p1761⟩
    have p1763 : 0 ≤ (t0.1 0).toInt ∧ (t0.1 0).toInt ≤ 500 ∧ 1 ≤ ((1 : Int32)).toInt ∧ ((1 : Int32)).toInt ≤ 4 := by (have := li_1; omega)
    refine wq_X5_blame B1762 p1763 (fun u_25 q1764 q1765 q1766 q1767 q1768 q1769 => ?_)
    have := q1764.1
    have := q1764.2.1
    replace q1765 : (u_25.1 1).toInt = (t0.1 1).toInt := q1765
    replace q1766 : (u_25.1 2).toInt = (t0.1 2).toInt := q1766
    replace q1767 : (u_25.1 3).toInt = (t0.1 3).toInt := q1767
    replace q1768 : (u_25.1 4).toInt = ((t0.1 1) - (t0.1 3)).toInt := q1768
    have e1770 := tq_sub (t0.1 1) (t0.1 3)
    try rw [Int.emod_eq_of_lt (show 0 ≤ (t0.1 1).toInt - (t0.1 3).toInt + 2147483648 by omega) (show (t0.1 1).toInt - (t0.1 3).toInt + 2147483648 < 4294967296 by omega)] at e1770
    replace q1769 : ¬ (u_25.1 5).toInt = 0 := q1769
    have p1771 : (u_25.1 0).toInt = N := by omega
    have e1772 := tq_addr li_1 (u_25.1 1)
    try rw [Int.emod_eq_of_lt (show 0 ≤ (u_25.1 1).toInt + 1 + 2147483648 by omega) (show (u_25.1 1).toInt + 1 + 2147483648 < 4294967296 by omega)] at e1772
    have p1773 : 0 ≤ ((u_25.1 1) + 1).toInt ∧ ((u_25.1 1) + 1).toInt ≤ N + 1 ∧ 0 ≤ (u_25.1 2).toInt ∧ (u_25.1 2).toInt ≤ ((u_25.1 1) + 1).toInt ∧ ((u_25.1 5).toInt ≠ 0 ∨ ((u_25.1 1) + 1).toInt ≤ N) ∧ 0 ≤ (u_25.1 5).toInt ∧ (u_25.1 5).toInt ≤ 5000 := by omega
    have p1774 : 0 ≤ N ∧ N ≤ 400 := by omega
    have B1775 : tk (N) ((va_up u_25.1 1 ((u_25.1 1) + 1)), u_25.2) := ⟨p1771, p1773, p1774⟩
    have p1776 : (u_25.1 5).toInt ≠ 0 ∨ (s0.1 5).toInt = 0 := by omega
    have p1777 : 0 ≤ (u_25.1 4).toInt ∧ (u_25.1 4).toInt ≤ 400 := by omega
    exact k _ B1775 p1776 p1777
theorem hd_b {a b : Int32} (h1 : 1 ≤ a.toInt ∧ a.toInt ≤ 6) (h2 : 1 ≤ b.toInt ∧ b.toInt ≤ (if (40 / a) < (10 : Int32) then (40 / a) else (10 : Int32)).toInt) : 0 ≤ a.toInt * b.toInt ∧ a.toInt * b.toInt ≤ 40 ∧ b.toInt ≤ 10 := by
  have cs : a = 1 ∨ a = 2 ∨ a = 3 ∨ a = 4 ∨ a = 5 ∨ a = 6 := by
    have f : ∀ n : Int32, a.toInt = n.toInt → a = n := fun n e => Int32.toInt_inj.mp e
    have l1 : (1 : Int32).toInt = 1 := rfl
    have l2 : (2 : Int32).toInt = 2 := rfl
    have l3 : (3 : Int32).toInt = 3 := rfl
    have l4 : (4 : Int32).toInt = 4 := rfl
    have l5 : (5 : Int32).toInt = 5 := rfl
    have l6 : (6 : Int32).toInt = 6 := rfl
    by_cases g1 : a.toInt = 1
    · exact Or.inl (f 1 (by omega))
    by_cases g2 : a.toInt = 2
    · exact Or.inr (Or.inl (f 2 (by omega)))
    by_cases g3 : a.toInt = 3
    · exact Or.inr (Or.inr (Or.inl (f 3 (by omega))))
    by_cases g4 : a.toInt = 4
    · exact Or.inr (Or.inr (Or.inr (Or.inl (f 4 (by omega)))))
    by_cases g5 : a.toInt = 5
    · exact Or.inr (Or.inr (Or.inr (Or.inr (Or.inl (f 5 (by omega))))))
    · exact Or.inr (Or.inr (Or.inr (Or.inr (Or.inr (f 6 (by omega))))))
  rcases cs with e | e | e | e | e | e <;> subst e
  · have m : (if (40 / (1 : Int32)) < (10 : Int32) then (40 / (1 : Int32)) else (10 : Int32)).toInt = 10 := by decide
    have l : (1 : Int32).toInt = 1 := rfl
    rw [m] at h2
    rw [l]
    omega
  · have m : (if (40 / (2 : Int32)) < (10 : Int32) then (40 / (2 : Int32)) else (10 : Int32)).toInt = 10 := by decide
    have l : (2 : Int32).toInt = 2 := rfl
    rw [m] at h2
    rw [l]
    omega
  · have m : (if (40 / (3 : Int32)) < (10 : Int32) then (40 / (3 : Int32)) else (10 : Int32)).toInt = 10 := by decide
    have l : (3 : Int32).toInt = 3 := rfl
    rw [m] at h2
    rw [l]
    omega
  · have m : (if (40 / (4 : Int32)) < (10 : Int32) then (40 / (4 : Int32)) else (10 : Int32)).toInt = 10 := by decide
    have l : (4 : Int32).toInt = 4 := rfl
    rw [m] at h2
    rw [l]
    omega
  · have m : (if (40 / (5 : Int32)) < (10 : Int32) then (40 / (5 : Int32)) else (10 : Int32)).toInt = 8 := by decide
    have l : (5 : Int32).toInt = 5 := rfl
    rw [m] at h2
    rw [l]
    omega
  · have m : (if (40 / (6 : Int32)) < (10 : Int32) then (40 / (6 : Int32)) else (10 : Int32)).toInt = 6 := by decide
    have l : (6 : Int32).toInt = 6 := rfl
    rw [m] at h2
    rw [l]
    omega
