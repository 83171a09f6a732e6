def AL : List (Nat → Option Instr) → List MR → Prop
  | [], [] => True
  | f :: a, r :: b => okC (f, r.2.1) ∧ AL a b
  | _, _ => False
theorem AL_at : ∀ {a : List (Nat → Option Instr)} {b : List MR} {k : Nat} {f : Nat → Option Instr}, AL a b → nth a k = some f → ∃ r, nth b k = some r ∧ okC (f, r.2.1)
  | f :: a, r :: b, 0, g, h, e => by cases e; exact ⟨r, rfl, h.1⟩
  | f :: a, r :: b, k + 1, g, h, e => AL_at (a := a) (b := b) (k := k) h.2 e
theorem al_0 : AL cc_0 mr_0 := ⟨ok_0, ok_1, ok_2, ok_3, ok_4, ok_5, ok_6, ok_7, ok_8, ok_9, ok_10, ok_11, trivial⟩
theorem al_1 : AL cc_1 mr_1 := ⟨ok_128, ok_129, ok_130, ok_131, ok_132, ok_133, ok_134, ok_135, ok_136, ok_137, ok_138, trivial⟩
theorem al_2 : AL cc_2 mr_2 := ⟨ok_256, ok_257, ok_258, ok_259, ok_260, ok_261, ok_262, ok_263, ok_264, ok_265, trivial⟩
theorem al_3 : AL cc_3 mr_3 := ⟨ok_384, ok_385, ok_386, ok_387, ok_388, ok_389, trivial⟩
theorem al_4 : AL cc_4 mr_4 := ⟨ok_512, ok_513, ok_514, ok_515, ok_516, ok_517, ok_518, ok_519, ok_520, trivial⟩
theorem al_5 : AL cc_5 mr_5 := ⟨ok_640, ok_641, ok_642, ok_643, ok_644, ok_645, ok_646, trivial⟩
theorem al_6 : AL cc_6 mr_6 := ⟨ok_768, ok_769, ok_770, ok_771, ok_772, ok_773, ok_774, ok_775, ok_776, ok_777, ok_778, ok_779, ok_780, ok_781, ok_782, trivial⟩
theorem al_7 : AL cc_7 mr_7 := ⟨ok_896, ok_897, ok_898, ok_899, ok_900, ok_901, ok_902, ok_903, ok_904, ok_905, ok_906, ok_907, trivial⟩
theorem al_8 : AL cc_8 mr_8 := ⟨ok_1024, ok_1025, ok_1026, ok_1027, ok_1028, ok_1029, ok_1030, ok_1031, ok_1032, ok_1033, ok_1034, ok_1035, ok_1036, ok_1037, ok_1038, trivial⟩
theorem al_9 : AL cc_9 mr_9 := ⟨ok_1152, ok_1153, ok_1154, ok_1155, ok_1156, trivial⟩
theorem al_10 : AL cc_10 mr_10 := ⟨ok_1280, ok_1281, ok_1282, ok_1283, ok_1284, ok_1285, ok_1286, ok_1287, ok_1288, ok_1289, ok_1290, ok_1291, ok_1292, trivial⟩
theorem al_11 : AL cc_11 mr_11 := ⟨ok_1408, ok_1409, ok_1410, ok_1411, ok_1412, ok_1413, ok_1414, ok_1415, ok_1416, ok_1417, ok_1418, ok_1419, ok_1420, ok_1421, ok_1422, ok_1423, ok_1424, ok_1425, ok_1426, ok_1427, ok_1428, ok_1429, ok_1430, ok_1431, ok_1432, ok_1433, ok_1434, ok_1435, ok_1436, ok_1437, ok_1438, ok_1439, ok_1440, ok_1441, ok_1442, ok_1443, ok_1444, ok_1445, ok_1446, ok_1447, ok_1448, ok_1449, ok_1450, ok_1451, ok_1452, ok_1453, ok_1454, ok_1455, ok_1456, ok_1457, ok_1458, ok_1459, ok_1460, ok_1461, ok_1462, ok_1463, ok_1464, ok_1465, ok_1466, ok_1467, ok_1468, ok_1469, ok_1470, ok_1471, ok_1472, ok_1473, ok_1474, ok_1475, ok_1476, ok_1477, ok_1478, ok_1479, ok_1480, ok_1481, ok_1482, ok_1483, ok_1484, ok_1485, ok_1486, ok_1487, ok_1488, ok_1489, ok_1490, ok_1491, trivial⟩
theorem al_12 : AL cc_12 mr_12 := ⟨ok_1536, ok_1537, ok_1538, ok_1539, ok_1540, ok_1541, ok_1542, ok_1543, ok_1544, ok_1545, ok_1546, ok_1547, ok_1548, ok_1549, ok_1550, ok_1551, ok_1552, ok_1553, ok_1554, ok_1555, ok_1556, ok_1557, ok_1558, ok_1559, ok_1560, ok_1561, ok_1562, ok_1563, ok_1564, ok_1565, ok_1566, ok_1567, ok_1568, ok_1569, ok_1570, ok_1571, ok_1572, ok_1573, ok_1574, ok_1575, ok_1576, ok_1577, ok_1578, ok_1579, ok_1580, ok_1581, ok_1582, ok_1583, ok_1584, ok_1585, ok_1586, ok_1587, ok_1588, ok_1589, ok_1590, ok_1591, ok_1592, ok_1593, ok_1594, ok_1595, ok_1596, ok_1597, ok_1598, ok_1599, ok_1600, ok_1601, ok_1602, ok_1603, ok_1604, ok_1605, ok_1606, ok_1607, ok_1608, ok_1609, ok_1610, ok_1611, ok_1612, ok_1613, ok_1614, ok_1615, ok_1616, ok_1617, ok_1618, ok_1619, ok_1620, ok_1621, ok_1622, ok_1623, ok_1624, ok_1625, ok_1626, ok_1627, ok_1628, ok_1629, ok_1630, ok_1631, ok_1632, ok_1633, ok_1634, ok_1635, ok_1636, ok_1637, ok_1638, ok_1639, ok_1640, ok_1641, ok_1642, ok_1643, ok_1644, ok_1645, ok_1646, trivial⟩
theorem al_13 : AL cc_13 mr_13 := ⟨ok_1664, ok_1665, ok_1666, ok_1667, ok_1668, ok_1669, trivial⟩
theorem al_14 : AL cc_14 mr_14 := ⟨ok_1792, trivial⟩
theorem al_15 : AL cc_15 mr_15 := ⟨ok_1920, ok_1921, ok_1922, trivial⟩
theorem ins_ok {y pc : Nat} {i : Instr} (h : ins y pc = some i) : dec (mby y) pc i = true := by
  unfold ins at h
  have hm : mby y = (mi y).2.1 := rfl
  rw [hm]
  unfold mi mrO
  generalize y / 128 = a at h ⊢
  generalize y % 128 = k at h ⊢
  cases hl : nth ccs a with
  | none => rw [hl] at h; cases h
  | some l =>
    rw [hl] at h
    dsimp only at h
    cases hf : nth l k with
    | none => rw [hf] at h; cases h
    | some f =>
      rw [hf] at h
      dsimp only at h
      have hlt : a < 16 := by
        rcases Nat.lt_or_ge a 16 with h1 | h1
        · exact h1
        · obtain ⟨j, rfl⟩ : ∃ j, a = j + 16 := ⟨a - 16, by omega⟩
          cases hl
      have key : ∀ (mr : List MR), nth mrs a = some mr → AL l mr → dec (match (match nth mrs a with
          | some l => nth l k
          | none => none : Option MR) with
          | some r => r
          | none => mr0 : MR).2.1 pc i = true := by
        intro mr e1 e2
        obtain ⟨r, g1, g2⟩ := AL_at e2 hf
        simp only [e1, g1]
        exact g2 pc i h
      rcases (show a = 0 ∨ a = 1 ∨ a = 2 ∨ a = 3 ∨ a = 4 ∨ a = 5 ∨ a = 6 ∨ a = 7 ∨ a = 8 ∨ a = 9 ∨ a = 10 ∨ a = 11 ∨ a = 12 ∨ a = 13 ∨ a = 14 ∨ a = 15 by omega) with e | e | e | e | e | e | e | e | e | e | e | e | e | e | e | e <;> subst e <;> cases hl
      · exact key mr_0 rfl al_0
      · exact key mr_1 rfl al_1
      · exact key mr_2 rfl al_2
      · exact key mr_3 rfl al_3
      · exact key mr_4 rfl al_4
      · exact key mr_5 rfl al_5
      · exact key mr_6 rfl al_6
      · exact key mr_7 rfl al_7
      · exact key mr_8 rfl al_8
      · exact key mr_9 rfl al_9
      · exact key mr_10 rfl al_10
      · exact key mr_11 rfl al_11
      · exact key mr_12 rfl al_12
      · exact key mr_13 rfl al_13
      · exact key mr_14 rfl al_14
      · exact key mr_15 rfl al_15
