theorem wd_X7_total : wd_V yX7_total cX7_total 2 (some .int) 1 := ⟨mw_1462, mw_1463, mw_104, mw_1464, by decide +kernel, by decide +kernel, by decide +kernel⟩
theorem wd_X7_undo : wd_V yX7_undo cX7_undo 2 (some .int) 0 := ⟨mw_1378, mw_1379, mw_104, mw_1380, by decide +kernel, by decide +kernel, by decide +kernel⟩
theorem wd_X7_unlike : wd_V yX7_unlike cX7_unlike 5 (some .int) 2 := ⟨mw_1470, mw_1471, mw_104, mw_1472, by decide +kernel, by decide +kernel, by decide +kernel⟩
theorem wd_X7_usual : wd_V yX7_usual cX7_usual 6 (some .int) 2 := ⟨mw_1701, mw_1702, mw_104, mw_1703, by decide +kernel, by decide +kernel, by decide +kernel⟩
theorem wd_X7_wear : wd_V yX7_wear cX7_wear 3 (some .int) 2 := ⟨mw_1346, mw_1347, mw_104, mw_1348, by decide +kernel, by decide +kernel, by decide +kernel⟩
theorem wd_X7_when : wd_V yX7_when cX7_when 8 (some .int) 1 := ⟨mw_1445, mw_1446, mw_104, mw_1447, by decide +kernel, by decide +kernel, by decide +kernel⟩
theorem wd_X7_which : wd_V yX7_which cX7_which 5 (some .long) 1 := ⟨mw_1427, mw_1428, mw_104, mw_1429, by decide +kernel, by decide +kernel, by decide +kernel⟩
theorem wd_X7_worn : wd_V yX7_worn cX7_worn 2 (some .long) 1 := ⟨mw_1394, mw_1395, mw_104, mw_1396, by decide +kernel, by decide +kernel, by decide +kernel⟩
