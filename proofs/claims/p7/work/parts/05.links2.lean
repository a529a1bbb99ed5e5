set_option maxRecDepth 100000 in
theorem mv_X10_tellVerdict : xcV yX10_tellVerdict RX10 cX10_tellVerdict 4 none 2 := ⟨⟨GT_mem 964 rfl rfl, GT_mem 963 (by decide +kernel) rfl, GT_mem 20 (by decide +kernel) rfl, GT_mem 91 (by decide +kernel) rfl⟩, by decide +kernel⟩
set_option maxRecDepth 100000 in
theorem mv_X10_told : xcV yX10_told RX10 cX10_told 4 (some .int) 2 := ⟨⟨GT_mem 1142 rfl rfl, GT_mem 1140 (by decide +kernel) rfl, GT_mem 1141 (by decide +kernel) rfl, GT_mem 91 (by decide +kernel) rfl⟩, by decide +kernel⟩
set_option maxRecDepth 100000 in
theorem mv_X10_value : xcV yX10_value RX10 cX10_value 4 (some .int) 3 := ⟨⟨GT_mem 1320 rfl rfl, GT_mem 1318 (by decide +kernel) rfl, GT_mem 1319 (by decide +kernel) rfl, GT_mem 91 (by decide +kernel) rfl⟩, by decide +kernel⟩
set_option maxRecDepth 100000 in
theorem mv_X10_verdict : xcV yX10_verdict RX10 cX10_verdict 2 (some .int) 1 := ⟨⟨GT_mem 1197 rfl rfl, GT_mem 1195 (by decide +kernel) rfl, GT_mem 1196 (by decide +kernel) rfl, GT_mem 91 (by decide +kernel) rfl⟩, by decide +kernel⟩
set_option maxRecDepth 100000 in
theorem ms_X10_wordOf : xcS yX10_wordOf cX10_wordOf 1 (some (.object "java/lang/String")) 1 := ⟨⟨GT_mem 520 rfl rfl, GT_mem 519 (by decide +kernel) rfl, GT_mem 91 (by decide +kernel) rfl⟩, by decide +kernel⟩
set_option maxRecDepth 100000 in
theorem mv_X10_wouldCut : xcV yX10_wouldCut RX10 cX10_wouldCut 4 (some .int) 3 := ⟨⟨GT_mem 1250 rfl rfl, GT_mem 1248 (by decide +kernel) rfl, GT_mem 1249 (by decide +kernel) rfl, GT_mem 91 (by decide +kernel) rfl⟩, by decide +kernel⟩
set_option maxRecDepth 100000 in
theorem mv_X10_wouldSet : xcV yX10_wouldSet RX10 cX10_wouldSet 6 (some .int) 4 := ⟨⟨GT_mem 1242 rfl rfl, GT_mem 1240 (by decide +kernel) rfl, GT_mem 1241 (by decide +kernel) rfl, GT_mem 91 (by decide +kernel) rfl⟩, by decide +kernel⟩
set_option maxRecDepth 100000 in
theorem mv_X11_abort : xcV yX11_abort RX11 cX11_abort 2 (some .int) 0 := ⟨⟨GT_mem 1833 rfl rfl, GT_mem 1831 (by decide +kernel) rfl, GT_mem 1832 (by decide +kernel) rfl, GT_mem 105 (by decide +kernel) rfl⟩, by decide +kernel⟩
set_option maxRecDepth 100000 in
theorem mv_X11_all : xcV yX11_all RX11 cX11_all 7 (some .int) 1 := ⟨⟨GT_mem 1891 rfl rfl, GT_mem 1889 (by decide +kernel) rfl, GT_mem 1890 (by decide +kernel) rfl, GT_mem 105 (by decide +kernel) rfl⟩, by decide +kernel⟩
set_option maxRecDepth 100000 in
theorem mv_X11_asked : xcV yX11_asked RX11 cX11_asked 3 (some .int) 2 := ⟨⟨GT_mem 1874 rfl rfl, GT_mem 1872 (by decide +kernel) rfl, GT_mem 1873 (by decide +kernel) rfl, GT_mem 105 (by decide +kernel) rfl⟩, by decide +kernel⟩
set_option maxRecDepth 100000 in
theorem mv_X11_asks : xcV yX11_asks RX11 cX11_asks 2 (some .int) 1 := ⟨⟨GT_mem 1770 rfl rfl, GT_mem 1769 (by decide +kernel) rfl, GT_mem 75 (by decide +kernel) rfl, GT_mem 105 (by decide +kernel) rfl⟩, by decide +kernel⟩
set_option maxRecDepth 100000 in
theorem ms_X11_at : xcS yX11_at cX11_at 2 (some .int) 2 := ⟨⟨GT_mem 1662 rfl rfl, GT_mem 1661 (by decide +kernel) rfl, GT_mem 105 (by decide +kernel) rfl⟩, by decide +kernel⟩
set_option maxRecDepth 100000 in
theorem mv_X11_back : xcV yX11_back RX11 cX11_back 5 (some .int) 1 := ⟨⟨GT_mem 1845 rfl rfl, GT_mem 1843 (by decide +kernel) rfl, GT_mem 1844 (by decide +kernel) rfl, GT_mem 105 (by decide +kernel) rfl⟩, by decide +kernel⟩
set_option maxRecDepth 100000 in
theorem mv_X11_begin : xcV yX11_begin RX11 cX11_begin 2 (some .int) 0 := ⟨⟨GT_mem 1821 rfl rfl, GT_mem 1819 (by decide +kernel) rfl, GT_mem 1820 (by decide +kernel) rfl, GT_mem 105 (by decide +kernel) rfl⟩, by decide +kernel⟩
set_option maxRecDepth 100000 in
theorem mv_X11_commit : xcV yX11_commit RX11 cX11_commit 1 (some .int) 0 := ⟨⟨GT_mem 1829 rfl rfl, GT_mem 1827 (by decide +kernel) rfl, GT_mem 1828 (by decide +kernel) rfl, GT_mem 105 (by decide +kernel) rfl⟩, by decide +kernel⟩
set_option maxRecDepth 100000 in
theorem ms_X11_copy : xcS yX11_copy cX11_copy 5 none 4 := ⟨⟨GT_mem 1758 rfl rfl, GT_mem 1757 (by decide +kernel) rfl, GT_mem 105 (by decide +kernel) rfl⟩, by decide +kernel⟩
set_option maxRecDepth 100000 in
theorem mv_X11_count : xcV yX11_count RX11 cX11_count 2 (some .int) 1 := ⟨⟨GT_mem 1928 rfl rfl, GT_mem 1926 (by decide +kernel) rfl, GT_mem 1927 (by decide +kernel) rfl, GT_mem 105 (by decide +kernel) rfl⟩, by decide +kernel⟩
set_option maxRecDepth 100000 in
theorem mv_X11_cut : xcV yX11_cut RX11 cX11_cut 3 (some .int) 2 := ⟨⟨GT_mem 1801 rfl rfl, GT_mem 1799 (by decide +kernel) rfl, GT_mem 1800 (by decide +kernel) rfl, GT_mem 105 (by decide +kernel) rfl⟩, by decide +kernel⟩
set_option maxRecDepth 100000 in
theorem mv_X11_cutAll : xcV yX11_cutAll RX11 cX11_cutAll 8 none 2 := ⟨⟨GT_mem 1805 rfl rfl, GT_mem 1804 (by decide +kernel) rfl, GT_mem 81 (by decide +kernel) rfl, GT_mem 105 (by decide +kernel) rfl⟩, by decide +kernel⟩
set_option maxRecDepth 100000 in
theorem mv_X11_depth : xcV yX11_depth RX11 cX11_depth 6 (some .int) 2 := ⟨⟨GT_mem 1919 rfl rfl, GT_mem 1917 (by decide +kernel) rfl, GT_mem 1918 (by decide +kernel) rfl, GT_mem 105 (by decide +kernel) rfl⟩, by decide +kernel⟩
set_option maxRecDepth 100000 in
theorem mv_X11_drop : xcV yX11_drop RX11 cX11_drop 2 (some .int) 1 := ⟨⟨GT_mem 1699 rfl rfl, GT_mem 1697 (by decide +kernel) rfl, GT_mem 1698 (by decide +kernel) rfl, GT_mem 105 (by decide +kernel) rfl⟩, by decide +kernel⟩
set_option maxRecDepth 100000 in
theorem mv_X11_end : xcV yX11_end RX11 cX11_end 2 (some .boolean) 1 := ⟨⟨GT_mem 1576 rfl rfl, GT_mem 1574 (by decide +kernel) rfl, GT_mem 1575 (by decide +kernel) rfl, GT_mem 105 (by decide +kernel) rfl⟩, by decide +kernel⟩
set_option maxRecDepth 100000 in
theorem mv_X11_failed : xcV yX11_failed RX11 cX11_failed 3 none 2 := ⟨⟨GT_mem 1683 rfl rfl, GT_mem 1682 (by decide +kernel) rfl, GT_mem 60 (by decide +kernel) rfl, GT_mem 105 (by decide +kernel) rfl⟩, by decide +kernel⟩
set_option maxRecDepth 100000 in
theorem mv_X11_fails : xcV yX11_fails RX11 cX11_fails 8 (some .boolean) 4 := ⟨⟨GT_mem 1655 rfl rfl, GT_mem 1654 (by decide +kernel) rfl, GT_mem 55 (by decide +kernel) rfl, GT_mem 105 (by decide +kernel) rfl⟩, by decide +kernel⟩
set_option maxRecDepth 100000 in
theorem mv_X11_findQueue : xcV yX11_findQueue RX11 cX11_findQueue 1 none 0 := ⟨⟨GT_mem 1715 rfl rfl, GT_mem 1714 (by decide +kernel) rfl, GT_mem 66 (by decide +kernel) rfl, GT_mem 105 (by decide +kernel) rfl⟩, by decide +kernel⟩
set_option maxRecDepth 100000 in
theorem mv_X11_findUnlike : xcV yX11_findUnlike RX11 cX11_findUnlike 7 none 3 := ⟨⟨GT_mem 1726 rfl rfl, GT_mem 1725 (by decide +kernel) rfl, GT_mem 68 (by decide +kernel) rfl, GT_mem 105 (by decide +kernel) rfl⟩, by decide +kernel⟩
set_option maxRecDepth 100000 in
theorem mv_X11_first : xcV yX11_first RX11 cX11_first 4 (some .int) 1 := ⟨⟨GT_mem 1886 rfl rfl, GT_mem 1884 (by decide +kernel) rfl, GT_mem 1885 (by decide +kernel) rfl, GT_mem 105 (by decide +kernel) rfl⟩, by decide +kernel⟩
set_option maxRecDepth 100000 in
theorem mv_X11_firstFailing : xcV yX11_firstFailing RX11 cX11_firstFailing 2 (some .int) 0 := ⟨⟨GT_mem 1774 rfl rfl, GT_mem 1773 (by decide +kernel) rfl, GT_mem 76 (by decide +kernel) rfl, GT_mem 105 (by decide +kernel) rfl⟩, by decide +kernel⟩
set_option maxRecDepth 100000 in
theorem mv_X11_firstSubject : xcV yX11_firstSubject RX11 cX11_firstSubject 2 (some .int) 1 := ⟨⟨GT_mem 1640 rfl rfl, GT_mem 1639 (by decide +kernel) rfl, GT_mem 52 (by decide +kernel) rfl, GT_mem 105 (by decide +kernel) rfl⟩, by decide +kernel⟩
set_option maxRecDepth 100000 in
theorem mv_X11_freeRule : xcV yX11_freeRule RX11 cX11_freeRule 2 (some .int) 0 := ⟨⟨GT_mem 1631 rfl rfl, GT_mem 1630 (by decide +kernel) rfl, GT_mem 50 (by decide +kernel) rfl, GT_mem 105 (by decide +kernel) rfl⟩, by decide +kernel⟩
set_option maxRecDepth 100000 in
theorem mv_X11_fresh : xcV yX11_fresh RX11 cX11_fresh 8 (some .int) 2 := ⟨⟨GT_mem 1878 rfl rfl, GT_mem 1876 (by decide +kernel) rfl, GT_mem 1877 (by decide +kernel) rfl, GT_mem 105 (by decide +kernel) rfl⟩, by decide +kernel⟩
set_option maxRecDepth 100000 in
theorem mv_X11_goes : xcV yX11_goes RX11 cX11_goes 4 none 3 := ⟨⟨GT_mem 1809 rfl rfl, GT_mem 1808 (by decide +kernel) rfl, GT_mem 82 (by decide +kernel) rfl, GT_mem 105 (by decide +kernel) rfl⟩, by decide +kernel⟩
set_option maxRecDepth 100000 in
theorem mv_X11_goesBack : xcV yX11_goesBack RX11 cX11_goesBack 1 (some .int) 0 := ⟨⟨GT_mem 1778 rfl rfl, GT_mem 1777 (by decide +kernel) rfl, GT_mem 77 (by decide +kernel) rfl, GT_mem 105 (by decide +kernel) rfl⟩, by decide +kernel⟩
set_option maxRecDepth 100000 in
theorem mv_X11_group : xcV yX11_group RX11 cX11_group 6 (some .int) 2 := ⟨⟨GT_mem 1870 rfl rfl, GT_mem 1868 (by decide +kernel) rfl, GT_mem 1869 (by decide +kernel) rfl, GT_mem 105 (by decide +kernel) rfl⟩, by decide +kernel⟩
set_option maxRecDepth 100000 in
theorem ms_X11_in : xcS yX11_in cX11_in 6 (some .boolean) 3 := ⟨⟨GT_mem 1568 rfl rfl, GT_mem 1567 (by decide +kernel) rfl, GT_mem 105 (by decide +kernel) rfl⟩, by decide +kernel⟩
set_option maxRecDepth 100000 in
theorem mv_X11_inQueue : xcV yX11_inQueue RX11 cX11_inQueue 4 (some .int) 1 := ⟨⟨GT_mem 1711 rfl rfl, GT_mem 1710 (by decide +kernel) rfl, GT_mem 65 (by decide +kernel) rfl, GT_mem 105 (by decide +kernel) rfl⟩, by decide +kernel⟩
set_option maxRecDepth 100000 in
theorem mi_X11_init : (Cond.code yX11_init cX11_init 2 none ∈ GT ∧ Cond.instanceMethod yX11_init ∈ GT ∧ Cond.initialized RX11 ∈ GT) ∧ yX11_init.cls ≠ "java/lang/invoke/MethodHandle" ∧ yX11_init.cls ≠ "java/lang/invoke/VarHandle" ∧ (parseMethodDescriptor yX11_init.desc).map (fun d => d.parameters.length) = some 0 := ⟨⟨GT_mem 1398 rfl rfl, GT_mem 1397 (by decide +kernel) rfl, GT_mem 105 (by decide +kernel) rfl⟩, by decide +kernel⟩
set_option maxRecDepth 100000 in
theorem ms_X11_isColumn : xcS yX11_isColumn cX11_isColumn 1 (some .boolean) 1 := ⟨⟨GT_mem 1797 rfl rfl, GT_mem 1796 (by decide +kernel) rfl, GT_mem 105 (by decide +kernel) rfl⟩, by decide +kernel⟩
set_option maxRecDepth 100000 in
theorem ms_X11_isDigit : xcS yX11_isDigit cX11_isDigit 1 (some .boolean) 1 := ⟨⟨GT_mem 1624 rfl rfl, GT_mem 1623 (by decide +kernel) rfl, GT_mem 105 (by decide +kernel) rfl⟩, by decide +kernel⟩
set_option maxRecDepth 100000 in
theorem mv_X11_isFor : xcV yX11_isFor RX11 cX11_isFor 3 (some .boolean) 2 := ⟨⟨GT_mem 1813 rfl rfl, GT_mem 1812 (by decide +kernel) rfl, GT_mem 83 (by decide +kernel) rfl, GT_mem 105 (by decide +kernel) rfl⟩, by decide +kernel⟩
set_option maxRecDepth 100000 in
theorem ms_X11_isKey : xcS yX11_isKey cX11_isKey 1 (some .boolean) 1 := ⟨⟨GT_mem 1665 rfl rfl, GT_mem 1664 (by decide +kernel) rfl, GT_mem 105 (by decide +kernel) rfl⟩, by decide +kernel⟩
set_option maxRecDepth 100000 in
theorem ms_X11_isLetter : xcS yX11_isLetter cX11_isLetter 1 (some .boolean) 1 := ⟨⟨GT_mem 1611 rfl rfl, GT_mem 1610 (by decide +kernel) rfl, GT_mem 105 (by decide +kernel) rfl⟩, by decide +kernel⟩
set_option maxRecDepth 100000 in
theorem mv_X11_isMark : xcV yX11_isMark RX11 cX11_isMark 2 (some .boolean) 1 := ⟨⟨GT_mem 1849 rfl rfl, GT_mem 1848 (by decide +kernel) rfl, GT_mem 86 (by decide +kernel) rfl, GT_mem 105 (by decide +kernel) rfl⟩, by decide +kernel⟩
set_option maxRecDepth 100000 in
theorem mv_X11_isRing : xcV yX11_isRing RX11 cX11_isRing 9 (some .boolean) 4 := ⟨⟨GT_mem 1659 rfl rfl, GT_mem 1658 (by decide +kernel) rfl, GT_mem 56 (by decide +kernel) rfl, GT_mem 105 (by decide +kernel) rfl⟩, by decide +kernel⟩
set_option maxRecDepth 100000 in
theorem mv_X11_isRow : xcV yX11_isRow RX11 cX11_isRow 3 (some .boolean) 2 := ⟨⟨GT_mem 1751 rfl rfl, GT_mem 1750 (by decide +kernel) rfl, GT_mem 71 (by decide +kernel) rfl, GT_mem 105 (by decide +kernel) rfl⟩, by decide +kernel⟩
set_option maxRecDepth 100000 in
theorem mv_X11_isRule : xcV yX11_isRule RX11 cX11_isRule 2 (some .boolean) 1 := ⟨⟨GT_mem 1635 rfl rfl, GT_mem 1634 (by decide +kernel) rfl, GT_mem 51 (by decide +kernel) rfl, GT_mem 105 (by decide +kernel) rfl⟩, by decide +kernel⟩
set_option maxRecDepth 100000 in
theorem ms_X11_isTable : xcS yX11_isTable cX11_isTable 1 (some .boolean) 1 := ⟨⟨GT_mem 1737 rfl rfl, GT_mem 1736 (by decide +kernel) rfl, GT_mem 105 (by decide +kernel) rfl⟩, by decide +kernel⟩
set_option maxRecDepth 100000 in
theorem ms_X11_isValue : xcS yX11_isValue cX11_isValue 1 (some .boolean) 1 := ⟨⟨GT_mem 1741 rfl rfl, GT_mem 1740 (by decide +kernel) rfl, GT_mem 105 (by decide +kernel) rfl⟩, by decide +kernel⟩
set_option maxRecDepth 100000 in
theorem mv_X11_isWord : xcV yX11_isWord RX11 cX11_isWord 5 (some .boolean) 1 := ⟨⟨GT_mem 1600 rfl rfl, GT_mem 1599 (by decide +kernel) rfl, GT_mem 45 (by decide +kernel) rfl, GT_mem 105 (by decide +kernel) rfl⟩, by decide +kernel⟩
set_option maxRecDepth 100000 in
theorem mv_X11_kindHere : xcV yX11_kindHere RX11 cX11_kindHere 2 (some .int) 0 := ⟨⟨GT_mem 1592 rfl rfl, GT_mem 1591 (by decide +kernel) rfl, GT_mem 43 (by decide +kernel) rfl, GT_mem 105 (by decide +kernel) rfl⟩, by decide +kernel⟩
set_option maxRecDepth 100000 in
theorem mv_X11_lastSubject : xcV yX11_lastSubject RX11 cX11_lastSubject 2 (some .int) 1 := ⟨⟨GT_mem 1651 rfl rfl, GT_mem 1650 (by decide +kernel) rfl, GT_mem 54 (by decide +kernel) rfl, GT_mem 105 (by decide +kernel) rfl⟩, by decide +kernel⟩
set_option maxRecDepth 100000 in
theorem mv_X11_lateMany : xcV yX11_lateMany RX11 cX11_lateMany 3 (some .int) 0 := ⟨⟨GT_mem 1932 rfl rfl, GT_mem 1931 (by decide +kernel) rfl, GT_mem 89 (by decide +kernel) rfl, GT_mem 105 (by decide +kernel) rfl⟩, by decide +kernel⟩
set_option maxRecDepth 100000 in
theorem mv_X11_later : xcV yX11_later RX11 cX11_later 5 (some .int) 2 := ⟨⟨GT_mem 1707 rfl rfl, GT_mem 1705 (by decide +kernel) rfl, GT_mem 1706 (by decide +kernel) rfl, GT_mem 105 (by decide +kernel) rfl⟩, by decide +kernel⟩
set_option maxRecDepth 100000 in
theorem mv_X11_layOrder : xcV yX11_layOrder RX11 cX11_layOrder 3 none 0 := ⟨⟨GT_mem 1730 rfl rfl, GT_mem 1729 (by decide +kernel) rfl, GT_mem 69 (by decide +kernel) rfl, GT_mem 105 (by decide +kernel) rfl⟩, by decide +kernel⟩
set_option maxRecDepth 100000 in
theorem mv_X11_layStates : xcV yX11_layStates RX11 cX11_layStates 6 none 3 := ⟨⟨GT_mem 1719 rfl rfl, GT_mem 1718 (by decide +kernel) rfl, GT_mem 67 (by decide +kernel) rfl, GT_mem 105 (by decide +kernel) rfl⟩, by decide +kernel⟩
set_option maxRecDepth 100000 in
theorem mv_X11_leans : xcV yX11_leans RX11 cX11_leans 8 (some .int) 3 := ⟨⟨GT_mem 1907 rfl rfl, GT_mem 1905 (by decide +kernel) rfl, GT_mem 1906 (by decide +kernel) rfl, GT_mem 105 (by decide +kernel) rfl⟩, by decide +kernel⟩
set_option maxRecDepth 100000 in
theorem mv_X11_leansOn : xcV yX11_leansOn RX11 cX11_leansOn 7 (some .boolean) 4 := ⟨⟨GT_mem 1911 rfl rfl, GT_mem 1910 (by decide +kernel) rfl, GT_mem 88 (by decide +kernel) rfl, GT_mem 105 (by decide +kernel) rfl⟩, by decide +kernel⟩
set_option maxRecDepth 100000 in
theorem mv_X11_least : xcV yX11_least RX11 cX11_least 7 (some .int) 3 := ⟨⟨GT_mem 1915 rfl rfl, GT_mem 1913 (by decide +kernel) rfl, GT_mem 1914 (by decide +kernel) rfl, GT_mem 105 (by decide +kernel) rfl⟩, by decide +kernel⟩
set_option maxRecDepth 100000 in
theorem mv_X11_letter : xcV yX11_letter RX11 cX11_letter 2 (some .int) 1 := ⟨⟨GT_mem 1565 rfl rfl, GT_mem 1563 (by decide +kernel) rfl, GT_mem 1564 (by decide +kernel) rfl, GT_mem 105 (by decide +kernel) rfl⟩, by decide +kernel⟩
set_option maxRecDepth 100000 in
theorem mv_X11_look : xcV yX11_look RX11 cX11_look 1 (some .int) 0 := ⟨⟨GT_mem 1766 rfl rfl, GT_mem 1765 (by decide +kernel) rfl, GT_mem 74 (by decide +kernel) rfl, GT_mem 105 (by decide +kernel) rfl⟩, by decide +kernel⟩
set_option maxRecDepth 100000 in
theorem mv_X11_many : xcV yX11_many RX11 cX11_many 8 (some .int) 4 := ⟨⟨GT_mem 1674 rfl rfl, GT_mem 1673 (by decide +kernel) rfl, GT_mem 58 (by decide +kernel) rfl, GT_mem 105 (by decide +kernel) rfl⟩, by decide +kernel⟩
set_option maxRecDepth 100000 in
theorem mv_X11_mark : xcV yX11_mark RX11 cX11_mark 1 (some .int) 0 := ⟨⟨GT_mem 1841 rfl rfl, GT_mem 1839 (by decide +kernel) rfl, GT_mem 1840 (by decide +kernel) rfl, GT_mem 105 (by decide +kernel) rfl⟩, by decide +kernel⟩
set_option maxRecDepth 100000 in
theorem mv_X11_moves : xcV yX11_moves RX11 cX11_moves 9 none 3 := ⟨⟨GT_mem 1782 rfl rfl, GT_mem 1781 (by decide +kernel) rfl, GT_mem 78 (by decide +kernel) rfl, GT_mem 105 (by decide +kernel) rfl⟩, by decide +kernel⟩
set_option maxRecDepth 100000 in
theorem mv_X11_next : xcV yX11_next RX11 cX11_next 1 (some .int) 0 := ⟨⟨GT_mem 1604 rfl rfl, GT_mem 1603 (by decide +kernel) rfl, GT_mem 46 (by decide +kernel) rfl, GT_mem 105 (by decide +kernel) rfl⟩, by decide +kernel⟩
set_option maxRecDepth 100000 in
theorem mv_X11_nothing : xcV yX11_nothing RX11 cX11_nothing 1 none 0 := ⟨⟨GT_mem 1584 rfl rfl, GT_mem 1583 (by decide +kernel) rfl, GT_mem 41 (by decide +kernel) rfl, GT_mem 105 (by decide +kernel) rfl⟩, by decide +kernel⟩
set_option maxRecDepth 100000 in
theorem mv_X11_number : xcV yX11_number RX11 cX11_number 8 (some .int) 2 := ⟨⟨GT_mem 1621 rfl rfl, GT_mem 1620 (by decide +kernel) rfl, GT_mem 49 (by decide +kernel) rfl, GT_mem 105 (by decide +kernel) rfl⟩, by decide +kernel⟩
set_option maxRecDepth 100000 in
theorem mv_X11_of : xcV yX11_of RX11 cX11_of 3 (some .int) 2 := ⟨⟨GT_mem 1644 rfl rfl, GT_mem 1643 (by decide +kernel) rfl, GT_mem 53 (by decide +kernel) rfl, GT_mem 105 (by decide +kernel) rfl⟩, by decide +kernel⟩
set_option maxRecDepth 100000 in
theorem ms_X11_ofKeys : xcS yX11_ofKeys cX11_ofKeys 1 (some .boolean) 1 := ⟨⟨GT_mem 1647 rfl rfl, GT_mem 1646 (by decide +kernel) rfl, GT_mem 105 (by decide +kernel) rfl⟩, by decide +kernel⟩
set_option maxRecDepth 100000 in
theorem ms_X11_placeOf : xcS yX11_placeOf cX11_placeOf 2 (some .int) 2 := ⟨⟨GT_mem 1722 rfl rfl, GT_mem 1721 (by decide +kernel) rfl, GT_mem 105 (by decide +kernel) rfl⟩, by decide +kernel⟩
set_option maxRecDepth 100000 in
theorem mv_X11_put : xcV yX11_put RX11 cX11_put 7 (some .int) 5 := ⟨⟨GT_mem 1734 rfl rfl, GT_mem 1732 (by decide +kernel) rfl, GT_mem 1733 (by decide +kernel) rfl, GT_mem 105 (by decide +kernel) rfl⟩, by decide +kernel⟩
set_option maxRecDepth 100000 in
theorem mv_X11_putNumber : xcV yX11_putNumber RX11 cX11_putNumber 3 none 1 := ⟨⟨GT_mem 1695 rfl rfl, GT_mem 1694 (by decide +kernel) rfl, GT_mem 63 (by decide +kernel) rfl, GT_mem 105 (by decide +kernel) rfl⟩, by decide +kernel⟩
set_option maxRecDepth 100000 in
theorem mv_X11_putWord : xcV yX11_putWord RX11 cX11_putWord 3 none 1 := ⟨⟨GT_mem 1687 rfl rfl, GT_mem 1686 (by decide +kernel) rfl, GT_mem 61 (by decide +kernel) rfl, GT_mem 105 (by decide +kernel) rfl⟩, by decide +kernel⟩
set_option maxRecDepth 100000 in
theorem mv_X11_puts : xcV yX11_puts RX11 cX11_puts 2 none 1 := ⟨⟨GT_mem 1691 rfl rfl, GT_mem 1690 (by decide +kernel) rfl, GT_mem 62 (by decide +kernel) rfl, GT_mem 105 (by decide +kernel) rfl⟩, by decide +kernel⟩
set_option maxRecDepth 100000 in
theorem mv_X11_question : xcV yX11_question RX11 cX11_question 4 (some .int) 3 := ⟨⟨GT_mem 1882 rfl rfl, GT_mem 1880 (by decide +kernel) rfl, GT_mem 1881 (by decide +kernel) rfl, GT_mem 105 (by decide +kernel) rfl⟩, by decide +kernel⟩
set_option maxRecDepth 100000 in
theorem mv_X11_queue : xcV yX11_queue RX11 cX11_queue 4 (some .int) 2 := ⟨⟨GT_mem 1866 rfl rfl, GT_mem 1864 (by decide +kernel) rfl, GT_mem 1865 (by decide +kernel) rfl, GT_mem 105 (by decide +kernel) rfl⟩, by decide +kernel⟩
set_option maxRecDepth 100000 in
theorem mv_X11_queueMany : xcV yX11_queueMany RX11 cX11_queueMany 1 (some .int) 0 := ⟨⟨GT_mem 1837 rfl rfl, GT_mem 1836 (by decide +kernel) rfl, GT_mem 85 (by decide +kernel) rfl, GT_mem 105 (by decide +kernel) rfl⟩, by decide +kernel⟩
set_option maxRecDepth 100000 in
theorem mv_X11_read : xcV yX11_read RX11 cX11_read 3 (some .boolean) 0 := ⟨⟨GT_mem 1588 rfl rfl, GT_mem 1587 (by decide +kernel) rfl, GT_mem 42 (by decide +kernel) rfl, GT_mem 105 (by decide +kernel) rfl⟩, by decide +kernel⟩
set_option maxRecDepth 100000 in
theorem mv_X11_refuses : xcV yX11_refuses RX11 cX11_refuses 2 (some .int) 1 := ⟨⟨GT_mem 1747 rfl rfl, GT_mem 1746 (by decide +kernel) rfl, GT_mem 70 (by decide +kernel) rfl, GT_mem 105 (by decide +kernel) rfl⟩, by decide +kernel⟩
set_option maxRecDepth 100000 in
theorem mv_X11_rekey : xcV yX11_rekey RX11 cX11_rekey 7 (some .int) 3 := ⟨⟨GT_mem 1817 rfl rfl, GT_mem 1815 (by decide +kernel) rfl, GT_mem 1816 (by decide +kernel) rfl, GT_mem 105 (by decide +kernel) rfl⟩, by decide +kernel⟩
set_option maxRecDepth 100000 in
theorem mv_X11_rowMany : xcV yX11_rowMany RX11 cX11_rowMany 3 (some .int) 0 := ⟨⟨GT_mem 1825 rfl rfl, GT_mem 1824 (by decide +kernel) rfl, GT_mem 84 (by decide +kernel) rfl, GT_mem 105 (by decide +kernel) rfl⟩, by decide +kernel⟩
set_option maxRecDepth 100000 in
theorem mv_X11_rows : xcV yX11_rows RX11 cX11_rows 6 (some .int) 2 := ⟨⟨GT_mem 1857 rfl rfl, GT_mem 1855 (by decide +kernel) rfl, GT_mem 1856 (by decide +kernel) rfl, GT_mem 105 (by decide +kernel) rfl⟩, by decide +kernel⟩
set_option maxRecDepth 100000 in
theorem mv_X11_rule : xcV yX11_rule RX11 cX11_rule 4 (some .int) 0 := ⟨⟨GT_mem 1580 rfl rfl, GT_mem 1578 (by decide +kernel) rfl, GT_mem 1579 (by decide +kernel) rfl, GT_mem 105 (by decide +kernel) rfl⟩, by decide +kernel⟩
set_option maxRecDepth 100000 in
theorem mv_X11_ruleMany : xcV yX11_ruleMany RX11 cX11_ruleMany 3 (some .int) 0 := ⟨⟨GT_mem 1703 rfl rfl, GT_mem 1702 (by decide +kernel) rfl, GT_mem 64 (by decide +kernel) rfl, GT_mem 105 (by decide +kernel) rfl⟩, by decide +kernel⟩
set_option maxRecDepth 100000 in
theorem mv_X11_set : xcV yX11_set RX11 cX11_set 6 (some .int) 4 := ⟨⟨GT_mem 1790 rfl rfl, GT_mem 1788 (by decide +kernel) rfl, GT_mem 1789 (by decide +kernel) rfl, GT_mem 105 (by decide +kernel) rfl⟩, by decide +kernel⟩
set_option maxRecDepth 100000 in
theorem mv_X11_settles : xcV yX11_settles RX11 cX11_settles 1 (some .int) 0 := ⟨⟨GT_mem 1762 rfl rfl, GT_mem 1761 (by decide +kernel) rfl, GT_mem 73 (by decide +kernel) rfl, GT_mem 105 (by decide +kernel) rfl⟩, by decide +kernel⟩
set_option maxRecDepth 100000 in
theorem mv_X11_sign : xcV yX11_sign RX11 cX11_sign 3 (some .int) 1 := ⟨⟨GT_mem 1572 rfl rfl, GT_mem 1570 (by decide +kernel) rfl, GT_mem 1571 (by decide +kernel) rfl, GT_mem 105 (by decide +kernel) rfl⟩, by decide +kernel⟩
set_option maxRecDepth 100000 in
theorem mv_X11_signAt : xcV yX11_signAt RX11 cX11_signAt 2 (some .int) 1 := ⟨⟨GT_mem 1608 rfl rfl, GT_mem 1607 (by decide +kernel) rfl, GT_mem 47 (by decide +kernel) rfl, GT_mem 105 (by decide +kernel) rfl⟩, by decide +kernel⟩
set_option maxRecDepth 100000 in
theorem mv_X11_since : xcV yX11_since RX11 cX11_since 2 (some .int) 1 := ⟨⟨GT_mem 1923 rfl rfl, GT_mem 1921 (by decide +kernel) rfl, GT_mem 1922 (by decide +kernel) rfl, GT_mem 105 (by decide +kernel) rfl⟩, by decide +kernel⟩
set_option maxRecDepth 100000 in
theorem mv_X11_start : xcV yX11_start RX11 cX11_start 1 none 0 := ⟨⟨GT_mem 1755 rfl rfl, GT_mem 1754 (by decide +kernel) rfl, GT_mem 72 (by decide +kernel) rfl, GT_mem 105 (by decide +kernel) rfl⟩, by decide +kernel⟩
set_option maxRecDepth 100000 in
theorem mv_X11_stateOf : xcV yX11_stateOf RX11 cX11_stateOf 7 (some .int) 4 := ⟨⟨GT_mem 1670 rfl rfl, GT_mem 1669 (by decide +kernel) rfl, GT_mem 57 (by decide +kernel) rfl, GT_mem 105 (by decide +kernel) rfl⟩, by decide +kernel⟩
set_option maxRecDepth 100000 in
theorem mv_X11_sumOf : xcV yX11_sumOf RX11 cX11_sumOf 10 (some .int) 4 := ⟨⟨GT_mem 1679 rfl rfl, GT_mem 1678 (by decide +kernel) rfl, GT_mem 59 (by decide +kernel) rfl, GT_mem 105 (by decide +kernel) rfl⟩, by decide +kernel⟩
set_option maxRecDepth 100000 in
theorem mv_X11_takeAsked : xcV yX11_takeAsked RX11 cX11_takeAsked 2 none 0 := ⟨⟨GT_mem 1786 rfl rfl, GT_mem 1785 (by decide +kernel) rfl, GT_mem 79 (by decide +kernel) rfl, GT_mem 105 (by decide +kernel) rfl⟩, by decide +kernel⟩
set_option maxRecDepth 100000 in
theorem mv_X11_told : xcV yX11_told RX11 cX11_told 3 (some .int) 2 := ⟨⟨GT_mem 1861 rfl rfl, GT_mem 1859 (by decide +kernel) rfl, GT_mem 1860 (by decide +kernel) rfl, GT_mem 105 (by decide +kernel) rfl⟩, by decide +kernel⟩
set_option maxRecDepth 100000 in
theorem mv_X11_value : xcV yX11_value RX11 cX11_value 4 (some .int) 3 := ⟨⟨GT_mem 1853 rfl rfl, GT_mem 1851 (by decide +kernel) rfl, GT_mem 1852 (by decide +kernel) rfl, GT_mem 105 (by decide +kernel) rfl⟩, by decide +kernel⟩
set_option maxRecDepth 100000 in
theorem mv_X11_verdict : xcV yX11_verdict RX11 cX11_verdict 2 (some .int) 1 := ⟨⟨GT_mem 1561 rfl rfl, GT_mem 1559 (by decide +kernel) rfl, GT_mem 1560 (by decide +kernel) rfl, GT_mem 105 (by decide +kernel) rfl⟩, by decide +kernel⟩
set_option maxRecDepth 100000 in
theorem mv_X11_whyNotSet : xcV yX11_whyNotSet RX11 cX11_whyNotSet 5 (some .int) 4 := ⟨⟨GT_mem 1794 rfl rfl, GT_mem 1793 (by decide +kernel) rfl, GT_mem 80 (by decide +kernel) rfl, GT_mem 105 (by decide +kernel) rfl⟩, by decide +kernel⟩
set_option maxRecDepth 100000 in
theorem mv_X11_wordOf : xcV yX11_wordOf RX11 cX11_wordOf 2 (some (.array .char)) 1 := ⟨⟨GT_mem 1596 rfl rfl, GT_mem 1595 (by decide +kernel) rfl, GT_mem 44 (by decide +kernel) rfl, GT_mem 105 (by decide +kernel) rfl⟩, by decide +kernel⟩
set_option maxRecDepth 100000 in
theorem mv_X11_wouldCut : xcV yX11_wouldCut RX11 cX11_wouldCut 8 (some .int) 3 := ⟨⟨GT_mem 1903 rfl rfl, GT_mem 1901 (by decide +kernel) rfl, GT_mem 1902 (by decide +kernel) rfl, GT_mem 105 (by decide +kernel) rfl⟩, by decide +kernel⟩
set_option maxRecDepth 100000 in
theorem mv_X11_wouldSet : xcV yX11_wouldSet RX11 cX11_wouldSet 6 (some .int) 4 := ⟨⟨GT_mem 1895 rfl rfl, GT_mem 1893 (by decide +kernel) rfl, GT_mem 1894 (by decide +kernel) rfl, GT_mem 105 (by decide +kernel) rfl⟩, by decide +kernel⟩
set_option maxRecDepth 100000 in
theorem mv_X11_wouldTell : xcV yX11_wouldTell RX11 cX11_wouldTell 2 (some .int) 0 := ⟨⟨GT_mem 1899 rfl rfl, GT_mem 1898 (by decide +kernel) rfl, GT_mem 87 (by decide +kernel) rfl, GT_mem 105 (by decide +kernel) rfl⟩, by decide +kernel⟩
set_option maxRecDepth 100000 in
theorem mv_X11_wrong : xcV yX11_wrong RX11 cX11_wrong 2 none 1 := ⟨⟨GT_mem 1617 rfl rfl, GT_mem 1616 (by decide +kernel) rfl, GT_mem 48 (by decide +kernel) rfl, GT_mem 105 (by decide +kernel) rfl⟩, by decide +kernel⟩
set_option maxRecDepth 100000 in
theorem mv_X1_addQuestions : xcV yX1_addQuestions RX1 cX1_addQuestions 9 none 4 := ⟨⟨GT_mem 705 rfl rfl, GT_mem 703 (by decide +kernel) rfl, GT_mem 704 (by decide +kernel) rfl, GT_mem 97 (by decide +kernel) rfl⟩, by decide +kernel⟩
set_option maxRecDepth 100000 in
theorem mi_X1_init : (Cond.code yX1_init cX1_init 1 none ∈ GT ∧ Cond.instanceMethod yX1_init ∈ GT ∧ Cond.initialized RX1 ∈ GT) ∧ yX1_init.cls ≠ "java/lang/invoke/MethodHandle" ∧ yX1_init.cls ≠ "java/lang/invoke/VarHandle" ∧ (parseMethodDescriptor yX1_init.desc).map (fun d => d.parameters.length) = some 0 := ⟨⟨GT_mem 232 rfl rfl, GT_mem 231 (by decide +kernel) rfl, GT_mem 97 (by decide +kernel) rfl⟩, by decide +kernel⟩
set_option maxRecDepth 100000 in
theorem mv_X1_insert : xcV yX1_insert RX1 cX1_insert 5 none 1 := ⟨⟨GT_mem 718 rfl rfl, GT_mem 717 (by decide +kernel) rfl, GT_mem 10 (by decide +kernel) rfl, GT_mem 97 (by decide +kernel) rfl⟩, by decide +kernel⟩
set_option maxRecDepth 100000 in
theorem mv_X1_ofAllRows : xcV yX1_ofAllRows RX1 cX1_ofAllRows 6 none 2 := ⟨⟨GT_mem 678 rfl rfl, GT_mem 676 (by decide +kernel) rfl, GT_mem 677 (by decide +kernel) rfl, GT_mem 97 (by decide +kernel) rfl⟩, by decide +kernel⟩
set_option maxRecDepth 100000 in
theorem mv_X1_ofOneRow : xcV yX1_ofOneRow RX1 cX1_ofOneRow 4 none 2 := ⟨⟨GT_mem 1295 rfl rfl, GT_mem 1293 (by decide +kernel) rfl, GT_mem 1294 (by decide +kernel) rfl, GT_mem 97 (by decide +kernel) rfl⟩, by decide +kernel⟩
set_option maxRecDepth 100000 in
theorem mv_X1_offerByRows : xcV yX1_offerByRows RX1 cX1_offerByRows 6 none 3 := ⟨⟨GT_mem 709 rfl rfl, GT_mem 708 (by decide +kernel) rfl, GT_mem 8 (by decide +kernel) rfl, GT_mem 97 (by decide +kernel) rfl⟩, by decide +kernel⟩
set_option maxRecDepth 100000 in
theorem mv_X1_offerKeys : xcV yX1_offerKeys RX1 cX1_offerKeys 3 none 1 := ⟨⟨GT_mem 714 rfl rfl, GT_mem 713 (by decide +kernel) rfl, GT_mem 9 (by decide +kernel) rfl, GT_mem 97 (by decide +kernel) rfl⟩, by decide +kernel⟩
set_option maxRecDepth 100000 in
theorem mv_X1_offerValues : xcV yX1_offerValues RX1 cX1_offerValues 7 none 4 := ⟨⟨GT_mem 722 rfl rfl, GT_mem 721 (by decide +kernel) rfl, GT_mem 11 (by decide +kernel) rfl, GT_mem 97 (by decide +kernel) rfl⟩, by decide +kernel⟩
set_option maxRecDepth 100000 in
theorem ms_X1_valuesDiffer : xcS yX1_valuesDiffer cX1_valuesDiffer 5 (some .boolean) 4 := ⟨⟨GT_mem 688 rfl rfl, GT_mem 687 (by decide +kernel) rfl, GT_mem 97 (by decide +kernel) rfl⟩, by decide +kernel⟩
set_option maxRecDepth 100000 in
theorem mv_X2_cutRow : xcV yX2_cutRow RX2 cX2_cutRow 6 none 4 := ⟨⟨GT_mem 1048 rfl rfl, GT_mem 1046 (by decide +kernel) rfl, GT_mem 1047 (by decide +kernel) rfl, GT_mem 98 (by decide +kernel) rfl⟩, by decide +kernel⟩
set_option maxRecDepth 100000 in
theorem mv_X2_descend : xcV yX2_descend RX2 cX2_descend 4 none 3 := ⟨⟨GT_mem 1052 rfl rfl, GT_mem 1051 (by decide +kernel) rfl, GT_mem 28 (by decide +kernel) rfl, GT_mem 98 (by decide +kernel) rfl⟩, by decide +kernel⟩
set_option maxRecDepth 100000 in
theorem mv_X2_goOn : xcV yX2_goOn RX2 cX2_goOn 6 none 2 := ⟨⟨GT_mem 1060 rfl rfl, GT_mem 1059 (by decide +kernel) rfl, GT_mem 29 (by decide +kernel) rfl, GT_mem 98 (by decide +kernel) rfl⟩, by decide +kernel⟩
set_option maxRecDepth 100000 in
theorem mi_X2_init : (Cond.code yX2_init cX2_init 1 none ∈ GT ∧ Cond.instanceMethod yX2_init ∈ GT ∧ Cond.initialized RX2 ∈ GT) ∧ yX2_init.cls ≠ "java/lang/invoke/MethodHandle" ∧ yX2_init.cls ≠ "java/lang/invoke/VarHandle" ∧ (parseMethodDescriptor yX2_init.desc).map (fun d => d.parameters.length) = some 0 := ⟨⟨GT_mem 251 rfl rfl, GT_mem 250 (by decide +kernel) rfl, GT_mem 98 (by decide +kernel) rfl⟩, by decide +kernel⟩
set_option maxRecDepth 100000 in
theorem mv_X2_moveRow : xcV yX2_moveRow RX2 cX2_moveRow 8 none 5 := ⟨⟨GT_mem 1081 rfl rfl, GT_mem 1079 (by decide +kernel) rfl, GT_mem 1080 (by decide +kernel) rfl, GT_mem 98 (by decide +kernel) rfl⟩, by decide +kernel⟩
set_option maxRecDepth 100000 in
theorem ms_X2_nextWith : xcS yX2_nextWith cX2_nextWith 5 (some .int) 4 := ⟨⟨GT_mem 1073 rfl rfl, GT_mem 1072 (by decide +kernel) rfl, GT_mem 98 (by decide +kernel) rfl⟩, by decide +kernel⟩
set_option maxRecDepth 100000 in
theorem ms_X2_replace : xcS yX2_replace cX2_replace 5 none 4 := ⟨⟨GT_mem 1068 rfl rfl, GT_mem 1067 (by decide +kernel) rfl, GT_mem 98 (by decide +kernel) rfl⟩, by decide +kernel⟩
set_option maxRecDepth 100000 in
theorem mv_X3_clear : xcV yX3_clear RX3 cX3_clear 2 none 0 := ⟨⟨GT_mem 1266 rfl rfl, GT_mem 1265 (by decide +kernel) rfl, GT_mem 36 (by decide +kernel) rfl, GT_mem 99 (by decide +kernel) rfl⟩, by decide +kernel⟩
set_option maxRecDepth 100000 in
theorem mi_X3_init : (Cond.code yX3_init cX3_init 1 none ∈ GT ∧ Cond.instanceMethod yX3_init ∈ GT ∧ Cond.initialized RX3 ∈ GT) ∧ yX3_init.cls ≠ "java/lang/invoke/MethodHandle" ∧ yX3_init.cls ≠ "java/lang/invoke/VarHandle" ∧ (parseMethodDescriptor yX3_init.desc).map (fun d => d.parameters.length) = some 0 := ⟨⟨GT_mem 273 rfl rfl, GT_mem 272 (by decide +kernel) rfl, GT_mem 99 (by decide +kernel) rfl⟩, by decide +kernel⟩
set_option maxRecDepth 100000 in
theorem mv_X3_reach : xcV yX3_reach RX3 cX3_reach 3 none 2 := ⟨⟨GT_mem 1277 rfl rfl, GT_mem 1276 (by decide +kernel) rfl, GT_mem 38 (by decide +kernel) rfl, GT_mem 99 (by decide +kernel) rfl⟩, by decide +kernel⟩
set_option maxRecDepth 100000 in
theorem mv_X3_reachFrom : xcV yX3_reachFrom RX3 cX3_reachFrom 8 none 4 := ⟨⟨GT_mem 1270 rfl rfl, GT_mem 1269 (by decide +kernel) rfl, GT_mem 37 (by decide +kernel) rfl, GT_mem 99 (by decide +kernel) rfl⟩, by decide +kernel⟩
set_option maxRecDepth 100000 in
theorem mv_X3_straight : xcV yX3_straight RX3 cX3_straight 5 (some .int) 4 := ⟨⟨GT_mem 1262 rfl rfl, GT_mem 1260 (by decide +kernel) rfl, GT_mem 1261 (by decide +kernel) rfl, GT_mem 99 (by decide +kernel) rfl⟩, by decide +kernel⟩
set_option maxRecDepth 100000 in
theorem mv_X3_straightOrNot : xcV yX3_straightOrNot RX3 cX3_straightOrNot 6 (some .int) 4 := ⟨⟨GT_mem 1283 rfl rfl, GT_mem 1281 (by decide +kernel) rfl, GT_mem 1282 (by decide +kernel) rfl, GT_mem 99 (by decide +kernel) rfl⟩, by decide +kernel⟩
set_option maxRecDepth 100000 in
theorem mv_X4_add : xcV yX4_add RX4 cX4_add 6 none 5 := ⟨⟨GT_mem 773 rfl rfl, GT_mem 771 (by decide +kernel) rfl, GT_mem 772 (by decide +kernel) rfl, GT_mem 96 (by decide +kernel) rfl⟩, by decide +kernel⟩
set_option maxRecDepth 100000 in
theorem mv_X4_after : xcV yX4_after RX4 cX4_after 2 (some .int) 1 := ⟨⟨GT_mem 1030 rfl rfl, GT_mem 1028 (by decide +kernel) rfl, GT_mem 1029 (by decide +kernel) rfl, GT_mem 96 (by decide +kernel) rfl⟩, by decide +kernel⟩
set_option maxRecDepth 100000 in
theorem mv_X4_before : xcV yX4_before RX4 cX4_before 2 (some .int) 1 := ⟨⟨GT_mem 1026 rfl rfl, GT_mem 1024 (by decide +kernel) rfl, GT_mem 1025 (by decide +kernel) rfl, GT_mem 96 (by decide +kernel) rfl⟩, by decide +kernel⟩
set_option maxRecDepth 100000 in
theorem mv_X4_clear : xcV yX4_clear RX4 cX4_clear 1 none 0 := ⟨⟨GT_mem 674 rfl rfl, GT_mem 672 (by decide +kernel) rfl, GT_mem 673 (by decide +kernel) rfl, GT_mem 96 (by decide +kernel) rfl⟩, by decide +kernel⟩
set_option maxRecDepth 100000 in
theorem mv_X4_failing : xcV yX4_failing RX4 cX4_failing 3 (some .int) 0 := ⟨⟨GT_mem 1189 rfl rfl, GT_mem 1187 (by decide +kernel) rfl, GT_mem 1188 (by decide +kernel) rfl, GT_mem 96 (by decide +kernel) rfl⟩, by decide +kernel⟩
set_option maxRecDepth 100000 in
theorem mv_X4_fails : xcV yX4_fails RX4 cX4_fails 2 (some .boolean) 1 := ⟨⟨GT_mem 781 rfl rfl, GT_mem 779 (by decide +kernel) rfl, GT_mem 780 (by decide +kernel) rfl, GT_mem 96 (by decide +kernel) rfl⟩, by decide +kernel⟩
set_option maxRecDepth 100000 in
theorem mv_X4_firstFailing : xcV yX4_firstFailing RX4 cX4_firstFailing 2 (some .int) 0 := ⟨⟨GT_mem 777 rfl rfl, GT_mem 775 (by decide +kernel) rfl, GT_mem 776 (by decide +kernel) rfl, GT_mem 96 (by decide +kernel) rfl⟩, by decide +kernel⟩
set_option maxRecDepth 100000 in
theorem mv_X4_groupStart : xcV yX4_groupStart RX4 cX4_groupStart 4 (some .int) 1 := ⟨⟨GT_mem 1159 rfl rfl, GT_mem 1157 (by decide +kernel) rfl, GT_mem 1158 (by decide +kernel) rfl, GT_mem 96 (by decide +kernel) rfl⟩, by decide +kernel⟩
set_option maxRecDepth 100000 in
theorem mv_X4_groups : xcV yX4_groups RX4 cX4_groups 3 (some .int) 0 := ⟨⟨GT_mem 1151 rfl rfl, GT_mem 1149 (by decide +kernel) rfl, GT_mem 1150 (by decide +kernel) rfl, GT_mem 96 (by decide +kernel) rfl⟩, by decide +kernel⟩
set_option maxRecDepth 100000 in
theorem mi_X4_init : (Cond.code yX4_init cX4_init 1 none ∈ GT ∧ Cond.instanceMethod yX4_init ∈ GT ∧ Cond.initialized RX4 ∈ GT) ∧ yX4_init.cls ≠ "java/lang/invoke/MethodHandle" ∧ yX4_init.cls ≠ "java/lang/invoke/VarHandle" ∧ (parseMethodDescriptor yX4_init.desc).map (fun d => d.parameters.length) = some 0 := ⟨⟨GT_mem 203 rfl rfl, GT_mem 202 (by decide +kernel) rfl, GT_mem 96 (by decide +kernel) rfl⟩, by decide +kernel⟩
set_option maxRecDepth 100000 in
theorem mv_X4_isInside : xcV yX4_isInside RX4 cX4_isInside 2 (some .boolean) 1 := ⟨⟨GT_mem 785 rfl rfl, GT_mem 784 (by decide +kernel) rfl, GT_mem 14 (by decide +kernel) rfl, GT_mem 96 (by decide +kernel) rfl⟩, by decide +kernel⟩
set_option maxRecDepth 100000 in
theorem mv_X4_isLate : xcV yX4_isLate RX4 cX4_isLate 2 (some .boolean) 1 := ⟨⟨GT_mem 1009 rfl rfl, GT_mem 1007 (by decide +kernel) rfl, GT_mem 1008 (by decide +kernel) rfl, GT_mem 96 (by decide +kernel) rfl⟩, by decide +kernel⟩
set_option maxRecDepth 100000 in
theorem mv_X4_number : xcV yX4_number RX4 cX4_number 2 (some .int) 1 := ⟨⟨GT_mem 950 rfl rfl, GT_mem 948 (by decide +kernel) rfl, GT_mem 949 (by decide +kernel) rfl, GT_mem 96 (by decide +kernel) rfl⟩, by decide +kernel⟩
set_option maxRecDepth 100000 in
theorem mv_X4_ofRule : xcV yX4_ofRule RX4 cX4_ofRule 4 (some .int) 1 := ⟨⟨GT_mem 946 rfl rfl, GT_mem 944 (by decide +kernel) rfl, GT_mem 945 (by decide +kernel) rfl, GT_mem 96 (by decide +kernel) rfl⟩, by decide +kernel⟩
set_option maxRecDepth 100000 in
theorem mv_X4_size : xcV yX4_size RX4 cX4_size 1 (some .int) 0 := ⟨⟨GT_mem 958 rfl rfl, GT_mem 956 (by decide +kernel) rfl, GT_mem 957 (by decide +kernel) rfl, GT_mem 96 (by decide +kernel) rfl⟩, by decide +kernel⟩
set_option maxRecDepth 100000 in
theorem mv_X4_startsGroup : xcV yX4_startsGroup RX4 cX4_startsGroup 2 (some .boolean) 1 := ⟨⟨GT_mem 1155 rfl rfl, GT_mem 1154 (by decide +kernel) rfl, GT_mem 32 (by decide +kernel) rfl, GT_mem 96 (by decide +kernel) rfl⟩, by decide +kernel⟩
set_option maxRecDepth 100000 in
theorem mv_X4_subject : xcV yX4_subject RX4 cX4_subject 2 (some .int) 1 := ⟨⟨GT_mem 790 rfl rfl, GT_mem 788 (by decide +kernel) rfl, GT_mem 789 (by decide +kernel) rfl, GT_mem 96 (by decide +kernel) rfl⟩, by decide +kernel⟩
set_option maxRecDepth 100000 in
theorem mv_X4_take : xcV yX4_take RX4 cX4_take 3 none 2 := ⟨⟨GT_mem 1017 rfl rfl, GT_mem 1015 (by decide +kernel) rfl, GT_mem 1016 (by decide +kernel) rfl, GT_mem 96 (by decide +kernel) rfl⟩, by decide +kernel⟩
set_option maxRecDepth 100000 in
theorem mv_X5_advance : xcV yX5_advance RX5 cX5_advance 1 none 0 := ⟨⟨GT_mem 492 rfl rfl, GT_mem 491 (by decide +kernel) rfl, GT_mem 0 (by decide +kernel) rfl, GT_mem 93 (by decide +kernel) rfl⟩, by decide +kernel⟩
set_option maxRecDepth 100000 in
theorem mv_X5_advanceNumber : xcV yX5_advanceNumber RX5 cX5_advanceNumber 4 none 0 := ⟨⟨GT_mem 508 rfl rfl, GT_mem 507 (by decide +kernel) rfl, GT_mem 2 (by decide +kernel) rfl, GT_mem 93 (by decide +kernel) rfl⟩, by decide +kernel⟩
set_option maxRecDepth 100000 in
theorem mv_X5_advanceWord : xcV yX5_advanceWord RX5 cX5_advanceWord 1 none 0 := ⟨⟨GT_mem 504 rfl rfl, GT_mem 503 (by decide +kernel) rfl, GT_mem 1 (by decide +kernel) rfl, GT_mem 93 (by decide +kernel) rfl⟩, by decide +kernel⟩
set_option maxRecDepth 100000 in
theorem mv_X5_faultPlace : xcV yX5_faultPlace RX5 cX5_faultPlace 1 (some .int) 0 := ⟨⟨GT_mem 662 rfl rfl, GT_mem 660 (by decide +kernel) rfl, GT_mem 661 (by decide +kernel) rfl, GT_mem 93 (by decide +kernel) rfl⟩, by decide +kernel⟩
set_option maxRecDepth 100000 in
theorem mi_X5_init : (Cond.code yX5_init cX5_init 2 none ∈ GT ∧ Cond.instanceMethod yX5_init ∈ GT ∧ Cond.initialized RX5 ∈ GT) ∧ yX5_init.cls ≠ "java/lang/invoke/MethodHandle" ∧ yX5_init.cls ≠ "java/lang/invoke/VarHandle" ∧ (parseMethodDescriptor yX5_init.desc).map (fun d => d.parameters.length) = some 1 := ⟨⟨GT_mem 145 rfl rfl, GT_mem 144 (by decide +kernel) rfl, GT_mem 93 (by decide +kernel) rfl⟩, by decide +kernel⟩
set_option maxRecDepth 100000 in
theorem ms_X5_isDigit : xcS yX5_isDigit cX5_isDigit 1 (some .boolean) 1 := ⟨⟨GT_mem 511 rfl rfl, GT_mem 510 (by decide +kernel) rfl, GT_mem 93 (by decide +kernel) rfl⟩, by decide +kernel⟩
set_option maxRecDepth 100000 in
theorem ms_X5_isLetter : xcS yX5_isLetter cX5_isLetter 1 (some .boolean) 1 := ⟨⟨GT_mem 500 rfl rfl, GT_mem 499 (by decide +kernel) rfl, GT_mem 93 (by decide +kernel) rfl⟩, by decide +kernel⟩
set_option maxRecDepth 100000 in
theorem mv_X5_read : xcV yX5_read RX5 cX5_read 2 (some (.object "LateRules$Rule")) 0 := ⟨⟨GT_mem 488 rfl rfl, GT_mem 486 (by decide +kernel) rfl, GT_mem 487 (by decide +kernel) rfl, GT_mem 93 (by decide +kernel) rfl⟩, by decide +kernel⟩
set_option maxRecDepth 100000 in
theorem mv_X5_takeAction : xcV yX5_takeAction RX5 cX5_takeAction 1 (some .int) 0 := ⟨⟨GT_mem 654 rfl rfl, GT_mem 653 (by decide +kernel) rfl, GT_mem 6 (by decide +kernel) rfl, GT_mem 93 (by decide +kernel) rfl⟩, by decide +kernel⟩
set_option maxRecDepth 100000 in
theorem mv_X5_takeKind : xcV yX5_takeKind RX5 cX5_takeKind 2 (some .int) 0 := ⟨⟨GT_mem 517 rfl rfl, GT_mem 516 (by decide +kernel) rfl, GT_mem 3 (by decide +kernel) rfl, GT_mem 93 (by decide +kernel) rfl⟩, by decide +kernel⟩
set_option maxRecDepth 100000 in
theorem mv_X5_takeNumber : xcV yX5_takeNumber RX5 cX5_takeNumber 4 (some .int) 2 := ⟨⟨GT_mem 650 rfl rfl, GT_mem 649 (by decide +kernel) rfl, GT_mem 5 (by decide +kernel) rfl, GT_mem 93 (by decide +kernel) rfl⟩, by decide +kernel⟩
set_option maxRecDepth 100000 in
theorem mv_X5_takeWord : xcV yX5_takeWord RX5 cX5_takeWord 3 (some .boolean) 1 := ⟨⟨GT_mem 530 rfl rfl, GT_mem 529 (by decide +kernel) rfl, GT_mem 4 (by decide +kernel) rfl, GT_mem 93 (by decide +kernel) rfl⟩, by decide +kernel⟩
set_option maxRecDepth 100000 in
theorem mv_X6_add : xcV yX6_add RX6 cX6_add 3 none 2 := ⟨⟨GT_mem 988 rfl rfl, GT_mem 986 (by decide +kernel) rfl, GT_mem 987 (by decide +kernel) rfl, GT_mem 95 (by decide +kernel) rfl⟩, by decide +kernel⟩
set_option maxRecDepth 100000 in
theorem mv_X6_cell : xcV yX6_cell RX6 cX6_cell 4 (some .int) 3 := ⟨⟨GT_mem 692 rfl rfl, GT_mem 690 (by decide +kernel) rfl, GT_mem 691 (by decide +kernel) rfl, GT_mem 95 (by decide +kernel) rfl⟩, by decide +kernel⟩
set_option maxRecDepth 100000 in
theorem mv_X6_change : xcV yX6_change RX6 cX6_change 5 none 4 := ⟨⟨GT_mem 996 rfl rfl, GT_mem 994 (by decide +kernel) rfl, GT_mem 995 (by decide +kernel) rfl, GT_mem 95 (by decide +kernel) rfl⟩, by decide +kernel⟩
set_option maxRecDepth 100000 in
theorem mv_X6_copy : xcV yX6_copy RX6 cX6_copy 2 none 1 := ⟨⟨GT_mem 983 rfl rfl, GT_mem 981 (by decide +kernel) rfl, GT_mem 982 (by decide +kernel) rfl, GT_mem 95 (by decide +kernel) rfl⟩, by decide +kernel⟩
set_option maxRecDepth 100000 in
theorem mv_X6_fill : xcV yX6_fill RX6 cX6_fill 5 none 3 := ⟨⟨GT_mem 992 rfl rfl, GT_mem 991 (by decide +kernel) rfl, GT_mem 22 (by decide +kernel) rfl, GT_mem 95 (by decide +kernel) rfl⟩, by decide +kernel⟩
set_option maxRecDepth 100000 in
theorem mv_X6_has : xcV yX6_has RX6 cX6_has 3 (some .boolean) 2 := ⟨⟨GT_mem 750 rfl rfl, GT_mem 748 (by decide +kernel) rfl, GT_mem 749 (by decide +kernel) rfl, GT_mem 95 (by decide +kernel) rfl⟩, by decide +kernel⟩
set_option maxRecDepth 100000 in
theorem mv_X6_having : xcV yX6_having RX6 cX6_having 7 (some .int) 3 := ⟨⟨GT_mem 746 rfl rfl, GT_mem 744 (by decide +kernel) rfl, GT_mem 745 (by decide +kernel) rfl, GT_mem 95 (by decide +kernel) rfl⟩, by decide +kernel⟩
set_option maxRecDepth 100000 in
theorem mi_X6_init : (Cond.code yX6_init cX6_init 2 none ∈ GT ∧ Cond.instanceMethod yX6_init ∈ GT ∧ Cond.initialized RX6 ∈ GT) ∧ yX6_init.cls ≠ "java/lang/invoke/MethodHandle" ∧ yX6_init.cls ≠ "java/lang/invoke/VarHandle" ∧ (parseMethodDescriptor yX6_init.desc).map (fun d => d.parameters.length) = some 0 := ⟨⟨GT_mem 188 rfl rfl, GT_mem 187 (by decide +kernel) rfl, GT_mem 95 (by decide +kernel) rfl⟩, by decide +kernel⟩
set_option maxRecDepth 100000 in
theorem mv_X6_keyBits : xcV yX6_keyBits RX6 cX6_keyBits 2 (some .int) 1 := ⟨⟨GT_mem 682 rfl rfl, GT_mem 680 (by decide +kernel) rfl, GT_mem 681 (by decide +kernel) rfl, GT_mem 95 (by decide +kernel) rfl⟩, by decide +kernel⟩
set_option maxRecDepth 100000 in
theorem mv_X6_move : xcV yX6_move RX6 cX6_move 5 none 3 := ⟨⟨GT_mem 1085 rfl rfl, GT_mem 1083 (by decide +kernel) rfl, GT_mem 1084 (by decide +kernel) rfl, GT_mem 95 (by decide +kernel) rfl⟩, by decide +kernel⟩
set_option maxRecDepth 100000 in
theorem mv_X6_newNulls : xcV yX6_newNulls RX6 cX6_newNulls 4 (some .int) 1 := ⟨⟨GT_mem 1254 rfl rfl, GT_mem 1252 (by decide +kernel) rfl, GT_mem 1253 (by decide +kernel) rfl, GT_mem 95 (by decide +kernel) rfl⟩, by decide +kernel⟩
set_option maxRecDepth 100000 in
theorem ms_X6_place : xcS yX6_place cX6_place 2 (some .int) 2 := ⟨⟨GT_mem 701 rfl rfl, GT_mem 700 (by decide +kernel) rfl, GT_mem 95 (by decide +kernel) rfl⟩, by decide +kernel⟩
set_option maxRecDepth 100000 in
theorem mv_X6_remove : xcV yX6_remove RX6 cX6_remove 3 none 2 := ⟨⟨GT_mem 1056 rfl rfl, GT_mem 1054 (by decide +kernel) rfl, GT_mem 1055 (by decide +kernel) rfl, GT_mem 95 (by decide +kernel) rfl⟩, by decide +kernel⟩
set_option maxRecDepth 100000 in
theorem mv_X6_size : xcV yX6_size RX6 cX6_size 2 (some .int) 1 := ⟨⟨GT_mem 1101 rfl rfl, GT_mem 1099 (by decide +kernel) rfl, GT_mem 1100 (by decide +kernel) rfl, GT_mem 95 (by decide +kernel) rfl⟩, by decide +kernel⟩
set_option maxRecDepth 100000 in
theorem mv_X6_sumOf : xcV yX6_sumOf RX6 cX6_sumOf 10 (some .int) 4 := ⟨⟨GT_mem 754 rfl rfl, GT_mem 752 (by decide +kernel) rfl, GT_mem 753 (by decide +kernel) rfl, GT_mem 95 (by decide +kernel) rfl⟩, by decide +kernel⟩
set_option maxRecDepth 100000 in
theorem mv_X6_total : xcV yX6_total RX6 cX6_total 3 (some .int) 0 := ⟨⟨GT_mem 1097 rfl rfl, GT_mem 1095 (by decide +kernel) rfl, GT_mem 1096 (by decide +kernel) rfl, GT_mem 95 (by decide +kernel) rfl⟩, by decide +kernel⟩
set_option maxRecDepth 100000 in
theorem mv_X7_fails : xcV yX7_fails RX7 cX7_fails 4 (some .boolean) 3 := ⟨⟨GT_mem 760 rfl rfl, GT_mem 758 (by decide +kernel) rfl, GT_mem 759 (by decide +kernel) rfl, GT_mem 111 (by decide +kernel) rfl⟩, by decide +kernel⟩
set_option maxRecDepth 100000 in
theorem mv_X7_follows : xcV yX7_follows RX7 cX7_follows 2 (some .boolean) 1 := ⟨⟨GT_mem 1065 rfl rfl, GT_mem 1063 (by decide +kernel) rfl, GT_mem 1064 (by decide +kernel) rfl, GT_mem 111 (by decide +kernel) rfl⟩, by decide +kernel⟩
set_option maxRecDepth 100000 in
theorem mi_X7_init : (Cond.code yX7_init cX7_init 2 none ∈ GT ∧ Cond.instanceMethod yX7_init ∈ GT ∧ Cond.initialized RX7 ∈ GT) ∧ yX7_init.cls ≠ "java/lang/invoke/MethodHandle" ∧ yX7_init.cls ≠ "java/lang/invoke/VarHandle" ∧ (parseMethodDescriptor yX7_init.desc).map (fun d => d.parameters.length) = some 1 := ⟨⟨GT_mem 580 rfl rfl, GT_mem 579 (by decide +kernel) rfl, GT_mem 111 (by decide +kernel) rfl⟩, by decide +kernel⟩
set_option maxRecDepth 100000 in
theorem mv_X7_isAboutKeys : xcV yX7_isAboutKeys RX7 cX7_isAboutKeys 1 (some .boolean) 0 := ⟨⟨GT_mem 730 rfl rfl, GT_mem 728 (by decide +kernel) rfl, GT_mem 729 (by decide +kernel) rfl, GT_mem 111 (by decide +kernel) rfl⟩, by decide +kernel⟩
set_option maxRecDepth 100000 in
theorem mv_X7_isAmong : xcV yX7_isAmong RX7 cX7_isAmong 2 (some .boolean) 1 := ⟨⟨GT_mem 942 rfl rfl, GT_mem 940 (by decide +kernel) rfl, GT_mem 941 (by decide +kernel) rfl, GT_mem 111 (by decide +kernel) rfl⟩, by decide +kernel⟩
set_option maxRecDepth 100000 in
theorem mv_X7_isOnRing : xcV yX7_isOnRing RX7 cX7_isOnRing 5 (some .boolean) 2 := ⟨⟨GT_mem 769 rfl rfl, GT_mem 768 (by decide +kernel) rfl, GT_mem 13 (by decide +kernel) rfl, GT_mem 111 (by decide +kernel) rfl⟩, by decide +kernel⟩
set_option maxRecDepth 100000 in
theorem mv_X7_isOutside : xcV yX7_isOutside RX7 cX7_isOutside 2 (some .boolean) 1 := ⟨⟨GT_mem 764 rfl rfl, GT_mem 763 (by decide +kernel) rfl, GT_mem 12 (by decide +kernel) rfl, GT_mem 111 (by decide +kernel) rfl⟩, by decide +kernel⟩
set_option maxRecDepth 100000 in
theorem mv_X7_isSubject : xcV yX7_isSubject RX7 cX7_isSubject 2 (some .boolean) 1 := ⟨⟨GT_mem 726 rfl rfl, GT_mem 724 (by decide +kernel) rfl, GT_mem 725 (by decide +kernel) rfl, GT_mem 111 (by decide +kernel) rfl⟩, by decide +kernel⟩
set_option maxRecDepth 100000 in
theorem mv_X7_looksAtKeys : xcV yX7_looksAtKeys RX7 cX7_looksAtKeys 1 (some .boolean) 0 := ⟨⟨GT_mem 738 rfl rfl, GT_mem 736 (by decide +kernel) rfl, GT_mem 737 (by decide +kernel) rfl, GT_mem 111 (by decide +kernel) rfl⟩, by decide +kernel⟩
set_option maxRecDepth 100000 in
theorem mv_X7_state : xcV yX7_state RX7 cX7_state 3 (some .int) 2 := ⟨⟨GT_mem 742 rfl rfl, GT_mem 740 (by decide +kernel) rfl, GT_mem 741 (by decide +kernel) rfl, GT_mem 111 (by decide +kernel) rfl⟩, by decide +kernel⟩
set_option maxRecDepth 100000 in
theorem mv_X8_addFour : xcV yX8_addFour RX8 cX8_addFour 3 (some .boolean) 1 := ⟨⟨GT_mem 404 rfl rfl, GT_mem 402 (by decide +kernel) rfl, GT_mem 403 (by decide +kernel) rfl, GT_mem 92 (by decide +kernel) rfl⟩, by decide +kernel⟩
set_option maxRecDepth 100000 in
theorem mi_X8_init : (Cond.code yX8_init cX8_init 1 none ∈ GT ∧ Cond.instanceMethod yX8_init ∈ GT ∧ Cond.initialized RX8 ∈ GT) ∧ yX8_init.cls ≠ "java/lang/invoke/MethodHandle" ∧ yX8_init.cls ≠ "java/lang/invoke/VarHandle" ∧ (parseMethodDescriptor yX8_init.desc).map (fun d => d.parameters.length) = some 0 := ⟨⟨GT_mem 131 rfl rfl, GT_mem 130 (by decide +kernel) rfl, GT_mem 92 (by decide +kernel) rfl⟩, by decide +kernel⟩
set_option maxRecDepth 100000 in
theorem mv_X8_length : xcV yX8_length RX8 cX8_length 1 (some .int) 0 := ⟨⟨GT_mem 408 rfl rfl, GT_mem 406 (by decide +kernel) rfl, GT_mem 407 (by decide +kernel) rfl, GT_mem 92 (by decide +kernel) rfl⟩, by decide +kernel⟩
set_option maxRecDepth 100000 in
theorem mv_X8_shorten : xcV yX8_shorten RX8 cX8_shorten 2 (some .boolean) 1 := ⟨⟨GT_mem 416 rfl rfl, GT_mem 414 (by decide +kernel) rfl, GT_mem 415 (by decide +kernel) rfl, GT_mem 92 (by decide +kernel) rfl⟩, by decide +kernel⟩
set_option maxRecDepth 100000 in
theorem mv_X8_signAt : xcV yX8_signAt RX8 cX8_signAt 2 (some .char) 1 := ⟨⟨GT_mem 497 rfl rfl, GT_mem 495 (by decide +kernel) rfl, GT_mem 496 (by decide +kernel) rfl, GT_mem 92 (by decide +kernel) rfl⟩, by decide +kernel⟩
set_option maxRecDepth 100000 in
theorem mv_X9_clear : xcV yX9_clear RX9 cX9_clear 1 none 0 := ⟨⟨GT_mem 424 rfl rfl, GT_mem 422 (by decide +kernel) rfl, GT_mem 423 (by decide +kernel) rfl, GT_mem 100 (by decide +kernel) rfl⟩, by decide +kernel⟩
set_option maxRecDepth 100000 in
theorem mi_X9_init : (Cond.code yX9_init cX9_init 1 none ∈ GT ∧ Cond.instanceMethod yX9_init ∈ GT ∧ Cond.initialized RX9 ∈ GT) ∧ yX9_init.cls ≠ "java/lang/invoke/MethodHandle" ∧ yX9_init.cls ≠ "java/lang/invoke/VarHandle" ∧ (parseMethodDescriptor yX9_init.desc).map (fun d => d.parameters.length) = some 0 := ⟨⟨GT_mem 292 rfl rfl, GT_mem 291 (by decide +kernel) rfl, GT_mem 100 (by decide +kernel) rfl⟩, by decide +kernel⟩
set_option maxRecDepth 100000 in
theorem mv_X9_isTold : xcV yX9_isTold RX9 cX9_isTold 1 (some .boolean) 0 := ⟨⟨GT_mem 1212 rfl rfl, GT_mem 1210 (by decide +kernel) rfl, GT_mem 1211 (by decide +kernel) rfl, GT_mem 100 (by decide +kernel) rfl⟩, by decide +kernel⟩
set_option maxRecDepth 100000 in
theorem mv_X9_number : xcV yX9_number RX9 cX9_number 1 (some .int) 0 := ⟨⟨GT_mem 1216 rfl rfl, GT_mem 1214 (by decide +kernel) rfl, GT_mem 1215 (by decide +kernel) rfl, GT_mem 100 (by decide +kernel) rfl⟩, by decide +kernel⟩
set_option maxRecDepth 100000 in
theorem mv_X9_signAt : xcV yX9_signAt RX9 cX9_signAt 2 (some .int) 1 := ⟨⟨GT_mem 1228 rfl rfl, GT_mem 1226 (by decide +kernel) rfl, GT_mem 1227 (by decide +kernel) rfl, GT_mem 100 (by decide +kernel) rfl⟩, by decide +kernel⟩
set_option maxRecDepth 100000 in
theorem mv_X9_signs : xcV yX9_signs RX9 cX9_signs 1 (some .int) 0 := ⟨⟨GT_mem 1201 rfl rfl, GT_mem 1199 (by decide +kernel) rfl, GT_mem 1200 (by decide +kernel) rfl, GT_mem 100 (by decide +kernel) rfl⟩, by decide +kernel⟩
set_option maxRecDepth 100000 in
theorem mv_X9_subject : xcV yX9_subject RX9 cX9_subject 1 (some .int) 0 := ⟨⟨GT_mem 1220 rfl rfl, GT_mem 1218 (by decide +kernel) rfl, GT_mem 1219 (by decide +kernel) rfl, GT_mem 100 (by decide +kernel) rfl⟩, by decide +kernel⟩
set_option maxRecDepth 100000 in
theorem mv_X9_tell : xcV yX9_tell RX9 cX9_tell 4 none 3 := ⟨⟨GT_mem 794 rfl rfl, GT_mem 792 (by decide +kernel) rfl, GT_mem 793 (by decide +kernel) rfl, GT_mem 100 (by decide +kernel) rfl⟩, by decide +kernel⟩
theorem ly_X0_0 : u_lay RX0 TX0 0 ∈ GT := GT_mem 177 (by decide +kernel) rfl
theorem ly_X0_1 : u_lay RX0 TX0 1 ∈ GT := GT_mem 179 (by decide +kernel) rfl
theorem ly_X0_2 : u_lay RX0 TX0 2 ∈ GT := GT_mem 181 (by decide +kernel) rfl
theorem inX0 : ∀ w ∈ u_ws RX0 TX0 3, w ∈ GT := (show ∀ w ∈ [u_lay RX0 TX0 0, u_lay RX0 TX0 1, u_lay RX0 TX0 2], w ∈ GT from List.forall_mem_cons.mpr ⟨ly_X0_0, List.forall_mem_cons.mpr ⟨ly_X0_1, List.forall_mem_cons.mpr ⟨ly_X0_2, fun _ h => absurd h List.not_mem_nil⟩⟩⟩)
theorem ly_X1_0 : u_lay RX1 TX1 0 ∈ GT := GT_mem 238 (by decide +kernel) rfl
theorem ly_X1_1 : u_lay RX1 TX1 1 ∈ GT := GT_mem 240 (by decide +kernel) rfl
theorem ly_X1_2 : u_lay RX1 TX1 2 ∈ GT := GT_mem 242 (by decide +kernel) rfl
theorem ly_X1_3 : u_lay RX1 TX1 3 ∈ GT := GT_mem 244 (by decide +kernel) rfl
theorem inX1 : ∀ w ∈ u_ws RX1 TX1 4, w ∈ GT := (show ∀ w ∈ [u_lay RX1 TX1 0, u_lay RX1 TX1 1, u_lay RX1 TX1 2, u_lay RX1 TX1 3], w ∈ GT from List.forall_mem_cons.mpr ⟨ly_X1_0, List.forall_mem_cons.mpr ⟨ly_X1_1, List.forall_mem_cons.mpr ⟨ly_X1_2, List.forall_mem_cons.mpr ⟨ly_X1_3, fun _ h => absurd h List.not_mem_nil⟩⟩⟩⟩)
theorem ly_X2_0 : u_lay RX2 TX2 0 ∈ GT := GT_mem 258 (by decide +kernel) rfl
theorem ly_X2_1 : u_lay RX2 TX2 1 ∈ GT := GT_mem 260 (by decide +kernel) rfl
theorem ly_X2_2 : u_lay RX2 TX2 2 ∈ GT := GT_mem 262 (by decide +kernel) rfl
theorem ly_X2_3 : u_lay RX2 TX2 3 ∈ GT := GT_mem 264 (by decide +kernel) rfl
theorem ly_X2_4 : u_lay RX2 TX2 4 ∈ GT := GT_mem 266 (by decide +kernel) rfl
theorem inX2 : ∀ w ∈ u_ws RX2 TX2 5, w ∈ GT := (show ∀ w ∈ [u_lay RX2 TX2 0, u_lay RX2 TX2 1, u_lay RX2 TX2 2, u_lay RX2 TX2 3, u_lay RX2 TX2 4], w ∈ GT from List.forall_mem_cons.mpr ⟨ly_X2_0, List.forall_mem_cons.mpr ⟨ly_X2_1, List.forall_mem_cons.mpr ⟨ly_X2_2, List.forall_mem_cons.mpr ⟨ly_X2_3, List.forall_mem_cons.mpr ⟨ly_X2_4, fun _ h => absurd h List.not_mem_nil⟩⟩⟩⟩⟩)
theorem ly_X3_0 : u_lay RX3 TX3 0 ∈ GT := GT_mem 279 (by decide +kernel) rfl
theorem ly_X3_1 : u_lay RX3 TX3 1 ∈ GT := GT_mem 281 (by decide +kernel) rfl
theorem ly_X3_2 : u_lay RX3 TX3 2 ∈ GT := GT_mem 283 (by decide +kernel) rfl
theorem ly_X3_3 : u_lay RX3 TX3 3 ∈ GT := GT_mem 285 (by decide +kernel) rfl
theorem inX3 : ∀ w ∈ u_ws RX3 TX3 4, w ∈ GT := (show ∀ w ∈ [u_lay RX3 TX3 0, u_lay RX3 TX3 1, u_lay RX3 TX3 2, u_lay RX3 TX3 3], w ∈ GT from List.forall_mem_cons.mpr ⟨ly_X3_0, List.forall_mem_cons.mpr ⟨ly_X3_1, List.forall_mem_cons.mpr ⟨ly_X3_2, List.forall_mem_cons.mpr ⟨ly_X3_3, fun _ h => absurd h List.not_mem_nil⟩⟩⟩⟩)
theorem ly_X4_0 : u_lay RX4 TX4 0 ∈ GT := GT_mem 212 (by decide +kernel) rfl
theorem ly_X4_1 : u_lay RX4 TX4 1 ∈ GT := GT_mem 214 (by decide +kernel) rfl
theorem ly_X4_2 : u_lay RX4 TX4 2 ∈ GT := GT_mem 216 (by decide +kernel) rfl
theorem ly_X4_3 : u_lay RX4 TX4 3 ∈ GT := GT_mem 218 (by decide +kernel) rfl
theorem ly_X4_4 : u_lay RX4 TX4 4 ∈ GT := GT_mem 220 (by decide +kernel) rfl
theorem ly_X4_5 : u_lay RX4 TX4 5 ∈ GT := GT_mem 222 (by decide +kernel) rfl
theorem ly_X4_6 : u_lay RX4 TX4 6 ∈ GT := GT_mem 224 (by decide +kernel) rfl
theorem inX4 : ∀ w ∈ u_ws RX4 TX4 7, w ∈ GT := (show ∀ w ∈ [u_lay RX4 TX4 0, u_lay RX4 TX4 1, u_lay RX4 TX4 2, u_lay RX4 TX4 3, u_lay RX4 TX4 4, u_lay RX4 TX4 5, u_lay RX4 TX4 6], w ∈ GT from List.forall_mem_cons.mpr ⟨ly_X4_0, List.forall_mem_cons.mpr ⟨ly_X4_1, List.forall_mem_cons.mpr ⟨ly_X4_2, List.forall_mem_cons.mpr ⟨ly_X4_3, List.forall_mem_cons.mpr ⟨ly_X4_4, List.forall_mem_cons.mpr ⟨ly_X4_5, List.forall_mem_cons.mpr ⟨ly_X4_6, fun _ h => absurd h List.not_mem_nil⟩⟩⟩⟩⟩⟩⟩)
theorem ly_X5_0 : u_lay RX5 TX5 0 ∈ GT := GT_mem 153 (by decide +kernel) rfl
theorem ly_X5_1 : u_lay RX5 TX5 1 ∈ GT := GT_mem 155 (by decide +kernel) rfl
theorem ly_X5_2 : u_lay RX5 TX5 2 ∈ GT := GT_mem 157 (by decide +kernel) rfl
theorem ly_X5_3 : u_lay RX5 TX5 3 ∈ GT := GT_mem 159 (by decide +kernel) rfl
theorem ly_X5_4 : u_lay RX5 TX5 4 ∈ GT := GT_mem 161 (by decide +kernel) rfl
theorem ly_X5_5 : u_lay RX5 TX5 5 ∈ GT := GT_mem 163 (by decide +kernel) rfl
theorem inX5 : ∀ w ∈ u_ws RX5 TX5 6, w ∈ GT := (show ∀ w ∈ [u_lay RX5 TX5 0, u_lay RX5 TX5 1, u_lay RX5 TX5 2, u_lay RX5 TX5 3, u_lay RX5 TX5 4, u_lay RX5 TX5 5], w ∈ GT from List.forall_mem_cons.mpr ⟨ly_X5_0, List.forall_mem_cons.mpr ⟨ly_X5_1, List.forall_mem_cons.mpr ⟨ly_X5_2, List.forall_mem_cons.mpr ⟨ly_X5_3, List.forall_mem_cons.mpr ⟨ly_X5_4, List.forall_mem_cons.mpr ⟨ly_X5_5, fun _ h => absurd h List.not_mem_nil⟩⟩⟩⟩⟩⟩)
theorem ly_X6_0 : u_lay RX6 TX6 0 ∈ GT := GT_mem 192 (by decide +kernel) rfl
theorem ly_X6_1 : u_lay RX6 TX6 1 ∈ GT := GT_mem 194 (by decide +kernel) rfl
theorem inX6 : ∀ w ∈ u_ws RX6 TX6 2, w ∈ GT := (show ∀ w ∈ [u_lay RX6 TX6 0, u_lay RX6 TX6 1], w ∈ GT from List.forall_mem_cons.mpr ⟨ly_X6_0, List.forall_mem_cons.mpr ⟨ly_X6_1, fun _ h => absurd h List.not_mem_nil⟩⟩)
theorem ly_X7_0 : u_lay RX7 TX7 0 ∈ GT := GT_mem 626 (by decide +kernel) rfl
theorem ly_X7_1 : u_lay RX7 TX7 1 ∈ GT := GT_mem 628 (by decide +kernel) rfl
theorem ly_X7_2 : u_lay RX7 TX7 2 ∈ GT := GT_mem 630 (by decide +kernel) rfl
theorem ly_X7_3 : u_lay RX7 TX7 3 ∈ GT := GT_mem 632 (by decide +kernel) rfl
theorem ly_X7_4 : u_lay RX7 TX7 4 ∈ GT := GT_mem 634 (by decide +kernel) rfl
theorem ly_X7_5 : u_lay RX7 TX7 5 ∈ GT := GT_mem 636 (by decide +kernel) rfl
theorem ly_X7_6 : u_lay RX7 TX7 6 ∈ GT := GT_mem 638 (by decide +kernel) rfl
theorem ly_X7_7 : u_lay RX7 TX7 7 ∈ GT := GT_mem 640 (by decide +kernel) rfl
theorem ly_X7_8 : u_lay RX7 TX7 8 ∈ GT := GT_mem 642 (by decide +kernel) rfl
theorem ly_X7_9 : u_lay RX7 TX7 9 ∈ GT := GT_mem 644 (by decide +kernel) rfl
theorem inX7 : ∀ w ∈ u_ws RX7 TX7 10, w ∈ GT := (show ∀ w ∈ [u_lay RX7 TX7 0, u_lay RX7 TX7 1, u_lay RX7 TX7 2, u_lay RX7 TX7 3, u_lay RX7 TX7 4, u_lay RX7 TX7 5, u_lay RX7 TX7 6, u_lay RX7 TX7 7, u_lay RX7 TX7 8, u_lay RX7 TX7 9], w ∈ GT from List.forall_mem_cons.mpr ⟨ly_X7_0, List.forall_mem_cons.mpr ⟨ly_X7_1, List.forall_mem_cons.mpr ⟨ly_X7_2, List.forall_mem_cons.mpr ⟨ly_X7_3, List.forall_mem_cons.mpr ⟨ly_X7_4, List.forall_mem_cons.mpr ⟨ly_X7_5, List.forall_mem_cons.mpr ⟨ly_X7_6, List.forall_mem_cons.mpr ⟨ly_X7_7, List.forall_mem_cons.mpr ⟨ly_X7_8, List.forall_mem_cons.mpr ⟨ly_X7_9, fun _ h => absurd h List.not_mem_nil⟩⟩⟩⟩⟩⟩⟩⟩⟩⟩)
theorem ly_X8_0 : u_lay RX8 TX8 0 ∈ GT := GT_mem 135 (by decide +kernel) rfl
theorem ly_X8_1 : u_lay RX8 TX8 1 ∈ GT := GT_mem 137 (by decide +kernel) rfl
theorem inX8 : ∀ w ∈ u_ws RX8 TX8 2, w ∈ GT := (show ∀ w ∈ [u_lay RX8 TX8 0, u_lay RX8 TX8 1], w ∈ GT from List.forall_mem_cons.mpr ⟨ly_X8_0, List.forall_mem_cons.mpr ⟨ly_X8_1, fun _ h => absurd h List.not_mem_nil⟩⟩)
theorem ly_X9_0 : u_lay RX9 TX9 0 ∈ GT := GT_mem 330 (by decide +kernel) rfl
theorem ly_X9_1 : u_lay RX9 TX9 1 ∈ GT := GT_mem 332 (by decide +kernel) rfl
theorem ly_X9_2 : u_lay RX9 TX9 2 ∈ GT := GT_mem 334 (by decide +kernel) rfl
theorem ly_X9_3 : u_lay RX9 TX9 3 ∈ GT := GT_mem 336 (by decide +kernel) rfl
theorem inX9 : ∀ w ∈ u_ws RX9 TX9 4, w ∈ GT := (show ∀ w ∈ [u_lay RX9 TX9 0, u_lay RX9 TX9 1, u_lay RX9 TX9 2, u_lay RX9 TX9 3], w ∈ GT from List.forall_mem_cons.mpr ⟨ly_X9_0, List.forall_mem_cons.mpr ⟨ly_X9_1, List.forall_mem_cons.mpr ⟨ly_X9_2, List.forall_mem_cons.mpr ⟨ly_X9_3, fun _ h => absurd h List.not_mem_nil⟩⟩⟩⟩)
theorem ly_X10_0 : u_lay RX10 TX10 0 ∈ GT := GT_mem 358 (by decide +kernel) rfl
theorem ly_X10_1 : u_lay RX10 TX10 1 ∈ GT := GT_mem 360 (by decide +kernel) rfl
theorem ly_X10_2 : u_lay RX10 TX10 2 ∈ GT := GT_mem 362 (by decide +kernel) rfl
theorem ly_X10_3 : u_lay RX10 TX10 3 ∈ GT := GT_mem 364 (by decide +kernel) rfl
theorem ly_X10_4 : u_lay RX10 TX10 4 ∈ GT := GT_mem 366 (by decide +kernel) rfl
theorem ly_X10_5 : u_lay RX10 TX10 5 ∈ GT := GT_mem 368 (by decide +kernel) rfl
theorem ly_X10_6 : u_lay RX10 TX10 6 ∈ GT := GT_mem 370 (by decide +kernel) rfl
theorem ly_X10_7 : u_lay RX10 TX10 7 ∈ GT := GT_mem 372 (by decide +kernel) rfl
theorem ly_X10_8 : u_lay RX10 TX10 8 ∈ GT := GT_mem 374 (by decide +kernel) rfl
theorem ly_X10_9 : u_lay RX10 TX10 9 ∈ GT := GT_mem 376 (by decide +kernel) rfl
theorem ly_X10_10 : u_lay RX10 TX10 10 ∈ GT := GT_mem 378 (by decide +kernel) rfl
theorem ly_X10_11 : u_lay RX10 TX10 11 ∈ GT := GT_mem 380 (by decide +kernel) rfl
theorem ly_X10_12 : u_lay RX10 TX10 12 ∈ GT := GT_mem 382 (by decide +kernel) rfl
theorem ly_X10_13 : u_lay RX10 TX10 13 ∈ GT := GT_mem 384 (by decide +kernel) rfl
theorem ly_X10_14 : u_lay RX10 TX10 14 ∈ GT := GT_mem 386 (by decide +kernel) rfl
theorem ly_X10_15 : u_lay RX10 TX10 15 ∈ GT := GT_mem 388 (by decide +kernel) rfl
theorem ly_X10_16 : u_lay RX10 TX10 16 ∈ GT := GT_mem 390 (by decide +kernel) rfl
theorem ly_X10_17 : u_lay RX10 TX10 17 ∈ GT := GT_mem 392 (by decide +kernel) rfl
theorem ly_X10_18 : u_lay RX10 TX10 18 ∈ GT := GT_mem 394 (by decide +kernel) rfl
theorem inX10 : ∀ w ∈ u_ws RX10 TX10 19, w ∈ GT := (show ∀ w ∈ [u_lay RX10 TX10 0, u_lay RX10 TX10 1, u_lay RX10 TX10 2, u_lay RX10 TX10 3, u_lay RX10 TX10 4, u_lay RX10 TX10 5, u_lay RX10 TX10 6, u_lay RX10 TX10 7, u_lay RX10 TX10 8, u_lay RX10 TX10 9, u_lay RX10 TX10 10, u_lay RX10 TX10 11, u_lay RX10 TX10 12, u_lay RX10 TX10 13, u_lay RX10 TX10 14, u_lay RX10 TX10 15, u_lay RX10 TX10 16, u_lay RX10 TX10 17, u_lay RX10 TX10 18], w ∈ GT from List.forall_mem_cons.mpr ⟨ly_X10_0, List.forall_mem_cons.mpr ⟨ly_X10_1, List.forall_mem_cons.mpr ⟨ly_X10_2, List.forall_mem_cons.mpr ⟨ly_X10_3, List.forall_mem_cons.mpr ⟨ly_X10_4, List.forall_mem_cons.mpr ⟨ly_X10_5, List.forall_mem_cons.mpr ⟨ly_X10_6, List.forall_mem_cons.mpr ⟨ly_X10_7, List.forall_mem_cons.mpr ⟨ly_X10_8, List.forall_mem_cons.mpr ⟨ly_X10_9, List.forall_mem_cons.mpr ⟨ly_X10_10, List.forall_mem_cons.mpr ⟨ly_X10_11, List.forall_mem_cons.mpr ⟨ly_X10_12, List.forall_mem_cons.mpr ⟨ly_X10_13, List.forall_mem_cons.mpr ⟨ly_X10_14, List.forall_mem_cons.mpr ⟨ly_X10_15, List.forall_mem_cons.mpr ⟨ly_X10_16, List.forall_mem_cons.mpr ⟨ly_X10_17, List.forall_mem_cons.mpr ⟨ly_X10_18, fun _ h => absurd h List.not_mem_nil⟩⟩⟩⟩⟩⟩⟩⟩⟩⟩⟩⟩⟩⟩⟩⟩⟩⟩⟩)
theorem ly_X11_0 : u_lay RX11 TX11 0 ∈ GT := GT_mem 1453 (by decide +kernel) rfl
theorem ly_X11_1 : u_lay RX11 TX11 1 ∈ GT := GT_mem 1455 (by decide +kernel) rfl
theorem ly_X11_2 : u_lay RX11 TX11 2 ∈ GT := GT_mem 1457 (by decide +kernel) rfl
theorem ly_X11_3 : u_lay RX11 TX11 3 ∈ GT := GT_mem 1459 (by decide +kernel) rfl
theorem ly_X11_4 : u_lay RX11 TX11 4 ∈ GT := GT_mem 1461 (by decide +kernel) rfl
theorem ly_X11_5 : u_lay RX11 TX11 5 ∈ GT := GT_mem 1463 (by decide +kernel) rfl
theorem ly_X11_6 : u_lay RX11 TX11 6 ∈ GT := GT_mem 1465 (by decide +kernel) rfl
theorem ly_X11_7 : u_lay RX11 TX11 7 ∈ GT := GT_mem 1467 (by decide +kernel) rfl
theorem ly_X11_8 : u_lay RX11 TX11 8 ∈ GT := GT_mem 1469 (by decide +kernel) rfl
theorem ly_X11_9 : u_lay RX11 TX11 9 ∈ GT := GT_mem 1471 (by decide +kernel) rfl
theorem ly_X11_10 : u_lay RX11 TX11 10 ∈ GT := GT_mem 1473 (by decide +kernel) rfl
theorem ly_X11_11 : u_lay RX11 TX11 11 ∈ GT := GT_mem 1475 (by decide +kernel) rfl
theorem ly_X11_12 : u_lay RX11 TX11 12 ∈ GT := GT_mem 1477 (by decide +kernel) rfl
theorem ly_X11_13 : u_lay RX11 TX11 13 ∈ GT := GT_mem 1479 (by decide +kernel) rfl
theorem ly_X11_14 : u_lay RX11 TX11 14 ∈ GT := GT_mem 1481 (by decide +kernel) rfl
theorem ly_X11_15 : u_lay RX11 TX11 15 ∈ GT := GT_mem 1483 (by decide +kernel) rfl
theorem ly_X11_16 : u_lay RX11 TX11 16 ∈ GT := GT_mem 1485 (by decide +kernel) rfl
theorem ly_X11_17 : u_lay RX11 TX11 17 ∈ GT := GT_mem 1487 (by decide +kernel) rfl
theorem ly_X11_18 : u_lay RX11 TX11 18 ∈ GT := GT_mem 1489 (by decide +kernel) rfl
theorem ly_X11_19 : u_lay RX11 TX11 19 ∈ GT := GT_mem 1491 (by decide +kernel) rfl
theorem ly_X11_20 : u_lay RX11 TX11 20 ∈ GT := GT_mem 1493 (by decide +kernel) rfl
theorem ly_X11_21 : u_lay RX11 TX11 21 ∈ GT := GT_mem 1495 (by decide +kernel) rfl
theorem ly_X11_22 : u_lay RX11 TX11 22 ∈ GT := GT_mem 1497 (by decide +kernel) rfl
theorem ly_X11_23 : u_lay RX11 TX11 23 ∈ GT := GT_mem 1499 (by decide +kernel) rfl
theorem ly_X11_24 : u_lay RX11 TX11 24 ∈ GT := GT_mem 1501 (by decide +kernel) rfl
theorem ly_X11_25 : u_lay RX11 TX11 25 ∈ GT := GT_mem 1503 (by decide +kernel) rfl
theorem ly_X11_26 : u_lay RX11 TX11 26 ∈ GT := GT_mem 1505 (by decide +kernel) rfl
theorem ly_X11_27 : u_lay RX11 TX11 27 ∈ GT := GT_mem 1507 (by decide +kernel) rfl
theorem ly_X11_28 : u_lay RX11 TX11 28 ∈ GT := GT_mem 1509 (by decide +kernel) rfl
theorem ly_X11_29 : u_lay RX11 TX11 29 ∈ GT := GT_mem 1511 (by decide +kernel) rfl
theorem ly_X11_30 : u_lay RX11 TX11 30 ∈ GT := GT_mem 1513 (by decide +kernel) rfl
theorem ly_X11_31 : u_lay RX11 TX11 31 ∈ GT := GT_mem 1515 (by decide +kernel) rfl
theorem ly_X11_32 : u_lay RX11 TX11 32 ∈ GT := GT_mem 1517 (by decide +kernel) rfl
theorem ly_X11_33 : u_lay RX11 TX11 33 ∈ GT := GT_mem 1519 (by decide +kernel) rfl
theorem ly_X11_34 : u_lay RX11 TX11 34 ∈ GT := GT_mem 1521 (by decide +kernel) rfl
theorem ly_X11_35 : u_lay RX11 TX11 35 ∈ GT := GT_mem 1523 (by decide +kernel) rfl
theorem ly_X11_36 : u_lay RX11 TX11 36 ∈ GT := GT_mem 1525 (by decide +kernel) rfl
theorem ly_X11_37 : u_lay RX11 TX11 37 ∈ GT := GT_mem 1527 (by decide +kernel) rfl
theorem ly_X11_38 : u_lay RX11 TX11 38 ∈ GT := GT_mem 1529 (by decide +kernel) rfl
theorem ly_X11_39 : u_lay RX11 TX11 39 ∈ GT := GT_mem 1531 (by decide +kernel) rfl
theorem ly_X11_40 : u_lay RX11 TX11 40 ∈ GT := GT_mem 1533 (by decide +kernel) rfl
theorem ly_X11_41 : u_lay RX11 TX11 41 ∈ GT := GT_mem 1535 (by decide +kernel) rfl
theorem ly_X11_42 : u_lay RX11 TX11 42 ∈ GT := GT_mem 1537 (by decide +kernel) rfl
theorem ly_X11_43 : u_lay RX11 TX11 43 ∈ GT := GT_mem 1539 (by decide +kernel) rfl
theorem ly_X11_44 : u_lay RX11 TX11 44 ∈ GT := GT_mem 1541 (by decide +kernel) rfl
theorem ly_X11_45 : u_lay RX11 TX11 45 ∈ GT := GT_mem 1543 (by decide +kernel) rfl
theorem ly_X11_46 : u_lay RX11 TX11 46 ∈ GT := GT_mem 1545 (by decide +kernel) rfl
theorem ly_X11_47 : u_lay RX11 TX11 47 ∈ GT := GT_mem 1547 (by decide +kernel) rfl
theorem ly_X11_48 : u_lay RX11 TX11 48 ∈ GT := GT_mem 1549 (by decide +kernel) rfl
theorem ly_X11_49 : u_lay RX11 TX11 49 ∈ GT := GT_mem 1551 (by decide +kernel) rfl
theorem ly_X11_50 : u_lay RX11 TX11 50 ∈ GT := GT_mem 1553 (by decide +kernel) rfl
theorem ly_X11_51 : u_lay RX11 TX11 51 ∈ GT := GT_mem 1555 (by decide +kernel) rfl
theorem inX11 : ∀ w ∈ u_ws RX11 TX11 52, w ∈ GT := (show ∀ w ∈ [u_lay RX11 TX11 0, u_lay RX11 TX11 1, u_lay RX11 TX11 2, u_lay RX11 TX11 3, u_lay RX11 TX11 4, u_lay RX11 TX11 5, u_lay RX11 TX11 6, u_lay RX11 TX11 7, u_lay RX11 TX11 8, u_lay RX11 TX11 9, u_lay RX11 TX11 10, u_lay RX11 TX11 11, u_lay RX11 TX11 12, u_lay RX11 TX11 13, u_lay RX11 TX11 14, u_lay RX11 TX11 15, u_lay RX11 TX11 16, u_lay RX11 TX11 17, u_lay RX11 TX11 18, u_lay RX11 TX11 19, u_lay RX11 TX11 20, u_lay RX11 TX11 21, u_lay RX11 TX11 22, u_lay RX11 TX11 23, u_lay RX11 TX11 24, u_lay RX11 TX11 25, u_lay RX11 TX11 26, u_lay RX11 TX11 27, u_lay RX11 TX11 28, u_lay RX11 TX11 29, u_lay RX11 TX11 30, u_lay RX11 TX11 31, u_lay RX11 TX11 32, u_lay RX11 TX11 33, u_lay RX11 TX11 34, u_lay RX11 TX11 35, u_lay RX11 TX11 36, u_lay RX11 TX11 37, u_lay RX11 TX11 38, u_lay RX11 TX11 39, u_lay RX11 TX11 40, u_lay RX11 TX11 41, u_lay RX11 TX11 42, u_lay RX11 TX11 43, u_lay RX11 TX11 44, u_lay RX11 TX11 45, u_lay RX11 TX11 46, u_lay RX11 TX11 47, u_lay RX11 TX11 48, u_lay RX11 TX11 49, u_lay RX11 TX11 50, u_lay RX11 TX11 51], w ∈ GT from List.forall_mem_cons.mpr ⟨ly_X11_0, List.forall_mem_cons.mpr ⟨ly_X11_1, List.forall_mem_cons.mpr ⟨ly_X11_2, List.forall_mem_cons.mpr ⟨ly_X11_3, List.forall_mem_cons.mpr ⟨ly_X11_4, List.forall_mem_cons.mpr ⟨ly_X11_5, List.forall_mem_cons.mpr ⟨ly_X11_6, List.forall_mem_cons.mpr ⟨ly_X11_7, List.forall_mem_cons.mpr ⟨ly_X11_8, List.forall_mem_cons.mpr ⟨ly_X11_9, List.forall_mem_cons.mpr ⟨ly_X11_10, List.forall_mem_cons.mpr ⟨ly_X11_11, List.forall_mem_cons.mpr ⟨ly_X11_12, List.forall_mem_cons.mpr ⟨ly_X11_13, List.forall_mem_cons.mpr ⟨ly_X11_14, List.forall_mem_cons.mpr ⟨ly_X11_15, List.forall_mem_cons.mpr ⟨ly_X11_16, List.forall_mem_cons.mpr ⟨ly_X11_17, List.forall_mem_cons.mpr ⟨ly_X11_18, List.forall_mem_cons.mpr ⟨ly_X11_19, List.forall_mem_cons.mpr ⟨ly_X11_20, List.forall_mem_cons.mpr ⟨ly_X11_21, List.forall_mem_cons.mpr ⟨ly_X11_22, List.forall_mem_cons.mpr ⟨ly_X11_23, List.forall_mem_cons.mpr ⟨ly_X11_24, List.forall_mem_cons.mpr ⟨ly_X11_25, List.forall_mem_cons.mpr ⟨ly_X11_26, List.forall_mem_cons.mpr ⟨ly_X11_27, List.forall_mem_cons.mpr ⟨ly_X11_28, List.forall_mem_cons.mpr ⟨ly_X11_29, List.forall_mem_cons.mpr ⟨ly_X11_30, List.forall_mem_cons.mpr ⟨ly_X11_31, List.forall_mem_cons.mpr ⟨ly_X11_32, List.forall_mem_cons.mpr ⟨ly_X11_33, List.forall_mem_cons.mpr ⟨ly_X11_34, List.forall_mem_cons.mpr ⟨ly_X11_35, List.forall_mem_cons.mpr ⟨ly_X11_36, List.forall_mem_cons.mpr ⟨ly_X11_37, List.forall_mem_cons.mpr ⟨ly_X11_38, List.forall_mem_cons.mpr ⟨ly_X11_39, List.forall_mem_cons.mpr ⟨ly_X11_40, List.forall_mem_cons.mpr ⟨ly_X11_41, List.forall_mem_cons.mpr ⟨ly_X11_42, List.forall_mem_cons.mpr ⟨ly_X11_43, List.forall_mem_cons.mpr ⟨ly_X11_44, List.forall_mem_cons.mpr ⟨ly_X11_45, List.forall_mem_cons.mpr ⟨ly_X11_46, List.forall_mem_cons.mpr ⟨ly_X11_47, List.forall_mem_cons.mpr ⟨ly_X11_48, List.forall_mem_cons.mpr ⟨ly_X11_49, List.forall_mem_cons.mpr ⟨ly_X11_50, List.forall_mem_cons.mpr ⟨ly_X11_51, fun _ h => absurd h List.not_mem_nil⟩⟩⟩⟩⟩⟩⟩⟩⟩⟩⟩⟩⟩⟩⟩⟩⟩⟩⟩⟩⟩⟩⟩⟩⟩⟩⟩⟩⟩⟩⟩⟩⟩⟩⟩⟩⟩⟩⟩⟩⟩⟩⟩⟩⟩⟩⟩⟩⟩⟩⟩⟩)
theorem ly_J4_0 : u_lay RJ4 TJ4 0 ∈ GT := GT_mem 316 (by decide +kernel) rfl
theorem ly_J4_1 : u_lay RJ4 TJ4 1 ∈ GT := GT_mem 318 (by decide +kernel) rfl
theorem ly_J4_2 : u_lay RJ4 TJ4 2 ∈ GT := GT_mem 320 (by decide +kernel) rfl
theorem ly_J4_3 : u_lay RJ4 TJ4 3 ∈ GT := GT_mem 322 (by decide +kernel) rfl
theorem inJ4 : ∀ w ∈ u_ws RJ4 TJ4 4, w ∈ GT := (show ∀ w ∈ [u_lay RJ4 TJ4 0, u_lay RJ4 TJ4 1, u_lay RJ4 TJ4 2, u_lay RJ4 TJ4 3], w ∈ GT from List.forall_mem_cons.mpr ⟨ly_J4_0, List.forall_mem_cons.mpr ⟨ly_J4_1, List.forall_mem_cons.mpr ⟨ly_J4_2, List.forall_mem_cons.mpr ⟨ly_J4_3, fun _ h => absurd h List.not_mem_nil⟩⟩⟩⟩)
theorem ka_int : Cond.arrayClass .int ∈ GT := GT_mem 197 (by decide +kernel) rfl
theorem ka_char : Cond.arrayClass .char ∈ GT := GT_mem 140 (by decide +kernel) rfl
theorem ka_byte : Cond.arrayClass .byte ∈ GT := GT_mem 325 (by decide +kernel) rfl
theorem ka_boolean : Cond.arrayClass .boolean ∈ GT := GT_mem 227 (by decide +kernel) rfl
theorem ka_long : Cond.arrayClass .long ∈ GT := GT_mem 1935 (by decide +kernel) rfl
theorem kac : (Cond.native arraycopyName ∈ GT ∧ Cond.static arraycopyName ∈ GT) ∧ Cond.initialized "java/lang/System" ∈ GT := ⟨⟨GT_mem 466 (by decide +kernel) rfl, GT_mem 465 (by decide +kernel) rfl⟩, GT_mem 109 (by decide +kernel) rfl⟩
