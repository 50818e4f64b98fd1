theorem mw_1287 : (Cond.methodLink RL 185 yX11_keep) ∈ gx_G := gx_mem 1287 (by decide +kernel) (by decide +kernel)
theorem mw_1288 : (Cond.instanceMethod yX11_keep) ∈ gx_G := gx_mem 1288 (by decide +kernel) (by decide +kernel)
theorem mw_1289 : (Cond.selects RX11 yX11_keep yX11_keep) ∈ gx_G := gx_mem 1289 (by decide +kernel) (by decide +kernel)
theorem mw_1290 : (Cond.code yX11_keep cX11_keep 2 (some .boolean)) ∈ gx_G := gx_mem 1290 (by decide +kernel) (by decide +kernel)
theorem mw_1291 : (Cond.methodLink RL 189 yX11_again) ∈ gx_G := gx_mem 1291 (by decide +kernel) (by decide +kernel)
theorem mw_1292 : (Cond.instanceMethod yX11_again) ∈ gx_G := gx_mem 1292 (by decide +kernel) (by decide +kernel)
theorem mw_1293 : (Cond.selects RX11 yX11_again yX11_again) ∈ gx_G := gx_mem 1293 (by decide +kernel) (by decide +kernel)
theorem mw_1294 : (Cond.code yX11_again cX11_again 2 (some .boolean)) ∈ gx_G := gx_mem 1294 (by decide +kernel) (by decide +kernel)
theorem mw_1295 : (Cond.methodLink RL 193 yX11_count) ∈ gx_G := gx_mem 1295 (by decide +kernel) (by decide +kernel)
theorem mw_1296 : (Cond.instanceMethod yX11_count) ∈ gx_G := gx_mem 1296 (by decide +kernel) (by decide +kernel)
theorem mw_1297 : (Cond.selects RX11 yX11_count yX11_count) ∈ gx_G := gx_mem 1297 (by decide +kernel) (by decide +kernel)
theorem mw_1298 : (Cond.code yX11_count cX11_count 2 (some .int)) ∈ gx_G := gx_mem 1298 (by decide +kernel) (by decide +kernel)
theorem mw_1396 : (Cond.methodLink RL 197 yL_row) ∈ gx_G := gx_mem 1396 (by decide +kernel) (by decide +kernel)
theorem mw_1397 : (Cond.static yL_row) ∈ gx_G := gx_mem 1397 (by decide +kernel) (by decide +kernel)
theorem mw_1398 : (Cond.codeWith yL_row cL_row 4 (some .int) [(0, 8, 11, 13)]) ∈ gx_G := gx_mem 1398 (by decide +kernel) (by decide +kernel)
theorem mw_2090 : (Cond.methodLink RL 188 yX12_keep) ∈ gx_G := gx_mem 2090 (by decide +kernel) (by decide +kernel)
theorem mw_2091 : (Cond.instanceMethod yX12_keep) ∈ gx_G := gx_mem 2091 (by decide +kernel) (by decide +kernel)
theorem mw_2092 : (Cond.selects RX12 yX12_keep yX12_keep) ∈ gx_G := gx_mem 2092 (by decide +kernel) (by decide +kernel)
theorem mw_2093 : (Cond.code yX12_keep cX12_keep 3 (some .boolean)) ∈ gx_G := gx_mem 2093 (by decide +kernel) (by decide +kernel)
theorem mw_2095 : (Cond.methodLink RL 192 yX12_again) ∈ gx_G := gx_mem 2095 (by decide +kernel) (by decide +kernel)
theorem mw_2096 : (Cond.instanceMethod yX12_again) ∈ gx_G := gx_mem 2096 (by decide +kernel) (by decide +kernel)
theorem mw_2097 : (Cond.selects RX12 yX12_again yX12_again) ∈ gx_G := gx_mem 2097 (by decide +kernel) (by decide +kernel)
theorem mw_2098 : (Cond.code yX12_again cX12_again 3 (some .boolean)) ∈ gx_G := gx_mem 2098 (by decide +kernel) (by decide +kernel)
theorem mw_2099 : (Cond.methodLink RL 196 yX12_count) ∈ gx_G := gx_mem 2099 (by decide +kernel) (by decide +kernel)
theorem mw_2100 : (Cond.instanceMethod yX12_count) ∈ gx_G := gx_mem 2100 (by decide +kernel) (by decide +kernel)
theorem mw_2101 : (Cond.selects RX12 yX12_count yX12_count) ∈ gx_G := gx_mem 2101 (by decide +kernel) (by decide +kernel)
theorem mw_2102 : (Cond.code yX12_count cX12_count 2 (some .int)) ∈ gx_G := gx_mem 2102 (by decide +kernel) (by decide +kernel)
theorem mw_2103 : (Cond.methodLink RL 200 yX12_row) ∈ gx_G := gx_mem 2103 (by decide +kernel) (by decide +kernel)
theorem mw_2104 : (Cond.instanceMethod yX12_row) ∈ gx_G := gx_mem 2104 (by decide +kernel) (by decide +kernel)
theorem mw_2105 : (Cond.selects RX12 yX12_row yX12_row) ∈ gx_G := gx_mem 2105 (by decide +kernel) (by decide +kernel)
theorem mw_2106 : (Cond.code yX12_row cX12_row 2 (some .long)) ∈ gx_G := gx_mem 2106 (by decide +kernel) (by decide +kernel)
theorem cw_L_185 : gx_Wv RL 185 yX11_keep cX11_keep 2 (some .boolean) 1 := ⟨⟨mw_1287, mw_1288, mw_1289, mw_89, mw_1290⟩, by decide +kernel⟩
theorem cw_L_188 : gx_Wv RL 188 yX12_keep cX12_keep 3 (some .boolean) 1 := ⟨⟨mw_2090, mw_2091, mw_2092, mw_101, mw_2093⟩, by decide +kernel⟩
theorem cw_L_189 : gx_Wv RL 189 yX11_again cX11_again 2 (some .boolean) 1 := ⟨⟨mw_1291, mw_1292, mw_1293, mw_89, mw_1294⟩, by decide +kernel⟩
theorem cw_L_192 : gx_Wv RL 192 yX12_again cX12_again 3 (some .boolean) 1 := ⟨⟨mw_2095, mw_2096, mw_2097, mw_101, mw_2098⟩, by decide +kernel⟩
theorem cw_L_193 : gx_Wv RL 193 yX11_count cX11_count 2 (some .int) 1 := ⟨⟨mw_1295, mw_1296, mw_1297, mw_89, mw_1298⟩, by decide +kernel⟩
theorem cw_L_196 : gx_Wv RL 196 yX12_count cX12_count 2 (some .int) 1 := ⟨⟨mw_2099, mw_2100, mw_2101, mw_101, mw_2102⟩, by decide +kernel⟩
theorem cw_L_197 : gx_Wsw RL 197 yL_row cL_row 4 [(0, 8, 11, 13)] 3 := ⟨⟨mw_1396, mw_1397, mw_88, mw_1398⟩, by decide +kernel⟩
theorem cw_L_200 : gx_Wv RL 200 yX12_row cX12_row 2 (some .long) 1 := ⟨⟨mw_2103, mw_2104, mw_2105, mw_101, mw_2106⟩, by decide +kernel⟩
theorem dL_law_1615 : decode cL_law 1615 = .ok (.aload_n 1, 1) := by decide +kernel
theorem dL_law_1616 : decode cL_law 1616 = .ok (.aload_n 0, 1) := by decide +kernel
theorem dL_law_1617 : decode cL_law 1617 = .ok (.iload 4, 2) := by decide +kernel
theorem dL_law_1619 : decode cL_law 1619 = .ok (.iconst 1, 1) := by decide +kernel
theorem dL_law_1620 : decode cL_law 1620 = .ok (.iadd, 1) := by decide +kernel
theorem dL_law_1621 : decode cL_law 1621 = .ok (.iaload, 1) := by decide +kernel
theorem dL_law_1622 : decode cL_law 1622 = .ok (.invokevirtual 185, 3) := by decide +kernel
theorem dL_law_1625 : decode cL_law 1625 = .ok (.aload_n 2, 1) := by decide +kernel
theorem dL_law_1626 : decode cL_law 1626 = .ok (.aload_n 0, 1) := by decide +kernel
theorem dL_law_1627 : decode cL_law 1627 = .ok (.iload 4, 2) := by decide +kernel
theorem dL_law_1629 : decode cL_law 1629 = .ok (.iconst 1, 1) := by decide +kernel
theorem dL_law_1630 : decode cL_law 1630 = .ok (.iadd, 1) := by decide +kernel
theorem dL_law_1631 : decode cL_law 1631 = .ok (.iaload, 1) := by decide +kernel
theorem dL_law_1632 : decode cL_law 1632 = .ok (.invokevirtual 188, 3) := by decide +kernel
theorem dL_law_1635 : decode cL_law 1635 = .ok (.if_icmp .eq 110, 3) := by decide +kernel
theorem dL_law_1640 : decode cL_law 1640 = .ok (.aload_n 1, 1) := by decide +kernel
theorem dL_law_1641 : decode cL_law 1641 = .ok (.aload_n 0, 1) := by decide +kernel
theorem dL_law_1642 : decode cL_law 1642 = .ok (.iload 4, 2) := by decide +kernel
theorem dL_law_1644 : decode cL_law 1644 = .ok (.iconst 1, 1) := by decide +kernel
theorem dL_law_1645 : decode cL_law 1645 = .ok (.iadd, 1) := by decide +kernel
theorem dL_law_1646 : decode cL_law 1646 = .ok (.iaload, 1) := by decide +kernel
theorem dL_law_1647 : decode cL_law 1647 = .ok (.invokevirtual 189, 3) := by decide +kernel
theorem dL_law_1650 : decode cL_law 1650 = .ok (.aload_n 2, 1) := by decide +kernel
theorem dL_law_1651 : decode cL_law 1651 = .ok (.aload_n 0, 1) := by decide +kernel
theorem dL_law_1652 : decode cL_law 1652 = .ok (.iload 4, 2) := by decide +kernel
theorem dL_law_1654 : decode cL_law 1654 = .ok (.iconst 1, 1) := by decide +kernel
theorem dL_law_1655 : decode cL_law 1655 = .ok (.iadd, 1) := by decide +kernel
theorem dL_law_1656 : decode cL_law 1656 = .ok (.iaload, 1) := by decide +kernel
theorem dL_law_1657 : decode cL_law 1657 = .ok (.invokevirtual 192, 3) := by decide +kernel
theorem dL_law_1660 : decode cL_law 1660 = .ok (.if_icmp .eq 85, 3) := by decide +kernel
theorem dL_law_1665 : decode cL_law 1665 = .ok (.aload_n 1, 1) := by decide +kernel
theorem dL_law_1666 : decode cL_law 1666 = .ok (.aload_n 0, 1) := by decide +kernel
theorem dL_law_1667 : decode cL_law 1667 = .ok (.iload 4, 2) := by decide +kernel
theorem dL_law_1669 : decode cL_law 1669 = .ok (.iconst 1, 1) := by decide +kernel
theorem dL_law_1670 : decode cL_law 1670 = .ok (.iadd, 1) := by decide +kernel
theorem dL_law_1671 : decode cL_law 1671 = .ok (.iaload, 1) := by decide +kernel
theorem dL_law_1672 : decode cL_law 1672 = .ok (.invokevirtual 193, 3) := by decide +kernel
theorem dL_law_1675 : decode cL_law 1675 = .ok (.aload_n 2, 1) := by decide +kernel
theorem dL_law_1676 : decode cL_law 1676 = .ok (.aload_n 0, 1) := by decide +kernel
theorem dL_law_1677 : decode cL_law 1677 = .ok (.iload 4, 2) := by decide +kernel
theorem dL_law_1679 : decode cL_law 1679 = .ok (.iconst 1, 1) := by decide +kernel
theorem dL_law_1680 : decode cL_law 1680 = .ok (.iadd, 1) := by decide +kernel
theorem dL_law_1681 : decode cL_law 1681 = .ok (.iaload, 1) := by decide +kernel
theorem dL_law_1682 : decode cL_law 1682 = .ok (.invokevirtual 196, 3) := by decide +kernel
theorem dL_law_1685 : decode cL_law 1685 = .ok (.if_icmp .eq 60, 3) := by decide +kernel
theorem dL_law_1690 : decode cL_law 1690 = .ok (.aload_n 1, 1) := by decide +kernel
theorem dL_law_1691 : decode cL_law 1691 = .ok (.aload_n 0, 1) := by decide +kernel
theorem dL_law_1692 : decode cL_law 1692 = .ok (.iload 4, 2) := by decide +kernel
theorem dL_law_1694 : decode cL_law 1694 = .ok (.iconst 1, 1) := by decide +kernel
theorem dL_law_1695 : decode cL_law 1695 = .ok (.iadd, 1) := by decide +kernel
theorem dL_law_1696 : decode cL_law 1696 = .ok (.iaload, 1) := by decide +kernel
theorem dL_law_1697 : decode cL_law 1697 = .ok (.aload_n 3, 1) := by decide +kernel
theorem dL_law_1698 : decode cL_law 1698 = .ok (.invokestatic 197, 3) := by decide +kernel
theorem dL_law_1701 : decode cL_law 1701 = .ok (.istore 5, 2) := by decide +kernel
theorem dL_law_1703 : decode cL_law 1703 = .ok (.aload_n 2, 1) := by decide +kernel
theorem dL_law_1704 : decode cL_law 1704 = .ok (.aload_n 0, 1) := by decide +kernel
theorem dL_law_1705 : decode cL_law 1705 = .ok (.iload 4, 2) := by decide +kernel
theorem dL_law_1707 : decode cL_law 1707 = .ok (.iconst 1, 1) := by decide +kernel
theorem dL_law_1708 : decode cL_law 1708 = .ok (.iadd, 1) := by decide +kernel
theorem dL_law_1709 : decode cL_law 1709 = .ok (.iaload, 1) := by decide +kernel
theorem dL_law_1710 : decode cL_law 1710 = .ok (.invokevirtual 200, 3) := by decide +kernel
theorem dL_law_1713 : decode cL_law 1713 = .ok (.lstore 6, 2) := by decide +kernel
theorem dL_law_1715 : decode cL_law 1715 = .ok (.aload_n 2, 1) := by decide +kernel
theorem dL_law_1716 : decode cL_law 1716 = .ok (.invokevirtual 55, 3) := by decide +kernel
theorem dL_law_1719 : decode cL_law 1719 = .ok (.iload 5, 2) := by decide +kernel
theorem dL_law_1721 : decode cL_law 1721 = .ok (.if_icmp .eq 5, 3) := by decide +kernel
theorem dL_law_1726 : decode cL_law 1726 = .ok (.iload 5, 2) := by decide +kernel
theorem dL_law_1728 : decode cL_law 1728 = .ok (.ifCond .ne 14, 3) := by decide +kernel
theorem dL_law_1742 : decode cL_law 1742 = .ok (.goto 3, 3) := by decide +kernel
