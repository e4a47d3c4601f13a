theorem mem_rr {big : List Cond} (ws : List Cond) (ps : List Nat) (hp : ws = ps.filterMap (fun i => big[i]?)) : ∀ w ∈ ws, w ∈ big := by
  intro w hw
  rw [hp] at hw
  obtain ⟨i, -, hi⟩ := List.mem_filterMap.mp hw
  exact List.mem_of_getElem? hi
set_option maxRecDepth 20000 in
theorem wsL_law0_r1_inL : ∀ w ∈ wsL_law0_r1, w ∈ lw_tbl := fun w h => mem_rr (big := lw_tbl) wsL_law0_r1 [194, 195, 166, 1743, 1744, 181, 539, 196, 197, 198, 199, 200, 201, 202, 203, 167, 601, 351, 352, 173, 602, 497, 498, 178] rfl w h
set_option maxRecDepth 20000 in
theorem wsL_law0_r2_inL : ∀ w ∈ wsL_law0_r2, w ∈ lw_tbl := fun w h => mem_rr (big := lw_tbl) wsL_law0_r2 [603, 510, 511, 179, 604, 605, 204, 205, 206, 207, 208, 238, 274, 276, 279, 281, 284, 287, 290, 293, 296, 297, 300, 210] rfl w h
set_option maxRecDepth 20000 in
theorem wsL_law0_r3_inL : ∀ w ∈ wsL_law0_r3, w ∈ lw_tbl := fun w h => mem_rr (big := lw_tbl) wsL_law0_r3 [303, 304, 212, 213, 170, 308, 239, 171, 214, 215, 216, 224, 226, 217, 218, 169, 219, 228, 220, 221, 168, 222, 223, 240] rfl w h
set_option maxRecDepth 20000 in
theorem wsL_law0_r4_inL : ∀ w ∈ wsL_law0_r4, w ∈ lw_tbl := fun w h => mem_rr (big := lw_tbl) wsL_law0_r4 [241, 242, 243, 247, 251, 255, 260, 244, 245, 172, 246, 353, 354, 355, 356, 357, 358, 174, 473, 374, 375, 175, 474, 475] rfl w h
set_option maxRecDepth 20000 in
theorem wsL_law0_r5_inL : ∀ w ∈ wsL_law0_r5, w ∈ lw_tbl := fun w h => mem_rr (big := lw_tbl) wsL_law0_r5 [401, 402, 176, 477, 478, 479, 472, 450, 451, 177, 476, 359, 360, 361, 362, 364, 366, 363, 377, 378, 379, 380, 381, 382] rfl w h
set_option maxRecDepth 20000 in
theorem wsL_law0_r6_inL : ∀ w ∈ wsL_law0_r6, w ∈ lw_tbl := fun w h => mem_rr (big := lw_tbl) wsL_law0_r6 [383, 384, 387, 404, 405, 406, 411, 415, 407, 420, 425, 449, 430, 432, 452, 453, 454, 455, 458, 459, 456, 457, 500, 501] rfl w h
set_option maxRecDepth 20000 in
theorem wsL_law0_r7_inL : ∀ w ∈ wsL_law0_r7, w ∈ lw_tbl := fun w h => mem_rr (big := lw_tbl) wsL_law0_r7 [502, 503, 512, 513, 514, 515, 541, 542, 543, 544, 545, 546, 547, 548, 516, 517, 180, 552, 554, 558, 540, 519, 520, 521] rfl w h
set_option maxRecDepth 20000 in
theorem wsL_law0_r8_inL : ∀ w ∈ wsL_law0_r8, w ∈ lw_tbl := fun w h => mem_rr (big := lw_tbl) wsL_law0_r8 [522, 523, 524, 525, 1745, 1746, 1747, 1748, 1754, 1755, 1756, 1757, 1758, 1760, 1761, 1762, 1763, 1764, 1766, 1767, 1768, 1769, 1770, 1772] rfl w h
set_option maxRecDepth 20000 in
theorem wsL_law0_r9_inL : ∀ w ∈ wsL_law0_r9, w ∈ lw_tbl := fun w h => mem_rr (big := lw_tbl) wsL_law0_r9 [1773, 1774, 1775, 1776, 1777, 1749, 1780, 1781, 1782, 1783, 1784, 1785, 1786, 1787, 1790, 1791, 1792, 1750, 1796, 1797, 1798, 1799, 1800, 1801] rfl w h
set_option maxRecDepth 20000 in
theorem wsL_law0_r10_inL : ∀ w ∈ wsL_law0_r10, w ∈ lw_tbl := fun w h => mem_rr (big := lw_tbl) wsL_law0_r10 [1802, 1803, 1804, 1805, 1806, 1807, 1808, 1809, 1810, 1811, 1812, 1813, 1814, 1815, 1817, 1818, 1819, 1821, 1823, 1824, 1825, 1827, 1828, 1829] rfl w h
set_option maxRecDepth 20000 in
theorem wsL_law0_r11_inL : ∀ w ∈ wsL_law0_r11, w ∈ lw_tbl := fun w h => mem_rr (big := lw_tbl) wsL_law0_r11 [1830, 1831, 1833, 1834, 1835, 1836, 1838, 1839, 1840, 1842, 1844, 1846, 1847, 1848, 1849, 1850, 1852, 1856, 1751, 1857, 1858, 1752, 1859, 1860] rfl w h
set_option maxRecDepth 20000 in
theorem wsL_law0_r12_inL : ∀ w ∈ wsL_law0_r12, w ∈ lw_tbl := fun w h => mem_rr (big := lw_tbl) wsL_law0_r12 [1861, 632, 633, 165, 634, 635, 636, 637, 638, 639, 640, 641, 642, 185, 734, 187, 283, 277, 710, 711, 712, 714, 716, 1] rfl w h
