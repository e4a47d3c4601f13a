set_option maxRecDepth 20000 in
theorem inD_X12_log : ∀ w ∈ wD_X12_log, w ∈ lw_tbl := mem_rr (big := lw_tbl) _ [1851, 2089, 2090, 181, 2099, 2101, 80] rfl
set_option maxRecDepth 20000 in
theorem inT_X12_log : ∀ w ∈ wK_X12_log, w ∈ lw_tbl := fun w h => (List.mem_cons.mp h).elim (fun e => by rw [e]; exact List.mem_of_getElem? (i := 2492) rfl) (fun h => (List.mem_append.mp h).elim (fun h => inD_X12_log w h) (fun h => (List.mem_append.mp h).elim (fun h => inT_X12 w h) (fun h => (List.mem_append.mp h).elim (fun h => inT_X12_in w h) (fun h => (List.mem_append.mp h).elim (fun h => inT_X12_goes_f w h) (fun h => absurd h List.not_mem_nil)))))
set_option maxRecDepth 20000 in
theorem inD_X12_total : ∀ w ∈ wD_X12_total, w ∈ lw_tbl := mem_rr (big := lw_tbl) _ [1853, 2485, 2487, 154, 181] rfl
set_option maxRecDepth 20000 in
theorem inT_X12_total : ∀ w ∈ wK_X12_total, w ∈ lw_tbl := fun w h => (List.mem_cons.mp h).elim (fun e => by rw [e]; exact List.mem_of_getElem? (i := 2496) rfl) (fun h => (List.mem_append.mp h).elim (fun h => inD_X12_total w h) (fun h => (List.mem_append.mp h).elim (fun h => inT_X12 w h) (fun h => (List.mem_append.mp h).elim (fun h => inT_X12_tells w h) (fun h => absurd h List.not_mem_nil))))
set_option maxRecDepth 20000 in
theorem inD_X12_dropped : ∀ w ∈ wD_X12_dropped, w ∈ lw_tbl := mem_rr (big := lw_tbl) _ [1854, 2485, 2487, 154, 181] rfl
set_option maxRecDepth 20000 in
theorem inT_X12_dropped : ∀ w ∈ wK_X12_dropped, w ∈ lw_tbl := fun w h => (List.mem_cons.mp h).elim (fun e => by rw [e]; exact List.mem_of_getElem? (i := 2500) rfl) (fun h => (List.mem_append.mp h).elim (fun h => inD_X12_dropped w h) (fun h => (List.mem_append.mp h).elim (fun h => inT_X12 w h) (fun h => (List.mem_append.mp h).elim (fun h => inT_X12_tells w h) (fun h => absurd h List.not_mem_nil))))
set_option maxRecDepth 20000 in
theorem inD_X12_build : ∀ w ∈ wD_X12_build, w ∈ lw_tbl := mem_rr (big := lw_tbl) _ [2168, 2170, 86, 181, 2099, 2101, 80] rfl
set_option maxRecDepth 20000 in
theorem inT_X12_build : ∀ w ∈ wK_X12_build, w ∈ lw_tbl := fun w h => (List.mem_cons.mp h).elim (fun e => by rw [e]; exact List.mem_of_getElem? (i := 2504) rfl) (fun h => (List.mem_append.mp h).elim (fun h => inD_X12_build w h) (fun h => (List.mem_append.mp h).elim (fun h => inT_X12_isNode w h) (fun h => (List.mem_append.mp h).elim (fun h => inT_X12_goes_f w h) (fun h => absurd h List.not_mem_nil))))
set_option maxRecDepth 20000 in
theorem inD_X12_compiled : ∀ w ∈ wD_X12_compiled, w ∈ lw_tbl := mem_rr (big := lw_tbl) _ [2168, 2170, 86, 181, 2099, 2101, 80] rfl
set_option maxRecDepth 20000 in
theorem inT_X12_compiled : ∀ w ∈ wK_X12_compiled, w ∈ lw_tbl := fun w h => (List.mem_cons.mp h).elim (fun e => by rw [e]; exact List.mem_of_getElem? (i := 2548) rfl) (fun h => (List.mem_append.mp h).elim (fun h => inD_X12_compiled w h) (fun h => (List.mem_append.mp h).elim (fun h => inT_X12_isNode w h) (fun h => (List.mem_append.mp h).elim (fun h => inT_X12_goes_f w h) (fun h => absurd h List.not_mem_nil))))
set_option maxRecDepth 20000 in
theorem inD_X12_isFresh : ∀ w ∈ wD_X12_isFresh, w ∈ lw_tbl := mem_rr (big := lw_tbl) _ [2168, 2170, 86, 181, 2099, 2101, 80] rfl
set_option maxRecDepth 20000 in
theorem inT_X12_isFresh : ∀ w ∈ wK_X12_isFresh, w ∈ lw_tbl := fun w h => (List.mem_cons.mp h).elim (fun e => by rw [e]; exact List.mem_of_getElem? (i := 2552) rfl) (fun h => (List.mem_append.mp h).elim (fun h => inD_X12_isFresh w h) (fun h => (List.mem_append.mp h).elim (fun h => inT_X12_isNode w h) (fun h => (List.mem_append.mp h).elim (fun h => inT_X12_goes_f w h) (fun h => absurd h List.not_mem_nil))))
set_option maxRecDepth 20000 in
theorem inD_X12_init : ∀ w ∈ wD_X12_init, w ∈ lw_tbl := mem_rr (big := lw_tbl) _ [1767, 1768, 1748, 200, 201, 238, 1754, 1755, 1756, 1757, 1758, 1760, 1761, 1762, 1763, 1764, 1766, 1769, 1770, 1772, 1773, 1774, 1775, 1776, 449, 1777, 1749, 1780, 1781, 1782, 1783, 1784, 1785, 1786, 1787, 1790, 1791, 1792, 1750, 1796, 1797, 1798, 1799, 1800, 1801, 1802, 1803, 1804, 1805, 1806, 1807, 1808, 1809, 1810, 1811, 1812, 1813, 1814, 1815, 1817, 1818, 1819, 1821, 1823, 1824, 1825, 1827, 1828, 1829, 1830, 1831, 1833, 1834, 1835, 539, 1836, 1838, 1839, 1840, 1842, 1844, 1846, 1847, 1848, 1849, 1850, 1852, 1856, 1751, 1857, 1858, 1752, 1859, 1860, 1861] rfl
set_option maxRecDepth 20000 in
theorem inT_X12_init : ∀ w ∈ wK_X12_init, w ∈ lw_tbl := fun w h => (List.mem_cons.mp h).elim (fun e => by rw [e]; exact List.mem_of_getElem? (i := 1747) rfl) (fun h => (List.mem_append.mp h).elim (fun h => inD_X12_init w h) (fun h => (List.mem_append.mp h).elim (fun h => inT_X12 w h) (fun h => absurd h List.not_mem_nil)))
set_option maxRecDepth 20000 in
theorem inD_size : ∀ w ∈ wD_size, w ∈ lw_tbl := mem_rr (big := lw_tbl) _ [227] rfl
set_option maxRecDepth 20000 in
theorem inT_size : ∀ w ∈ wK_size, w ∈ lw_tbl := fun w h => (List.mem_cons.mp h).elim (fun e => by rw [e]; exact List.mem_of_getElem? (i := 904) rfl) (fun h => (List.mem_append.mp h).elim (fun h => inD_size w h) (fun h => (List.mem_append.mp h).elim (fun h => inT_Jx4a65c w h) (fun h => absurd h List.not_mem_nil)))
set_option maxRecDepth 20000 in
theorem inD_X11_isTypeName : ∀ w ∈ wD_X11_isTypeName, w ∈ lw_tbl := mem_rr (big := lw_tbl) _ [] rfl
set_option maxRecDepth 20000 in
theorem inT_X11_isTypeName : ∀ w ∈ wK_X11_isTypeName, w ∈ lw_tbl := fun w h => (List.mem_cons.mp h).elim (fun e => by rw [e]; exact List.mem_of_getElem? (i := 712) rfl) (fun h => (List.mem_append.mp h).elim (fun h => inD_X11_isTypeName w h) (fun h => absurd h List.not_mem_nil))
set_option maxRecDepth 20000 in
theorem inD_X11_isValueName : ∀ w ∈ wD_X11_isValueName, w ∈ lw_tbl := mem_rr (big := lw_tbl) _ [] rfl
set_option maxRecDepth 20000 in
theorem inT_X11_isValueName : ∀ w ∈ wK_X11_isValueName, w ∈ lw_tbl := fun w h => (List.mem_cons.mp h).elim (fun e => by rw [e]; exact List.mem_of_getElem? (i := 781) rfl) (fun h => (List.mem_append.mp h).elim (fun h => inD_X11_isValueName w h) (fun h => absurd h List.not_mem_nil))
set_option maxRecDepth 20000 in
theorem inD_X11_needType : ∀ w ∈ wD_X11_needType, w ∈ lw_tbl := mem_rr (big := lw_tbl) _ [718, 186, 601, 283] rfl
set_option maxRecDepth 20000 in
theorem inT_X11_needType : ∀ w ∈ wK_X11_needType, w ∈ lw_tbl := fun w h => (List.mem_cons.mp h).elim (fun e => by rw [e]; exact List.mem_of_getElem? (i := 717) rfl) (fun h => (List.mem_append.mp h).elim (fun h => inD_X11_needType w h) (fun h => (List.mem_append.mp h).elim (fun h => inT_at_IOB w h) (fun h => (List.mem_append.mp h).elim (fun h => inT_X11 w h) (fun h => (List.mem_append.mp h).elim (fun h => inT_X5 w h) (fun h => absurd h List.not_mem_nil)))))
set_option maxRecDepth 20000 in
theorem inD_X11_needExpression : ∀ w ∈ wD_X11_needExpression, w ∈ lw_tbl := mem_rr (big := lw_tbl) _ [718, 186, 601, 301] rfl
set_option maxRecDepth 20000 in
theorem inT_X11_needExpression : ∀ w ∈ wK_X11_needExpression, w ∈ lw_tbl := fun w h => (List.mem_cons.mp h).elim (fun e => by rw [e]; exact List.mem_of_getElem? (i := 803) rfl) (fun h => (List.mem_append.mp h).elim (fun h => inD_X11_needExpression w h) (fun h => (List.mem_append.mp h).elim (fun h => inT_at_IOB w h) (fun h => (List.mem_append.mp h).elim (fun h => inT_X11 w h) (fun h => (List.mem_append.mp h).elim (fun h => inT_X5 w h) (fun h => absurd h List.not_mem_nil)))))
set_option maxRecDepth 20000 in
theorem inD_X11_needUnit : ∀ w ∈ wD_X11_needUnit, w ∈ lw_tbl := mem_rr (big := lw_tbl) _ [718, 186, 601, 306] rfl
set_option maxRecDepth 20000 in
theorem inT_X11_needUnit : ∀ w ∈ wK_X11_needUnit, w ∈ lw_tbl := fun w h => (List.mem_cons.mp h).elim (fun e => by rw [e]; exact List.mem_of_getElem? (i := 850) rfl) (fun h => (List.mem_append.mp h).elim (fun h => inD_X11_needUnit w h) (fun h => (List.mem_append.mp h).elim (fun h => inT_at_IOB w h) (fun h => (List.mem_append.mp h).elim (fun h => inT_X11 w h) (fun h => (List.mem_append.mp h).elim (fun h => inT_X5 w h) (fun h => absurd h List.not_mem_nil)))))
set_option maxRecDepth 20000 in
theorem inD_X11_neededNode : ∀ w ∈ wD_X11_neededNode, w ∈ lw_tbl := mem_rr (big := lw_tbl) _ [718, 186, 601, 310, 901, 902, 903, 170] rfl
set_option maxRecDepth 20000 in
theorem inT_X11_neededNode : ∀ w ∈ wK_X11_neededNode, w ∈ lw_tbl := fun w h => (List.mem_cons.mp h).elim (fun e => by rw [e]; exact List.mem_of_getElem? (i := 1064) rfl) (fun h => (List.mem_append.mp h).elim (fun h => inD_X11_neededNode w h) (fun h => (List.mem_append.mp h).elim (fun h => inT_at_IOB w h) (fun h => (List.mem_append.mp h).elim (fun h => inT_X11 w h) (fun h => (List.mem_append.mp h).elim (fun h => inT_X5 w h) (fun h => (List.mem_append.mp h).elim (fun h => inT_size w h) (fun h => absurd h List.not_mem_nil))))))
set_option maxRecDepth 20000 in
theorem inD_X11_version : ∀ w ∈ wD_X11_version, w ∈ lw_tbl := mem_rr (big := lw_tbl) _ [847, 849, 5, 166] rfl
set_option maxRecDepth 20000 in
theorem inT_X11_version : ∀ w ∈ wK_X11_version, w ∈ lw_tbl := fun w h => (List.mem_cons.mp h).elim (fun e => by rw [e]; exact List.mem_of_getElem? (i := 846) rfl) (fun h => (List.mem_append.mp h).elim (fun h => inD_X11_version w h) (fun h => (List.mem_append.mp h).elim (fun h => inT_X11_needUnit w h) (fun h => absurd h List.not_mem_nil)))
set_option maxRecDepth 20000 in
theorem inD_X11_setType : ∀ w ∈ wD_X11_setType, w ∈ lw_tbl := mem_rr (big := lw_tbl) _ [847, 849, 5, 166] rfl
set_option maxRecDepth 20000 in
theorem inT_X11_setType : ∀ w ∈ wK_X11_setType, w ∈ lw_tbl := fun w h => (List.mem_cons.mp h).elim (fun e => by rw [e]; exact List.mem_of_getElem? (i := 860) rfl) (fun h => (List.mem_append.mp h).elim (fun h => inD_X11_setType w h) (fun h => (List.mem_append.mp h).elim (fun h => inT_X11_needUnit w h) (fun h => absurd h List.not_mem_nil)))
set_option maxRecDepth 20000 in
theorem inD_X11_setValue : ∀ w ∈ wD_X11_setValue, w ∈ lw_tbl := mem_rr (big := lw_tbl) _ [847, 849, 5, 166] rfl
set_option maxRecDepth 20000 in
theorem inT_X11_setValue : ∀ w ∈ wK_X11_setValue, w ∈ lw_tbl := fun w h => (List.mem_cons.mp h).elim (fun e => by rw [e]; exact List.mem_of_getElem? (i := 872) rfl) (fun h => (List.mem_append.mp h).elim (fun h => inD_X11_setValue w h) (fun h => (List.mem_append.mp h).elim (fun h => inT_X11_needUnit w h) (fun h => absurd h List.not_mem_nil)))
set_option maxRecDepth 20000 in
theorem inD_X11_remove : ∀ w ∈ wD_X11_remove, w ∈ lw_tbl := mem_rr (big := lw_tbl) _ [847, 849, 5, 166] rfl
set_option maxRecDepth 20000 in
theorem inT_X11_remove : ∀ w ∈ wK_X11_remove, w ∈ lw_tbl := fun w h => (List.mem_cons.mp h).elim (fun e => by rw [e]; exact List.mem_of_getElem? (i := 884) rfl) (fun h => (List.mem_append.mp h).elim (fun h => inD_X11_remove w h) (fun h => (List.mem_append.mp h).elim (fun h => inT_X11_needUnit w h) (fun h => absurd h List.not_mem_nil)))
set_option maxRecDepth 20000 in
theorem inD_X11_unitNode : ∀ w ∈ wD_X11_unitNode, w ∈ lw_tbl := mem_rr (big := lw_tbl) _ [847, 849, 5, 166] rfl
set_option maxRecDepth 20000 in
theorem inT_X11_unitNode : ∀ w ∈ wK_X11_unitNode, w ∈ lw_tbl := fun w h => (List.mem_cons.mp h).elim (fun e => by rw [e]; exact List.mem_of_getElem? (i := 895) rfl) (fun h => (List.mem_append.mp h).elim (fun h => inD_X11_unitNode w h) (fun h => (List.mem_append.mp h).elim (fun h => inT_X11_needUnit w h) (fun h => absurd h List.not_mem_nil)))
set_option maxRecDepth 20000 in
theorem inD_X11_choose : ∀ w ∈ wD_X11_choose, w ∈ lw_tbl := mem_rr (big := lw_tbl) _ [907, 1061, 1063, 12, 166] rfl
set_option maxRecDepth 20000 in
theorem inT_X11_choose : ∀ w ∈ wK_X11_choose, w ∈ lw_tbl := fun w h => (List.mem_cons.mp h).elim (fun e => by rw [e]; exact List.mem_of_getElem? (i := 1086) rfl) (fun h => (List.mem_append.mp h).elim (fun h => inD_X11_choose w h) (fun h => (List.mem_append.mp h).elim (fun h => inT_X11_neededNode w h) (fun h => absurd h List.not_mem_nil)))
set_option maxRecDepth 20000 in
theorem inD_X11_rename : ∀ w ∈ wD_X11_rename, w ∈ lw_tbl := mem_rr (big := lw_tbl) _ [907, 1061, 1063, 12, 166] rfl
set_option maxRecDepth 20000 in
theorem inT_X11_rename : ∀ w ∈ wK_X11_rename, w ∈ lw_tbl := fun w h => (List.mem_cons.mp h).elim (fun e => by rw [e]; exact List.mem_of_getElem? (i := 1093) rfl) (fun h => (List.mem_append.mp h).elim (fun h => inD_X11_rename w h) (fun h => (List.mem_append.mp h).elim (fun h => inT_X11_neededNode w h) (fun h => absurd h List.not_mem_nil)))
set_option maxRecDepth 20000 in
theorem inD_X11_error : ∀ w ∈ wD_X11_error, w ∈ lw_tbl := mem_rr (big := lw_tbl) _ [602, 1061, 1063, 12, 166] rfl
set_option maxRecDepth 20000 in
theorem inT_X11_error : ∀ w ∈ wK_X11_error, w ∈ lw_tbl := fun w h => (List.mem_cons.mp h).elim (fun e => by rw [e]; exact List.mem_of_getElem? (i := 1101) rfl) (fun h => (List.mem_append.mp h).elim (fun h => inD_X11_error w h) (fun h => (List.mem_append.mp h).elim (fun h => inT_X11 w h) (fun h => (List.mem_append.mp h).elim (fun h => inT_X11_neededNode w h) (fun h => absurd h List.not_mem_nil))))
set_option maxRecDepth 20000 in
theorem inD_X11_typeOf : ∀ w ∈ wD_X11_typeOf, w ∈ lw_tbl := mem_rr (big := lw_tbl) _ [1061, 1063, 12, 166] rfl
set_option maxRecDepth 20000 in
theorem inT_X11_typeOf : ∀ w ∈ wK_X11_typeOf, w ∈ lw_tbl := fun w h => (List.mem_cons.mp h).elim (fun e => by rw [e]; exact List.mem_of_getElem? (i := 1447) rfl) (fun h => (List.mem_append.mp h).elim (fun h => inD_X11_typeOf w h) (fun h => (List.mem_append.mp h).elim (fun h => inT_X11_neededNode w h) (fun h => absurd h List.not_mem_nil)))
set_option maxRecDepth 20000 in
theorem inD_X11_isSameType : ∀ w ∈ wD_X11_isSameType, w ∈ lw_tbl := mem_rr (big := lw_tbl) _ [1061, 1063, 12, 166] rfl
set_option maxRecDepth 20000 in
theorem inT_X11_isSameType : ∀ w ∈ wK_X11_isSameType, w ∈ lw_tbl := fun w h => (List.mem_cons.mp h).elim (fun e => by rw [e]; exact List.mem_of_getElem? (i := 1462) rfl) (fun h => (List.mem_append.mp h).elim (fun h => inD_X11_isSameType w h) (fun h => (List.mem_append.mp h).elim (fun h => inT_X11_neededNode w h) (fun h => absurd h List.not_mem_nil)))
set_option maxRecDepth 20000 in
theorem inD_X11_valueOf : ∀ w ∈ wD_X11_valueOf, w ∈ lw_tbl := mem_rr (big := lw_tbl) _ [1061, 1063, 12, 166] rfl
set_option maxRecDepth 20000 in
theorem inT_X11_valueOf : ∀ w ∈ wK_X11_valueOf, w ∈ lw_tbl := fun w h => (List.mem_cons.mp h).elim (fun e => by rw [e]; exact List.mem_of_getElem? (i := 1470) rfl) (fun h => (List.mem_append.mp h).elim (fun h => inD_X11_valueOf w h) (fun h => (List.mem_append.mp h).elim (fun h => inT_X11_neededNode w h) (fun h => absurd h List.not_mem_nil)))
set_option maxRecDepth 20000 in
theorem inD_X11_size : ∀ w ∈ wD_X11_size, w ∈ lw_tbl := mem_rr (big := lw_tbl) _ [1061, 1063, 12, 166] rfl
set_option maxRecDepth 20000 in
theorem inT_X11_size : ∀ w ∈ wK_X11_size, w ∈ lw_tbl := fun w h => (List.mem_cons.mp h).elim (fun e => by rw [e]; exact List.mem_of_getElem? (i := 1477) rfl) (fun h => (List.mem_append.mp h).elim (fun h => inD_X11_size w h) (fun h => (List.mem_append.mp h).elim (fun h => inT_X11_neededNode w h) (fun h => absurd h List.not_mem_nil)))
set_option maxRecDepth 20000 in
theorem inD_X11_run : ∀ w ∈ wD_X11_run, w ∈ lw_tbl := mem_rr (big := lw_tbl) _ [1061, 1063, 12, 166] rfl
set_option maxRecDepth 20000 in
theorem inT_X11_run : ∀ w ∈ wK_X11_run, w ∈ lw_tbl := fun w h => (List.mem_cons.mp h).elim (fun e => by rw [e]; exact List.mem_of_getElem? (i := 1484) rfl) (fun h => (List.mem_append.mp h).elim (fun h => inD_X11_run w h) (fun h => (List.mem_append.mp h).elim (fun h => inT_X11_neededNode w h) (fun h => absurd h List.not_mem_nil)))
set_option maxRecDepth 20000 in
theorem inD_X11_build : ∀ w ∈ wD_X11_build, w ∈ lw_tbl := mem_rr (big := lw_tbl) _ [1061, 1063, 12, 166] rfl
set_option maxRecDepth 20000 in
theorem inT_X11_build : ∀ w ∈ wK_X11_build, w ∈ lw_tbl := fun w h => (List.mem_cons.mp h).elim (fun e => by rw [e]; exact List.mem_of_getElem? (i := 1677) rfl) (fun h => (List.mem_append.mp h).elim (fun h => inD_X11_build w h) (fun h => (List.mem_append.mp h).elim (fun h => inT_X11_neededNode w h) (fun h => absurd h List.not_mem_nil)))
set_option maxRecDepth 20000 in
theorem inD_X11_compiled : ∀ w ∈ wD_X11_compiled, w ∈ lw_tbl := mem_rr (big := lw_tbl) _ [1061, 1063, 12, 166] rfl
set_option maxRecDepth 20000 in
theorem inT_X11_compiled : ∀ w ∈ wK_X11_compiled, w ∈ lw_tbl := fun w h => (List.mem_cons.mp h).elim (fun e => by rw [e]; exact List.mem_of_getElem? (i := 1735) rfl) (fun h => (List.mem_append.mp h).elim (fun h => inD_X11_compiled w h) (fun h => (List.mem_append.mp h).elim (fun h => inT_X11_neededNode w h) (fun h => absurd h List.not_mem_nil)))
set_option maxRecDepth 20000 in
theorem inD_X11_isFresh : ∀ w ∈ wD_X11_isFresh, w ∈ lw_tbl := mem_rr (big := lw_tbl) _ [1061, 1063, 12, 166] rfl
set_option maxRecDepth 20000 in
theorem inT_X11_isFresh : ∀ w ∈ wK_X11_isFresh, w ∈ lw_tbl := fun w h => (List.mem_cons.mp h).elim (fun e => by rw [e]; exact List.mem_of_getElem? (i := 1742) rfl) (fun h => (List.mem_append.mp h).elim (fun h => inD_X11_isFresh w h) (fun h => (List.mem_append.mp h).elim (fun h => inT_X11_neededNode w h) (fun h => absurd h List.not_mem_nil)))
