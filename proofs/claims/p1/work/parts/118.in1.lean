set_option maxRecDepth 20000 in
theorem inD_X12_goes_t : ∀ w ∈ wD_X12_goes_t, w ∈ lw_tbl := mem_rr (big := lw_tbl) _ [1778] rfl
set_option maxRecDepth 20000 in
theorem inT_X12_goes_t : ∀ w ∈ wK_X12_goes_t, w ∈ lw_tbl := fun w h => (List.mem_cons.mp h).elim (fun e => by rw [e]; exact List.mem_of_getElem? (i := 2102) rfl) (fun h => (List.mem_append.mp h).elim (fun h => inD_X12_goes_t w h) (fun h => (List.mem_append.mp h).elim (fun h => inT_X12 w h) (fun h => absurd h List.not_mem_nil)))
set_option maxRecDepth 20000 in
theorem inD_X12_goes_ok : ∀ w ∈ wD_X12_goes_ok, w ∈ lw_tbl := mem_rr (big := lw_tbl) _ [1778] rfl
set_option maxRecDepth 20000 in
theorem inT_X12_goes_ok : ∀ w ∈ wK_X12_goes_ok, w ∈ lw_tbl := fun w h => (List.mem_cons.mp h).elim (fun e => by rw [e]; exact List.mem_of_getElem? (i := 2102) rfl) (fun h => (List.mem_append.mp h).elim (fun h => inD_X12_goes_ok w h) (fun h => (List.mem_append.mp h).elim (fun h => inT_X12 w h) (fun h => absurd h List.not_mem_nil)))
set_option maxRecDepth 20000 in
theorem inD_X12_thrown : ∀ w ∈ wD_X12_thrown, w ∈ lw_tbl := mem_rr (big := lw_tbl) _ [1778] rfl
set_option maxRecDepth 20000 in
theorem inT_X12_thrown : ∀ w ∈ wK_X12_thrown, w ∈ lw_tbl := fun w h => (List.mem_cons.mp h).elim (fun e => by rw [e]; exact List.mem_of_getElem? (i := 2084) rfl) (fun h => (List.mem_append.mp h).elim (fun h => inD_X12_thrown w h) (fun h => (List.mem_append.mp h).elim (fun h => inT_X12 w h) (fun h => absurd h List.not_mem_nil)))
set_option maxRecDepth 20000 in
theorem inD_X12_isType : ∀ w ∈ wD_X12_isType, w ∈ lw_tbl := mem_rr (big := lw_tbl) _ [1753, 2089, 2090, 181] rfl
set_option maxRecDepth 20000 in
theorem inT_X12_isType : ∀ w ∈ wK_X12_isType, w ∈ lw_tbl := fun w h => (List.mem_cons.mp h).elim (fun e => by rw [e]; exact List.mem_of_getElem? (i := 2098) rfl) (fun h => (List.mem_append.mp h).elim (fun h => inD_X12_isType w h) (fun h => (List.mem_append.mp h).elim (fun h => inT_X12 w h) (fun h => (List.mem_append.mp h).elim (fun h => inT_X12_in w h) (fun h => absurd h List.not_mem_nil))))
set_option maxRecDepth 20000 in
theorem inD_X12_isExpression : ∀ w ∈ wD_X12_isExpression, w ∈ lw_tbl := mem_rr (big := lw_tbl) _ [1759, 2089, 2090, 181] rfl
set_option maxRecDepth 20000 in
theorem inT_X12_isExpression : ∀ w ∈ wK_X12_isExpression, w ∈ lw_tbl := fun w h => (List.mem_cons.mp h).elim (fun e => by rw [e]; exact List.mem_of_getElem? (i := 2124) rfl) (fun h => (List.mem_append.mp h).elim (fun h => inD_X12_isExpression w h) (fun h => (List.mem_append.mp h).elim (fun h => inT_X12 w h) (fun h => (List.mem_append.mp h).elim (fun h => inT_X12_in w h) (fun h => absurd h List.not_mem_nil))))
set_option maxRecDepth 20000 in
theorem inD_X12_isUnit : ∀ w ∈ wD_X12_isUnit, w ∈ lw_tbl := mem_rr (big := lw_tbl) _ [1765, 2089, 2090, 181] rfl
set_option maxRecDepth 20000 in
theorem inT_X12_isUnit : ∀ w ∈ wK_X12_isUnit, w ∈ lw_tbl := fun w h => (List.mem_cons.mp h).elim (fun e => by rw [e]; exact List.mem_of_getElem? (i := 2136) rfl) (fun h => (List.mem_append.mp h).elim (fun h => inD_X12_isUnit w h) (fun h => (List.mem_append.mp h).elim (fun h => inT_X12 w h) (fun h => (List.mem_append.mp h).elim (fun h => inT_X12_in w h) (fun h => absurd h List.not_mem_nil))))
set_option maxRecDepth 20000 in
theorem inD_X12_isNode : ∀ w ∈ wD_X12_isNode, w ∈ lw_tbl := mem_rr (big := lw_tbl) _ [1771, 2089, 2090, 181] rfl
set_option maxRecDepth 20000 in
theorem inT_X12_isNode : ∀ w ∈ wK_X12_isNode, w ∈ lw_tbl := fun w h => (List.mem_cons.mp h).elim (fun e => by rw [e]; exact List.mem_of_getElem? (i := 2171) rfl) (fun h => (List.mem_append.mp h).elim (fun h => inD_X12_isNode w h) (fun h => (List.mem_append.mp h).elim (fun h => inT_X12 w h) (fun h => (List.mem_append.mp h).elim (fun h => inT_X12_in w h) (fun h => absurd h List.not_mem_nil))))
set_option maxRecDepth 20000 in
theorem inD_X12_tells : ∀ w ∈ wD_X12_tells, w ∈ lw_tbl := mem_rr (big := lw_tbl) _ [1778] rfl
set_option maxRecDepth 20000 in
theorem inT_X12_tells : ∀ w ∈ wK_X12_tells, w ∈ lw_tbl := fun w h => (List.mem_cons.mp h).elim (fun e => by rw [e]; exact List.mem_of_getElem? (i := 2488) rfl) (fun h => (List.mem_append.mp h).elim (fun h => inD_X12_tells w h) (fun h => (List.mem_append.mp h).elim (fun h => inT_X12 w h) (fun h => absurd h List.not_mem_nil)))
set_option maxRecDepth 20000 in
theorem inD_X12_made : ∀ w ∈ wD_X12_made, w ∈ lw_tbl := mem_rr (big := lw_tbl) _ [1760, 1759, 1761, 1762, 1763, 1764] rfl
set_option maxRecDepth 20000 in
theorem inT_X12_made : ∀ w ∈ wK_X12_made, w ∈ lw_tbl := fun w h => (List.mem_cons.mp h).elim (fun e => by rw [e]; exact List.mem_of_getElem? (i := 2113) rfl) (fun h => (List.mem_append.mp h).elim (fun h => inD_X12_made w h) (fun h => (List.mem_append.mp h).elim (fun h => inT_X12 w h) (fun h => absurd h List.not_mem_nil)))
set_option maxRecDepth 20000 in
theorem inD_X12_type : ∀ w ∈ wD_X12_type, w ∈ lw_tbl := mem_rr (big := lw_tbl) _ [2089, 2090, 181, 1753, 2099, 2101, 80, 1754, 1755, 1756, 1757, 1758, 2095, 2097, 79, 2092, 2093] rfl
set_option maxRecDepth 20000 in
theorem inT_X12_type : ∀ w ∈ wK_X12_type, w ∈ lw_tbl := fun w h => (List.mem_cons.mp h).elim (fun e => by rw [e]; exact List.mem_of_getElem? (i := 2088) rfl) (fun h => (List.mem_append.mp h).elim (fun h => inD_X12_type w h) (fun h => (List.mem_append.mp h).elim (fun h => inT_X12_in w h) (fun h => (List.mem_append.mp h).elim (fun h => inT_X12 w h) (fun h => (List.mem_append.mp h).elim (fun h => inT_X12_goes_f w h) (fun h => (List.mem_append.mp h).elim (fun h => inT_X12_goes_ok w h) (fun h => (List.mem_append.mp h).elim (fun h => inT_X12_isType w h) (fun h => (List.mem_append.mp h).elim (fun h => inT_X12_goes_s w h) (fun h => (List.mem_append.mp h).elim (fun h => inT_X12_isName w h) (fun h => absurd h List.not_mem_nil)))))))))
set_option maxRecDepth 20000 in
theorem inD_X12_leaf : ∀ w ∈ wD_X12_leaf, w ∈ lw_tbl := mem_rr (big := lw_tbl) _ [1759, 2099, 2101, 80, 181, 2110, 2112, 81, 2107, 2108] rfl
set_option maxRecDepth 20000 in
theorem inT_X12_leaf : ∀ w ∈ wK_X12_leaf, w ∈ lw_tbl := fun w h => (List.mem_cons.mp h).elim (fun e => by rw [e]; exact List.mem_of_getElem? (i := 2106) rfl) (fun h => (List.mem_append.mp h).elim (fun h => inD_X12_leaf w h) (fun h => (List.mem_append.mp h).elim (fun h => inT_X12 w h) (fun h => (List.mem_append.mp h).elim (fun h => inT_X12_goes_ok w h) (fun h => (List.mem_append.mp h).elim (fun h => inT_X12_made w h) (fun h => (List.mem_append.mp h).elim (fun h => inT_X12_isValue w h) (fun h => (List.mem_append.mp h).elim (fun h => inT_X12_goes_f w h) (fun h => absurd h List.not_mem_nil)))))))
set_option maxRecDepth 20000 in
theorem inD_X12_expression : ∀ w ∈ wD_X12_expression, w ∈ lw_tbl := mem_rr (big := lw_tbl) _ [2089, 2090, 181, 1759, 2099, 2101, 80, 2118, 2119, 2121, 2123, 82] rfl
set_option maxRecDepth 20000 in
theorem inT_X12_expression : ∀ w ∈ wK_X12_expression, w ∈ lw_tbl := fun w h => (List.mem_cons.mp h).elim (fun e => by rw [e]; exact List.mem_of_getElem? (i := 2117) rfl) (fun h => (List.mem_append.mp h).elim (fun h => inD_X12_expression w h) (fun h => (List.mem_append.mp h).elim (fun h => inT_X12_in w h) (fun h => (List.mem_append.mp h).elim (fun h => inT_X12 w h) (fun h => (List.mem_append.mp h).elim (fun h => inT_X12_goes_f w h) (fun h => (List.mem_append.mp h).elim (fun h => inT_X12_partsOf w h) (fun h => (List.mem_append.mp h).elim (fun h => inT_X12_isExpression w h) (fun h => (List.mem_append.mp h).elim (fun h => inT_X12_goes_s w h) (fun h => absurd h List.not_mem_nil))))))))
set_option maxRecDepth 20000 in
theorem inD_X12_unit : ∀ w ∈ wD_X12_unit, w ∈ lw_tbl := mem_rr (big := lw_tbl) _ [1765, 2099, 2101, 80, 181, 1766] rfl
set_option maxRecDepth 20000 in
theorem inT_X12_unit : ∀ w ∈ wK_X12_unit, w ∈ lw_tbl := fun w h => (List.mem_cons.mp h).elim (fun e => by rw [e]; exact List.mem_of_getElem? (i := 2128) rfl) (fun h => (List.mem_append.mp h).elim (fun h => inD_X12_unit w h) (fun h => (List.mem_append.mp h).elim (fun h => inT_X12 w h) (fun h => (List.mem_append.mp h).elim (fun h => inT_X12_goes_ok w h) (fun h => absurd h List.not_mem_nil))))
set_option maxRecDepth 20000 in
theorem inD_X12_version : ∀ w ∈ wD_X12_version, w ∈ lw_tbl := mem_rr (big := lw_tbl) _ [2133, 2135, 83, 181, 2099, 2101, 80] rfl
set_option maxRecDepth 20000 in
theorem inT_X12_version : ∀ w ∈ wK_X12_version, w ∈ lw_tbl := fun w h => (List.mem_cons.mp h).elim (fun e => by rw [e]; exact List.mem_of_getElem? (i := 2132) rfl) (fun h => (List.mem_append.mp h).elim (fun h => inD_X12_version w h) (fun h => (List.mem_append.mp h).elim (fun h => inT_X12_isUnit w h) (fun h => (List.mem_append.mp h).elim (fun h => inT_X12_goes_f w h) (fun h => absurd h List.not_mem_nil))))
set_option maxRecDepth 20000 in
theorem inD_X12_setType : ∀ w ∈ wD_X12_setType, w ∈ lw_tbl := mem_rr (big := lw_tbl) _ [2133, 2135, 83, 181, 2092, 2093, 2099, 2101, 80] rfl
set_option maxRecDepth 20000 in
theorem inT_X12_setType : ∀ w ∈ wK_X12_setType, w ∈ lw_tbl := fun w h => (List.mem_cons.mp h).elim (fun e => by rw [e]; exact List.mem_of_getElem? (i := 2147) rfl) (fun h => (List.mem_append.mp h).elim (fun h => inD_X12_setType w h) (fun h => (List.mem_append.mp h).elim (fun h => inT_X12_isUnit w h) (fun h => (List.mem_append.mp h).elim (fun h => inT_X12_isName w h) (fun h => (List.mem_append.mp h).elim (fun h => inT_X12_goes_f w h) (fun h => absurd h List.not_mem_nil)))))
set_option maxRecDepth 20000 in
theorem inD_X12_setValue : ∀ w ∈ wD_X12_setValue, w ∈ lw_tbl := mem_rr (big := lw_tbl) _ [2133, 2135, 83, 181, 2107, 2108, 2099, 2101, 80, 2089, 2090] rfl
set_option maxRecDepth 20000 in
theorem inT_X12_setValue : ∀ w ∈ wK_X12_setValue, w ∈ lw_tbl := fun w h => (List.mem_cons.mp h).elim (fun e => by rw [e]; exact List.mem_of_getElem? (i := 2151) rfl) (fun h => (List.mem_append.mp h).elim (fun h => inD_X12_setValue w h) (fun h => (List.mem_append.mp h).elim (fun h => inT_X12_isUnit w h) (fun h => (List.mem_append.mp h).elim (fun h => inT_X12_isValue w h) (fun h => (List.mem_append.mp h).elim (fun h => inT_X12_goes_f w h) (fun h => (List.mem_append.mp h).elim (fun h => inT_X12_in w h) (fun h => absurd h List.not_mem_nil))))))
set_option maxRecDepth 20000 in
theorem inD_X12_remove : ∀ w ∈ wD_X12_remove, w ∈ lw_tbl := mem_rr (big := lw_tbl) _ [2133, 2135, 83, 181, 2107, 2108, 2099, 2101, 80] rfl
set_option maxRecDepth 20000 in
theorem inT_X12_remove : ∀ w ∈ wK_X12_remove, w ∈ lw_tbl := fun w h => (List.mem_cons.mp h).elim (fun e => by rw [e]; exact List.mem_of_getElem? (i := 2155) rfl) (fun h => (List.mem_append.mp h).elim (fun h => inD_X12_remove w h) (fun h => (List.mem_append.mp h).elim (fun h => inT_X12_isUnit w h) (fun h => (List.mem_append.mp h).elim (fun h => inT_X12_isValue w h) (fun h => (List.mem_append.mp h).elim (fun h => inT_X12_goes_f w h) (fun h => absurd h List.not_mem_nil)))))
set_option maxRecDepth 20000 in
theorem inD_X12_unitNode : ∀ w ∈ wD_X12_unitNode, w ∈ lw_tbl := mem_rr (big := lw_tbl) _ [2133, 2135, 83, 181, 1771, 2099, 2101, 80] rfl
set_option maxRecDepth 20000 in
theorem inT_X12_unitNode : ∀ w ∈ wK_X12_unitNode, w ∈ lw_tbl := fun w h => (List.mem_cons.mp h).elim (fun e => by rw [e]; exact List.mem_of_getElem? (i := 2159) rfl) (fun h => (List.mem_append.mp h).elim (fun h => inD_X12_unitNode w h) (fun h => (List.mem_append.mp h).elim (fun h => inT_X12_isUnit w h) (fun h => (List.mem_append.mp h).elim (fun h => inT_X12 w h) (fun h => (List.mem_append.mp h).elim (fun h => inT_X12_goes_f w h) (fun h => absurd h List.not_mem_nil)))))
set_option maxRecDepth 20000 in
theorem inD_X12_node : ∀ w ∈ wD_X12_node, w ∈ lw_tbl := mem_rr (big := lw_tbl) _ [2168, 2170, 86, 181, 2089, 2090, 1771, 2099, 2101, 80] rfl
set_option maxRecDepth 20000 in
theorem inT_X12_node : ∀ w ∈ wK_X12_node, w ∈ lw_tbl := fun w h => (List.mem_cons.mp h).elim (fun e => by rw [e]; exact List.mem_of_getElem? (i := 2167) rfl) (fun h => (List.mem_append.mp h).elim (fun h => inD_X12_node w h) (fun h => (List.mem_append.mp h).elim (fun h => inT_X12_isNode w h) (fun h => (List.mem_append.mp h).elim (fun h => inT_X12_in w h) (fun h => (List.mem_append.mp h).elim (fun h => inT_X12 w h) (fun h => (List.mem_append.mp h).elim (fun h => inT_X12_goes_f w h) (fun h => (List.mem_append.mp h).elim (fun h => inT_X12_goes_s w h) (fun h => absurd h List.not_mem_nil)))))))
set_option maxRecDepth 20000 in
theorem inD_X12_choose : ∀ w ∈ wD_X12_choose, w ∈ lw_tbl := mem_rr (big := lw_tbl) _ [2168, 2170, 86, 181, 1771, 2099, 2101, 80] rfl
set_option maxRecDepth 20000 in
theorem inT_X12_choose : ∀ w ∈ wK_X12_choose, w ∈ lw_tbl := fun w h => (List.mem_cons.mp h).elim (fun e => by rw [e]; exact List.mem_of_getElem? (i := 2175) rfl) (fun h => (List.mem_append.mp h).elim (fun h => inD_X12_choose w h) (fun h => (List.mem_append.mp h).elim (fun h => inT_X12_isNode w h) (fun h => (List.mem_append.mp h).elim (fun h => inT_X12 w h) (fun h => (List.mem_append.mp h).elim (fun h => inT_X12_goes_f w h) (fun h => absurd h List.not_mem_nil)))))
set_option maxRecDepth 20000 in
theorem inD_X12_rename : ∀ w ∈ wD_X12_rename, w ∈ lw_tbl := mem_rr (big := lw_tbl) _ [2168, 2170, 86, 181, 2107, 2108, 1771, 2099, 2101, 80] rfl
set_option maxRecDepth 20000 in
theorem inT_X12_rename : ∀ w ∈ wK_X12_rename, w ∈ lw_tbl := fun w h => (List.mem_cons.mp h).elim (fun e => by rw [e]; exact List.mem_of_getElem? (i := 2179) rfl) (fun h => (List.mem_append.mp h).elim (fun h => inD_X12_rename w h) (fun h => (List.mem_append.mp h).elim (fun h => inT_X12_isNode w h) (fun h => (List.mem_append.mp h).elim (fun h => inT_X12_isValue w h) (fun h => (List.mem_append.mp h).elim (fun h => inT_X12 w h) (fun h => (List.mem_append.mp h).elim (fun h => inT_X12_goes_f w h) (fun h => absurd h List.not_mem_nil))))))
set_option maxRecDepth 20000 in
theorem inD_X12_error : ∀ w ∈ wD_X12_error, w ∈ lw_tbl := mem_rr (big := lw_tbl) _ [2168, 2170, 86, 181, 2099, 2101, 80] rfl
set_option maxRecDepth 20000 in
theorem inT_X12_error : ∀ w ∈ wK_X12_error, w ∈ lw_tbl := fun w h => (List.mem_cons.mp h).elim (fun e => by rw [e]; exact List.mem_of_getElem? (i := 2183) rfl) (fun h => (List.mem_append.mp h).elim (fun h => inD_X12_error w h) (fun h => (List.mem_append.mp h).elim (fun h => inT_X12_isNode w h) (fun h => (List.mem_append.mp h).elim (fun h => inT_X12_goes_f w h) (fun h => absurd h List.not_mem_nil))))
set_option maxRecDepth 20000 in
theorem inD_X12_asks : ∀ w ∈ wD_X12_asks, w ∈ lw_tbl := mem_rr (big := lw_tbl) _ [2168, 2170, 86, 181, 2099, 2101, 80] rfl
set_option maxRecDepth 20000 in
theorem inT_X12_asks : ∀ w ∈ wK_X12_asks, w ∈ lw_tbl := fun w h => (List.mem_cons.mp h).elim (fun e => by rw [e]; exact List.mem_of_getElem? (i := 2352) rfl) (fun h => (List.mem_append.mp h).elim (fun h => inD_X12_asks w h) (fun h => (List.mem_append.mp h).elim (fun h => inT_X12_isNode w h) (fun h => (List.mem_append.mp h).elim (fun h => inT_X12_goes_f w h) (fun h => absurd h List.not_mem_nil))))
set_option maxRecDepth 20000 in
theorem inD_X12_typeOf : ∀ w ∈ wD_X12_typeOf, w ∈ lw_tbl := mem_rr (big := lw_tbl) _ [2092, 2093, 181, 2349, 2351, 126] rfl
set_option maxRecDepth 20000 in
theorem inT_X12_typeOf : ∀ w ∈ wK_X12_typeOf, w ∈ lw_tbl := fun w h => (List.mem_cons.mp h).elim (fun e => by rw [e]; exact List.mem_of_getElem? (i := 2348) rfl) (fun h => (List.mem_append.mp h).elim (fun h => inD_X12_typeOf w h) (fun h => (List.mem_append.mp h).elim (fun h => inT_X12_isName w h) (fun h => (List.mem_append.mp h).elim (fun h => inT_X12_asks w h) (fun h => absurd h List.not_mem_nil))))
set_option maxRecDepth 20000 in
theorem inD_X12_isSameType : ∀ w ∈ wD_X12_isSameType, w ∈ lw_tbl := mem_rr (big := lw_tbl) _ [2168, 2170, 86, 181, 2092, 2093, 2099, 2101, 80] rfl
set_option maxRecDepth 20000 in
theorem inT_X12_isSameType : ∀ w ∈ wK_X12_isSameType, w ∈ lw_tbl := fun w h => (List.mem_cons.mp h).elim (fun e => by rw [e]; exact List.mem_of_getElem? (i := 2360) rfl) (fun h => (List.mem_append.mp h).elim (fun h => inD_X12_isSameType w h) (fun h => (List.mem_append.mp h).elim (fun h => inT_X12_isNode w h) (fun h => (List.mem_append.mp h).elim (fun h => inT_X12_isName w h) (fun h => (List.mem_append.mp h).elim (fun h => inT_X12_goes_f w h) (fun h => absurd h List.not_mem_nil)))))
set_option maxRecDepth 20000 in
theorem inD_X12_valueOf : ∀ w ∈ wD_X12_valueOf, w ∈ lw_tbl := mem_rr (big := lw_tbl) _ [2107, 2108, 181, 2349, 2351, 126] rfl
set_option maxRecDepth 20000 in
theorem inT_X12_valueOf : ∀ w ∈ wK_X12_valueOf, w ∈ lw_tbl := fun w h => (List.mem_cons.mp h).elim (fun e => by rw [e]; exact List.mem_of_getElem? (i := 2364) rfl) (fun h => (List.mem_append.mp h).elim (fun h => inD_X12_valueOf w h) (fun h => (List.mem_append.mp h).elim (fun h => inT_X12_isValue w h) (fun h => (List.mem_append.mp h).elim (fun h => inT_X12_asks w h) (fun h => absurd h List.not_mem_nil))))
set_option maxRecDepth 20000 in
theorem inD_X12_size : ∀ w ∈ wD_X12_size, w ∈ lw_tbl := mem_rr (big := lw_tbl) _ [2107, 2108, 181, 2349, 2351, 126] rfl
set_option maxRecDepth 20000 in
theorem inT_X12_size : ∀ w ∈ wK_X12_size, w ∈ lw_tbl := fun w h => (List.mem_cons.mp h).elim (fun e => by rw [e]; exact List.mem_of_getElem? (i := 2368) rfl) (fun h => (List.mem_append.mp h).elim (fun h => inD_X12_size w h) (fun h => (List.mem_append.mp h).elim (fun h => inT_X12_isValue w h) (fun h => (List.mem_append.mp h).elim (fun h => inT_X12_asks w h) (fun h => absurd h List.not_mem_nil))))
set_option maxRecDepth 20000 in
theorem inD_X12_run : ∀ w ∈ wD_X12_run, w ∈ lw_tbl := mem_rr (big := lw_tbl) _ [2168, 2170, 86, 181, 2099, 2101, 80] rfl
set_option maxRecDepth 20000 in
theorem inT_X12_run : ∀ w ∈ wK_X12_run, w ∈ lw_tbl := fun w h => (List.mem_cons.mp h).elim (fun e => by rw [e]; exact List.mem_of_getElem? (i := 2372) rfl) (fun h => (List.mem_append.mp h).elim (fun h => inD_X12_run w h) (fun h => (List.mem_append.mp h).elim (fun h => inT_X12_isNode w h) (fun h => (List.mem_append.mp h).elim (fun h => inT_X12_goes_f w h) (fun h => absurd h List.not_mem_nil))))
set_option maxRecDepth 20000 in
theorem inD_X12_result : ∀ w ∈ wD_X12_result, w ∈ lw_tbl := mem_rr (big := lw_tbl) _ [2107, 2108, 181, 2099, 2101, 80, 1845] rfl
set_option maxRecDepth 20000 in
theorem inT_X12_result : ∀ w ∈ wK_X12_result, w ∈ lw_tbl := fun w h => (List.mem_cons.mp h).elim (fun e => by rw [e]; exact List.mem_of_getElem? (i := 2480) rfl) (fun h => (List.mem_append.mp h).elim (fun h => inD_X12_result w h) (fun h => (List.mem_append.mp h).elim (fun h => inT_X12_isValue w h) (fun h => (List.mem_append.mp h).elim (fun h => inT_X12_goes_f w h) (fun h => (List.mem_append.mp h).elim (fun h => inT_X12 w h) (fun h => (List.mem_append.mp h).elim (fun h => inT_X12_goes_s w h) (fun h => absurd h List.not_mem_nil))))))
set_option maxRecDepth 20000 in
theorem inD_X12_logged : ∀ w ∈ wD_X12_logged, w ∈ lw_tbl := mem_rr (big := lw_tbl) _ [1851, 2485, 2487, 154, 181] rfl
set_option maxRecDepth 20000 in
theorem inT_X12_logged : ∀ w ∈ wK_X12_logged, w ∈ lw_tbl := fun w h => (List.mem_cons.mp h).elim (fun e => by rw [e]; exact List.mem_of_getElem? (i := 2484) rfl) (fun h => (List.mem_append.mp h).elim (fun h => inD_X12_logged w h) (fun h => (List.mem_append.mp h).elim (fun h => inT_X12 w h) (fun h => (List.mem_append.mp h).elim (fun h => inT_X12_tells w h) (fun h => absurd h List.not_mem_nil))))
