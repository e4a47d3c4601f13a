set_option maxRecDepth 20000 in
theorem inD_L_typeOf : ∀ w ∈ wD_L_typeOf, w ∈ lw_tbl := mem_rr (big := lw_tbl) _ [1444, 1445, 1446, 166, 636] rfl
set_option maxRecDepth 20000 in
theorem inT_L_typeOf : ∀ w ∈ wK_L_typeOf, w ∈ lw_tbl := fun w h => (List.mem_cons.mp h).elim (fun e => by rw [e]; exact List.mem_of_getElem? (i := 1443) rfl) (fun h => (List.mem_append.mp h).elim (fun h => inD_L_typeOf w h) (fun h => (List.mem_append.mp h).elim (fun h => inT_X11_typeOf w h) (fun h => absurd h List.not_mem_nil)))
set_option maxRecDepth 20000 in
theorem inD_L_isSameType : ∀ w ∈ wD_L_isSameType, w ∈ lw_tbl := mem_rr (big := lw_tbl) _ [1459, 1460, 1461, 166, 636] rfl
set_option maxRecDepth 20000 in
theorem inT_L_isSameType : ∀ w ∈ wK_L_isSameType, w ∈ lw_tbl := fun w h => (List.mem_cons.mp h).elim (fun e => by rw [e]; exact List.mem_of_getElem? (i := 1458) rfl) (fun h => (List.mem_append.mp h).elim (fun h => inD_L_isSameType w h) (fun h => (List.mem_append.mp h).elim (fun h => inT_X11_isSameType w h) (fun h => absurd h List.not_mem_nil)))
set_option maxRecDepth 20000 in
theorem inD_L_valueOf : ∀ w ∈ wD_L_valueOf, w ∈ lw_tbl := mem_rr (big := lw_tbl) _ [1467, 1468, 1469, 166, 636] rfl
set_option maxRecDepth 20000 in
theorem inT_L_valueOf : ∀ w ∈ wK_L_valueOf, w ∈ lw_tbl := fun w h => (List.mem_cons.mp h).elim (fun e => by rw [e]; exact List.mem_of_getElem? (i := 1466) rfl) (fun h => (List.mem_append.mp h).elim (fun h => inD_L_valueOf w h) (fun h => (List.mem_append.mp h).elim (fun h => inT_X11_valueOf w h) (fun h => absurd h List.not_mem_nil)))
set_option maxRecDepth 20000 in
theorem inD_L_size : ∀ w ∈ wD_L_size, w ∈ lw_tbl := mem_rr (big := lw_tbl) _ [1474, 1475, 1476, 166, 636] rfl
set_option maxRecDepth 20000 in
theorem inT_L_size : ∀ w ∈ wK_L_size, w ∈ lw_tbl := fun w h => (List.mem_cons.mp h).elim (fun e => by rw [e]; exact List.mem_of_getElem? (i := 1473) rfl) (fun h => (List.mem_append.mp h).elim (fun h => inD_L_size w h) (fun h => (List.mem_append.mp h).elim (fun h => inT_X11_size w h) (fun h => absurd h List.not_mem_nil)))
set_option maxRecDepth 20000 in
theorem inD_L_run : ∀ w ∈ wD_L_run, w ∈ lw_tbl := mem_rr (big := lw_tbl) _ [1481, 1482, 1483, 166, 636] rfl
set_option maxRecDepth 20000 in
theorem inT_L_run : ∀ w ∈ wK_L_run, w ∈ lw_tbl := fun w h => (List.mem_cons.mp h).elim (fun e => by rw [e]; exact List.mem_of_getElem? (i := 1480) rfl) (fun h => (List.mem_append.mp h).elim (fun h => inD_L_run w h) (fun h => (List.mem_append.mp h).elim (fun h => inT_X11_run w h) (fun h => absurd h List.not_mem_nil)))
set_option maxRecDepth 20000 in
theorem inD_L_result : ∀ w ∈ wD_L_result, w ∈ lw_tbl := mem_rr (big := lw_tbl) _ [1649, 1650, 1651, 166, 635, 637] rfl
set_option maxRecDepth 20000 in
theorem inT_L_result : ∀ w ∈ wK_L_result, w ∈ lw_tbl := fun w h => (List.mem_cons.mp h).elim (fun e => by rw [e]; exact List.mem_of_getElem? (i := 1648) rfl) (fun h => (List.mem_append.mp h).elim (fun h => inD_L_result w h) (fun h => (List.mem_append.mp h).elim (fun h => inT_X11_result w h) (fun h => absurd h List.not_mem_nil)))
set_option maxRecDepth 20000 in
theorem inD_L_log : ∀ w ∈ wD_L_log, w ∈ lw_tbl := mem_rr (big := lw_tbl) _ [1666, 1667, 1668, 166, 636] rfl
set_option maxRecDepth 20000 in
theorem inT_L_log : ∀ w ∈ wK_L_log, w ∈ lw_tbl := fun w h => (List.mem_cons.mp h).elim (fun e => by rw [e]; exact List.mem_of_getElem? (i := 1665) rfl) (fun h => (List.mem_append.mp h).elim (fun h => inD_L_log w h) (fun h => (List.mem_append.mp h).elim (fun h => inT_X11_log w h) (fun h => absurd h List.not_mem_nil)))
set_option maxRecDepth 20000 in
theorem inD_L_build : ∀ w ∈ wD_L_build, w ∈ lw_tbl := mem_rr (big := lw_tbl) _ [1674, 1675, 1676, 166, 636] rfl
set_option maxRecDepth 20000 in
theorem inT_L_build : ∀ w ∈ wK_L_build, w ∈ lw_tbl := fun w h => (List.mem_cons.mp h).elim (fun e => by rw [e]; exact List.mem_of_getElem? (i := 1673) rfl) (fun h => (List.mem_append.mp h).elim (fun h => inD_L_build w h) (fun h => (List.mem_append.mp h).elim (fun h => inT_X11_build w h) (fun h => absurd h List.not_mem_nil)))
set_option maxRecDepth 20000 in
theorem inD_L_compiled : ∀ w ∈ wD_L_compiled, w ∈ lw_tbl := mem_rr (big := lw_tbl) _ [1732, 1733, 1734, 166, 636] rfl
set_option maxRecDepth 20000 in
theorem inT_L_compiled : ∀ w ∈ wK_L_compiled, w ∈ lw_tbl := fun w h => (List.mem_cons.mp h).elim (fun e => by rw [e]; exact List.mem_of_getElem? (i := 1731) rfl) (fun h => (List.mem_append.mp h).elim (fun h => inD_L_compiled w h) (fun h => (List.mem_append.mp h).elim (fun h => inT_X11_compiled w h) (fun h => absurd h List.not_mem_nil)))
set_option maxRecDepth 20000 in
theorem inD_L_isFresh : ∀ w ∈ wD_L_isFresh, w ∈ lw_tbl := mem_rr (big := lw_tbl) _ [1739, 1740, 1741, 166, 636] rfl
set_option maxRecDepth 20000 in
theorem inT_L_isFresh : ∀ w ∈ wK_L_isFresh, w ∈ lw_tbl := fun w h => (List.mem_cons.mp h).elim (fun e => by rw [e]; exact List.mem_of_getElem? (i := 1738) rfl) (fun h => (List.mem_append.mp h).elim (fun h => inD_L_isFresh w h) (fun h => (List.mem_append.mp h).elim (fun h => inT_X11_isFresh w h) (fun h => absurd h List.not_mem_nil)))
