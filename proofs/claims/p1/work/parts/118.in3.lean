set_option maxRecDepth 20000 in
theorem inD_X11_log : ∀ w ∈ wD_X11_log, w ∈ lw_tbl := mem_rr (big := lw_tbl) _ [718, 186, 606] rfl
set_option maxRecDepth 20000 in
theorem inT_X11_log : ∀ w ∈ wK_X11_log, w ∈ lw_tbl := fun w h => (List.mem_cons.mp h).elim (fun e => by rw [e]; exact List.mem_of_getElem? (i := 1669) rfl) (fun h => (List.mem_append.mp h).elim (fun h => inD_X11_log w h) (fun h => (List.mem_append.mp h).elim (fun h => inT_at_IOB w h) (fun h => (List.mem_append.mp h).elim (fun h => inT_X11 w h) (fun h => absurd h List.not_mem_nil))))
set_option maxRecDepth 20000 in
theorem inD_X11_expression : ∀ w ∈ wD_X11_expression, w ∈ lw_tbl := mem_rr (big := lw_tbl) _ [642, 185, 800, 802, 4, 166] rfl
set_option maxRecDepth 20000 in
theorem inT_X11_expression : ∀ w ∈ wK_X11_expression, w ∈ lw_tbl := fun w h => (List.mem_cons.mp h).elim (fun e => by rw [e]; exact List.mem_of_getElem? (i := 798) rfl) (fun h => (List.mem_append.mp h).elim (fun h => inD_X11_expression w h) (fun h => (List.mem_append.mp h).elim (fun h => inT_at_IAE w h) (fun h => (List.mem_append.mp h).elim (fun h => inT_X11_needExpression w h) (fun h => absurd h List.not_mem_nil))))
set_option maxRecDepth 20000 in
theorem inD_X11_node : ∀ w ∈ wD_X11_node, w ∈ lw_tbl := mem_rr (big := lw_tbl) _ [642, 185, 907, 1061, 1063, 12, 166] rfl
set_option maxRecDepth 20000 in
theorem inT_X11_node : ∀ w ∈ wK_X11_node, w ∈ lw_tbl := fun w h => (List.mem_cons.mp h).elim (fun e => by rw [e]; exact List.mem_of_getElem? (i := 1059) rfl) (fun h => (List.mem_append.mp h).elim (fun h => inD_X11_node w h) (fun h => (List.mem_append.mp h).elim (fun h => inT_at_IAE w h) (fun h => (List.mem_append.mp h).elim (fun h => inT_X11_neededNode w h) (fun h => absurd h List.not_mem_nil))))
set_option maxRecDepth 20000 in
theorem inD_X11_needValueName : ∀ w ∈ wD_X11_needValueName, w ∈ lw_tbl := mem_rr (big := lw_tbl) _ [779, 780, 166, 642, 185] rfl
set_option maxRecDepth 20000 in
theorem inT_X11_needValueName : ∀ w ∈ wK_X11_needValueName, w ∈ lw_tbl := fun w h => (List.mem_cons.mp h).elim (fun e => by rw [e]; exact List.mem_of_getElem? (i := 876) rfl) (fun h => (List.mem_append.mp h).elim (fun h => inD_X11_needValueName w h) (fun h => (List.mem_append.mp h).elim (fun h => inT_X11_isValueName w h) (fun h => (List.mem_append.mp h).elim (fun h => inT_at_IAE w h) (fun h => absurd h List.not_mem_nil))))
set_option maxRecDepth 20000 in
theorem inD_X11_result : ∀ w ∈ wD_X11_result, w ∈ lw_tbl := mem_rr (big := lw_tbl) _ [873, 875, 7, 166, 606, 734, 187] rfl
set_option maxRecDepth 20000 in
theorem inT_X11_result : ∀ w ∈ wK_X11_result, w ∈ lw_tbl := fun w h => (List.mem_cons.mp h).elim (fun e => by rw [e]; exact List.mem_of_getElem? (i := 1652) rfl) (fun h => (List.mem_append.mp h).elim (fun h => inD_X11_result w h) (fun h => (List.mem_append.mp h).elim (fun h => inT_X11_needValueName w h) (fun h => (List.mem_append.mp h).elim (fun h => inT_X11 w h) (fun h => (List.mem_append.mp h).elim (fun h => inT_at_ISE w h) (fun h => absurd h List.not_mem_nil)))))
set_option maxRecDepth 20000 in
theorem inD_X11_logged : ∀ w ∈ wD_X11_logged, w ∈ lw_tbl := mem_rr (big := lw_tbl) _ [606] rfl
set_option maxRecDepth 20000 in
theorem inT_X11_logged : ∀ w ∈ wK_X11_logged, w ∈ lw_tbl := fun w h => (List.mem_cons.mp h).elim (fun e => by rw [e]; exact List.mem_of_getElem? (i := 623) rfl) (fun h => (List.mem_append.mp h).elim (fun h => inD_X11_logged w h) (fun h => (List.mem_append.mp h).elim (fun h => inT_X11 w h) (fun h => absurd h List.not_mem_nil)))
set_option maxRecDepth 20000 in
theorem inD_X11_total : ∀ w ∈ wD_X11_total, w ∈ lw_tbl := mem_rr (big := lw_tbl) _ [606] rfl
set_option maxRecDepth 20000 in
theorem inT_X11_total : ∀ w ∈ wK_X11_total, w ∈ lw_tbl := fun w h => (List.mem_cons.mp h).elim (fun e => by rw [e]; exact List.mem_of_getElem? (i := 627) rfl) (fun h => (List.mem_append.mp h).elim (fun h => inD_X11_total w h) (fun h => (List.mem_append.mp h).elim (fun h => inT_X11 w h) (fun h => absurd h List.not_mem_nil)))
set_option maxRecDepth 20000 in
theorem inD_X11_dropped : ∀ w ∈ wD_X11_dropped, w ∈ lw_tbl := mem_rr (big := lw_tbl) _ [606] rfl
set_option maxRecDepth 20000 in
theorem inT_X11_dropped : ∀ w ∈ wK_X11_dropped, w ∈ lw_tbl := fun w h => (List.mem_cons.mp h).elim (fun e => by rw [e]; exact List.mem_of_getElem? (i := 631) rfl) (fun h => (List.mem_append.mp h).elim (fun h => inD_X11_dropped w h) (fun h => (List.mem_append.mp h).elim (fun h => inT_X11 w h) (fun h => absurd h List.not_mem_nil)))
set_option maxRecDepth 20000 in
theorem inD_X5_endType : ∀ w ∈ wD_X5_endType, w ∈ lw_tbl := mem_rr (big := lw_tbl) _ [282, 276, 281] rfl
set_option maxRecDepth 20000 in
theorem inT_X5_endType : ∀ w ∈ wK_X5_endType, w ∈ lw_tbl := fun w h => (List.mem_cons.mp h).elim (fun e => by rw [e]; exact List.mem_of_getElem? (i := 761) rfl) (fun h => (List.mem_append.mp h).elim (fun h => inD_X5_endType w h) (fun h => (List.mem_append.mp h).elim (fun h => inT_X5 w h) (fun h => absurd h List.not_mem_nil)))
set_option maxRecDepth 20000 in
theorem inD_X5_addSmallType : ∀ w ∈ wD_X5_addSmallType, w ∈ lw_tbl := mem_rr (big := lw_tbl) _ [274, 282, 279, 758, 760, 2, 167] rfl
set_option maxRecDepth 20000 in
theorem inT_X5_addSmallType : ∀ w ∈ wK_X5_addSmallType, w ∈ lw_tbl := fun w h => (List.mem_cons.mp h).elim (fun e => by rw [e]; exact List.mem_of_getElem? (i := 771) rfl) (fun h => (List.mem_append.mp h).elim (fun h => inD_X5_addSmallType w h) (fun h => (List.mem_append.mp h).elim (fun h => inT_X5 w h) (fun h => (List.mem_append.mp h).elim (fun h => inT_X5_endType w h) (fun h => absurd h List.not_mem_nil))))
set_option maxRecDepth 20000 in
theorem inD_X5_endExpression : ∀ w ∈ wD_X5_endExpression, w ∈ lw_tbl := mem_rr (big := lw_tbl) _ [302, 300] rfl
set_option maxRecDepth 20000 in
theorem inT_X5_endExpression : ∀ w ∈ wK_X5_endExpression, w ∈ lw_tbl := fun w h => (List.mem_cons.mp h).elim (fun e => by rw [e]; exact List.mem_of_getElem? (i := 791) rfl) (fun h => (List.mem_append.mp h).elim (fun h => inD_X5_endExpression w h) (fun h => (List.mem_append.mp h).elim (fun h => inT_X5 w h) (fun h => absurd h List.not_mem_nil)))
set_option maxRecDepth 20000 in
theorem inD_X5_addLeaf : ∀ w ∈ wD_X5_addLeaf, w ∈ lw_tbl := mem_rr (big := lw_tbl) _ [284, 302, 287, 290, 293, 296, 297, 788, 790, 3, 167] rfl
set_option maxRecDepth 20000 in
theorem inT_X5_addLeaf : ∀ w ∈ wK_X5_addLeaf, w ∈ lw_tbl := fun w h => (List.mem_cons.mp h).elim (fun e => by rw [e]; exact List.mem_of_getElem? (i := 787) rfl) (fun h => (List.mem_append.mp h).elim (fun h => inD_X5_addLeaf w h) (fun h => (List.mem_append.mp h).elim (fun h => inT_X5 w h) (fun h => (List.mem_append.mp h).elim (fun h => inT_X5_endExpression w h) (fun h => absurd h List.not_mem_nil))))
set_option maxRecDepth 20000 in
theorem inD_X5_addVersion : ∀ w ∈ wD_X5_addVersion, w ∈ lw_tbl := mem_rr (big := lw_tbl) _ [304, 313] rfl
set_option maxRecDepth 20000 in
theorem inT_X5_addVersion : ∀ w ∈ wK_X5_addVersion, w ∈ lw_tbl := fun w h => (List.mem_cons.mp h).elim (fun e => by rw [e]; exact List.mem_of_getElem? (i := 830) rfl) (fun h => (List.mem_append.mp h).elim (fun h => inD_X5_addVersion w h) (fun h => (List.mem_append.mp h).elim (fun h => inT_X5 w h) (fun h => absurd h List.not_mem_nil)))
set_option maxRecDepth 20000 in
theorem inD_X5_addUnit : ∀ w ∈ wD_X5_addUnit, w ∈ lw_tbl := mem_rr (big := lw_tbl) _ [307, 827, 828, 829, 167] rfl
set_option maxRecDepth 20000 in
theorem inT_X5_addUnit : ∀ w ∈ wK_X5_addUnit, w ∈ lw_tbl := fun w h => (List.mem_cons.mp h).elim (fun e => by rw [e]; exact List.mem_of_getElem? (i := 826) rfl) (fun h => (List.mem_append.mp h).elim (fun h => inD_X5_addUnit w h) (fun h => (List.mem_append.mp h).elim (fun h => inT_X5 w h) (fun h => (List.mem_append.mp h).elim (fun h => inT_X5_addVersion w h) (fun h => absurd h List.not_mem_nil))))
set_option maxRecDepth 20000 in
theorem inD_X11_type : ∀ w ∈ wD_X11_type, w ∈ lw_tbl := mem_rr (big := lw_tbl) _ [642, 185, 601, 283, 768, 769, 770, 167, 714, 716, 1, 166, 710, 711] rfl
set_option maxRecDepth 20000 in
theorem inT_X11_type : ∀ w ∈ wK_X11_type, w ∈ lw_tbl := fun w h => (List.mem_cons.mp h).elim (fun e => by rw [e]; exact List.mem_of_getElem? (i := 641) rfl) (fun h => (List.mem_append.mp h).elim (fun h => inD_X11_type w h) (fun h => (List.mem_append.mp h).elim (fun h => inT_at_IAE w h) (fun h => (List.mem_append.mp h).elim (fun h => inT_X11 w h) (fun h => (List.mem_append.mp h).elim (fun h => inT_X5 w h) (fun h => (List.mem_append.mp h).elim (fun h => inT_X5_addSmallType w h) (fun h => (List.mem_append.mp h).elim (fun h => inT_X11_needType w h) (fun h => (List.mem_append.mp h).elim (fun h => inT_X11_isTypeName w h) (fun h => absurd h List.not_mem_nil))))))))
set_option maxRecDepth 20000 in
theorem inD_X11_leaf : ∀ w ∈ wD_X11_leaf, w ∈ lw_tbl := mem_rr (big := lw_tbl) _ [601, 301, 784, 785, 786, 167, 779, 780, 166, 642, 185] rfl
set_option maxRecDepth 20000 in
theorem inT_X11_leaf : ∀ w ∈ wK_X11_leaf, w ∈ lw_tbl := fun w h => (List.mem_cons.mp h).elim (fun e => by rw [e]; exact List.mem_of_getElem? (i := 778) rfl) (fun h => (List.mem_append.mp h).elim (fun h => inD_X11_leaf w h) (fun h => (List.mem_append.mp h).elim (fun h => inT_X11 w h) (fun h => (List.mem_append.mp h).elim (fun h => inT_X5 w h) (fun h => (List.mem_append.mp h).elim (fun h => inT_X5_addLeaf w h) (fun h => (List.mem_append.mp h).elim (fun h => inT_X11_isValueName w h) (fun h => (List.mem_append.mp h).elim (fun h => inT_at_IAE w h) (fun h => absurd h List.not_mem_nil)))))))
set_option maxRecDepth 20000 in
theorem inD_X11_unit : ∀ w ∈ wD_X11_unit, w ∈ lw_tbl := mem_rr (big := lw_tbl) _ [601, 306, 823, 824, 825, 167] rfl
set_option maxRecDepth 20000 in
theorem inT_X11_unit : ∀ w ∈ wK_X11_unit, w ∈ lw_tbl := fun w h => (List.mem_cons.mp h).elim (fun e => by rw [e]; exact List.mem_of_getElem? (i := 821) rfl) (fun h => (List.mem_append.mp h).elim (fun h => inD_X11_unit w h) (fun h => (List.mem_append.mp h).elim (fun h => inT_X11 w h) (fun h => (List.mem_append.mp h).elim (fun h => inT_X5 w h) (fun h => (List.mem_append.mp h).elim (fun h => inT_X5_addUnit w h) (fun h => absurd h List.not_mem_nil)))))
set_option maxRecDepth 20000 in
theorem inD_L_type : ∀ w ∈ wD_L_type, w ∈ lw_tbl := mem_rr (big := lw_tbl) _ [638, 639, 640, 166, 635, 636] rfl
set_option maxRecDepth 20000 in
theorem inT_L_type : ∀ w ∈ wK_L_type, w ∈ lw_tbl := fun w h => (List.mem_cons.mp h).elim (fun e => by rw [e]; exact List.mem_of_getElem? (i := 634) rfl) (fun h => (List.mem_append.mp h).elim (fun h => inD_L_type w h) (fun h => (List.mem_append.mp h).elim (fun h => inT_X11_type w h) (fun h => absurd h List.not_mem_nil)))
set_option maxRecDepth 20000 in
theorem inD_L_leaf : ∀ w ∈ wD_L_leaf, w ∈ lw_tbl := mem_rr (big := lw_tbl) _ [775, 776, 777, 166, 635] rfl
set_option maxRecDepth 20000 in
theorem inT_L_leaf : ∀ w ∈ wK_L_leaf, w ∈ lw_tbl := fun w h => (List.mem_cons.mp h).elim (fun e => by rw [e]; exact List.mem_of_getElem? (i := 774) rfl) (fun h => (List.mem_append.mp h).elim (fun h => inD_L_leaf w h) (fun h => (List.mem_append.mp h).elim (fun h => inT_X11_leaf w h) (fun h => absurd h List.not_mem_nil)))
set_option maxRecDepth 20000 in
theorem inD_L_expression : ∀ w ∈ wD_L_expression, w ∈ lw_tbl := mem_rr (big := lw_tbl) _ [795, 796, 797, 166, 635, 636] rfl
set_option maxRecDepth 20000 in
theorem inT_L_expression : ∀ w ∈ wK_L_expression, w ∈ lw_tbl := fun w h => (List.mem_cons.mp h).elim (fun e => by rw [e]; exact List.mem_of_getElem? (i := 794) rfl) (fun h => (List.mem_append.mp h).elim (fun h => inD_L_expression w h) (fun h => (List.mem_append.mp h).elim (fun h => inT_X11_expression w h) (fun h => absurd h List.not_mem_nil)))
set_option maxRecDepth 20000 in
theorem inD_L_unit : ∀ w ∈ wD_L_unit, w ∈ lw_tbl := mem_rr (big := lw_tbl) _ [818, 819, 820, 166] rfl
set_option maxRecDepth 20000 in
theorem inT_L_unit : ∀ w ∈ wK_L_unit, w ∈ lw_tbl := fun w h => (List.mem_cons.mp h).elim (fun e => by rw [e]; exact List.mem_of_getElem? (i := 817) rfl) (fun h => (List.mem_append.mp h).elim (fun h => inD_L_unit w h) (fun h => (List.mem_append.mp h).elim (fun h => inT_X11_unit w h) (fun h => absurd h List.not_mem_nil)))
set_option maxRecDepth 20000 in
theorem inD_L_version : ∀ w ∈ wD_L_version, w ∈ lw_tbl := mem_rr (big := lw_tbl) _ [843, 844, 845, 166, 636] rfl
set_option maxRecDepth 20000 in
theorem inT_L_version : ∀ w ∈ wK_L_version, w ∈ lw_tbl := fun w h => (List.mem_cons.mp h).elim (fun e => by rw [e]; exact List.mem_of_getElem? (i := 842) rfl) (fun h => (List.mem_append.mp h).elim (fun h => inD_L_version w h) (fun h => (List.mem_append.mp h).elim (fun h => inT_X11_version w h) (fun h => absurd h List.not_mem_nil)))
set_option maxRecDepth 20000 in
theorem inD_L_setType : ∀ w ∈ wD_L_setType, w ∈ lw_tbl := mem_rr (big := lw_tbl) _ [857, 858, 859, 166, 636] rfl
set_option maxRecDepth 20000 in
theorem inT_L_setType : ∀ w ∈ wK_L_setType, w ∈ lw_tbl := fun w h => (List.mem_cons.mp h).elim (fun e => by rw [e]; exact List.mem_of_getElem? (i := 856) rfl) (fun h => (List.mem_append.mp h).elim (fun h => inD_L_setType w h) (fun h => (List.mem_append.mp h).elim (fun h => inT_X11_setType w h) (fun h => absurd h List.not_mem_nil)))
set_option maxRecDepth 20000 in
theorem inD_L_setValue : ∀ w ∈ wD_L_setValue, w ∈ lw_tbl := mem_rr (big := lw_tbl) _ [869, 870, 871, 166, 636] rfl
set_option maxRecDepth 20000 in
theorem inT_L_setValue : ∀ w ∈ wK_L_setValue, w ∈ lw_tbl := fun w h => (List.mem_cons.mp h).elim (fun e => by rw [e]; exact List.mem_of_getElem? (i := 868) rfl) (fun h => (List.mem_append.mp h).elim (fun h => inD_L_setValue w h) (fun h => (List.mem_append.mp h).elim (fun h => inT_X11_setValue w h) (fun h => absurd h List.not_mem_nil)))
set_option maxRecDepth 20000 in
theorem inD_L_remove : ∀ w ∈ wD_L_remove, w ∈ lw_tbl := mem_rr (big := lw_tbl) _ [881, 882, 883, 166, 636] rfl
set_option maxRecDepth 20000 in
theorem inT_L_remove : ∀ w ∈ wK_L_remove, w ∈ lw_tbl := fun w h => (List.mem_cons.mp h).elim (fun e => by rw [e]; exact List.mem_of_getElem? (i := 880) rfl) (fun h => (List.mem_append.mp h).elim (fun h => inD_L_remove w h) (fun h => (List.mem_append.mp h).elim (fun h => inT_X11_remove w h) (fun h => absurd h List.not_mem_nil)))
set_option maxRecDepth 20000 in
theorem inD_L_unitNode : ∀ w ∈ wD_L_unitNode, w ∈ lw_tbl := mem_rr (big := lw_tbl) _ [892, 893, 894, 166, 636] rfl
set_option maxRecDepth 20000 in
theorem inT_L_unitNode : ∀ w ∈ wK_L_unitNode, w ∈ lw_tbl := fun w h => (List.mem_cons.mp h).elim (fun e => by rw [e]; exact List.mem_of_getElem? (i := 891) rfl) (fun h => (List.mem_append.mp h).elim (fun h => inD_L_unitNode w h) (fun h => (List.mem_append.mp h).elim (fun h => inT_X11_unitNode w h) (fun h => absurd h List.not_mem_nil)))
set_option maxRecDepth 20000 in
theorem inD_L_node : ∀ w ∈ wD_L_node, w ∈ lw_tbl := mem_rr (big := lw_tbl) _ [1056, 1057, 1058, 166, 635, 636] rfl
set_option maxRecDepth 20000 in
theorem inT_L_node : ∀ w ∈ wK_L_node, w ∈ lw_tbl := fun w h => (List.mem_cons.mp h).elim (fun e => by rw [e]; exact List.mem_of_getElem? (i := 1055) rfl) (fun h => (List.mem_append.mp h).elim (fun h => inD_L_node w h) (fun h => (List.mem_append.mp h).elim (fun h => inT_X11_node w h) (fun h => absurd h List.not_mem_nil)))
set_option maxRecDepth 20000 in
theorem inD_L_choose : ∀ w ∈ wD_L_choose, w ∈ lw_tbl := mem_rr (big := lw_tbl) _ [1083, 1084, 1085, 166, 636] rfl
set_option maxRecDepth 20000 in
theorem inT_L_choose : ∀ w ∈ wK_L_choose, w ∈ lw_tbl := fun w h => (List.mem_cons.mp h).elim (fun e => by rw [e]; exact List.mem_of_getElem? (i := 1082) rfl) (fun h => (List.mem_append.mp h).elim (fun h => inD_L_choose w h) (fun h => (List.mem_append.mp h).elim (fun h => inT_X11_choose w h) (fun h => absurd h List.not_mem_nil)))
set_option maxRecDepth 20000 in
theorem inD_L_rename : ∀ w ∈ wD_L_rename, w ∈ lw_tbl := mem_rr (big := lw_tbl) _ [1090, 1091, 1092, 166, 636] rfl
set_option maxRecDepth 20000 in
theorem inT_L_rename : ∀ w ∈ wK_L_rename, w ∈ lw_tbl := fun w h => (List.mem_cons.mp h).elim (fun e => by rw [e]; exact List.mem_of_getElem? (i := 1089) rfl) (fun h => (List.mem_append.mp h).elim (fun h => inD_L_rename w h) (fun h => (List.mem_append.mp h).elim (fun h => inT_X11_rename w h) (fun h => absurd h List.not_mem_nil)))
set_option maxRecDepth 20000 in
theorem inD_L_error : ∀ w ∈ wD_L_error, w ∈ lw_tbl := mem_rr (big := lw_tbl) _ [1098, 1099, 1100, 166, 636] rfl
set_option maxRecDepth 20000 in
theorem inT_L_error : ∀ w ∈ wK_L_error, w ∈ lw_tbl := fun w h => (List.mem_cons.mp h).elim (fun e => by rw [e]; exact List.mem_of_getElem? (i := 1097) rfl) (fun h => (List.mem_append.mp h).elim (fun h => inD_L_error w h) (fun h => (List.mem_append.mp h).elim (fun h => inT_X11_error w h) (fun h => absurd h List.not_mem_nil)))
