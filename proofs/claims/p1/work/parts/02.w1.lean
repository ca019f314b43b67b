abbrev xIA : String := "java/lang/IllegalArgumentException"
abbrev xIS : String := "java/lang/IllegalStateException"
abbrev xIO : String := "java/lang/IndexOutOfBoundsException"
def UW : List Cond := lw_tbl.filter goodWord
theorem uw_at (i : Nat) {w : Cond} (h : lw_tbl[i]? = some w) (g : goodWord w = true) : w ∈ UW := List.mem_filter.mpr ⟨List.mem_of_getElem? h, g⟩
theorem uw_in : ∀ w ∈ UW, w ∈ lw_tbl := fun w h => (List.mem_filter.mp h).1
theorem uw_g {w : Cond} (h : w ∈ UW) : w ∈ UW ∧ ((w.onTables && w.keeps) = true ∨ ∃ ty, w = .arrayClass ty) := ⟨h, good_of_word (List.mem_filter.mp h).2⟩
theorem uw_by (ws : List Cond) (ps : List Nat) (hp : ws = ps.filterMap (fun i => lw_tbl[i]?)) (hg : ws.all goodWord = true) : ∀ w ∈ ws, w ∈ UW := by
  intro w hw
  refine List.mem_filter.mpr ⟨?_, List.all_eq_true.mp hg w hw⟩
  rw [hp] at hw
  obtain ⟨i, -, hi⟩ := List.mem_filterMap.mp hw
  exact List.mem_of_getElem? hi
theorem gq_I {k : Cond} (h5 : k ∈ UW) : GoodIn UW (k :: UW) := fun w hw => (List.mem_cons.mp hw).elim (fun q => by rw [q]; exact uw_g h5) uw_g
theorem gq_V {own C : String} {idx : Nat} {y : MethodName} {k : Cond} (h1 : Cond.methodLink own idx y ∈ UW) (h2 : Cond.instanceMethod y ∈ UW) (h3 : Cond.selects C y y ∈ UW) (h4 : Cond.initialized C ∈ UW) (h5 : k ∈ UW) : GoodIn UW (wsV own idx C y (k :: UW)) := goodIn_app (fun w hw => by
  simp only [List.mem_cons, List.not_mem_nil, or_false] at hw
  rcases hw with rfl | rfl | rfl | rfl
  · exact uw_g h1
  · exact uw_g h2
  · exact uw_g h3
  · exact uw_g h4) (gq_I h5)
theorem gq_S {own : String} {idx : Nat} {y : MethodName} {k : Cond} (h1 : Cond.methodLink own idx y ∈ UW) (h2 : Cond.static y ∈ UW) (h3 : Cond.initialized y.cls ∈ UW) (h5 : k ∈ UW) : GoodIn UW (va_wsS own idx y (k :: UW)) := goodIn_app (fun w hw => by
  simp only [List.mem_cons, List.not_mem_nil, or_false] at hw
  rcases hw with rfl | rfl | rfl
  · exact uw_g h1
  · exact uw_g h2
  · exact uw_g h3) (gq_I h5)
set_option maxRecDepth 100000 in
theorem uX_X9 : ∀ w ∈ wsX90, w ∈ UW := uw_by _ [144, 146, 148, 150] (by decide +kernel) (by decide +kernel)
set_option maxRecDepth 100000 in
theorem uX_X6 : ∀ w ∈ wsX60, w ∈ UW := uw_by _ [266, 268, 270, 272, 274, 276] (by decide +kernel) (by decide +kernel)
set_option maxRecDepth 100000 in
theorem uX_X2 : ∀ w ∈ wsX20, w ∈ UW := uw_by _ [172, 174, 176, 178, 180, 182] (by decide +kernel) (by decide +kernel)
set_option maxRecDepth 100000 in
theorem uX_X8 : ∀ w ∈ wsX80, w ∈ UW := uw_by _ [220, 222, 224, 226, 228, 230, 232, 234, 236, 238, 240, 242, 244, 246, 248, 250, 252, 254] (by decide +kernel) (by decide +kernel)
set_option maxRecDepth 100000 in
theorem uX_X7 : ∀ w ∈ wsX70, w ∈ UW := uw_by _ [322, 324, 326, 328, 330, 332, 334, 336, 338, 340, 342, 344, 346, 348, 350] (by decide +kernel) (by decide +kernel)
set_option maxRecDepth 100000 in
theorem uX_X1 : ∀ w ∈ wsX10, w ∈ UW := uw_by _ [360, 362, 364, 366, 368, 370, 372] (by decide +kernel) (by decide +kernel)
set_option maxRecDepth 100000 in
theorem uX_X5 : ∀ w ∈ wsX50, w ∈ UW := uw_by _ [387, 389, 391, 393, 395] (by decide +kernel) (by decide +kernel)
set_option maxRecDepth 100000 in
theorem uX_X10 : ∀ w ∈ wsX100, w ∈ UW := uw_by _ [407, 409, 411, 413, 415, 417, 419] (by decide +kernel) (by decide +kernel)
set_option maxRecDepth 100000 in
theorem uX_X4 : ∀ w ∈ wsX40, w ∈ UW := uw_by _ [576, 578, 580, 582, 584, 586, 588, 590, 592, 594, 596, 598, 600, 602, 604] (by decide +kernel) (by decide +kernel)
set_option maxRecDepth 100000 in
theorem uX_X11 : ∀ w ∈ wsX110, w ∈ UW := uw_by _ [1731, 1733, 1735, 1737, 1739, 1741, 1743, 1745, 1747, 1749, 1751, 1753, 1755, 1757, 1759, 1761, 1763, 1765, 1767, 1769, 1771, 1773, 1775, 1777, 1779, 1781, 1783, 1785, 1787, 1789, 1791, 1793, 1795, 1797, 1799, 1801, 1803, 1805, 1807, 1809, 1811, 1813, 1815, 1817, 1819, 1821, 1823, 1825, 1827, 1829, 1831, 1833, 1835, 1837, 1839, 1841, 1843, 1845, 1847, 1849, 1851, 1853, 1855, 1857, 1859, 1861, 1863, 1865, 1867, 1869, 1871, 1873, 1875, 1877, 1879, 1881, 1883, 1885, 1887, 1889, 1891, 1893, 1895, 1897, 1899, 1901, 1903] (by decide +kernel) (by decide +kernel)
set_option maxRecDepth 100000 in
theorem uat_A0 : ∀ w ∈ (vx_atS RX10 238 "java/lang/IllegalArgumentException" ["java/lang/RuntimeException", "java/lang/Exception"]).filter goodWord, w ∈ lw_tbl := by decide +kernel
theorem uat_A : ∀ w ∈ (vx_atS RX10 238 "java/lang/IllegalArgumentException" ["java/lang/RuntimeException", "java/lang/Exception"]).filter goodWord, w ∈ UW := fun w h => List.mem_filter.mpr ⟨uat_A0 w h, (List.mem_filter.mp h).2⟩
set_option maxRecDepth 100000 in
theorem uat_S0 : ∀ w ∈ (vx_atS RX10 130 "java/lang/IllegalStateException" ["java/lang/RuntimeException", "java/lang/Exception"]).filter goodWord, w ∈ lw_tbl := by decide +kernel
theorem uat_S : ∀ w ∈ (vx_atS RX10 130 "java/lang/IllegalStateException" ["java/lang/RuntimeException", "java/lang/Exception"]).filter goodWord, w ∈ UW := fun w h => List.mem_filter.mpr ⟨uat_S0 w h, (List.mem_filter.mp h).2⟩
set_option maxRecDepth 100000 in
theorem uat_O0 : ∀ w ∈ (vx_atS RX10 212 "java/lang/IndexOutOfBoundsException" ["java/lang/RuntimeException", "java/lang/Exception"]).filter goodWord, w ∈ lw_tbl := by decide +kernel
theorem uat_O : ∀ w ∈ (vx_atS RX10 212 "java/lang/IndexOutOfBoundsException" ["java/lang/RuntimeException", "java/lang/Exception"]).filter goodWord, w ∈ UW := fun w h => List.mem_filter.mpr ⟨uat_O0 w h, (List.mem_filter.mp h).2⟩
abbrev wq_J7_fill_53178 : List Cond := .code yJ7_fill_53178 cJ7_fill_53178 4 none :: UW
abbrev wq_X9_init : List Cond := .code yX9_init cX9_init 1 none :: UW
abbrev wq_X2_init : List Cond := .code yX2_init cX2_init 1 none :: UW
abbrev wq_X8_init : List Cond := .code yX8_init cX8_init 2 none :: UW
abbrev wq_X6_init : List Cond := .code yX6_init cX6_init 2 none :: UW
abbrev wq_X7_init : List Cond := .code yX7_init cX7_init 1 none :: UW
abbrev wq_X1_init : List Cond := .code yX1_init cX1_init 2 none :: UW
abbrev wq_X5_init : List Cond := .code yX5_init cX5_init 1 none :: UW
abbrev wq_X10_init : List Cond := .code yX10_init cX10_init 1 none :: UW
abbrev wq_X3_endsLine : List Cond := .code yX3_endsLine cX3_endsLine 1 (some .boolean) :: UW
abbrev wq_X4_traitsOfLeaf : List Cond := .code yX4_traitsOfLeaf cX4_traitsOfLeaf 2 (some .int) :: UW
abbrev wq_X4_init : List Cond := .code yX4_init cX4_init 4 none :: UW
abbrev wq_X4_bit : List Cond := .code yX4_bit cX4_bit 1 (some .long) :: UW
abbrev wq_X4_take : List Cond := .code yX4_take cX4_take 2 none :: UW
abbrev wq_X10_checkRange : List Cond := .code yX10_checkRange cX10_checkRange 3 none :: UW
abbrev wq_X10_nodeOf : List Cond := .code yX10_nodeOf cX10_nodeOf 3 (some (.object "LayoutPress$Node")) :: UW
abbrev wq_X10_checkLine : List Cond := .code yX10_checkLine cX10_checkLine 2 none :: UW
abbrev wq_X10_checkColumn : List Cond := .code yX10_checkColumn cX10_checkColumn 3 none :: UW
abbrev wq_X10_add : List Cond := .code yX10_add cX10_add 2 (some .int) :: UW
abbrev wq_X10_text : List Cond := .code yX10_text cX10_text 3 (some .int) :: UW
abbrev wq_X10_remark : List Cond := .code yX10_remark cX10_remark 3 (some .int) :: UW
abbrev wq_X10_line : List Cond := .code yX10_line cX10_line 1 (some .int) :: UW
abbrev wq_X10_soft : List Cond := .code yX10_soft cX10_soft 1 (some .int) :: UW
abbrev wq_X10_hard : List Cond := .code yX10_hard cX10_hard 1 (some .int) :: UW
abbrev wq_X10_tab : List Cond := .code yX10_tab cX10_tab 2 (some .int) :: UW
abbrev wq_X10_pair : List Cond := .code yX10_pair cX10_pair 3 (some .int) :: UW
abbrev wq_X10_nest : List Cond := .code yX10_nest cX10_nest 4 (some .int) :: UW
abbrev wq_X10_align : List Cond := .code yX10_align cX10_align 2 (some .int) :: UW
abbrev wq_X10_group : List Cond := .code yX10_group cX10_group 2 (some .int) :: UW
abbrev wq_X10_choice : List Cond := .code yX10_choice cX10_choice 3 (some .int) :: UW
abbrev wq_X10_flat : List Cond := .code yX10_flat cX10_flat 2 (some .int) :: UW
abbrev wq_X10_broken : List Cond := .code yX10_broken cX10_broken 3 (some .int) :: UW
abbrev wq_X10_price : List Cond := .code yX10_price cX10_price 4 (some .int) :: UW
abbrev wq_X10_keep : List Cond := .code yX10_keep cX10_keep 4 (some .int) :: UW
abbrev wq_X10_cell : List Cond := .code yX10_cell cX10_cell 5 (some .int) :: UW
abbrev wq_X10_size : List Cond := .code yX10_size cX10_size 2 (some .int) :: UW
abbrev wq_X10_layouts : List Cond := .code yX10_layouts cX10_layouts 2 (some .int) :: UW
abbrev wq_X10_print : List Cond := .code yX10_print cX10_print 6 (some .int) :: UW
abbrev wq_X10_printByAll : List Cond := .code yX10_printByAll cX10_printByAll 6 (some .int) :: UW
abbrev wq_X10_printGreedy : List Cond := .code yX10_printGreedy cX10_printGreedy 6 (some .int) :: UW
abbrev wq_X10_length : List Cond := .code yX10_length cX10_length 2 (some .int) :: UW
abbrev wq_X10_signAt : List Cond := .code yX10_signAt cX10_signAt 4 (some .char) :: UW
abbrev wq_X10_nodeAt : List Cond := .code yX10_nodeAt cX10_nodeAt 4 (some .int) :: UW
abbrev wq_X10_placeOf : List Cond := .code yX10_placeOf cX10_placeOf 2 (some .int) :: UW
abbrev wq_X10_nodes : List Cond := .code yX10_nodes cX10_nodes 1 (some .int) :: UW
abbrev wq_X10_lines : List Cond := .code yX10_lines cX10_lines 1 (some .int) :: UW
abbrev wq_X10_decisions : List Cond := .code yX10_decisions cX10_decisions 1 (some .int) :: UW
abbrev wq_X10_wayAt : List Cond := .code yX10_wayAt cX10_wayAt 2 (some .int) :: UW
abbrev wq_X10_breakPages : List Cond := .code yX10_breakPages cX10_breakPages 2 (some .int) :: UW
abbrev wq_X10_pageOf : List Cond := .code yX10_pageOf cX10_pageOf 2 (some .int) :: UW
abbrev wq_X11_init : List Cond := .code yX11_init cX11_init 1 none :: UW
abbrev wq_X11_in : List Cond := .code yX11_in cX11_in 3 (some .boolean) :: UW
abbrev wq_X11_thrown : List Cond := .code yX11_thrown cX11_thrown 1 (some .int) :: UW
abbrev wq_X11_isNode : List Cond := .code yX11_isNode cX11_isNode 2 (some .boolean) :: UW
abbrev wq_X11_areNodes : List Cond := .code yX11_areNodes cX11_areNodes 3 (some .boolean) :: UW
abbrev wq_X11_isPart : List Cond := .code yX11_isPart cX11_isPart 3 (some .boolean) :: UW
abbrev wq_X11_asksToPrint : List Cond := .code yX11_asksToPrint cX11_asksToPrint 5 (some .boolean) :: UW
abbrev wq_X11_isLine : List Cond := .code yX11_isLine cX11_isLine 2 (some .boolean) :: UW
abbrev wq_X11_isPlace : List Cond := .code yX11_isPlace cX11_isPlace 3 (some .boolean) :: UW
abbrev wq_X11_pair : List Cond := .code yX11_pair cX11_pair 3 (some .int) :: UW
abbrev wq_X11_nest : List Cond := .code yX11_nest cX11_nest 3 (some .int) :: UW
abbrev wq_X11_align : List Cond := .code yX11_align cX11_align 2 (some .int) :: UW
abbrev wq_X11_group : List Cond := .code yX11_group cX11_group 2 (some .int) :: UW
abbrev wq_X11_choice : List Cond := .code yX11_choice cX11_choice 3 (some .int) :: UW
abbrev wq_X11_flat : List Cond := .code yX11_flat cX11_flat 2 (some .int) :: UW
abbrev wq_X11_broken : List Cond := .code yX11_broken cX11_broken 3 (some .int) :: UW
abbrev wq_X11_price : List Cond := .code yX11_price cX11_price 3 (some .int) :: UW
abbrev wq_X11_keep : List Cond := .code yX11_keep cX11_keep 3 (some .int) :: UW
abbrev wq_X11_cell : List Cond := .code yX11_cell cX11_cell 4 (some .int) :: UW
abbrev wq_X11_size : List Cond := .code yX11_size cX11_size 2 (some .int) :: UW
abbrev wq_X11_layouts : List Cond := .code yX11_layouts cX11_layouts 2 (some .int) :: UW
abbrev wq_X11_print : List Cond := .code yX11_print cX11_print 5 (some .int) :: UW
abbrev wq_X11_printByAll : List Cond := .code yX11_printByAll cX11_printByAll 10 (some .int) :: UW
abbrev wq_X11_printGreedy : List Cond := .code yX11_printGreedy cX11_printGreedy 6 (some .int) :: UW
abbrev wq_X11_length : List Cond := .code yX11_length cX11_length 2 (some .int) :: UW
abbrev wq_X11_signAt : List Cond := .code yX11_signAt cX11_signAt 5 (some .char) :: UW
abbrev wq_X11_nodeAt : List Cond := .code yX11_nodeAt cX11_nodeAt 4 (some .int) :: UW
abbrev wq_X11_placeOf : List Cond := .code yX11_placeOf cX11_placeOf 2 (some .int) :: UW
abbrev wq_X11_wayAt : List Cond := .code yX11_wayAt cX11_wayAt 2 (some .int) :: UW
abbrev wq_X11_pageOf : List Cond := .code yX11_pageOf cX11_pageOf 2 (some .int) :: UW
abbrev wq_X11_nodes : List Cond := .code yX11_nodes cX11_nodes 1 (some .int) :: UW
abbrev wq_X11_lines : List Cond := .code yX11_lines cX11_lines 1 (some .int) :: UW
abbrev wq_X11_decisions : List Cond := .code yX11_decisions cX11_decisions 1 (some .int) :: UW
abbrev wq_X11_leaf : List Cond := .code yX11_leaf cX11_leaf 5 (some .int) :: UW
abbrev wq_X11_end : List Cond := .code yX11_end cX11_end 2 (some .int) :: UW
abbrev wq_X11_text : List Cond := .code yX11_text cX11_text 3 (some .int) :: UW
abbrev wq_X11_remark : List Cond := .code yX11_remark cX11_remark 3 (some .int) :: UW
abbrev wq_X11_tab : List Cond := .code yX11_tab cX11_tab 2 (some .int) :: UW
abbrev wq_X11_line : List Cond := .code yX11_line cX11_line 1 (some .int) :: UW
abbrev wq_X11_soft : List Cond := .code yX11_soft cX11_soft 1 (some .int) :: UW
abbrev wq_X11_hard : List Cond := .code yX11_hard cX11_hard 1 (some .int) :: UW
abbrev wq_X11_breakPages : List Cond := .code yX11_breakPages cX11_breakPages 9 (some .int) :: UW
abbrev wq_L_text : List Cond := .codeWith yL_text cL_text 5 (some .int) [(0, 10, 13, 13), (0, 10, 17, 15)] :: UW
abbrev wq_L_remark : List Cond := .codeWith yL_remark cL_remark 5 (some .int) [(0, 10, 13, 13), (0, 10, 17, 15)] :: UW
abbrev wq_L_line : List Cond := .codeWith yL_line cL_line 3 (some .int) [(0, 8, 11, 15)] :: UW
abbrev wq_L_soft : List Cond := .codeWith yL_soft cL_soft 3 (some .int) [(0, 8, 11, 15)] :: UW
abbrev wq_L_hard : List Cond := .codeWith yL_hard cL_hard 3 (some .int) [(0, 8, 11, 15)] :: UW
abbrev wq_L_tab : List Cond := .codeWith yL_tab cL_tab 4 (some .int) [(0, 9, 12, 13), (0, 9, 15, 15)] :: UW
abbrev wq_L_pair : List Cond := .codeWith yL_pair cL_pair 5 (some .int) [(0, 10, 13, 37), (0, 10, 17, 15)] :: UW
abbrev wq_L_nest : List Cond := .codeWith yL_nest cL_nest 5 (some .int) [(0, 10, 13, 37), (0, 10, 17, 13), (0, 10, 21, 15)] :: UW
abbrev wq_L_align : List Cond := .codeWith yL_align cL_align 4 (some .int) [(0, 9, 12, 37), (0, 9, 15, 15)] :: UW
abbrev wq_L_group : List Cond := .codeWith yL_group cL_group 4 (some .int) [(0, 9, 12, 37), (0, 9, 15, 15)] :: UW
abbrev wq_L_choice : List Cond := .codeWith yL_choice cL_choice 5 (some .int) [(0, 10, 13, 37), (0, 10, 17, 15)] :: UW
abbrev wq_L_flat : List Cond := .codeWith yL_flat cL_flat 4 (some .int) [(0, 9, 12, 37), (0, 9, 15, 15)] :: UW
abbrev wq_L_broken : List Cond := .codeWith yL_broken cL_broken 5 (some .int) [(0, 10, 13, 37), (0, 10, 17, 15)] :: UW
abbrev wq_L_price : List Cond := .codeWith yL_price cL_price 5 (some .int) [(0, 10, 13, 37), (0, 10, 17, 13), (0, 10, 21, 15)] :: UW
abbrev wq_L_keep : List Cond := .codeWith yL_keep cL_keep 5 (some .int) [(0, 10, 13, 37), (0, 10, 17, 13), (0, 10, 21, 15)] :: UW
abbrev wq_L_cell : List Cond := .codeWith yL_cell cL_cell 6 (some .int) [(0, 12, 15, 37), (0, 12, 19, 13), (0, 12, 23, 15)] :: UW
abbrev wq_L_size : List Cond := .codeWith yL_size cL_size 4 (some .int) [(0, 9, 12, 37)] :: UW
abbrev wq_L_layouts : List Cond := .codeWith yL_layouts cL_layouts 4 (some .int) [(0, 9, 12, 37)] :: UW
abbrev wq_L_print : List Cond := .codeWith yL_print cL_print 7 (some .int) [(0, 14, 17, 37), (0, 14, 21, 13), (0, 14, 25, 15)] :: UW
abbrev wq_L_printByAll : List Cond := .codeWith yL_printByAll cL_printByAll 7 (some .int) [(0, 14, 17, 37), (0, 14, 21, 13), (0, 14, 25, 15)] :: UW
abbrev wq_L_printGreedy : List Cond := .codeWith yL_printGreedy cL_printGreedy 7 (some .int) [(0, 14, 17, 37), (0, 14, 21, 13), (0, 14, 25, 15)] :: UW
abbrev wq_L_length : List Cond := .codeWith yL_length cL_length 4 (some .int) [(0, 9, 12, 37)] :: UW
abbrev wq_L_signAt : List Cond := .codeWith yL_signAt cL_signAt 5 (some .int) [(0, 10, 13, 37)] :: UW
abbrev wq_L_nodeAt : List Cond := .codeWith yL_nodeAt cL_nodeAt 5 (some .int) [(0, 10, 13, 37)] :: UW
abbrev wq_L_placeOf : List Cond := .codeWith yL_placeOf cL_placeOf 4 (some .int) [(0, 9, 12, 37)] :: UW
abbrev wq_L_wayAt : List Cond := .codeWith yL_wayAt cL_wayAt 4 (some .int) [(0, 9, 12, 37)] :: UW
abbrev wq_L_pageOf : List Cond := .codeWith yL_pageOf cL_pageOf 4 (some .int) [(0, 9, 12, 37), (0, 9, 15, 15)] :: UW
abbrev wq_L_breakPages : List Cond := .codeWith yL_breakPages cL_breakPages 4 (some .int) [(0, 9, 12, 13), (0, 9, 15, 15)] :: UW
