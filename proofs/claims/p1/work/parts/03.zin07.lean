set_option maxRecDepth 20000 in
theorem wsX10_inL : ∀ w ∈ wsX10, w ∈ lw_tbl := fun w h => mem_rr (big := lw_tbl) wsX10 [390, 392, 394, 396, 398] rfl w h
set_option maxRecDepth 20000 in
theorem wsX00_inL : ∀ w ∈ wsX00, w ∈ lw_tbl := fun w h => mem_rr (big := lw_tbl) wsX00 [434, 436, 438, 440, 442, 444, 446] rfl w h
set_option maxRecDepth 20000 in
theorem wsX80_inL : ∀ w ∈ wsX80, w ∈ lw_tbl := fun w h => mem_rr (big := lw_tbl) wsX80 [461, 463, 465, 467, 469] rfl w h
set_option maxRecDepth 20000 in
theorem wsX90_inL : ∀ w ∈ wsX90, w ∈ lw_tbl := fun w h => mem_rr (big := lw_tbl) wsX90 [528, 530, 532, 534, 536] rfl w h
set_option maxRecDepth 20000 in
theorem wsX40_inL : ∀ w ∈ wsX40, w ∈ lw_tbl := fun w h => mem_rr (big := lw_tbl) wsX40 [962, 964, 966, 968, 970, 972, 974, 976, 978, 980, 982, 984, 986, 988] rfl w h
