set_option maxRecDepth 100000 in
theorem cl_Wt : rn_Cl 0 "WeightedTrees" T_Wt 7 ty_Wt := by
  refine ⟨rfl, fun x hx => ?_, by decide +kernel, by decide +kernel⟩
  obtain ⟨k, hk, rfl⟩ := List.mem_map.mp hx
  have hk := List.mem_range.mp hk
  rcases k with _ | k
  · exact (rn_in 194 rfl rfl)
  rcases k with _ | k
  · exact (rn_in 196 rfl rfl)
  rcases k with _ | k
  · exact (rn_in 198 rfl rfl)
  rcases k with _ | k
  · exact (rn_in 200 rfl rfl)
  rcases k with _ | k
  · exact (rn_in 202 rfl rfl)
  rcases k with _ | k
  · exact (rn_in 204 rfl rfl)
  rcases k with _ | k
  · exact (rn_in 206 rfl rfl)
  omega
set_option maxRecDepth 100000 in
theorem cl_Dr : rn_Cl 1 "WeightedTrees$Draft" T_Dr 2 ty_Dr := by
  refine ⟨rfl, fun x hx => ?_, by decide +kernel, by decide +kernel⟩
  obtain ⟨k, hk, rfl⟩ := List.mem_map.mp hx
  have hk := List.mem_range.mp hk
  rcases k with _ | k
  · exact (rn_in 36 rfl rfl)
  rcases k with _ | k
  · exact (rn_in 38 rfl rfl)
  omega
set_option maxRecDepth 100000 in
theorem cl_Ch : rn_Cl 2 "WeightedTrees$Chart" T_Ch 10 ty_Ch := by
  refine ⟨rfl, fun x hx => ?_, by decide +kernel, by decide +kernel⟩
  obtain ⟨k, hk, rfl⟩ := List.mem_map.mp hx
  have hk := List.mem_range.mp hk
  rcases k with _ | k
  · exact (rn_in 67 rfl rfl)
  rcases k with _ | k
  · exact (rn_in 69 rfl rfl)
  rcases k with _ | k
  · exact (rn_in 71 rfl rfl)
  rcases k with _ | k
  · exact (rn_in 73 rfl rfl)
  rcases k with _ | k
  · exact (rn_in 75 rfl rfl)
  rcases k with _ | k
  · exact (rn_in 77 rfl rfl)
  rcases k with _ | k
  · exact (rn_in 79 rfl rfl)
  rcases k with _ | k
  · exact (rn_in 81 rfl rfl)
  rcases k with _ | k
  · exact (rn_in 83 rfl rfl)
  rcases k with _ | k
  · exact (rn_in 85 rfl rfl)
  omega
set_option maxRecDepth 100000 in
theorem cl_Ut : rn_Cl 3 "WeightedTrees$UnitTable" T_Ut 1 ty_Ut := by
  refine ⟨rfl, fun x hx => ?_, by decide +kernel, by decide +kernel⟩
  obtain ⟨k, hk, rfl⟩ := List.mem_map.mp hx
  have hk := List.mem_range.mp hk
  rcases k with _ | k
  · exact (rn_in 97 rfl rfl)
  omega
set_option maxRecDepth 100000 in
theorem cl_Tl : rn_Cl 4 "WeightedTrees$TreeListing" T_Tl 5 ty_Tl := by
  refine ⟨rfl, fun x hx => ?_, by decide +kernel, by decide +kernel⟩
  obtain ⟨k, hk, rfl⟩ := List.mem_map.mp hx
  have hk := List.mem_range.mp hk
  rcases k with _ | k
  · exact (rn_in 115 rfl rfl)
  rcases k with _ | k
  · exact (rn_in 117 rfl rfl)
  rcases k with _ | k
  · exact (rn_in 119 rfl rfl)
  rcases k with _ | k
  · exact (rn_in 121 rfl rfl)
  rcases k with _ | k
  · exact (rn_in 123 rfl rfl)
  omega
set_option maxRecDepth 100000 in
theorem cl_Gr : rn_Cl 5 "WeightedTrees$Grammar" T_Gr 10 ty_Gr := by
  refine ⟨rfl, fun x hx => ?_, by decide +kernel, by decide +kernel⟩
  obtain ⟨k, hk, rfl⟩ := List.mem_map.mp hx
  have hk := List.mem_range.mp hk
  rcases k with _ | k
  · exact (rn_in 166 rfl rfl)
  rcases k with _ | k
  · exact (rn_in 168 rfl rfl)
  rcases k with _ | k
  · exact (rn_in 170 rfl rfl)
  rcases k with _ | k
  · exact (rn_in 172 rfl rfl)
  rcases k with _ | k
  · exact (rn_in 174 rfl rfl)
  rcases k with _ | k
  · exact (rn_in 176 rfl rfl)
  rcases k with _ | k
  · exact (rn_in 178 rfl rfl)
  rcases k with _ | k
  · exact (rn_in 180 rfl rfl)
  rcases k with _ | k
  · exact (rn_in 182 rfl rfl)
  rcases k with _ | k
  · exact (rn_in 184 rfl rfl)
  omega
set_option maxRecDepth 100000 in
theorem cl_Rd : rn_Cl 6 "WeightedTrees$GrammarReader" T_Rd 4 ty_Rd := by
  refine ⟨rfl, fun x hx => ?_, by decide +kernel, by decide +kernel⟩
  obtain ⟨k, hk, rfl⟩ := List.mem_map.mp hx
  have hk := List.mem_range.mp hk
  rcases k with _ | k
  · exact (rn_in 263 rfl rfl)
  rcases k with _ | k
  · exact (rn_in 265 rfl rfl)
  rcases k with _ | k
  · exact (rn_in 267 rfl rfl)
  rcases k with _ | k
  · exact (rn_in 269 rfl rfl)
  omega
set_option maxRecDepth 100000 in
theorem cl_Md : rn_Cl 7 "WeightedTreesModel" T_Md 35 ty_Md := by
  refine ⟨rfl, fun x hx => ?_, by decide +kernel, by decide +kernel⟩
  obtain ⟨k, hk, rfl⟩ := List.mem_map.mp hx
  have hk := List.mem_range.mp hk
  rcases k with _ | k
  · exact (rn_in 711 rfl rfl)
  rcases k with _ | k
  · exact (rn_in 713 rfl rfl)
  rcases k with _ | k
  · exact (rn_in 715 rfl rfl)
  rcases k with _ | k
  · exact (rn_in 717 rfl rfl)
  rcases k with _ | k
  · exact (rn_in 719 rfl rfl)
  rcases k with _ | k
  · exact (rn_in 721 rfl rfl)
  rcases k with _ | k
  · exact (rn_in 723 rfl rfl)
  rcases k with _ | k
  · exact (rn_in 725 rfl rfl)
  rcases k with _ | k
  · exact (rn_in 727 rfl rfl)
  rcases k with _ | k
  · exact (rn_in 729 rfl rfl)
  rcases k with _ | k
  · exact (rn_in 731 rfl rfl)
  rcases k with _ | k
  · exact (rn_in 733 rfl rfl)
  rcases k with _ | k
  · exact (rn_in 735 rfl rfl)
  rcases k with _ | k
  · exact (rn_in 737 rfl rfl)
  rcases k with _ | k
  · exact (rn_in 739 rfl rfl)
  rcases k with _ | k
  · exact (rn_in 741 rfl rfl)
  rcases k with _ | k
  · exact (rn_in 743 rfl rfl)
  rcases k with _ | k
  · exact (rn_in 745 rfl rfl)
  rcases k with _ | k
  · exact (rn_in 747 rfl rfl)
  rcases k with _ | k
  · exact (rn_in 749 rfl rfl)
  rcases k with _ | k
  · exact (rn_in 751 rfl rfl)
  rcases k with _ | k
  · exact (rn_in 753 rfl rfl)
  rcases k with _ | k
  · exact (rn_in 755 rfl rfl)
  rcases k with _ | k
  · exact (rn_in 757 rfl rfl)
  rcases k with _ | k
  · exact (rn_in 759 rfl rfl)
  rcases k with _ | k
  · exact (rn_in 761 rfl rfl)
  rcases k with _ | k
  · exact (rn_in 763 rfl rfl)
  rcases k with _ | k
  · exact (rn_in 765 rfl rfl)
  rcases k with _ | k
  · exact (rn_in 767 rfl rfl)
  rcases k with _ | k
  · exact (rn_in 769 rfl rfl)
  rcases k with _ | k
  · exact (rn_in 771 rfl rfl)
  rcases k with _ | k
  · exact (rn_in 773 rfl rfl)
  rcases k with _ | k
  · exact (rn_in 775 rfl rfl)
  rcases k with _ | k
  · exact (rn_in 777 rfl rfl)
  rcases k with _ | k
  · exact (rn_in 779 rfl rfl)
  omega
set_option maxRecDepth 100000 in
theorem fd_Wt_10 : rn_Fd "WeightedTrees" 10 0 0 true (.object "WeightedTrees$Draft") := ⟨_, _, _, _, cl_Wt, by decide, Or.inl (rn_in 187 rfl rfl), rfl, rfl⟩
set_option maxRecDepth 100000 in
theorem ff_Wt_10 : rn_Ff "WeightedTrees" 10 0 0 (.object "WeightedTrees$Draft") := ⟨_, _, _, _, cl_Wt, by decide, (rn_in 187 rfl rfl), rfl, rfl, rfl⟩
set_option maxRecDepth 100000 in
theorem fd_Wt_19 : rn_Fd "WeightedTrees" 19 0 1 true (.object "WeightedTrees$Chart") := ⟨_, _, _, _, cl_Wt, by decide, Or.inl (rn_in 188 rfl rfl), rfl, rfl⟩
set_option maxRecDepth 100000 in
theorem ff_Wt_19 : rn_Ff "WeightedTrees" 19 0 1 (.object "WeightedTrees$Chart") := ⟨_, _, _, _, cl_Wt, by decide, (rn_in 188 rfl rfl), rfl, rfl, rfl⟩
set_option maxRecDepth 100000 in
theorem fd_Wt_26 : rn_Fd "WeightedTrees" 26 0 2 true (.object "WeightedTrees$UnitTable") := ⟨_, _, _, _, cl_Wt, by decide, Or.inl (rn_in 189 rfl rfl), rfl, rfl⟩
set_option maxRecDepth 100000 in
theorem ff_Wt_26 : rn_Ff "WeightedTrees" 26 0 2 (.object "WeightedTrees$UnitTable") := ⟨_, _, _, _, cl_Wt, by decide, (rn_in 189 rfl rfl), rfl, rfl, rfl⟩
set_option maxRecDepth 100000 in
theorem fd_Wt_33 : rn_Fd "WeightedTrees" 33 0 3 true (.object "WeightedTrees$TreeListing") := ⟨_, _, _, _, cl_Wt, by decide, Or.inl (rn_in 190 rfl rfl), rfl, rfl⟩
set_option maxRecDepth 100000 in
theorem ff_Wt_33 : rn_Ff "WeightedTrees" 33 0 3 (.object "WeightedTrees$TreeListing") := ⟨_, _, _, _, cl_Wt, by decide, (rn_in 190 rfl rfl), rfl, rfl, rfl⟩
set_option maxRecDepth 100000 in
theorem fd_Wt_40 : rn_Fd "WeightedTrees" 40 0 4 false (.object "WeightedTrees$Grammar") := ⟨_, _, _, _, cl_Wt, by decide, Or.inl (rn_in 191 rfl rfl), rfl, rfl⟩
set_option maxRecDepth 100000 in
theorem fd_Wt_44 : rn_Fd "WeightedTrees" 44 0 5 false (.object "WeightedTrees$Grammar") := ⟨_, _, _, _, cl_Wt, by decide, Or.inl (rn_in 192 rfl rfl), rfl, rfl⟩
set_option maxRecDepth 100000 in
theorem fd_Wt_47 : rn_Fd "WeightedTrees" 47 0 6 false .int := ⟨_, _, _, _, cl_Wt, by decide, Or.inl (rn_in 193 rfl rfl), rfl, rfl⟩
set_option maxRecDepth 100000 in
theorem fd_Wt_86 : rn_Fd "WeightedTrees" 86 5 7 false .int := ⟨_, _, _, _, cl_Gr, by decide, Or.inl (rn_in 159 rfl rfl), rfl, rfl⟩
set_option maxRecDepth 100000 in
theorem fd_Wt_108 : rn_Fd "WeightedTrees" 108 2 6 false .int := ⟨_, _, _, _, cl_Ch, by decide, Or.inl (rn_in 63 rfl rfl), rfl, rfl⟩
set_option maxRecDepth 100000 in
theorem fd_Wt_115 : rn_Fd "WeightedTrees" 115 5 8 false .int := ⟨_, _, _, _, cl_Gr, by decide, Or.inl (rn_in 163 rfl rfl), rfl, rfl⟩
set_option maxRecDepth 100000 in
theorem fd_Wt_122 : rn_Fd "WeightedTrees" 122 5 5 true (.array .int) := ⟨_, _, _, _, cl_Gr, by decide, Or.inl (rn_in 152 rfl rfl), rfl, rfl⟩
set_option maxRecDepth 100000 in
theorem fd_Wt_131 : rn_Fd "WeightedTrees" 131 5 3 true (.array .long) := ⟨_, _, _, _, cl_Gr, by decide, Or.inl (rn_in 146 rfl rfl), rfl, rfl⟩
set_option maxRecDepth 100000 in
theorem fd_Wt_147 : rn_Fd "WeightedTrees" 147 2 0 true (.array .long) := ⟨_, _, _, _, cl_Ch, by decide, Or.inl (rn_in 53 rfl rfl), rfl, rfl⟩
set_option maxRecDepth 100000 in
theorem fd_Wt_154 : rn_Fd "WeightedTrees" 154 2 1 true (.array .int) := ⟨_, _, _, _, cl_Ch, by decide, Or.inl (rn_in 55 rfl rfl), rfl, rfl⟩
set_option maxRecDepth 100000 in
theorem fd_Wt_163 : rn_Fd "WeightedTrees" 163 4 4 false .int := ⟨_, _, _, _, cl_Tl, by decide, Or.inl (rn_in 114 rfl rfl), rfl, rfl⟩
set_option maxRecDepth 100000 in
theorem fd_Wt_171 : rn_Fd "WeightedTrees" 171 4 0 true (.array .int) := ⟨_, _, _, _, cl_Tl, by decide, Or.inl (rn_in 107 rfl rfl), rfl, rfl⟩
set_option maxRecDepth 100000 in
theorem fd_Wt_174 : rn_Fd "WeightedTrees" 174 4 1 true (.array .int) := ⟨_, _, _, _, cl_Tl, by decide, Or.inl (rn_in 109 rfl rfl), rfl, rfl⟩
set_option maxRecDepth 100000 in
theorem fd_Wt_177 : rn_Fd "WeightedTrees" 177 4 2 true (.array .int) := ⟨_, _, _, _, cl_Tl, by decide, Or.inl (rn_in 111 rfl rfl), rfl, rfl⟩
set_option maxRecDepth 100000 in
theorem fd_Ch_11 : rn_Fd "WeightedTrees$Chart" 11 2 0 true (.array .long) := ⟨_, _, _, _, cl_Ch, by decide, Or.inl (rn_in 52 rfl rfl), rfl, rfl⟩
set_option maxRecDepth 100000 in
theorem ff_Ch_11 : rn_Ff "WeightedTrees$Chart" 11 2 0 (.array .long) := ⟨_, _, _, _, cl_Ch, by decide, (rn_in 52 rfl rfl), rfl, rfl, rfl⟩
set_option maxRecDepth 100000 in
theorem fd_Ch_15 : rn_Fd "WeightedTrees$Chart" 15 2 1 true (.array .int) := ⟨_, _, _, _, cl_Ch, by decide, Or.inl (rn_in 54 rfl rfl), rfl, rfl⟩
set_option maxRecDepth 100000 in
theorem ff_Ch_15 : rn_Ff "WeightedTrees$Chart" 15 2 1 (.array .int) := ⟨_, _, _, _, cl_Ch, by decide, (rn_in 54 rfl rfl), rfl, rfl, rfl⟩
set_option maxRecDepth 100000 in
theorem fd_Ch_19 : rn_Fd "WeightedTrees$Chart" 19 2 2 true (.array .int) := ⟨_, _, _, _, cl_Ch, by decide, Or.inl (rn_in 56 rfl rfl), rfl, rfl⟩
set_option maxRecDepth 100000 in
theorem ff_Ch_19 : rn_Ff "WeightedTrees$Chart" 19 2 2 (.array .int) := ⟨_, _, _, _, cl_Ch, by decide, (rn_in 56 rfl rfl), rfl, rfl, rfl⟩
set_option maxRecDepth 100000 in
theorem fd_Ch_22 : rn_Fd "WeightedTrees$Chart" 22 2 3 true (.array .int) := ⟨_, _, _, _, cl_Ch, by decide, Or.inl (rn_in 58 rfl rfl), rfl, rfl⟩
set_option maxRecDepth 100000 in
theorem ff_Ch_22 : rn_Ff "WeightedTrees$Chart" 22 2 3 (.array .int) := ⟨_, _, _, _, cl_Ch, by decide, (rn_in 58 rfl rfl), rfl, rfl, rfl⟩
set_option maxRecDepth 100000 in
theorem fd_Ch_25 : rn_Fd "WeightedTrees$Chart" 25 2 4 true (.array .int) := ⟨_, _, _, _, cl_Ch, by decide, Or.inl (rn_in 60 rfl rfl), rfl, rfl⟩
set_option maxRecDepth 100000 in
theorem ff_Ch_25 : rn_Ff "WeightedTrees$Chart" 25 2 4 (.array .int) := ⟨_, _, _, _, cl_Ch, by decide, (rn_in 60 rfl rfl), rfl, rfl, rfl⟩
set_option maxRecDepth 100000 in
theorem fd_Ch_28 : rn_Fd "WeightedTrees$Chart" 28 2 5 true (.array .char) := ⟨_, _, _, _, cl_Ch, by decide, Or.inl (rn_in 61 rfl rfl), rfl, rfl⟩
set_option maxRecDepth 100000 in
theorem ff_Ch_28 : rn_Ff "WeightedTrees$Chart" 28 2 5 (.array .char) := ⟨_, _, _, _, cl_Ch, by decide, (rn_in 61 rfl rfl), rfl, rfl, rfl⟩
set_option maxRecDepth 100000 in
theorem fd_Ch_32 : rn_Fd "WeightedTrees$Chart" 32 2 6 false .int := ⟨_, _, _, _, cl_Ch, by decide, Or.inl (rn_in 62 rfl rfl), rfl, rfl⟩
set_option maxRecDepth 100000 in
theorem fd_Ch_38 : rn_Fd "WeightedTrees$Chart" 38 2 7 true (.array (.array .long)) := ⟨_, _, _, _, cl_Ch, by decide, Or.inl (rn_in 64 rfl rfl), rfl, rfl⟩
set_option maxRecDepth 100000 in
theorem ff_Ch_38 : rn_Ff "WeightedTrees$Chart" 38 2 7 (.array (.array .long)) := ⟨_, _, _, _, cl_Ch, by decide, (rn_in 64 rfl rfl), rfl, rfl, rfl⟩
set_option maxRecDepth 100000 in
theorem fd_Ch_43 : rn_Fd "WeightedTrees$Chart" 43 2 8 true (.array (.array .int)) := ⟨_, _, _, _, cl_Ch, by decide, Or.inl (rn_in 65 rfl rfl), rfl, rfl⟩
set_option maxRecDepth 100000 in
theorem ff_Ch_43 : rn_Ff "WeightedTrees$Chart" 43 2 8 (.array (.array .int)) := ⟨_, _, _, _, cl_Ch, by decide, (rn_in 65 rfl rfl), rfl, rfl, rfl⟩
set_option maxRecDepth 100000 in
theorem fd_Ch_46 : rn_Fd "WeightedTrees$Chart" 46 2 9 true (.array (.array .int)) := ⟨_, _, _, _, cl_Ch, by decide, Or.inl (rn_in 66 rfl rfl), rfl, rfl⟩
set_option maxRecDepth 100000 in
theorem ff_Ch_46 : rn_Ff "WeightedTrees$Chart" 46 2 9 (.array (.array .int)) := ⟨_, _, _, _, cl_Ch, by decide, (rn_in 66 rfl rfl), rfl, rfl, rfl⟩
set_option maxRecDepth 100000 in
theorem fd_Ch_53 : rn_Fd "WeightedTrees$Chart" 53 1 1 false .int := ⟨_, _, _, _, cl_Dr, by decide, Or.inl (rn_in 35 rfl rfl), rfl, rfl⟩
set_option maxRecDepth 100000 in
theorem fd_Ch_58 : rn_Fd "WeightedTrees$Chart" 58 1 0 true (.array .char) := ⟨_, _, _, _, cl_Dr, by decide, Or.inl (rn_in 32 rfl rfl), rfl, rfl⟩
set_option maxRecDepth 100000 in
theorem fd_Ch_65 : rn_Fd "WeightedTrees$Chart" 65 5 8 false .int := ⟨_, _, _, _, cl_Gr, by decide, Or.inl (rn_in 164 rfl rfl), rfl, rfl⟩
set_option maxRecDepth 100000 in
theorem fd_Ch_70 : rn_Fd "WeightedTrees$Chart" 70 5 7 false .int := ⟨_, _, _, _, cl_Gr, by decide, Or.inl (rn_in 160 rfl rfl), rfl, rfl⟩
set_option maxRecDepth 100000 in
theorem fd_Ch_73 : rn_Fd "WeightedTrees$Chart" 73 5 0 true (.array .int) := ⟨_, _, _, _, cl_Gr, by decide, Or.inl (rn_in 135 rfl rfl), rfl, rfl⟩
set_option maxRecDepth 100000 in
theorem fd_Ch_76 : rn_Fd "WeightedTrees$Chart" 76 5 6 true (.array .int) := ⟨_, _, _, _, cl_Gr, by decide, Or.inl (rn_in 155 rfl rfl), rfl, rfl⟩
set_option maxRecDepth 100000 in
theorem fd_Ch_86 : rn_Fd "WeightedTrees$Chart" 86 5 3 true (.array .long) := ⟨_, _, _, _, cl_Gr, by decide, Or.inl (rn_in 147 rfl rfl), rfl, rfl⟩
set_option maxRecDepth 100000 in
theorem fd_Ch_89 : rn_Fd "WeightedTrees$Chart" 89 5 4 true (.array .int) := ⟨_, _, _, _, cl_Gr, by decide, Or.inl (rn_in 150 rfl rfl), rfl, rfl⟩
set_option maxRecDepth 100000 in
theorem fd_Ch_93 : rn_Fd "WeightedTrees$Chart" 93 5 2 true (.array .int) := ⟨_, _, _, _, cl_Gr, by decide, Or.inl (rn_in 142 rfl rfl), rfl, rfl⟩
set_option maxRecDepth 100000 in
theorem fd_Dr_9 : rn_Fd "WeightedTrees$Draft" 9 1 0 true (.array .char) := ⟨_, _, _, _, cl_Dr, by decide, Or.inl (rn_in 31 rfl rfl), rfl, rfl⟩
set_option maxRecDepth 100000 in
theorem ff_Dr_9 : rn_Ff "WeightedTrees$Draft" 9 1 0 (.array .char) := ⟨_, _, _, _, cl_Dr, by decide, (rn_in 31 rfl rfl), rfl, rfl, rfl⟩
set_option maxRecDepth 100000 in
theorem fd_Dr_15 : rn_Fd "WeightedTrees$Draft" 15 1 1 false .int := ⟨_, _, _, _, cl_Dr, by decide, Or.inl (rn_in 34 rfl rfl), rfl, rfl⟩
set_option maxRecDepth 100000 in
theorem fd_Gr_9 : rn_Fd "WeightedTrees$Grammar" 9 5 0 true (.array .int) := ⟨_, _, _, _, cl_Gr, by decide, Or.inl (rn_in 132 rfl rfl), rfl, rfl⟩
set_option maxRecDepth 100000 in
theorem ff_Gr_9 : rn_Ff "WeightedTrees$Grammar" 9 5 0 (.array .int) := ⟨_, _, _, _, cl_Gr, by decide, (rn_in 132 rfl rfl), rfl, rfl, rfl⟩
set_option maxRecDepth 100000 in
theorem fd_Gr_15 : rn_Fd "WeightedTrees$Grammar" 15 5 1 true (.array .int) := ⟨_, _, _, _, cl_Gr, by decide, Or.inl (rn_in 136 rfl rfl), rfl, rfl⟩
set_option maxRecDepth 100000 in
theorem ff_Gr_15 : rn_Ff "WeightedTrees$Grammar" 15 5 1 (.array .int) := ⟨_, _, _, _, cl_Gr, by decide, (rn_in 136 rfl rfl), rfl, rfl, rfl⟩
set_option maxRecDepth 100000 in
theorem fd_Gr_18 : rn_Fd "WeightedTrees$Grammar" 18 5 2 true (.array .int) := ⟨_, _, _, _, cl_Gr, by decide, Or.inl (rn_in 138 rfl rfl), rfl, rfl⟩
set_option maxRecDepth 100000 in
theorem ff_Gr_18 : rn_Ff "WeightedTrees$Grammar" 18 5 2 (.array .int) := ⟨_, _, _, _, cl_Gr, by decide, (rn_in 138 rfl rfl), rfl, rfl, rfl⟩
set_option maxRecDepth 100000 in
theorem fd_Gr_21 : rn_Fd "WeightedTrees$Grammar" 21 5 3 true (.array .long) := ⟨_, _, _, _, cl_Gr, by decide, Or.inl (rn_in 143 rfl rfl), rfl, rfl⟩
set_option maxRecDepth 100000 in
theorem ff_Gr_21 : rn_Ff "WeightedTrees$Grammar" 21 5 3 (.array .long) := ⟨_, _, _, _, cl_Gr, by decide, (rn_in 143 rfl rfl), rfl, rfl, rfl⟩
set_option maxRecDepth 100000 in
theorem fd_Gr_25 : rn_Fd "WeightedTrees$Grammar" 25 5 4 true (.array .int) := ⟨_, _, _, _, cl_Gr, by decide, Or.inl (rn_in 148 rfl rfl), rfl, rfl⟩
set_option maxRecDepth 100000 in
theorem ff_Gr_25 : rn_Ff "WeightedTrees$Grammar" 25 5 4 (.array .int) := ⟨_, _, _, _, cl_Gr, by decide, (rn_in 148 rfl rfl), rfl, rfl, rfl⟩
set_option maxRecDepth 100000 in
theorem fd_Gr_28 : rn_Fd "WeightedTrees$Grammar" 28 5 5 true (.array .int) := ⟨_, _, _, _, cl_Gr, by decide, Or.inl (rn_in 151 rfl rfl), rfl, rfl⟩
set_option maxRecDepth 100000 in
theorem ff_Gr_28 : rn_Ff "WeightedTrees$Grammar" 28 5 5 (.array .int) := ⟨_, _, _, _, cl_Gr, by decide, (rn_in 151 rfl rfl), rfl, rfl, rfl⟩
set_option maxRecDepth 100000 in
theorem fd_Gr_31 : rn_Fd "WeightedTrees$Grammar" 31 5 6 true (.array .int) := ⟨_, _, _, _, cl_Gr, by decide, Or.inl (rn_in 153 rfl rfl), rfl, rfl⟩
set_option maxRecDepth 100000 in
theorem ff_Gr_31 : rn_Ff "WeightedTrees$Grammar" 31 5 6 (.array .int) := ⟨_, _, _, _, cl_Gr, by decide, (rn_in 153 rfl rfl), rfl, rfl, rfl⟩
set_option maxRecDepth 100000 in
theorem fd_Gr_34 : rn_Fd "WeightedTrees$Grammar" 34 5 7 false .int := ⟨_, _, _, _, cl_Gr, by decide, Or.inl (rn_in 156 rfl rfl), rfl, rfl⟩
set_option maxRecDepth 100000 in
theorem fd_Gr_38 : rn_Fd "WeightedTrees$Grammar" 38 5 8 false .int := ⟨_, _, _, _, cl_Gr, by decide, Or.inl (rn_in 161 rfl rfl), rfl, rfl⟩
set_option maxRecDepth 100000 in
theorem fd_Gr_41 : rn_Fd "WeightedTrees$Grammar" 41 5 9 true (.array .int) := ⟨_, _, _, _, cl_Gr, by decide, Or.inl (rn_in 165 rfl rfl), rfl, rfl⟩
set_option maxRecDepth 100000 in
theorem ff_Gr_41 : rn_Ff "WeightedTrees$Grammar" 41 5 9 (.array .int) := ⟨_, _, _, _, cl_Gr, by decide, (rn_in 165 rfl rfl), rfl, rfl, rfl⟩
set_option maxRecDepth 100000 in
theorem fd_Rd_9 : rn_Fd "WeightedTrees$GrammarReader" 9 6 0 true (.object "WeightedTrees$Draft") := ⟨_, _, _, _, cl_Rd, by decide, Or.inl (rn_in 259 rfl rfl), rfl, rfl⟩
set_option maxRecDepth 100000 in
theorem ff_Rd_9 : rn_Ff "WeightedTrees$GrammarReader" 9 6 0 (.object "WeightedTrees$Draft") := ⟨_, _, _, _, cl_Rd, by decide, (rn_in 259 rfl rfl), rfl, rfl, rfl⟩
set_option maxRecDepth 100000 in
theorem fd_Rd_15 : rn_Fd "WeightedTrees$GrammarReader" 15 6 1 true (.object "WeightedTrees$Grammar") := ⟨_, _, _, _, cl_Rd, by decide, Or.inl (rn_in 260 rfl rfl), rfl, rfl⟩
set_option maxRecDepth 100000 in
theorem ff_Rd_15 : rn_Ff "WeightedTrees$GrammarReader" 15 6 1 (.object "WeightedTrees$Grammar") := ⟨_, _, _, _, cl_Rd, by decide, (rn_in 260 rfl rfl), rfl, rfl, rfl⟩
set_option maxRecDepth 100000 in
theorem fd_Rd_19 : rn_Fd "WeightedTrees$GrammarReader" 19 6 2 false .int := ⟨_, _, _, _, cl_Rd, by decide, Or.inl (rn_in 261 rfl rfl), rfl, rfl⟩
set_option maxRecDepth 100000 in
theorem fd_Rd_23 : rn_Fd "WeightedTrees$GrammarReader" 23 6 3 false .int := ⟨_, _, _, _, cl_Rd, by decide, Or.inl (rn_in 262 rfl rfl), rfl, rfl⟩
set_option maxRecDepth 100000 in
theorem fd_Rd_48 : rn_Fd "WeightedTrees$GrammarReader" 48 5 7 false .int := ⟨_, _, _, _, cl_Gr, by decide, Or.inl (rn_in 157 rfl rfl), rfl, rfl⟩
set_option maxRecDepth 100000 in
theorem fd_Rd_77 : rn_Fd "WeightedTrees$GrammarReader" 77 5 0 true (.array .int) := ⟨_, _, _, _, cl_Gr, by decide, Or.inl (rn_in 134 rfl rfl), rfl, rfl⟩
set_option maxRecDepth 100000 in
theorem fd_Rd_87 : rn_Fd "WeightedTrees$GrammarReader" 87 5 1 true (.array .int) := ⟨_, _, _, _, cl_Gr, by decide, Or.inl (rn_in 137 rfl rfl), rfl, rfl⟩
set_option maxRecDepth 100000 in
theorem fd_Rd_90 : rn_Fd "WeightedTrees$GrammarReader" 90 5 2 true (.array .int) := ⟨_, _, _, _, cl_Gr, by decide, Or.inl (rn_in 141 rfl rfl), rfl, rfl⟩
set_option maxRecDepth 100000 in
theorem fd_Rd_99 : rn_Fd "WeightedTrees$GrammarReader" 99 5 3 true (.array .long) := ⟨_, _, _, _, cl_Gr, by decide, Or.inl (rn_in 145 rfl rfl), rfl, rfl⟩
set_option maxRecDepth 100000 in
theorem fd_Rd_107 : rn_Fd "WeightedTrees$GrammarReader" 107 5 4 true (.array .int) := ⟨_, _, _, _, cl_Gr, by decide, Or.inl (rn_in 149 rfl rfl), rfl, rfl⟩
set_option maxRecDepth 100000 in
theorem fd_Rd_112 : rn_Fd "WeightedTrees$GrammarReader" 112 1 0 true (.array .char) := ⟨_, _, _, _, cl_Dr, by decide, Or.inl (rn_in 33 rfl rfl), rfl, rfl⟩
set_option maxRecDepth 100000 in
theorem fd_Tl_9 : rn_Fd "WeightedTrees$TreeListing" 9 4 0 true (.array .int) := ⟨_, _, _, _, cl_Tl, by decide, Or.inl (rn_in 106 rfl rfl), rfl, rfl⟩
set_option maxRecDepth 100000 in
theorem ff_Tl_9 : rn_Ff "WeightedTrees$TreeListing" 9 4 0 (.array .int) := ⟨_, _, _, _, cl_Tl, by decide, (rn_in 106 rfl rfl), rfl, rfl, rfl⟩
set_option maxRecDepth 100000 in
theorem fd_Tl_15 : rn_Fd "WeightedTrees$TreeListing" 15 4 1 true (.array .int) := ⟨_, _, _, _, cl_Tl, by decide, Or.inl (rn_in 108 rfl rfl), rfl, rfl⟩
set_option maxRecDepth 100000 in
theorem ff_Tl_15 : rn_Ff "WeightedTrees$TreeListing" 15 4 1 (.array .int) := ⟨_, _, _, _, cl_Tl, by decide, (rn_in 108 rfl rfl), rfl, rfl, rfl⟩
set_option maxRecDepth 100000 in
theorem fd_Tl_18 : rn_Fd "WeightedTrees$TreeListing" 18 4 2 true (.array .int) := ⟨_, _, _, _, cl_Tl, by decide, Or.inl (rn_in 110 rfl rfl), rfl, rfl⟩
set_option maxRecDepth 100000 in
theorem ff_Tl_18 : rn_Ff "WeightedTrees$TreeListing" 18 4 2 (.array .int) := ⟨_, _, _, _, cl_Tl, by decide, (rn_in 110 rfl rfl), rfl, rfl, rfl⟩
set_option maxRecDepth 100000 in
theorem fd_Tl_21 : rn_Fd "WeightedTrees$TreeListing" 21 4 3 true (.array .int) := ⟨_, _, _, _, cl_Tl, by decide, Or.inl (rn_in 112 rfl rfl), rfl, rfl⟩
set_option maxRecDepth 100000 in
theorem ff_Tl_21 : rn_Ff "WeightedTrees$TreeListing" 21 4 3 (.array .int) := ⟨_, _, _, _, cl_Tl, by decide, (rn_in 112 rfl rfl), rfl, rfl, rfl⟩
set_option maxRecDepth 100000 in
theorem fd_Tl_24 : rn_Fd "WeightedTrees$TreeListing" 24 4 4 false .int := ⟨_, _, _, _, cl_Tl, by decide, Or.inl (rn_in 113 rfl rfl), rfl, rfl⟩
set_option maxRecDepth 100000 in
theorem fd_Tl_34 : rn_Fd "WeightedTrees$TreeListing" 34 2 3 true (.array .int) := ⟨_, _, _, _, cl_Ch, by decide, Or.inl (rn_in 59 rfl rfl), rfl, rfl⟩
set_option maxRecDepth 100000 in
theorem fd_Tl_55 : rn_Fd "WeightedTrees$TreeListing" 55 2 2 true (.array .int) := ⟨_, _, _, _, cl_Ch, by decide, Or.inl (rn_in 57 rfl rfl), rfl, rfl⟩
set_option maxRecDepth 100000 in
theorem fd_Tl_56 : rn_Fd "WeightedTrees$TreeListing" 56 5 2 true (.array .int) := ⟨_, _, _, _, cl_Gr, by decide, Or.inl (rn_in 140 rfl rfl), rfl, rfl⟩
set_option maxRecDepth 100000 in
theorem fd_Ut_9 : rn_Fd "WeightedTrees$UnitTable" 9 3 0 true (.array .long) := ⟨_, _, _, _, cl_Ut, by decide, Or.inl (rn_in 96 rfl rfl), rfl, rfl⟩
set_option maxRecDepth 100000 in
theorem ff_Ut_9 : rn_Ff "WeightedTrees$UnitTable" 9 3 0 (.array .long) := ⟨_, _, _, _, cl_Ut, by decide, (rn_in 96 rfl rfl), rfl, rfl, rfl⟩
set_option maxRecDepth 100000 in
theorem fd_Ut_15 : rn_Fd "WeightedTrees$UnitTable" 15 5 8 false .int := ⟨_, _, _, _, cl_Gr, by decide, Or.inl (rn_in 162 rfl rfl), rfl, rfl⟩
set_option maxRecDepth 100000 in
theorem fd_Ut_21 : rn_Fd "WeightedTrees$UnitTable" 21 5 6 true (.array .int) := ⟨_, _, _, _, cl_Gr, by decide, Or.inl (rn_in 154 rfl rfl), rfl, rfl⟩
set_option maxRecDepth 100000 in
theorem fd_Ut_25 : rn_Fd "WeightedTrees$UnitTable" 25 5 7 false .int := ⟨_, _, _, _, cl_Gr, by decide, Or.inl (rn_in 158 rfl rfl), rfl, rfl⟩
set_option maxRecDepth 100000 in
theorem fd_Ut_28 : rn_Fd "WeightedTrees$UnitTable" 28 5 0 true (.array .int) := ⟨_, _, _, _, cl_Gr, by decide, Or.inl (rn_in 133 rfl rfl), rfl, rfl⟩
set_option maxRecDepth 100000 in
theorem fd_Ut_35 : rn_Fd "WeightedTrees$UnitTable" 35 5 2 true (.array .int) := ⟨_, _, _, _, cl_Gr, by decide, Or.inl (rn_in 139 rfl rfl), rfl, rfl⟩
set_option maxRecDepth 100000 in
theorem fd_Ut_46 : rn_Fd "WeightedTrees$UnitTable" 46 5 3 true (.array .long) := ⟨_, _, _, _, cl_Gr, by decide, Or.inl (rn_in 144 rfl rfl), rfl, rfl⟩
set_option maxRecDepth 100000 in
theorem fd_Md_7 : rn_Fd "WeightedTreesModel" 7 7 1 true (.array .int) := ⟨_, _, _, _, cl_Md, by decide, Or.inl (rn_in 677 rfl rfl), rfl, rfl⟩
set_option maxRecDepth 100000 in
theorem ff_Md_7 : rn_Ff "WeightedTreesModel" 7 7 1 (.array .int) := ⟨_, _, _, _, cl_Md, by decide, (rn_in 677 rfl rfl), rfl, rfl, rfl⟩
set_option maxRecDepth 100000 in
theorem fd_Md_13 : rn_Fd "WeightedTreesModel" 13 7 3 true (.array .int) := ⟨_, _, _, _, cl_Md, by decide, Or.inl (rn_in 679 rfl rfl), rfl, rfl⟩
set_option maxRecDepth 100000 in
theorem ff_Md_13 : rn_Ff "WeightedTreesModel" 13 7 3 (.array .int) := ⟨_, _, _, _, cl_Md, by decide, (rn_in 679 rfl rfl), rfl, rfl, rfl⟩
set_option maxRecDepth 100000 in
theorem fd_Md_16 : rn_Fd "WeightedTreesModel" 16 7 4 true (.array .int) := ⟨_, _, _, _, cl_Md, by decide, Or.inl (rn_in 680 rfl rfl), rfl, rfl⟩
set_option maxRecDepth 100000 in
theorem ff_Md_16 : rn_Ff "WeightedTreesModel" 16 7 4 (.array .int) := ⟨_, _, _, _, cl_Md, by decide, (rn_in 680 rfl rfl), rfl, rfl, rfl⟩
set_option maxRecDepth 100000 in
theorem fd_Md_19 : rn_Fd "WeightedTreesModel" 19 7 9 true (.array .int) := ⟨_, _, _, _, cl_Md, by decide, Or.inl (rn_in 685 rfl rfl), rfl, rfl⟩
set_option maxRecDepth 100000 in
theorem ff_Md_19 : rn_Ff "WeightedTreesModel" 19 7 9 (.array .int) := ⟨_, _, _, _, cl_Md, by decide, (rn_in 685 rfl rfl), rfl, rfl, rfl⟩
set_option maxRecDepth 100000 in
theorem fd_Md_22 : rn_Fd "WeightedTreesModel" 22 7 10 true (.array .int) := ⟨_, _, _, _, cl_Md, by decide, Or.inl (rn_in 686 rfl rfl), rfl, rfl⟩
set_option maxRecDepth 100000 in
theorem ff_Md_22 : rn_Ff "WeightedTreesModel" 22 7 10 (.array .int) := ⟨_, _, _, _, cl_Md, by decide, (rn_in 686 rfl rfl), rfl, rfl, rfl⟩
set_option maxRecDepth 100000 in
theorem fd_Md_25 : rn_Fd "WeightedTreesModel" 25 7 11 true (.array .int) := ⟨_, _, _, _, cl_Md, by decide, Or.inl (rn_in 687 rfl rfl), rfl, rfl⟩
set_option maxRecDepth 100000 in
theorem ff_Md_25 : rn_Ff "WeightedTreesModel" 25 7 11 (.array .int) := ⟨_, _, _, _, cl_Md, by decide, (rn_in 687 rfl rfl), rfl, rfl, rfl⟩
set_option maxRecDepth 100000 in
theorem fd_Md_28 : rn_Fd "WeightedTreesModel" 28 7 12 true (.array .long) := ⟨_, _, _, _, cl_Md, by decide, Or.inl (rn_in 688 rfl rfl), rfl, rfl⟩
set_option maxRecDepth 100000 in
theorem ff_Md_28 : rn_Ff "WeightedTreesModel" 28 7 12 (.array .long) := ⟨_, _, _, _, cl_Md, by decide, (rn_in 688 rfl rfl), rfl, rfl, rfl⟩
set_option maxRecDepth 100000 in
theorem fd_Md_32 : rn_Fd "WeightedTreesModel" 32 7 13 true (.array .int) := ⟨_, _, _, _, cl_Md, by decide, Or.inl (rn_in 689 rfl rfl), rfl, rfl⟩
set_option maxRecDepth 100000 in
theorem ff_Md_32 : rn_Ff "WeightedTreesModel" 32 7 13 (.array .int) := ⟨_, _, _, _, cl_Md, by decide, (rn_in 689 rfl rfl), rfl, rfl, rfl⟩
set_option maxRecDepth 100000 in
theorem fd_Md_35 : rn_Fd "WeightedTreesModel" 35 7 15 true (.array .int) := ⟨_, _, _, _, cl_Md, by decide, Or.inl (rn_in 691 rfl rfl), rfl, rfl⟩
set_option maxRecDepth 100000 in
theorem ff_Md_35 : rn_Ff "WeightedTreesModel" 35 7 15 (.array .int) := ⟨_, _, _, _, cl_Md, by decide, (rn_in 691 rfl rfl), rfl, rfl, rfl⟩
set_option maxRecDepth 100000 in
theorem fd_Md_38 : rn_Fd "WeightedTreesModel" 38 7 18 true (.array .int) := ⟨_, _, _, _, cl_Md, by decide, Or.inl (rn_in 694 rfl rfl), rfl, rfl⟩
set_option maxRecDepth 100000 in
theorem ff_Md_38 : rn_Ff "WeightedTreesModel" 38 7 18 (.array .int) := ⟨_, _, _, _, cl_Md, by decide, (rn_in 694 rfl rfl), rfl, rfl, rfl⟩
set_option maxRecDepth 100000 in
theorem fd_Md_41 : rn_Fd "WeightedTreesModel" 41 7 19 true (.array .long) := ⟨_, _, _, _, cl_Md, by decide, Or.inl (rn_in 695 rfl rfl), rfl, rfl⟩
set_option maxRecDepth 100000 in
theorem ff_Md_41 : rn_Ff "WeightedTreesModel" 41 7 19 (.array .long) := ⟨_, _, _, _, cl_Md, by decide, (rn_in 695 rfl rfl), rfl, rfl, rfl⟩
set_option maxRecDepth 100000 in
theorem fd_Md_44 : rn_Fd "WeightedTreesModel" 44 7 20 true (.array .int) := ⟨_, _, _, _, cl_Md, by decide, Or.inl (rn_in 696 rfl rfl), rfl, rfl⟩
set_option maxRecDepth 100000 in
theorem ff_Md_44 : rn_Ff "WeightedTreesModel" 44 7 20 (.array .int) := ⟨_, _, _, _, cl_Md, by decide, (rn_in 696 rfl rfl), rfl, rfl, rfl⟩
set_option maxRecDepth 100000 in
theorem fd_Md_47 : rn_Fd "WeightedTreesModel" 47 7 21 true (.array .long) := ⟨_, _, _, _, cl_Md, by decide, Or.inl (rn_in 697 rfl rfl), rfl, rfl⟩
set_option maxRecDepth 100000 in
theorem ff_Md_47 : rn_Ff "WeightedTreesModel" 47 7 21 (.array .long) := ⟨_, _, _, _, cl_Md, by decide, (rn_in 697 rfl rfl), rfl, rfl, rfl⟩
set_option maxRecDepth 100000 in
theorem fd_Md_50 : rn_Fd "WeightedTreesModel" 50 7 22 true (.array .int) := ⟨_, _, _, _, cl_Md, by decide, Or.inl (rn_in 698 rfl rfl), rfl, rfl⟩
set_option maxRecDepth 100000 in
theorem ff_Md_50 : rn_Ff "WeightedTreesModel" 50 7 22 (.array .int) := ⟨_, _, _, _, cl_Md, by decide, (rn_in 698 rfl rfl), rfl, rfl, rfl⟩
set_option maxRecDepth 100000 in
theorem fd_Md_53 : rn_Fd "WeightedTreesModel" 53 7 23 true (.array .long) := ⟨_, _, _, _, cl_Md, by decide, Or.inl (rn_in 699 rfl rfl), rfl, rfl⟩
set_option maxRecDepth 100000 in
theorem ff_Md_53 : rn_Ff "WeightedTreesModel" 53 7 23 (.array .long) := ⟨_, _, _, _, cl_Md, by decide, (rn_in 699 rfl rfl), rfl, rfl, rfl⟩
set_option maxRecDepth 100000 in
theorem fd_Md_56 : rn_Fd "WeightedTreesModel" 56 7 24 true (.array .long) := ⟨_, _, _, _, cl_Md, by decide, Or.inl (rn_in 700 rfl rfl), rfl, rfl⟩
set_option maxRecDepth 100000 in
theorem ff_Md_56 : rn_Ff "WeightedTreesModel" 56 7 24 (.array .long) := ⟨_, _, _, _, cl_Md, by decide, (rn_in 700 rfl rfl), rfl, rfl, rfl⟩
set_option maxRecDepth 100000 in
theorem fd_Md_59 : rn_Fd "WeightedTreesModel" 59 7 25 true (.array .long) := ⟨_, _, _, _, cl_Md, by decide, Or.inl (rn_in 701 rfl rfl), rfl, rfl⟩
set_option maxRecDepth 100000 in
theorem ff_Md_59 : rn_Ff "WeightedTreesModel" 59 7 25 (.array .long) := ⟨_, _, _, _, cl_Md, by decide, (rn_in 701 rfl rfl), rfl, rfl, rfl⟩
set_option maxRecDepth 100000 in
theorem fd_Md_62 : rn_Fd "WeightedTreesModel" 62 7 26 true (.array .int) := ⟨_, _, _, _, cl_Md, by decide, Or.inl (rn_in 702 rfl rfl), rfl, rfl⟩
set_option maxRecDepth 100000 in
theorem ff_Md_62 : rn_Ff "WeightedTreesModel" 62 7 26 (.array .int) := ⟨_, _, _, _, cl_Md, by decide, (rn_in 702 rfl rfl), rfl, rfl, rfl⟩
set_option maxRecDepth 100000 in
theorem fd_Md_65 : rn_Fd "WeightedTreesModel" 65 7 28 true (.array .int) := ⟨_, _, _, _, cl_Md, by decide, Or.inl (rn_in 704 rfl rfl), rfl, rfl⟩
set_option maxRecDepth 100000 in
theorem ff_Md_65 : rn_Ff "WeightedTreesModel" 65 7 28 (.array .int) := ⟨_, _, _, _, cl_Md, by decide, (rn_in 704 rfl rfl), rfl, rfl, rfl⟩
set_option maxRecDepth 100000 in
theorem fd_Md_68 : rn_Fd "WeightedTreesModel" 68 7 29 true (.array .int) := ⟨_, _, _, _, cl_Md, by decide, Or.inl (rn_in 705 rfl rfl), rfl, rfl⟩
set_option maxRecDepth 100000 in
theorem ff_Md_68 : rn_Ff "WeightedTreesModel" 68 7 29 (.array .int) := ⟨_, _, _, _, cl_Md, by decide, (rn_in 705 rfl rfl), rfl, rfl, rfl⟩
set_option maxRecDepth 100000 in
theorem fd_Md_71 : rn_Fd "WeightedTreesModel" 71 7 30 true (.array .int) := ⟨_, _, _, _, cl_Md, by decide, Or.inl (rn_in 706 rfl rfl), rfl, rfl⟩
set_option maxRecDepth 100000 in
theorem ff_Md_71 : rn_Ff "WeightedTreesModel" 71 7 30 (.array .int) := ⟨_, _, _, _, cl_Md, by decide, (rn_in 706 rfl rfl), rfl, rfl, rfl⟩
set_option maxRecDepth 100000 in
theorem fd_Md_74 : rn_Fd "WeightedTreesModel" 74 7 31 true (.array .int) := ⟨_, _, _, _, cl_Md, by decide, Or.inl (rn_in 707 rfl rfl), rfl, rfl⟩
set_option maxRecDepth 100000 in
theorem ff_Md_74 : rn_Ff "WeightedTreesModel" 74 7 31 (.array .int) := ⟨_, _, _, _, cl_Md, by decide, (rn_in 707 rfl rfl), rfl, rfl, rfl⟩
set_option maxRecDepth 100000 in
theorem fd_Md_77 : rn_Fd "WeightedTreesModel" 77 7 0 false .int := ⟨_, _, _, _, cl_Md, by decide, Or.inl (rn_in 676 rfl rfl), rfl, rfl⟩
set_option maxRecDepth 100000 in
theorem fd_Md_81 : rn_Fd "WeightedTreesModel" 81 7 2 false .int := ⟨_, _, _, _, cl_Md, by decide, Or.inl (rn_in 678 rfl rfl), rfl, rfl⟩
set_option maxRecDepth 100000 in
theorem fd_Md_86 : rn_Fd "WeightedTreesModel" 86 7 32 false .int := ⟨_, _, _, _, cl_Md, by decide, Or.inl (rn_in 708 rfl rfl), rfl, rfl⟩
set_option maxRecDepth 100000 in
theorem fd_Md_89 : rn_Fd "WeightedTreesModel" 89 7 33 false .int := ⟨_, _, _, _, cl_Md, by decide, Or.inl (rn_in 709 rfl rfl), rfl, rfl⟩
set_option maxRecDepth 100000 in
theorem fd_Md_92 : rn_Fd "WeightedTreesModel" 92 7 34 false .int := ⟨_, _, _, _, cl_Md, by decide, Or.inl (rn_in 710 rfl rfl), rfl, rfl⟩
set_option maxRecDepth 100000 in
theorem fd_Md_99 : rn_Fd "WeightedTreesModel" 99 7 14 false .int := ⟨_, _, _, _, cl_Md, by decide, Or.inl (rn_in 690 rfl rfl), rfl, rfl⟩
set_option maxRecDepth 100000 in
theorem fd_Md_115 : rn_Fd "WeightedTreesModel" 115 7 8 false .int := ⟨_, _, _, _, cl_Md, by decide, Or.inl (rn_in 684 rfl rfl), rfl, rfl⟩
set_option maxRecDepth 100000 in
theorem fd_Md_165 : rn_Fd "WeightedTreesModel" 165 7 5 false .int := ⟨_, _, _, _, cl_Md, by decide, Or.inl (rn_in 681 rfl rfl), rfl, rfl⟩
set_option maxRecDepth 100000 in
theorem fd_Md_168 : rn_Fd "WeightedTreesModel" 168 7 6 false .boolean := ⟨_, _, _, _, cl_Md, by decide, Or.inl (rn_in 682 rfl rfl), rfl, rfl⟩
set_option maxRecDepth 100000 in
theorem fd_Md_172 : rn_Fd "WeightedTreesModel" 172 7 16 false .boolean := ⟨_, _, _, _, cl_Md, by decide, Or.inl (rn_in 692 rfl rfl), rfl, rfl⟩
set_option maxRecDepth 100000 in
theorem fd_Md_175 : rn_Fd "WeightedTreesModel" 175 7 27 false .int := ⟨_, _, _, _, cl_Md, by decide, Or.inl (rn_in 703 rfl rfl), rfl, rfl⟩
set_option maxRecDepth 100000 in
theorem fd_Md_178 : rn_Fd "WeightedTreesModel" 178 7 7 false .int := ⟨_, _, _, _, cl_Md, by decide, Or.inl (rn_in 683 rfl rfl), rfl, rfl⟩
set_option maxRecDepth 100000 in
theorem fd_Md_198 : rn_Fd "WeightedTreesModel" 198 7 17 false .int := ⟨_, _, _, _, cl_Md, by decide, Or.inl (rn_in 693 rfl rfl), rfl, rfl⟩
set_option maxRecDepth 100000 in
theorem iv_Wt_51 : rn_IV "WeightedTrees" 51 M_Dr_append 2 1 := ⟨⟨(rn_in 216 rfl rfl), (rn_in 2 rfl rfl), by decide, by decide +kernel⟩, (Or.inl (rn_in 213 rfl rfl)), (rn_in 214 rfl rfl), (rn_in 215 rfl rfl), _, rfl, rfl⟩
set_option maxRecDepth 100000 in
theorem iv_Wt_55 : rn_IV "WeightedTrees" 55 M_Dr_clear 0 1 := ⟨⟨(rn_in 231 rfl rfl), (rn_in 2 rfl rfl), by decide, by decide +kernel⟩, (Or.inl (rn_in 228 rfl rfl)), (rn_in 229 rfl rfl), (rn_in 230 rfl rfl), _, rfl, rfl⟩
set_option maxRecDepth 100000 in
theorem iv_Wt_63 : rn_IV "WeightedTrees" 63 M_Rd_firstWrongLine 0 6 := ⟨⟨(rn_in 275 rfl rfl), (rn_in 8 rfl rfl), by decide, by decide +kernel⟩, (Or.inl (rn_in 272 rfl rfl)), (rn_in 273 rfl rfl), (rn_in 274 rfl rfl), _, rfl, rfl⟩
set_option maxRecDepth 100000 in
theorem iv_Wt_74 : rn_IV "WeightedTrees" 74 M_Gr_findOrder 0 5 := ⟨⟨(rn_in 417 rfl rfl), (rn_in 6 rfl rfl), by decide, by decide +kernel⟩, (Or.inl (rn_in 414 rfl rfl)), (rn_in 415 rfl rfl), (rn_in 416 rfl rfl), _, rfl, rfl⟩
set_option maxRecDepth 100000 in
theorem iv_Wt_83 : rn_IV "WeightedTrees" 83 M_Wt_takeSpareGrammar 0 0 := ⟨⟨(rn_in 469 rfl rfl), (rn_in 1 rfl rfl), by decide, by decide +kernel⟩, (Or.inl (rn_in 466 rfl rfl)), (rn_in 468 rfl rfl), (rn_inS 17 rfl rfl), _, rfl, rfl⟩
set_option maxRecDepth 100000 in
theorem iv_Wt_89 : rn_IV "WeightedTrees" 89 M_Dr_isText 0 1 := ⟨⟨(rn_in 538 rfl rfl), (rn_in 2 rfl rfl), by decide, by decide +kernel⟩, (Or.inl (rn_in 535 rfl rfl)), (rn_in 536 rfl rfl), (rn_in 537 rfl rfl), _, rfl, rfl⟩
set_option maxRecDepth 100000 in
theorem iv_Wt_92 : rn_IV "WeightedTrees" 92 M_Wt_hasGrammar 0 0 := ⟨⟨(rn_in 243 rfl rfl), (rn_in 1 rfl rfl), by decide, by decide +kernel⟩, (Or.inl (rn_in 240 rfl rfl)), (rn_in 242 rfl rfl), (rn_inS 0 rfl rfl), _, rfl, rfl⟩
set_option maxRecDepth 100000 in
theorem iv_Wt_95 : rn_IV "WeightedTrees" 95 M_Ch_takeText 1 2 := ⟨⟨(rn_in 543 rfl rfl), (rn_in 3 rfl rfl), by decide, by decide +kernel⟩, (Or.inl (rn_in 540 rfl rfl)), (rn_in 541 rfl rfl), (rn_in 542 rfl rfl), _, rfl, rfl⟩
set_option maxRecDepth 100000 in
theorem iv_Wt_103 : rn_IV "WeightedTrees" 103 M_Tl_clear 0 4 := ⟨⟨(rn_in 473 rfl rfl), (rn_in 5 rfl rfl), by decide, by decide +kernel⟩, (Or.inl (rn_in 470 rfl rfl)), (rn_in 471 rfl rfl), (rn_in 472 rfl rfl), _, rfl, rfl⟩
set_option maxRecDepth 100000 in
theorem iv_Wt_104 : rn_IV "WeightedTrees" 104 M_Ch_fillText 1 2 := ⟨⟨(rn_in 549 rfl rfl), (rn_in 3 rfl rfl), by decide, by decide +kernel⟩, (Or.inl (rn_in 546 rfl rfl)), (rn_in 547 rfl rfl), (rn_in 548 rfl rfl), _, rfl, rfl⟩
set_option maxRecDepth 100000 in
theorem iv_Wt_111 : rn_IV "WeightedTrees" 111 M_Ch_hasTree 3 2 := ⟨⟨(rn_in 554 rfl rfl), (rn_in 3 rfl rfl), by decide, by decide +kernel⟩, (Or.inl (rn_in 551 rfl rfl)), (rn_in 552 rfl rfl), (rn_in 553 rfl rfl), _, rfl, rfl⟩
set_option maxRecDepth 100000 in
theorem iv_Wt_118 : rn_IV "WeightedTrees" 118 M_Wt_requireNonterminal 1 0 := ⟨⟨(rn_in 566 rfl rfl), (rn_in 1 rfl rfl), by decide, by decide +kernel⟩, (Or.inl (rn_in 563 rfl rfl)), (rn_in 565 rfl rfl), (rn_inS 24 rfl rfl), _, rfl, rfl⟩
set_option maxRecDepth 100000 in
theorem iv_Wt_135 : rn_IV "WeightedTrees" 135 M_Ch_emptySum 1 2 := ⟨⟨(rn_in 523 rfl rfl), (rn_in 3 rfl rfl), by decide, by decide +kernel⟩, (Or.inl (rn_in 598 rfl rfl)), (rn_in 521 rfl rfl), (rn_in 522 rfl rfl), _, rfl, rfl⟩
set_option maxRecDepth 100000 in
theorem iv_Wt_139 : rn_IV "WeightedTrees" 139 M_Ut_sum 2 3 := ⟨⟨(rn_in 527 rfl rfl), (rn_in 4 rfl rfl), by decide, by decide +kernel⟩, (Or.inl (rn_in 606 rfl rfl)), (rn_in 525 rfl rfl), (rn_in 526 rfl rfl), _, rfl, rfl⟩
set_option maxRecDepth 100000 in
theorem iv_Wt_143 : rn_IV "WeightedTrees" 143 M_Wt_requirePart 2 0 := ⟨⟨(rn_in 617 rfl rfl), (rn_in 1 rfl rfl), by decide, by decide +kernel⟩, (Or.inl (rn_in 614 rfl rfl)), (rn_in 616 rfl rfl), (rn_inS 25 rfl rfl), _, rfl, rfl⟩
set_option maxRecDepth 100000 in
theorem is_Wt_150 : rn_IS "WeightedTrees" 150 M_Ch_cell 3 := ⟨⟨(rn_in 484 rfl rfl), (rn_in 3 rfl rfl), by decide, by decide +kernel⟩, (Or.inl (rn_in 619 rfl rfl)), (rn_in 483 rfl rfl)⟩
set_option maxRecDepth 100000 in
theorem iv_Wt_159 : rn_IV "WeightedTrees" 159 M_Tl_list 5 4 := ⟨⟨(rn_in 638 rfl rfl), (rn_in 5 rfl rfl), by decide, by decide +kernel⟩, (Or.inl (rn_in 635 rfl rfl)), (rn_in 636 rfl rfl), (rn_in 637 rfl rfl), _, rfl, rfl⟩
set_option maxRecDepth 100000 in
theorem iv_Wt_166 : rn_IV "WeightedTrees" 166 M_Tl_shownCount 0 4 := ⟨⟨(rn_in 647 rfl rfl), (rn_in 5 rfl rfl), by decide, by decide +kernel⟩, (Or.inl (rn_in 668 rfl rfl)), (rn_in 645 rfl rfl), (rn_in 646 rfl rfl), _, rfl, rfl⟩
set_option maxRecDepth 100000 in
theorem iv_Wt_180 : rn_IV "WeightedTrees" 180 M_Ch_dropText 0 2 := ⟨⟨(rn_in 477 rfl rfl), (rn_in 3 rfl rfl), by decide, by decide +kernel⟩, (Or.inl (rn_in 474 rfl rfl)), (rn_in 475 rfl rfl), (rn_in 476 rfl rfl), _, rfl, rfl⟩
set_option maxRecDepth 100000 in
theorem iv_Wt_183 : rn_IV "WeightedTrees" 183 M_Ch_fillPart 3 2 := ⟨⟨(rn_in 481 rfl rfl), (rn_in 3 rfl rfl), by decide, by decide +kernel⟩, (Or.inl (rn_in 478 rfl rfl)), (rn_in 479 rfl rfl), (rn_in 480 rfl rfl), _, rfl, rfl⟩
set_option maxRecDepth 100000 in
theorem iv_Wt_187 : rn_IV "WeightedTrees" 187 M_Ut_fill 2 3 := ⟨⟨(rn_in 510 rfl rfl), (rn_in 4 rfl rfl), by decide, by decide +kernel⟩, (Or.inl (rn_in 507 rfl rfl)), (rn_in 508 rfl rfl), (rn_in 509 rfl rfl), _, rfl, rfl⟩
set_option maxRecDepth 100000 in
theorem is_Ch_49 : rn_IS "WeightedTrees$Chart" 49 M_Ch_cell 3 := ⟨⟨(rn_in 484 rfl rfl), (rn_in 3 rfl rfl), by decide, by decide +kernel⟩, (Or.inl (rn_in 482 rfl rfl)), (rn_in 483 rfl rfl)⟩
set_option maxRecDepth 100000 in
theorem iv_Ch_61 : rn_IV "WeightedTrees$Chart" 61 M_Ch_fillPart 3 2 := ⟨⟨(rn_in 481 rfl rfl), (rn_in 3 rfl rfl), by decide, by decide +kernel⟩, (Or.inl (rn_in 550 rfl rfl)), (rn_in 479 rfl rfl), (rn_in 480 rfl rfl), _, rfl, rfl⟩
set_option maxRecDepth 100000 in
theorem iv_Ch_79 : rn_IV "WeightedTrees$Chart" 79 M_Ch_addRule 4 2 := ⟨⟨(rn_in 488 rfl rfl), (rn_in 3 rfl rfl), by decide, by decide +kernel⟩, (Or.inl (rn_in 485 rfl rfl)), (rn_in 487 rfl rfl), (rn_inS 18 rfl rfl), _, rfl, rfl⟩
set_option maxRecDepth 100000 in
theorem iv_Ch_83 : rn_IV "WeightedTrees$Chart" 83 M_Ch_matchBody 4 2 := ⟨⟨(rn_in 492 rfl rfl), (rn_in 3 rfl rfl), by decide, by decide +kernel⟩, (Or.inl (rn_in 489 rfl rfl)), (rn_in 491 rfl rfl), (rn_inS 19 rfl rfl), _, rfl, rfl⟩
set_option maxRecDepth 100000 in
theorem iv_Ch_90 : rn_IV "WeightedTrees$Chart" 90 M_Ch_keepBody 4 2 := ⟨⟨(rn_in 506 rfl rfl), (rn_in 3 rfl rfl), by decide, by decide +kernel⟩, (Or.inl (rn_in 503 rfl rfl)), (rn_in 505 rfl rfl), (rn_inS 22 rfl rfl), _, rfl, rfl⟩
set_option maxRecDepth 100000 in
theorem iv_Ch_96 : rn_IV "WeightedTrees$Chart" 96 M_Gr_symbol 2 5 := ⟨⟨(rn_in 429 rfl rfl), (rn_in 6 rfl rfl), by decide, by decide +kernel⟩, (Or.inl (rn_in 493 rfl rfl)), (rn_in 427 rfl rfl), (rn_in 428 rfl rfl), _, rfl, rfl⟩
set_option maxRecDepth 100000 in
theorem is_Ch_100 : rn_IS "WeightedTrees$Chart" 100 M_Gr_isNonterminal 1 := ⟨⟨(rn_in 432 rfl rfl), (rn_in 6 rfl rfl), by decide, by decide +kernel⟩, (Or.inl (rn_in 494 rfl rfl)), (rn_in 431 rfl rfl)⟩
set_option maxRecDepth 100000 in
theorem iv_Ch_104 : rn_IV "WeightedTrees$Chart" 104 M_Ch_matchNonterminal 4 2 := ⟨⟨(rn_in 498 rfl rfl), (rn_in 3 rfl rfl), by decide, by decide +kernel⟩, (Or.inl (rn_in 495 rfl rfl)), (rn_in 497 rfl rfl), (rn_inS 20 rfl rfl), _, rfl, rfl⟩
set_option maxRecDepth 100000 in
theorem iv_Ch_108 : rn_IV "WeightedTrees$Chart" 108 M_Ch_matchTerminal 4 2 := ⟨⟨(rn_in 502 rfl rfl), (rn_in 3 rfl rfl), by decide, by decide +kernel⟩, (Or.inl (rn_in 499 rfl rfl)), (rn_in 501 rfl rfl), (rn_inS 21 rfl rfl), _, rfl, rfl⟩
set_option maxRecDepth 100000 in
theorem is_Dr_19 : rn_IS "WeightedTrees$Draft" 19 M_Dr_codeAt 2 := ⟨⟨(rn_in 219 rfl rfl), (rn_in 2 rfl rfl), by decide, by decide +kernel⟩, (Or.inl (rn_in 217 rfl rfl)), (rn_in 218 rfl rfl)⟩
set_option maxRecDepth 100000 in
theorem is_Dr_23 : rn_IS "WeightedTrees$Draft" 23 M_Dr_isAllowed 1 := ⟨⟨(rn_in 223 rfl rfl), (rn_in 2 rfl rfl), by decide, by decide +kernel⟩, (Or.inl (rn_in 221 rfl rfl)), (rn_in 222 rfl rfl)⟩
set_option maxRecDepth 100000 in
theorem is_Dr_27 : rn_IS "WeightedTrees$Draft" 27 M_Wt_isSmallLetter 1 := ⟨⟨(rn_in 329 rfl rfl), (rn_in 1 rfl rfl), by decide, by decide +kernel⟩, (Or.inr ⟨_, (rn_in 539 rfl rfl)⟩), (rn_in 328 rfl rfl)⟩
set_option maxRecDepth 100000 in
theorem iv_Gr_44 : rn_IV "WeightedTrees$Grammar" 44 M_Gr_emptyable 0 5 := ⟨⟨(rn_in 421 rfl rfl), (rn_in 6 rfl rfl), by decide, by decide +kernel⟩, (Or.inl (rn_in 418 rfl rfl)), (rn_in 420 rfl rfl), (rn_inS 13 rfl rfl), _, rfl, rfl⟩
set_option maxRecDepth 100000 in
theorem iv_Gr_48 : rn_IV "WeightedTrees$Grammar" 48 M_Gr_findReached 1 5 := ⟨⟨(rn_in 439 rfl rfl), (rn_in 6 rfl rfl), by decide, by decide +kernel⟩, (Or.inl (rn_in 436 rfl rfl)), (rn_in 438 rfl rfl), (rn_inS 15 rfl rfl), _, rfl, rfl⟩
set_option maxRecDepth 100000 in
theorem is_Gr_52 : rn_IS "WeightedTrees$Grammar" 52 M_Gr_hasBit 2 := ⟨⟨(rn_in 435 rfl rfl), (rn_in 6 rfl rfl), by decide, by decide +kernel⟩, (Or.inl (rn_in 433 rfl rfl)), (rn_in 434 rfl rfl)⟩
set_option maxRecDepth 100000 in
theorem is_Gr_56 : rn_IS "WeightedTrees$Grammar" 56 M_Ji_bitCount 1 := ⟨⟨(rn_in 446 rfl rfl), (rn_in 13 rfl rfl), by decide, by decide +kernel⟩, (Or.inl (rn_in 444 rfl rfl)), (rn_in 445 rfl rfl)⟩
set_option maxRecDepth 100000 in
theorem iv_Gr_62 : rn_IV "WeightedTrees$Grammar" 62 M_Gr_vanishes 3 5 := ⟨⟨(rn_in 425 rfl rfl), (rn_in 6 rfl rfl), by decide, by decide +kernel⟩, (Or.inl (rn_in 422 rfl rfl)), (rn_in 424 rfl rfl), (rn_inS 14 rfl rfl), _, rfl, rfl⟩
set_option maxRecDepth 100000 in
theorem iv_Gr_66 : rn_IV "WeightedTrees$Grammar" 66 M_Gr_symbol 2 5 := ⟨⟨(rn_in 429 rfl rfl), (rn_in 6 rfl rfl), by decide, by decide +kernel⟩, (Or.inl (rn_in 426 rfl rfl)), (rn_in 427 rfl rfl), (rn_in 428 rfl rfl), _, rfl, rfl⟩
set_option maxRecDepth 100000 in
theorem is_Gr_70 : rn_IS "WeightedTrees$Grammar" 70 M_Gr_isNonterminal 1 := ⟨⟨(rn_in 432 rfl rfl), (rn_in 6 rfl rfl), by decide, by decide +kernel⟩, (Or.inl (rn_in 430 rfl rfl)), (rn_in 431 rfl rfl)⟩
set_option maxRecDepth 100000 in
theorem iv_Gr_74 : rn_IV "WeightedTrees$Grammar" 74 M_Gr_closeReached 0 5 := ⟨⟨(rn_in 443 rfl rfl), (rn_in 6 rfl rfl), by decide, by decide +kernel⟩, (Or.inl (rn_in 440 rfl rfl)), (rn_in 442 rfl rfl), (rn_inS 16 rfl rfl), _, rfl, rfl⟩
set_option maxRecDepth 100000 in
theorem iv_Rd_26 : rn_IV "WeightedTrees$GrammarReader" 26 M_Gr_clear 0 5 := ⟨⟨(rn_in 279 rfl rfl), (rn_in 6 rfl rfl), by decide, by decide +kernel⟩, (Or.inl (rn_in 276 rfl rfl)), (rn_in 277 rfl rfl), (rn_in 278 rfl rfl), _, rfl, rfl⟩
set_option maxRecDepth 100000 in
theorem iv_Rd_31 : rn_IV "WeightedTrees$GrammarReader" 31 M_Dr_lineCount 0 1 := ⟨⟨(rn_in 283 rfl rfl), (rn_in 2 rfl rfl), by decide, by decide +kernel⟩, (Or.inl (rn_in 280 rfl rfl)), (rn_in 281 rfl rfl), (rn_in 282 rfl rfl), _, rfl, rfl⟩
set_option maxRecDepth 100000 in
theorem iv_Rd_37 : rn_IV "WeightedTrees$GrammarReader" 37 M_Dr_lineEnd 1 1 := ⟨⟨(rn_in 287 rfl rfl), (rn_in 2 rfl rfl), by decide, by decide +kernel⟩, (Or.inl (rn_in 284 rfl rfl)), (rn_in 285 rfl rfl), (rn_in 286 rfl rfl), _, rfl, rfl⟩
set_option maxRecDepth 100000 in
theorem iv_Rd_41 : rn_IV "WeightedTrees$GrammarReader" 41 M_Rd_isLeftOut 0 6 := ⟨⟨(rn_in 291 rfl rfl), (rn_in 8 rfl rfl), by decide, by decide +kernel⟩, (Or.inl (rn_in 288 rfl rfl)), (rn_in 290 rfl rfl), (rn_inS 1 rfl rfl), _, rfl, rfl⟩
set_option maxRecDepth 100000 in
theorem iv_Rd_45 : rn_IV "WeightedTrees$GrammarReader" 45 M_Rd_readRule 0 6 := ⟨⟨(rn_in 303 rfl rfl), (rn_in 8 rfl rfl), by decide, by decide +kernel⟩, (Or.inl (rn_in 300 rfl rfl)), (rn_in 302 rfl rfl), (rn_inS 4 rfl rfl), _, rfl, rfl⟩
set_option maxRecDepth 100000 in
theorem iv_Rd_51 : rn_IV "WeightedTrees$GrammarReader" 51 M_Rd_sees 1 6 := ⟨⟨(rn_in 295 rfl rfl), (rn_in 8 rfl rfl), by decide, by decide +kernel⟩, (Or.inl (rn_in 292 rfl rfl)), (rn_in 294 rfl rfl), (rn_inS 2 rfl rfl), _, rfl, rfl⟩
set_option maxRecDepth 100000 in
theorem iv_Rd_55 : rn_IV "WeightedTrees$GrammarReader" 55 M_Rd_readHead 1 6 := ⟨⟨(rn_in 307 rfl rfl), (rn_in 8 rfl rfl), by decide, by decide +kernel⟩, (Or.inl (rn_in 304 rfl rfl)), (rn_in 306 rfl rfl), (rn_inS 5 rfl rfl), _, rfl, rfl⟩
set_option maxRecDepth 100000 in
theorem iv_Rd_59 : rn_IV "WeightedTrees$GrammarReader" 59 M_Rd_skip 1 6 := ⟨⟨(rn_in 322 rfl rfl), (rn_in 8 rfl rfl), by decide, by decide +kernel⟩, (Or.inl (rn_in 319 rfl rfl)), (rn_in 321 rfl rfl), (rn_inS 7 rfl rfl), _, rfl, rfl⟩
set_option maxRecDepth 100000 in
theorem iv_Rd_62 : rn_IV "WeightedTrees$GrammarReader" 62 M_Rd_readBody 1 6 := ⟨⟨(rn_in 326 rfl rfl), (rn_in 8 rfl rfl), by decide, by decide +kernel⟩, (Or.inl (rn_in 323 rfl rfl)), (rn_in 325 rfl rfl), (rn_inS 8 rfl rfl), _, rfl, rfl⟩
set_option maxRecDepth 100000 in
theorem iv_Rd_65 : rn_IV "WeightedTrees$GrammarReader" 65 M_Rd_readWeight 1 6 := ⟨⟨(rn_in 333 rfl rfl), (rn_in 8 rfl rfl), by decide, by decide +kernel⟩, (Or.inl (rn_in 330 rfl rfl)), (rn_in 332 rfl rfl), (rn_inS 9 rfl rfl), _, rfl, rfl⟩
set_option maxRecDepth 100000 in
theorem iv_Rd_68 : rn_IV "WeightedTrees$GrammarReader" 68 M_Rd_readCost 1 6 := ⟨⟨(rn_in 345 rfl rfl), (rn_in 8 rfl rfl), by decide, by decide +kernel⟩, (Or.inl (rn_in 342 rfl rfl)), (rn_in 344 rfl rfl), (rn_inS 11 rfl rfl), _, rfl, rfl⟩
set_option maxRecDepth 100000 in
theorem iv_Rd_71 : rn_IV "WeightedTrees$GrammarReader" 71 M_Rd_seen 0 6 := ⟨⟨(rn_in 299 rfl rfl), (rn_in 8 rfl rfl), by decide, by decide +kernel⟩, (Or.inl (rn_in 296 rfl rfl)), (rn_in 298 rfl rfl), (rn_inS 3 rfl rfl), _, rfl, rfl⟩
set_option maxRecDepth 100000 in
theorem is_Rd_74 : rn_IS "WeightedTrees$GrammarReader" 74 M_Wt_isCapital 1 := ⟨⟨(rn_in 310 rfl rfl), (rn_in 1 rfl rfl), by decide, by decide +kernel⟩, (Or.inr ⟨_, (rn_in 308 rfl rfl)⟩), (rn_in 309 rfl rfl)⟩
set_option maxRecDepth 100000 in
theorem iv_Rd_81 : rn_IV "WeightedTrees$GrammarReader" 81 M_Rd_readSymbol 0 6 := ⟨⟨(rn_in 314 rfl rfl), (rn_in 8 rfl rfl), by decide, by decide +kernel⟩, (Or.inl (rn_in 311 rfl rfl)), (rn_in 313 rfl rfl), (rn_inS 6 rfl rfl), _, rfl, rfl⟩
set_option maxRecDepth 100000 in
theorem is_Rd_84 : rn_IS "WeightedTrees$GrammarReader" 84 M_Wt_isSmallLetter 1 := ⟨⟨(rn_in 329 rfl rfl), (rn_in 1 rfl rfl), by decide, by decide +kernel⟩, (Or.inr ⟨_, (rn_in 327 rfl rfl)⟩), (rn_in 328 rfl rfl)⟩
set_option maxRecDepth 100000 in
theorem iv_Rd_93 : rn_IV "WeightedTrees$GrammarReader" 93 M_Gr_nonterminalOf 1 5 := ⟨⟨(rn_in 318 rfl rfl), (rn_in 6 rfl rfl), by decide, by decide +kernel⟩, (Or.inl (rn_in 315 rfl rfl)), (rn_in 316 rfl rfl), (rn_in 317 rfl rfl), _, rfl, rfl⟩
set_option maxRecDepth 100000 in
theorem iv_Rd_96 : rn_IV "WeightedTrees$GrammarReader" 96 M_Rd_readNumber 0 6 := ⟨⟨(rn_in 337 rfl rfl), (rn_in 8 rfl rfl), by decide, by decide +kernel⟩, (Or.inl (rn_in 334 rfl rfl)), (rn_in 336 rfl rfl), (rn_inS 10 rfl rfl), _, rfl, rfl⟩
set_option maxRecDepth 100000 in
theorem is_Rd_103 : rn_IS "WeightedTrees$GrammarReader" 103 M_Rd_inverse 1 := ⟨⟨(rn_in 340 rfl rfl), (rn_in 8 rfl rfl), by decide, by decide +kernel⟩, (Or.inl (rn_in 338 rfl rfl)), (rn_in 339 rfl rfl)⟩
set_option maxRecDepth 100000 in
theorem is_Tl_39 : rn_IS "WeightedTrees$TreeListing" 39 M_Ch_cell 3 := ⟨⟨(rn_in 484 rfl rfl), (rn_in 3 rfl rfl), by decide, by decide +kernel⟩, (Or.inl (rn_in 639 rfl rfl)), (rn_in 483 rfl rfl)⟩
set_option maxRecDepth 100000 in
theorem iv_Tl_43 : rn_IV "WeightedTrees$TreeListing" 43 M_Tl_keepPlace 4 4 := ⟨⟨(rn_in 643 rfl rfl), (rn_in 5 rfl rfl), by decide, by decide +kernel⟩, (Or.inl (rn_in 640 rfl rfl)), (rn_in 642 rfl rfl), (rn_inS 26 rfl rfl), _, rfl, rfl⟩
set_option maxRecDepth 100000 in
theorem iv_Tl_47 : rn_IV "WeightedTrees$TreeListing" 47 M_Tl_shownCount 0 4 := ⟨⟨(rn_in 647 rfl rfl), (rn_in 5 rfl rfl), by decide, by decide +kernel⟩, (Or.inl (rn_in 644 rfl rfl)), (rn_in 645 rfl rfl), (rn_in 646 rfl rfl), _, rfl, rfl⟩
set_option maxRecDepth 100000 in
theorem iv_Tl_51 : rn_IV "WeightedTrees$TreeListing" 51 M_Tl_expand 3 4 := ⟨⟨(rn_in 654 rfl rfl), (rn_in 5 rfl rfl), by decide, by decide +kernel⟩, (Or.inl (rn_in 651 rfl rfl)), (rn_in 653 rfl rfl), (rn_inS 27 rfl rfl), _, rfl, rfl⟩
set_option maxRecDepth 100000 in
theorem iv_Tl_61 : rn_IV "WeightedTrees$TreeListing" 61 M_Gr_symbol 2 5 := ⟨⟨(rn_in 429 rfl rfl), (rn_in 6 rfl rfl), by decide, by decide +kernel⟩, (Or.inl (rn_in 655 rfl rfl)), (rn_in 427 rfl rfl), (rn_in 428 rfl rfl), _, rfl, rfl⟩
set_option maxRecDepth 100000 in
theorem iv_Tl_64 : rn_IV "WeightedTrees$TreeListing" 64 M_Ch_lengthOf 2 2 := ⟨⟨(rn_in 659 rfl rfl), (rn_in 3 rfl rfl), by decide, by decide +kernel⟩, (Or.inl (rn_in 656 rfl rfl)), (rn_in 657 rfl rfl), (rn_in 658 rfl rfl), _, rfl, rfl⟩
set_option maxRecDepth 100000 in
theorem is_Tl_67 : rn_IS "WeightedTrees$TreeListing" 67 M_Gr_isNonterminal 1 := ⟨⟨(rn_in 432 rfl rfl), (rn_in 6 rfl rfl), by decide, by decide +kernel⟩, (Or.inl (rn_in 660 rfl rfl)), (rn_in 431 rfl rfl)⟩
set_option maxRecDepth 100000 in
theorem iv_Ut_31 : rn_IV "WeightedTrees$UnitTable" 31 M_Ut_addRule 3 3 := ⟨⟨(rn_in 514 rfl rfl), (rn_in 4 rfl rfl), by decide, by decide +kernel⟩, (Or.inl (rn_in 511 rfl rfl)), (rn_in 513 rfl rfl), (rn_inS 23 rfl rfl), _, rfl, rfl⟩
set_option maxRecDepth 100000 in
theorem iv_Ut_38 : rn_IV "WeightedTrees$UnitTable" 38 M_Gr_symbol 2 5 := ⟨⟨(rn_in 429 rfl rfl), (rn_in 6 rfl rfl), by decide, by decide +kernel⟩, (Or.inl (rn_in 515 rfl rfl)), (rn_in 427 rfl rfl), (rn_in 428 rfl rfl), _, rfl, rfl⟩
set_option maxRecDepth 100000 in
theorem is_Ut_42 : rn_IS "WeightedTrees$UnitTable" 42 M_Gr_isNonterminal 1 := ⟨⟨(rn_in 432 rfl rfl), (rn_in 6 rfl rfl), by decide, by decide +kernel⟩, (Or.inl (rn_in 516 rfl rfl)), (rn_in 431 rfl rfl)⟩
set_option maxRecDepth 100000 in
theorem is_Ut_49 : rn_IS "WeightedTrees$UnitTable" 49 M_Ut_emptyProduct 4 := ⟨⟨(rn_in 519 rfl rfl), (rn_in 4 rfl rfl), by decide, by decide +kernel⟩, (Or.inl (rn_in 517 rfl rfl)), (rn_in 518 rfl rfl)⟩
set_option maxRecDepth 100000 in
theorem iv_Ut_53 : rn_IV "WeightedTrees$UnitTable" 53 M_Ut_sum 2 3 := ⟨⟨(rn_in 527 rfl rfl), (rn_in 4 rfl rfl), by decide, by decide +kernel⟩, (Or.inl (rn_in 524 rfl rfl)), (rn_in 525 rfl rfl), (rn_in 526 rfl rfl), _, rfl, rfl⟩
set_option maxRecDepth 100000 in
theorem iv_Ut_57 : rn_IV "WeightedTrees$UnitTable" 57 M_Ch_emptySum 1 2 := ⟨⟨(rn_in 523 rfl rfl), (rn_in 3 rfl rfl), by decide, by decide +kernel⟩, (Or.inl (rn_in 520 rfl rfl)), (rn_in 521 rfl rfl), (rn_in 522 rfl rfl), _, rfl, rfl⟩
set_option maxRecDepth 100000 in
theorem iv_Lw_7 : rn_IV "WeightedTreesLaw" 7 M_Wt_load 0 0 := ⟨⟨(rn_in 252 rfl rfl), (rn_in 1 rfl rfl), by decide, by decide +kernel⟩, (Or.inl (rn_in 249 rfl rfl)), (rn_in 250 rfl rfl), (rn_in 251 rfl rfl), _, rfl, rfl⟩
set_option maxRecDepth 100000 in
theorem iv_Lw_17 : rn_IV "WeightedTreesLaw" 17 M_Wt_parse 0 0 := ⟨⟨(rn_in 534 rfl rfl), (rn_in 1 rfl rfl), by decide, by decide +kernel⟩, (Or.inl (rn_in 531 rfl rfl)), (rn_in 532 rfl rfl), (rn_in 533 rfl rfl), _, rfl, rfl⟩
set_option maxRecDepth 100000 in
theorem iv_Lw_21 : rn_IV "WeightedTreesLaw" 21 M_Wt_name 1 0 := ⟨⟨(rn_in 562 rfl rfl), (rn_in 1 rfl rfl), by decide, by decide +kernel⟩, (Or.inl (rn_in 559 rfl rfl)), (rn_in 560 rfl rfl), (rn_in 561 rfl rfl), _, rfl, rfl⟩
set_option maxRecDepth 100000 in
theorem iv_Lw_27 : rn_IV "WeightedTreesLaw" 27 M_Wt_weight 1 0 := ⟨⟨(rn_in 589 rfl rfl), (rn_in 1 rfl rfl), by decide, by decide +kernel⟩, (Or.inl (rn_in 586 rfl rfl)), (rn_in 587 rfl rfl), (rn_in 588 rfl rfl), _, rfl, rfl⟩
set_option maxRecDepth 100000 in
theorem iv_Lw_31 : rn_IV "WeightedTreesLaw" 31 M_Wt_empty 1 0 := ⟨⟨(rn_in 597 rfl rfl), (rn_in 1 rfl rfl), by decide, by decide +kernel⟩, (Or.inl (rn_in 594 rfl rfl)), (rn_in 595 rfl rfl), (rn_in 596 rfl rfl), _, rfl, rfl⟩
set_option maxRecDepth 100000 in
theorem iv_Lw_34 : rn_IV "WeightedTreesLaw" 34 M_Wt_unit 2 0 := ⟨⟨(rn_in 605 rfl rfl), (rn_in 1 rfl rfl), by decide, by decide +kernel⟩, (Or.inl (rn_in 602 rfl rfl)), (rn_in 603 rfl rfl), (rn_in 604 rfl rfl), _, rfl, rfl⟩
set_option maxRecDepth 100000 in
theorem iv_Lw_38 : rn_IV "WeightedTreesLaw" 38 M_Wt_inside 3 0 := ⟨⟨(rn_in 613 rfl rfl), (rn_in 1 rfl rfl), by decide, by decide +kernel⟩, (Or.inl (rn_in 610 rfl rfl)), (rn_in 611 rfl rfl), (rn_in 612 rfl rfl), _, rfl, rfl⟩
set_option maxRecDepth 100000 in
theorem iv_Lw_42 : rn_IV "WeightedTreesLaw" 42 M_Wt_cheapest 3 0 := ⟨⟨(rn_in 626 rfl rfl), (rn_in 1 rfl rfl), by decide, by decide +kernel⟩, (Or.inl (rn_in 623 rfl rfl)), (rn_in 624 rfl rfl), (rn_in 625 rfl rfl), _, rfl, rfl⟩
set_option maxRecDepth 100000 in
theorem iv_Lw_46 : rn_IV "WeightedTreesLaw" 46 M_Wt_build 3 0 := ⟨⟨(rn_in 633 rfl rfl), (rn_in 1 rfl rfl), by decide, by decide +kernel⟩, (Or.inl (rn_in 630 rfl rfl)), (rn_in 631 rfl rfl), (rn_in 632 rfl rfl), _, rfl, rfl⟩
set_option maxRecDepth 100000 in
theorem iv_Lw_49 : rn_IV "WeightedTreesLaw" 49 M_Wt_node 2 0 := ⟨⟨(rn_in 667 rfl rfl), (rn_in 1 rfl rfl), by decide, by decide +kernel⟩, (Or.inl (rn_in 664 rfl rfl)), (rn_in 665 rfl rfl), (rn_in 666 rfl rfl), _, rfl, rfl⟩
set_option maxRecDepth 100000 in
theorem iv_Md_95 : rn_IV "WeightedTreesModel" 95 M_Md_isFigure 0 7 := ⟨⟨(rn_in 836 rfl rfl), (rn_in 7 rfl rfl), by decide, by decide +kernel⟩, (Or.inl (rn_in 833 rfl rfl)), (rn_in 835 rfl rfl), (rn_inS 35 rfl rfl), _, rfl, rfl⟩
set_option maxRecDepth 100000 in
theorem is_Md_104 : rn_IS "WeightedTreesModel" 104 M_Md_isCapital 1 := ⟨⟨(rn_in 813 rfl rfl), (rn_in 7 rfl rfl), by decide, by decide +kernel⟩, (Or.inl (rn_in 811 rfl rfl)), (rn_in 812 rfl rfl)⟩
set_option maxRecDepth 100000 in
theorem is_Md_108 : rn_IS "WeightedTreesModel" 108 M_Md_isSmall 1 := ⟨⟨(rn_in 828 rfl rfl), (rn_in 7 rfl rfl), by decide, by decide +kernel⟩, (Or.inl (rn_in 826 rfl rfl)), (rn_in 827 rfl rfl)⟩
set_option maxRecDepth 100000 in
theorem iv_Md_111 : rn_IV "WeightedTreesModel" 111 M_Md_symbol 1 7 := ⟨⟨(rn_in 817 rfl rfl), (rn_in 7 rfl rfl), by decide, by decide +kernel⟩, (Or.inl (rn_in 814 rfl rfl)), (rn_in 816 rfl rfl), (rn_inS 31 rfl rfl), _, rfl, rfl⟩
set_option maxRecDepth 100000 in
theorem iv_Md_118 : rn_IV "WeightedTreesModel" 118 M_Md_next 1 7 := ⟨⟨(rn_in 821 rfl rfl), (rn_in 7 rfl rfl), by decide, by decide +kernel⟩, (Or.inl (rn_in 818 rfl rfl)), (rn_in 820 rfl rfl), (rn_inS 32 rfl rfl), _, rfl, rfl⟩
set_option maxRecDepth 100000 in
theorem iv_Md_121 : rn_IV "WeightedTreesModel" 121 M_Md_body 1 7 := ⟨⟨(rn_in 825 rfl rfl), (rn_in 7 rfl rfl), by decide, by decide +kernel⟩, (Or.inl (rn_in 822 rfl rfl)), (rn_in 824 rfl rfl), (rn_inS 33 rfl rfl), _, rfl, rfl⟩
set_option maxRecDepth 100000 in
theorem iv_Md_124 : rn_IV "WeightedTreesModel" 124 M_Md_number 0 7 := ⟨⟨(rn_in 832 rfl rfl), (rn_in 7 rfl rfl), by decide, by decide +kernel⟩, (Or.inl (rn_in 829 rfl rfl)), (rn_in 831 rfl rfl), (rn_inS 34 rfl rfl), _, rfl, rfl⟩
set_option maxRecDepth 100000 in
theorem is_Md_127 : rn_IS "WeightedTreesModel" 127 M_Md_inverse 1 := ⟨⟨(rn_in 839 rfl rfl), (rn_in 7 rfl rfl), by decide, by decide +kernel⟩, (Or.inl (rn_in 837 rfl rfl)), (rn_in 838 rfl rfl)⟩
set_option maxRecDepth 100000 in
theorem iv_Md_131 : rn_IV "WeightedTreesModel" 131 M_Md_ruleLine 0 7 := ⟨⟨(rn_in 810 rfl rfl), (rn_in 7 rfl rfl), by decide, by decide +kernel⟩, (Or.inl (rn_in 807 rfl rfl)), (rn_in 809 rfl rfl), (rn_inS 30 rfl rfl), _, rfl, rfl⟩
set_option maxRecDepth 100000 in
theorem iv_Md_134 : rn_IV "WeightedTreesModel" 134 M_Md_isLetter 1 7 := ⟨⟨(rn_in 856 rfl rfl), (rn_in 7 rfl rfl), by decide, by decide +kernel⟩, (Or.inl (rn_in 853 rfl rfl)), (rn_in 855 rfl rfl), (rn_inS 39 rfl rfl), _, rfl, rfl⟩
set_option maxRecDepth 100000 in
theorem iv_Md_137 : rn_IV "WeightedTreesModel" 137 M_Md_emptyBodyCost 2 7 := ⟨⟨(rn_in 852 rfl rfl), (rn_in 7 rfl rfl), by decide, by decide +kernel⟩, (Or.inl (rn_in 849 rfl rfl)), (rn_in 851 rfl rfl), (rn_inS 38 rfl rfl), _, rfl, rfl⟩
set_option maxRecDepth 100000 in
theorem iv_Md_141 : rn_IV "WeightedTreesModel" 141 M_Md_findEmptyable 0 7 := ⟨⟨(rn_in 848 rfl rfl), (rn_in 7 rfl rfl), by decide, by decide +kernel⟩, (Or.inl (rn_in 845 rfl rfl)), (rn_in 847 rfl rfl), (rn_inS 37 rfl rfl), _, rfl, rfl⟩
set_option maxRecDepth 100000 in
theorem iv_Md_146 : rn_IV "WeightedTreesModel" 146 M_Md_emptyBody 2 7 := ⟨⟨(rn_in 865 rfl rfl), (rn_in 7 rfl rfl), by decide, by decide +kernel⟩, (Or.inl (rn_in 862 rfl rfl)), (rn_in 864 rfl rfl), (rn_inS 41 rfl rfl), _, rfl, rfl⟩
set_option maxRecDepth 100000 in
theorem iv_Md_150 : rn_IV "WeightedTreesModel" 150 M_Md_readGrammar 1 7 := ⟨⟨(rn_in 806 rfl rfl), (rn_in 7 rfl rfl), by decide, by decide +kernel⟩, (Or.inl (rn_in 803 rfl rfl)), (rn_in 805 rfl rfl), (rn_inS 29 rfl rfl), _, rfl, rfl⟩
set_option maxRecDepth 100000 in
theorem iv_Md_153 : rn_IV "WeightedTreesModel" 153 M_Md_loops 0 7 := ⟨⟨(rn_in 844 rfl rfl), (rn_in 7 rfl rfl), by decide, by decide +kernel⟩, (Or.inl (rn_in 841 rfl rfl)), (rn_in 843 rfl rfl), (rn_inS 36 rfl rfl), _, rfl, rfl⟩
set_option maxRecDepth 100000 in
theorem iv_Md_156 : rn_IV "WeightedTreesModel" 156 M_Md_fillEmpty 0 7 := ⟨⟨(rn_in 861 rfl rfl), (rn_in 7 rfl rfl), by decide, by decide +kernel⟩, (Or.inl (rn_in 858 rfl rfl)), (rn_in 860 rfl rfl), (rn_inS 40 rfl rfl), _, rfl, rfl⟩
set_option maxRecDepth 100000 in
theorem iv_Md_159 : rn_IV "WeightedTreesModel" 159 M_Md_fillUnits 0 7 := ⟨⟨(rn_in 869 rfl rfl), (rn_in 7 rfl rfl), by decide, by decide +kernel⟩, (Or.inl (rn_in 866 rfl rfl)), (rn_in 868 rfl rfl), (rn_inS 42 rfl rfl), _, rfl, rfl⟩
set_option maxRecDepth 100000 in
theorem iv_Md_162 : rn_IV "WeightedTreesModel" 162 M_Md_take 1 7 := ⟨⟨(rn_in 802 rfl rfl), (rn_in 7 rfl rfl), by decide, by decide +kernel⟩, (Or.inl (rn_in 799 rfl rfl)), (rn_in 801 rfl rfl), (rn_inS 28 rfl rfl), _, rfl, rfl⟩
set_option maxRecDepth 100000 in
theorem is_Md_181 : rn_IS "WeightedTreesModel" 181 M_Md_cell 3 := ⟨⟨(rn_in 884 rfl rfl), (rn_in 7 rfl rfl), by decide, by decide +kernel⟩, (Or.inl (rn_in 882 rfl rfl)), (rn_in 883 rfl rfl)⟩
set_option maxRecDepth 100000 in
theorem iv_Md_185 : rn_IV "WeightedTreesModel" 185 M_Md_sumOf 3 7 := ⟨⟨(rn_in 892 rfl rfl), (rn_in 7 rfl rfl), by decide, by decide +kernel⟩, (Or.inl (rn_in 889 rfl rfl)), (rn_in 891 rfl rfl), (rn_inS 45 rfl rfl), _, rfl, rfl⟩
set_option maxRecDepth 100000 in
theorem iv_Md_189 : rn_IV "WeightedTreesModel" 189 M_Md_costOf 3 7 := ⟨⟨(rn_in 900 rfl rfl), (rn_in 7 rfl rfl), by decide, by decide +kernel⟩, (Or.inl (rn_in 897 rfl rfl)), (rn_in 899 rfl rfl), (rn_inS 47 rfl rfl), _, rfl, rfl⟩
set_option maxRecDepth 100000 in
theorem iv_Md_192 : rn_IV "WeightedTreesModel" 192 M_Md_bodySum 3 7 := ⟨⟨(rn_in 888 rfl rfl), (rn_in 7 rfl rfl), by decide, by decide +kernel⟩, (Or.inl (rn_in 885 rfl rfl)), (rn_in 887 rfl rfl), (rn_inS 44 rfl rfl), _, rfl, rfl⟩
set_option maxRecDepth 100000 in
theorem iv_Md_195 : rn_IV "WeightedTreesModel" 195 M_Md_bodyCost 3 7 := ⟨⟨(rn_in 896 rfl rfl), (rn_in 7 rfl rfl), by decide, by decide +kernel⟩, (Or.inl (rn_in 893 rfl rfl)), (rn_in 895 rfl rfl), (rn_inS 46 rfl rfl), _, rfl, rfl⟩
set_option maxRecDepth 100000 in
theorem iv_Md_201 : rn_IV "WeightedTreesModel" 201 M_Md_fillPart 2 7 := ⟨⟨(rn_in 881 rfl rfl), (rn_in 7 rfl rfl), by decide, by decide +kernel⟩, (Or.inl (rn_in 878 rfl rfl)), (rn_in 880 rfl rfl), (rn_inS 43 rfl rfl), _, rfl, rfl⟩
set_option maxRecDepth 100000 in
theorem iv_Md_205 : rn_IV "WeightedTreesModel" 205 M_Md_defer 4 7 := ⟨⟨(rn_in 948 rfl rfl), (rn_in 7 rfl rfl), by decide, by decide +kernel⟩, (Or.inl (rn_in 945 rfl rfl)), (rn_in 947 rfl rfl), (rn_inS 51 rfl rfl), _, rfl, rfl⟩
set_option maxRecDepth 100000 in
theorem iv_Md_209 : rn_IV "WeightedTreesModel" 209 M_Md_ruleFor 3 7 := ⟨⟨(rn_in 952 rfl rfl), (rn_in 7 rfl rfl), by decide, by decide +kernel⟩, (Or.inl (rn_in 949 rfl rfl)), (rn_in 951 rfl rfl), (rn_inS 52 rfl rfl), _, rfl, rfl⟩
set_option maxRecDepth 100000 in
theorem iv_Md_212 : rn_IV "WeightedTreesModel" 212 M_Md_turnOver 2 7 := ⟨⟨(rn_in 956 rfl rfl), (rn_in 7 rfl rfl), by decide, by decide +kernel⟩, (Or.inl (rn_in 953 rfl rfl)), (rn_in 955 rfl rfl), (rn_inS 53 rfl rfl), _, rfl, rfl⟩
set_option maxRecDepth 100000 in
theorem iv_Md_215 : rn_IV "WeightedTreesModel" 215 M_Md_isSymbol 1 7 := ⟨⟨(rn_in 912 rfl rfl), (rn_in 7 rfl rfl), by decide, by decide +kernel⟩, (Or.inl (rn_in 909 rfl rfl)), (rn_in 911 rfl rfl), (rn_inS 48 rfl rfl), _, rfl, rfl⟩
set_option maxRecDepth 100000 in
theorem iv_Md_218 : rn_IV "WeightedTreesModel" 218 M_Md_refusal 3 7 := ⟨⟨(rn_in 932 rfl rfl), (rn_in 7 rfl rfl), by decide, by decide +kernel⟩, (Or.inl (rn_in 929 rfl rfl)), (rn_in 931 rfl rfl), (rn_inS 49 rfl rfl), _, rfl, rfl⟩
set_option maxRecDepth 100000 in
theorem iv_Md_221 : rn_IV "WeightedTreesModel" 221 M_Md_unroll 3 7 := ⟨⟨(rn_in 944 rfl rfl), (rn_in 7 rfl rfl), by decide, by decide +kernel⟩, (Or.inl (rn_in 941 rfl rfl)), (rn_in 943 rfl rfl), (rn_inS 50 rfl rfl), _, rfl, rfl⟩
set_option maxRecDepth 100000 in
theorem ii_Wt_9 : rn_II "WeightedTrees" 9 M_Dr_init 0 := ⟨⟨(rn_in 29 rfl rfl), (rn_in 2 rfl rfl), by decide, by decide +kernel⟩, (Or.inr ⟨_, (rn_in 27 rfl rfl)⟩), (rn_in 28 rfl rfl), rfl⟩
set_option maxRecDepth 100000 in
theorem ii_Wt_18 : rn_II "WeightedTrees" 18 M_Ch_init 0 := ⟨⟨(rn_in 46 rfl rfl), (rn_in 3 rfl rfl), by decide, by decide +kernel⟩, (Or.inr ⟨_, (rn_in 44 rfl rfl)⟩), (rn_in 45 rfl rfl), rfl⟩
set_option maxRecDepth 100000 in
theorem ii_Wt_25 : rn_II "WeightedTrees" 25 M_Ut_init 0 := ⟨⟨(rn_in 94 rfl rfl), (rn_in 4 rfl rfl), by decide, by decide +kernel⟩, (Or.inr ⟨_, (rn_in 92 rfl rfl)⟩), (rn_in 93 rfl rfl), rfl⟩
set_option maxRecDepth 100000 in
theorem ii_Wt_32 : rn_II "WeightedTrees" 32 M_Tl_init 0 := ⟨⟨(rn_in 104 rfl rfl), (rn_in 5 rfl rfl), by decide, by decide +kernel⟩, (Or.inr ⟨_, (rn_in 102 rfl rfl)⟩), (rn_in 103 rfl rfl), rfl⟩
set_option maxRecDepth 100000 in
theorem ii_Wt_39 : rn_II "WeightedTrees" 39 M_Gr_init 0 := ⟨⟨(rn_in 130 rfl rfl), (rn_in 6 rfl rfl), by decide, by decide +kernel⟩, (Or.inr ⟨_, (rn_in 128 rfl rfl)⟩), (rn_in 129 rfl rfl), rfl⟩
set_option maxRecDepth 100000 in
theorem ii_Wt_60 : rn_II "WeightedTrees" 60 M_Rd_init 2 := ⟨⟨(rn_in 257 rfl rfl), (rn_in 8 rfl rfl), by decide, by decide +kernel⟩, (Or.inl (rn_in 255 rfl rfl)), (rn_in 256 rfl rfl), rfl⟩
set_option maxRecDepth 100000 in
theorem kl_Dr_30 : Cond.constantLong "WeightedTrees$Draft" 30 (255) ∈ rn_tb := (rn_in 220 rfl rfl)
set_option maxRecDepth 100000 in
theorem kl_Rd_110 : Cond.constantLong "WeightedTrees$GrammarReader" 110 (2) ∈ rn_tb := (rn_in 341 rfl rfl)
set_option maxRecDepth 100000 in
theorem kl_Md_84 : Cond.constantLong "WeightedTreesModel" 84 (255) ∈ rn_tb := (rn_in 790 rfl rfl)
set_option maxRecDepth 100000 in
theorem kl_Md_102 : Cond.constantLong "WeightedTreesModel" 102 (2) ∈ rn_tb := (rn_in 840 rfl rfl)
set_option maxRecDepth 100000 in
theorem kl_Md_144 : Cond.constantLong "WeightedTreesModel" 144 (63) ∈ rn_tb := (rn_in 857 rfl rfl)
set_option maxRecDepth 100000 in
theorem kc_Ji_265 : Cond.constant "java/lang/Integer" 265 (1431655765) ∈ rn_tb := (rn_in 447 rfl rfl)
set_option maxRecDepth 100000 in
theorem kc_Ji_266 : Cond.constant "java/lang/Integer" 266 (858993459) ∈ rn_tb := (rn_in 448 rfl rfl)
set_option maxRecDepth 100000 in
theorem kc_Ji_267 : Cond.constant "java/lang/Integer" 267 (252645135) ∈ rn_tb := (rn_in 449 rfl rfl)
set_option maxRecDepth 100000 in
theorem mm_Tl_28 : Cond.methodLink "WeightedTrees$TreeListing" 28 Lib.Math.min.name ∈ rn_tb := (rn_in 648 rfl rfl)
set_option maxRecDepth 100000 in
theorem mm_1 : Cond.static Lib.Math.min.name ∈ rn_tb := (rn_in 649 rfl rfl)
set_option maxRecDepth 100000 in
theorem mm_2 : Cond.initialized "java/lang/Math" ∈ rn_tb := (rn_in 16 rfl rfl)
set_option maxRecDepth 100000 in
theorem mm_3 : Cond.code Lib.Math.min.name Lib.Math.min.code 2 (some .int) ∈ rn_tb := (rn_in 650 rfl rfl)
set_option maxRecDepth 100000 in
theorem oi_Wt_1 : Cond.methodLink "WeightedTrees" 1 Lib.objectInit ∈ rn_tb := (rn_in 22 rfl rfl)
set_option maxRecDepth 100000 in
theorem oi_Ch_5 : Cond.methodLink "WeightedTrees$Chart" 5 Lib.objectInit ∈ rn_tb := (rn_in 47 rfl rfl)
set_option maxRecDepth 100000 in
theorem oi_Dr_3 : Cond.methodLink "WeightedTrees$Draft" 3 Lib.objectInit ∈ rn_tb := (rn_in 30 rfl rfl)
set_option maxRecDepth 100000 in
theorem oi_Gr_3 : Cond.methodLink "WeightedTrees$Grammar" 3 Lib.objectInit ∈ rn_tb := (rn_in 131 rfl rfl)
set_option maxRecDepth 100000 in
theorem oi_Rd_3 : Cond.methodLink "WeightedTrees$GrammarReader" 3 Lib.objectInit ∈ rn_tb := (rn_in 258 rfl rfl)
set_option maxRecDepth 100000 in
theorem oi_Tl_3 : Cond.methodLink "WeightedTrees$TreeListing" 3 Lib.objectInit ∈ rn_tb := (rn_in 105 rfl rfl)
set_option maxRecDepth 100000 in
theorem oi_Ut_3 : Cond.methodLink "WeightedTrees$UnitTable" 3 Lib.objectInit ∈ rn_tb := (rn_in 95 rfl rfl)
set_option maxRecDepth 100000 in
theorem oi_Md_1 : Cond.methodLink "WeightedTreesModel" 1 Lib.objectInit ∈ rn_tb := (rn_in 675 rfl rfl)
set_option maxRecDepth 100000 in
theorem oi_1 : Cond.instanceMethod Lib.objectInit ∈ rn_tb := (rn_in 23 rfl rfl)
set_option maxRecDepth 100000 in
theorem oi_2 : Cond.code Lib.objectInit ⟨#[0xb1]⟩ 1 none ∈ rn_tb := (rn_in 24 rfl rfl)
set_option maxRecDepth 100000 in
theorem ac_int : Cond.arrayClass .int ∈ rn_tb := (rn_in 89 rfl rfl)
set_option maxRecDepth 100000 in
theorem ac_char : Cond.arrayClass .char ∈ rn_tb := (rn_in 41 rfl rfl)
set_option maxRecDepth 100000 in
theorem ac_long : Cond.arrayClass .long ∈ rn_tb := (rn_in 88 rfl rfl)
set_option maxRecDepth 100000 in
theorem ma_Ch_36 : Cond.classLink "WeightedTrees$Chart" 36 "[[J" ∈ rn_tb ∧ Cond.arrayOver (.array .long) ∈ rn_tb ∧ Cond.arrayClass .long ∈ rn_tb := ⟨(rn_in 48 rfl rfl), (rn_in 49 rfl rfl), (rn_in 88 rfl rfl)⟩
set_option maxRecDepth 100000 in
theorem ma_Ch_41 : Cond.classLink "WeightedTrees$Chart" 41 "[[I" ∈ rn_tb ∧ Cond.arrayOver (.array .int) ∈ rn_tb ∧ Cond.arrayClass .int ∈ rn_tb := ⟨(rn_in 50 rfl rfl), (rn_in 51 rfl rfl), (rn_in 89 rfl rfl)⟩
set_option maxRecDepth 100000 in
theorem nw_Wt_7 : rn_Nw "WeightedTrees" 7 1 2 [.null, .int 0] := ⟨_, _, _, cl_Dr, (rn_in 25 rfl rfl), (rn_in 26 rfl rfl), (rn_in 2 rfl rfl), by decide +kernel, fun _ => ⟨_, _, rfl, rfl, ⟨_, _, rfl, rfl, rfl⟩⟩⟩
set_option maxRecDepth 100000 in
theorem nw_Wt_16 : rn_Nw "WeightedTrees" 16 2 10 [.null, .null, .null, .null, .null, .null, .int 0, .null, .null, .null] := ⟨_, _, _, cl_Ch, (rn_in 42 rfl rfl), (rn_in 43 rfl rfl), (rn_in 3 rfl rfl), by decide +kernel, fun _ => ⟨_, _, rfl, rfl, ⟨_, _, rfl, rfl, ⟨_, _, rfl, rfl, ⟨_, _, rfl, rfl, ⟨_, _, rfl, rfl, ⟨_, _, rfl, rfl, ⟨_, _, rfl, rfl, ⟨_, _, rfl, rfl, ⟨_, _, rfl, rfl, ⟨_, _, rfl, rfl, rfl⟩⟩⟩⟩⟩⟩⟩⟩⟩⟩⟩
set_option maxRecDepth 100000 in
theorem nw_Wt_23 : rn_Nw "WeightedTrees" 23 3 1 [.null] := ⟨_, _, _, cl_Ut, (rn_in 90 rfl rfl), (rn_in 91 rfl rfl), (rn_in 4 rfl rfl), by decide +kernel, fun _ => ⟨_, _, rfl, rfl, rfl⟩⟩
set_option maxRecDepth 100000 in
theorem nw_Wt_30 : rn_Nw "WeightedTrees" 30 4 5 [.null, .null, .null, .null, .int 0] := ⟨_, _, _, cl_Tl, (rn_in 100 rfl rfl), (rn_in 101 rfl rfl), (rn_in 5 rfl rfl), by decide +kernel, fun _ => ⟨_, _, rfl, rfl, ⟨_, _, rfl, rfl, ⟨_, _, rfl, rfl, ⟨_, _, rfl, rfl, ⟨_, _, rfl, rfl, rfl⟩⟩⟩⟩⟩⟩
set_option maxRecDepth 100000 in
theorem nw_Wt_37 : rn_Nw "WeightedTrees" 37 5 10 [.null, .null, .null, .null, .null, .null, .null, .int 0, .int 0, .null] := ⟨_, _, _, cl_Gr, (rn_in 126 rfl rfl), (rn_in 127 rfl rfl), (rn_in 6 rfl rfl), by decide +kernel, fun _ => ⟨_, _, rfl, rfl, ⟨_, _, rfl, rfl, ⟨_, _, rfl, rfl, ⟨_, _, rfl, rfl, ⟨_, _, rfl, rfl, ⟨_, _, rfl, rfl, ⟨_, _, rfl, rfl, ⟨_, _, rfl, rfl, ⟨_, _, rfl, rfl, ⟨_, _, rfl, rfl, rfl⟩⟩⟩⟩⟩⟩⟩⟩⟩⟩⟩
set_option maxRecDepth 100000 in
theorem nw_Wt_58 : rn_Nw "WeightedTrees" 58 6 4 [.null, .null, .int 0, .int 0] := ⟨_, _, _, cl_Rd, (rn_in 253 rfl rfl), (rn_in 254 rfl rfl), (rn_in 8 rfl rfl), by decide +kernel, fun _ => ⟨_, _, rfl, rfl, ⟨_, _, rfl, rfl, ⟨_, _, rfl, rfl, ⟨_, _, rfl, rfl, rfl⟩⟩⟩⟩⟩
set_option maxRecDepth 100000 in
theorem ft_1 : Jvm.Bundle.fit "java/lang/IllegalArgumentException" = true := by decide +kernel
set_option maxRecDepth 100000 in
theorem ti_1 : Cond.initialized "java/lang/IllegalArgumentException" ∈ rn_tb := (rn_in 12 rfl rfl)
set_option maxRecDepth 100000 in
theorem cc_1 : Cond.castable "java/lang/IllegalArgumentException" "java/lang/IllegalArgumentException" ∈ rn_tb := (rn_in 348 rfl rfl)
set_option maxRecDepth 100000 in
theorem ft_2 : Jvm.Bundle.fit "java/lang/IllegalStateException" = true := by decide +kernel
set_option maxRecDepth 100000 in
theorem ti_2 : Cond.initialized "java/lang/IllegalStateException" ∈ rn_tb := (rn_in 14 rfl rfl)
set_option maxRecDepth 100000 in
theorem cc_2 : Cond.castable "java/lang/IllegalStateException" "java/lang/IllegalStateException" ∈ rn_tb := (rn_in 452 rfl rfl)
set_option maxRecDepth 100000 in
theorem ft_3 : Jvm.Bundle.fit "java/lang/IndexOutOfBoundsException" = true := by decide +kernel
set_option maxRecDepth 100000 in
theorem ti_3 : Cond.initialized "java/lang/IndexOutOfBoundsException" ∈ rn_tb := (rn_in 15 rfl rfl)
set_option maxRecDepth 100000 in
theorem cc_3 : Cond.castable "java/lang/IndexOutOfBoundsException" "java/lang/IndexOutOfBoundsException" ∈ rn_tb := (rn_in 569 rfl rfl)
set_option maxRecDepth 100000 in
theorem fn_0 : ∀ n ∈ ["java/lang/RuntimeException", "java/lang/Exception"], Jvm.Bundle.fit n = true := by decide +kernel
set_option maxRecDepth 100000 in
theorem tk_Wt_67 : Cond.classLink "WeightedTrees" 67 "java/lang/IllegalArgumentException" ∈ rn_tb := (rn_in 346 rfl rfl)
set_option maxRecDepth 100000 in
theorem ts_Wt_69 : ("WeightedTrees", 69, "the grammar is wrong") ∈ rn_strs := by simp [rn_strs]
set_option maxRecDepth 100000 in
theorem to_Wt_71 : rn_own "WeightedTrees" 71 "java/lang/IllegalArgumentException" ["java/lang/RuntimeException", "java/lang/Exception"] = true := by decide +kernel
set_option maxRecDepth 100000 in
theorem ts_Wt_99 : ("WeightedTrees", 99, "the draft is no text") ∈ rn_strs := by simp [rn_strs]
set_option maxRecDepth 100000 in
theorem ts_Wt_193 : ("WeightedTrees", 193, "there is no such part of a text") ∈ rn_strs := by simp [rn_strs]
set_option maxRecDepth 100000 in
theorem tk_Wt_78 : Cond.classLink "WeightedTrees" 78 "java/lang/IllegalStateException" ∈ rn_tb := (rn_in 450 rfl rfl)
set_option maxRecDepth 100000 in
theorem ts_Wt_80 : ("WeightedTrees", 80, "the grammar loops") ∈ rn_strs := by simp [rn_strs]
set_option maxRecDepth 100000 in
theorem to_Wt_82 : rn_own "WeightedTrees" 82 "java/lang/IllegalStateException" ["java/lang/RuntimeException", "java/lang/Exception"] = true := by decide +kernel
set_option maxRecDepth 100000 in
theorem ts_Wt_101 : ("WeightedTrees", 101, "there is no grammar") ∈ rn_strs := by simp [rn_strs]
set_option maxRecDepth 100000 in
theorem ts_Wt_157 : ("WeightedTrees", 157, "there is no tree") ∈ rn_strs := by simp [rn_strs]
set_option maxRecDepth 100000 in
theorem tk_Wt_126 : Cond.classLink "WeightedTrees" 126 "java/lang/IndexOutOfBoundsException" ∈ rn_tb := (rn_in 567 rfl rfl)
set_option maxRecDepth 100000 in
theorem ts_Wt_128 : ("WeightedTrees", 128, "there is no such rule") ∈ rn_strs := by simp [rn_strs]
set_option maxRecDepth 100000 in
theorem to_Wt_130 : rn_own "WeightedTrees" 130 "java/lang/IndexOutOfBoundsException" ["java/lang/RuntimeException", "java/lang/Exception"] = true := by decide +kernel
set_option maxRecDepth 100000 in
theorem ts_Wt_169 : ("WeightedTrees", 169, "there is no such node") ∈ rn_strs := by simp [rn_strs]
set_option maxRecDepth 100000 in
theorem ts_Wt_191 : ("WeightedTrees", 191, "there is no such nonterminal") ∈ rn_strs := by simp [rn_strs]
set_option maxRecDepth 100000 in
theorem cd_Wt_init : Cond.code M_Wt_init.1 M_Wt_init.2.1 M_Wt_init.2.2.1 M_Wt_init.2.2.2.1 ∈ rn_tb := (rn_in 21 rfl rfl)
set_option maxRecDepth 100000 in
theorem cd_Wt_put : Cond.code M_Wt_put.1 M_Wt_put.2.1 M_Wt_put.2.2.1 M_Wt_put.2.2.2.1 ∈ rn_tb := (rn_in 212 rfl rfl)
set_option maxRecDepth 100000 in
theorem cd_Wt_scrap : Cond.code M_Wt_scrap.1 M_Wt_scrap.2.1 M_Wt_scrap.2.2.1 M_Wt_scrap.2.2.2.1 ∈ rn_tb := (rn_in 227 rfl rfl)
set_option maxRecDepth 100000 in
theorem cd_Wt_load : Cond.code M_Wt_load.1 M_Wt_load.2.1 M_Wt_load.2.2.1 M_Wt_load.2.2.2.1 ∈ rn_tb := (rn_in 252 rfl rfl)
set_option maxRecDepth 100000 in
theorem cd_Wt_wrong : Cond.code M_Wt_wrong.1 M_Wt_wrong.2.1 M_Wt_wrong.2.2.1 M_Wt_wrong.2.2.2.1 ∈ rn_tb := (rn_in 235 rfl rfl)
set_option maxRecDepth 100000 in
theorem cd_Wt_parse : Cond.code M_Wt_parse.1 M_Wt_parse.2.1 M_Wt_parse.2.2.1 M_Wt_parse.2.2.2.1 ∈ rn_tb := (rn_in 534 rfl rfl)
set_option maxRecDepth 100000 in
theorem cd_Wt_count : Cond.code M_Wt_count.1 M_Wt_count.2.1 M_Wt_count.2.2.1 M_Wt_count.2.2.2.1 ∈ rn_tb := (rn_in 239 rfl rfl)
set_option maxRecDepth 100000 in
theorem cd_Wt_name : Cond.code M_Wt_name.1 M_Wt_name.2.1 M_Wt_name.2.2.1 M_Wt_name.2.2.2.1 ∈ rn_tb := (rn_in 562 rfl rfl)
set_option maxRecDepth 100000 in
theorem cd_Wt_weight : Cond.code M_Wt_weight.1 M_Wt_weight.2.1 M_Wt_weight.2.2.1 M_Wt_weight.2.2.2.1 ∈ rn_tb := (rn_in 589 rfl rfl)
set_option maxRecDepth 100000 in
theorem cd_Wt_empty : Cond.code M_Wt_empty.1 M_Wt_empty.2.1 M_Wt_empty.2.2.1 M_Wt_empty.2.2.2.1 ∈ rn_tb := (rn_in 597 rfl rfl)
set_option maxRecDepth 100000 in
theorem cd_Wt_unit : Cond.code M_Wt_unit.1 M_Wt_unit.2.1 M_Wt_unit.2.2.1 M_Wt_unit.2.2.2.1 ∈ rn_tb := (rn_in 605 rfl rfl)
set_option maxRecDepth 100000 in
theorem cd_Wt_inside : Cond.code M_Wt_inside.1 M_Wt_inside.2.1 M_Wt_inside.2.2.1 M_Wt_inside.2.2.2.1 ∈ rn_tb := (rn_in 613 rfl rfl)
set_option maxRecDepth 100000 in
theorem cd_Wt_cheapest : Cond.code M_Wt_cheapest.1 M_Wt_cheapest.2.1 M_Wt_cheapest.2.2.1 M_Wt_cheapest.2.2.2.1 ∈ rn_tb := (rn_in 626 rfl rfl)
set_option maxRecDepth 100000 in
theorem cd_Wt_build : Cond.code M_Wt_build.1 M_Wt_build.2.1 M_Wt_build.2.2.1 M_Wt_build.2.2.2.1 ∈ rn_tb := (rn_in 633 rfl rfl)
set_option maxRecDepth 100000 in
theorem cd_Wt_node : Cond.code M_Wt_node.1 M_Wt_node.2.1 M_Wt_node.2.2.1 M_Wt_node.2.2.2.1 ∈ rn_tb := (rn_in 667 rfl rfl)
set_option maxRecDepth 100000 in
theorem cd_Wt_hasGrammar : Cond.code M_Wt_hasGrammar.1 M_Wt_hasGrammar.2.1 M_Wt_hasGrammar.2.2.1 M_Wt_hasGrammar.2.2.2.1 ∈ rn_tb := (rn_in 243 rfl rfl)
set_option maxRecDepth 100000 in
theorem cd_Wt_takeSpareGrammar : Cond.code M_Wt_takeSpareGrammar.1 M_Wt_takeSpareGrammar.2.1 M_Wt_takeSpareGrammar.2.2.1 M_Wt_takeSpareGrammar.2.2.2.1 ∈ rn_tb := (rn_in 469 rfl rfl)
set_option maxRecDepth 100000 in
theorem cd_Wt_requireNonterminal : Cond.code M_Wt_requireNonterminal.1 M_Wt_requireNonterminal.2.1 M_Wt_requireNonterminal.2.2.1 M_Wt_requireNonterminal.2.2.2.1 ∈ rn_tb := (rn_in 566 rfl rfl)
set_option maxRecDepth 100000 in
theorem cd_Wt_requirePart : Cond.code M_Wt_requirePart.1 M_Wt_requirePart.2.1 M_Wt_requirePart.2.2.1 M_Wt_requirePart.2.2.2.1 ∈ rn_tb := (rn_in 617 rfl rfl)
set_option maxRecDepth 100000 in
theorem cd_Wt_isCapital : Cond.code M_Wt_isCapital.1 M_Wt_isCapital.2.1 M_Wt_isCapital.2.2.1 M_Wt_isCapital.2.2.2.1 ∈ rn_tb := (rn_in 310 rfl rfl)
set_option maxRecDepth 100000 in
theorem cd_Wt_isSmallLetter : Cond.code M_Wt_isSmallLetter.1 M_Wt_isSmallLetter.2.1 M_Wt_isSmallLetter.2.2.1 M_Wt_isSmallLetter.2.2.2.1 ∈ rn_tb := (rn_in 329 rfl rfl)
set_option maxRecDepth 100000 in
abbrev hh_Lw_build : List (Nat × Nat × Nat × Nat) := [(0, 12, 15, 25), (0, 12, 19, 13), (0, 12, 23, 15)]
set_option maxRecDepth 100000 in
theorem cw_Lw_build : Cond.codeWith M_Lw_build.1 M_Lw_build.2.1 M_Lw_build.2.2.1 M_Lw_build.2.2.2.1 hh_Lw_build ∈ rn_tb := (rn_in 629 rfl rfl)
set_option maxRecDepth 100000 in
theorem hc_Lw_build_0 : hh_Lw_build = [] ++ (0, 12, 15, 25) :: [(0, 12, 19, 13), (0, 12, 23, 15)] := rfl
set_option maxRecDepth 100000 in
theorem hl_Lw_build_0 : Cond.classLink "WeightedTreesLaw" 25 "java/lang/IndexOutOfBoundsException" ∈ rn_tb := (rn_in 558 rfl rfl)
set_option maxRecDepth 100000 in
theorem hc_Lw_build_1 : hh_Lw_build = [(0, 12, 15, 25)] ++ (0, 12, 19, 13) :: [(0, 12, 23, 15)] := rfl
set_option maxRecDepth 100000 in
theorem hl_Lw_build_1 : Cond.classLink "WeightedTreesLaw" 13 "java/lang/IllegalArgumentException" ∈ rn_tb := (rn_in 247 rfl rfl)
set_option maxRecDepth 100000 in
theorem hc_Lw_build_2 : hh_Lw_build = [(0, 12, 15, 25), (0, 12, 19, 13)] ++ (0, 12, 23, 15) :: [] := rfl
set_option maxRecDepth 100000 in
theorem hl_Lw_build_2 : Cond.classLink "WeightedTreesLaw" 15 "java/lang/IllegalStateException" ∈ rn_tb := (rn_in 248 rfl rfl)
set_option maxRecDepth 100000 in
theorem hq_Lw_build_0_3 : ∀ y ∈ ([] : List (Nat × Nat × Nat × Nat)), y.2.2.2 ≠ 0 ∧ ∃ nm, Cond.classLink "WeightedTreesLaw" y.2.2.2 nm ∈ rn_tb ∧ ("java/lang/IndexOutOfBoundsException", nm) ∈ rn_ncs := by
  intro y hy
  simp only [List.mem_cons, List.not_mem_nil, or_false] at hy
  
set_option maxRecDepth 100000 in
theorem hq_Lw_build_1_1 : ∀ y ∈ ([(0, 12, 15, 25)] : List (Nat × Nat × Nat × Nat)), y.2.2.2 ≠ 0 ∧ ∃ nm, Cond.classLink "WeightedTreesLaw" y.2.2.2 nm ∈ rn_tb ∧ ("java/lang/IllegalArgumentException", nm) ∈ rn_ncs := by
  intro y hy
  simp only [List.mem_cons, List.not_mem_nil, or_false] at hy
  subst hy
  exact ⟨by decide, _, hl_Lw_build_0, by decide⟩
set_option maxRecDepth 100000 in
theorem hq_Lw_build_2_2 : ∀ y ∈ ([(0, 12, 15, 25), (0, 12, 19, 13)] : List (Nat × Nat × Nat × Nat)), y.2.2.2 ≠ 0 ∧ ∃ nm, Cond.classLink "WeightedTreesLaw" y.2.2.2 nm ∈ rn_tb ∧ ("java/lang/IllegalStateException", nm) ∈ rn_ncs := by
  intro y hy
  simp only [List.mem_cons, List.not_mem_nil, or_false] at hy
  rcases hy with rfl | rfl
  · exact ⟨by decide, _, hl_Lw_build_0, by decide⟩
  · exact ⟨by decide, _, hl_Lw_build_1, by decide⟩
set_option maxRecDepth 100000 in
abbrev hh_Lw_cheapest : List (Nat × Nat × Nat × Nat) := [(0, 12, 15, 25), (0, 12, 19, 13)]
set_option maxRecDepth 100000 in
theorem cw_Lw_cheapest : Cond.codeWith M_Lw_cheapest.1 M_Lw_cheapest.2.1 M_Lw_cheapest.2.2.1 M_Lw_cheapest.2.2.2.1 hh_Lw_cheapest ∈ rn_tb := (rn_in 622 rfl rfl)
set_option maxRecDepth 100000 in
theorem hc_Lw_cheapest_0 : hh_Lw_cheapest = [] ++ (0, 12, 15, 25) :: [(0, 12, 19, 13)] := rfl
set_option maxRecDepth 100000 in
theorem hl_Lw_cheapest_0 : Cond.classLink "WeightedTreesLaw" 25 "java/lang/IndexOutOfBoundsException" ∈ rn_tb := (rn_in 558 rfl rfl)
set_option maxRecDepth 100000 in
theorem hc_Lw_cheapest_1 : hh_Lw_cheapest = [(0, 12, 15, 25)] ++ (0, 12, 19, 13) :: [] := rfl
set_option maxRecDepth 100000 in
theorem hl_Lw_cheapest_1 : Cond.classLink "WeightedTreesLaw" 13 "java/lang/IllegalArgumentException" ∈ rn_tb := (rn_in 247 rfl rfl)
set_option maxRecDepth 100000 in
theorem hq_Lw_cheapest_0_3 : ∀ y ∈ ([] : List (Nat × Nat × Nat × Nat)), y.2.2.2 ≠ 0 ∧ ∃ nm, Cond.classLink "WeightedTreesLaw" y.2.2.2 nm ∈ rn_tb ∧ ("java/lang/IndexOutOfBoundsException", nm) ∈ rn_ncs := by
  intro y hy
  simp only [List.mem_cons, List.not_mem_nil, or_false] at hy
  
set_option maxRecDepth 100000 in
theorem hq_Lw_cheapest_1_1 : ∀ y ∈ ([(0, 12, 15, 25)] : List (Nat × Nat × Nat × Nat)), y.2.2.2 ≠ 0 ∧ ∃ nm, Cond.classLink "WeightedTreesLaw" y.2.2.2 nm ∈ rn_tb ∧ ("java/lang/IllegalArgumentException", nm) ∈ rn_ncs := by
  intro y hy
  simp only [List.mem_cons, List.not_mem_nil, or_false] at hy
  subst hy
  exact ⟨by decide, _, hl_Lw_cheapest_0, by decide⟩
set_option maxRecDepth 100000 in
abbrev hh_Lw_empty : List (Nat × Nat × Nat × Nat) := [(0, 8, 11, 25)]
set_option maxRecDepth 100000 in
theorem cw_Lw_empty : Cond.codeWith M_Lw_empty.1 M_Lw_empty.2.1 M_Lw_empty.2.2.1 M_Lw_empty.2.2.2.1 hh_Lw_empty ∈ rn_tb := (rn_in 593 rfl rfl)
set_option maxRecDepth 100000 in
theorem hc_Lw_empty_0 : hh_Lw_empty = [] ++ (0, 8, 11, 25) :: [] := rfl
set_option maxRecDepth 100000 in
theorem hl_Lw_empty_0 : Cond.classLink "WeightedTreesLaw" 25 "java/lang/IndexOutOfBoundsException" ∈ rn_tb := (rn_in 558 rfl rfl)
set_option maxRecDepth 100000 in
theorem hq_Lw_empty_0_3 : ∀ y ∈ ([] : List (Nat × Nat × Nat × Nat)), y.2.2.2 ≠ 0 ∧ ∃ nm, Cond.classLink "WeightedTreesLaw" y.2.2.2 nm ∈ rn_tb ∧ ("java/lang/IndexOutOfBoundsException", nm) ∈ rn_ncs := by
  intro y hy
  simp only [List.mem_cons, List.not_mem_nil, or_false] at hy
  
set_option maxRecDepth 100000 in
abbrev hh_Lw_inside : List (Nat × Nat × Nat × Nat) := [(0, 11, 14, 25), (0, 11, 18, 13)]
set_option maxRecDepth 100000 in
theorem cw_Lw_inside : Cond.codeWith M_Lw_inside.1 M_Lw_inside.2.1 M_Lw_inside.2.2.1 M_Lw_inside.2.2.2.1 hh_Lw_inside ∈ rn_tb := (rn_in 609 rfl rfl)
set_option maxRecDepth 100000 in
theorem hc_Lw_inside_0 : hh_Lw_inside = [] ++ (0, 11, 14, 25) :: [(0, 11, 18, 13)] := rfl
set_option maxRecDepth 100000 in
theorem hl_Lw_inside_0 : Cond.classLink "WeightedTreesLaw" 25 "java/lang/IndexOutOfBoundsException" ∈ rn_tb := (rn_in 558 rfl rfl)
set_option maxRecDepth 100000 in
theorem hc_Lw_inside_1 : hh_Lw_inside = [(0, 11, 14, 25)] ++ (0, 11, 18, 13) :: [] := rfl
set_option maxRecDepth 100000 in
theorem hl_Lw_inside_1 : Cond.classLink "WeightedTreesLaw" 13 "java/lang/IllegalArgumentException" ∈ rn_tb := (rn_in 247 rfl rfl)
set_option maxRecDepth 100000 in
theorem hq_Lw_inside_0_3 : ∀ y ∈ ([] : List (Nat × Nat × Nat × Nat)), y.2.2.2 ≠ 0 ∧ ∃ nm, Cond.classLink "WeightedTreesLaw" y.2.2.2 nm ∈ rn_tb ∧ ("java/lang/IndexOutOfBoundsException", nm) ∈ rn_ncs := by
  intro y hy
  simp only [List.mem_cons, List.not_mem_nil, or_false] at hy
  
set_option maxRecDepth 100000 in
theorem hq_Lw_inside_1_1 : ∀ y ∈ ([(0, 11, 14, 25)] : List (Nat × Nat × Nat × Nat)), y.2.2.2 ≠ 0 ∧ ∃ nm, Cond.classLink "WeightedTreesLaw" y.2.2.2 nm ∈ rn_tb ∧ ("java/lang/IllegalArgumentException", nm) ∈ rn_ncs := by
  intro y hy
  simp only [List.mem_cons, List.not_mem_nil, or_false] at hy
  subst hy
  exact ⟨by decide, _, hl_Lw_inside_0, by decide⟩
set_option maxRecDepth 100000 in
abbrev hh_Lw_load : List (Nat × Nat × Nat × Nat) := [(0, 8, 11, 13), (0, 8, 14, 15)]
set_option maxRecDepth 100000 in
theorem cw_Lw_load : Cond.codeWith M_Lw_load.1 M_Lw_load.2.1 M_Lw_load.2.2.1 M_Lw_load.2.2.2.1 hh_Lw_load ∈ rn_tb := (rn_in 246 rfl rfl)
set_option maxRecDepth 100000 in
theorem hc_Lw_load_0 : hh_Lw_load = [] ++ (0, 8, 11, 13) :: [(0, 8, 14, 15)] := rfl
set_option maxRecDepth 100000 in
theorem hl_Lw_load_0 : Cond.classLink "WeightedTreesLaw" 13 "java/lang/IllegalArgumentException" ∈ rn_tb := (rn_in 247 rfl rfl)
set_option maxRecDepth 100000 in
theorem hc_Lw_load_1 : hh_Lw_load = [(0, 8, 11, 13)] ++ (0, 8, 14, 15) :: [] := rfl
set_option maxRecDepth 100000 in
theorem hl_Lw_load_1 : Cond.classLink "WeightedTreesLaw" 15 "java/lang/IllegalStateException" ∈ rn_tb := (rn_in 248 rfl rfl)
set_option maxRecDepth 100000 in
theorem hq_Lw_load_0_1 : ∀ y ∈ ([] : List (Nat × Nat × Nat × Nat)), y.2.2.2 ≠ 0 ∧ ∃ nm, Cond.classLink "WeightedTreesLaw" y.2.2.2 nm ∈ rn_tb ∧ ("java/lang/IllegalArgumentException", nm) ∈ rn_ncs := by
  intro y hy
  simp only [List.mem_cons, List.not_mem_nil, or_false] at hy
  
set_option maxRecDepth 100000 in
theorem hq_Lw_load_1_2 : ∀ y ∈ ([(0, 8, 11, 13)] : List (Nat × Nat × Nat × Nat)), y.2.2.2 ≠ 0 ∧ ∃ nm, Cond.classLink "WeightedTreesLaw" y.2.2.2 nm ∈ rn_tb ∧ ("java/lang/IllegalStateException", nm) ∈ rn_ncs := by
  intro y hy
  simp only [List.mem_cons, List.not_mem_nil, or_false] at hy
  subst hy
  exact ⟨by decide, _, hl_Lw_load_0, by decide⟩
set_option maxRecDepth 100000 in
abbrev hh_Lw_name : List (Nat × Nat × Nat × Nat) := [(0, 9, 12, 25)]
set_option maxRecDepth 100000 in
theorem cw_Lw_name : Cond.codeWith M_Lw_name.1 M_Lw_name.2.1 M_Lw_name.2.2.1 M_Lw_name.2.2.2.1 hh_Lw_name ∈ rn_tb := (rn_in 557 rfl rfl)
set_option maxRecDepth 100000 in
theorem hc_Lw_name_0 : hh_Lw_name = [] ++ (0, 9, 12, 25) :: [] := rfl
set_option maxRecDepth 100000 in
theorem hl_Lw_name_0 : Cond.classLink "WeightedTreesLaw" 25 "java/lang/IndexOutOfBoundsException" ∈ rn_tb := (rn_in 558 rfl rfl)
set_option maxRecDepth 100000 in
theorem hq_Lw_name_0_3 : ∀ y ∈ ([] : List (Nat × Nat × Nat × Nat)), y.2.2.2 ≠ 0 ∧ ∃ nm, Cond.classLink "WeightedTreesLaw" y.2.2.2 nm ∈ rn_tb ∧ ("java/lang/IndexOutOfBoundsException", nm) ∈ rn_ncs := by
  intro y hy
  simp only [List.mem_cons, List.not_mem_nil, or_false] at hy
  
set_option maxRecDepth 100000 in
abbrev hh_Lw_node : List (Nat × Nat × Nat × Nat) := [(0, 10, 13, 25)]
set_option maxRecDepth 100000 in
theorem cw_Lw_node : Cond.codeWith M_Lw_node.1 M_Lw_node.2.1 M_Lw_node.2.2.1 M_Lw_node.2.2.2.1 hh_Lw_node ∈ rn_tb := (rn_in 663 rfl rfl)
set_option maxRecDepth 100000 in
theorem hc_Lw_node_0 : hh_Lw_node = [] ++ (0, 10, 13, 25) :: [] := rfl
set_option maxRecDepth 100000 in
theorem hl_Lw_node_0 : Cond.classLink "WeightedTreesLaw" 25 "java/lang/IndexOutOfBoundsException" ∈ rn_tb := (rn_in 558 rfl rfl)
set_option maxRecDepth 100000 in
theorem hq_Lw_node_0_3 : ∀ y ∈ ([] : List (Nat × Nat × Nat × Nat)), y.2.2.2 ≠ 0 ∧ ∃ nm, Cond.classLink "WeightedTreesLaw" y.2.2.2 nm ∈ rn_tb ∧ ("java/lang/IndexOutOfBoundsException", nm) ∈ rn_ncs := by
  intro y hy
  simp only [List.mem_cons, List.not_mem_nil, or_false] at hy
  
set_option maxRecDepth 100000 in
abbrev hh_Lw_parse : List (Nat × Nat × Nat × Nat) := [(0, 15, 18, 13), (0, 15, 21, 15)]
set_option maxRecDepth 100000 in
theorem cw_Lw_parse : Cond.codeWith M_Lw_parse.1 M_Lw_parse.2.1 M_Lw_parse.2.2.1 M_Lw_parse.2.2.2.1 hh_Lw_parse ∈ rn_tb := (rn_in 530 rfl rfl)
set_option maxRecDepth 100000 in
theorem hc_Lw_parse_0 : hh_Lw_parse = [] ++ (0, 15, 18, 13) :: [(0, 15, 21, 15)] := rfl
set_option maxRecDepth 100000 in
theorem hl_Lw_parse_0 : Cond.classLink "WeightedTreesLaw" 13 "java/lang/IllegalArgumentException" ∈ rn_tb := (rn_in 247 rfl rfl)
set_option maxRecDepth 100000 in
theorem hc_Lw_parse_1 : hh_Lw_parse = [(0, 15, 18, 13)] ++ (0, 15, 21, 15) :: [] := rfl
set_option maxRecDepth 100000 in
theorem hl_Lw_parse_1 : Cond.classLink "WeightedTreesLaw" 15 "java/lang/IllegalStateException" ∈ rn_tb := (rn_in 248 rfl rfl)
set_option maxRecDepth 100000 in
theorem hq_Lw_parse_0_1 : ∀ y ∈ ([] : List (Nat × Nat × Nat × Nat)), y.2.2.2 ≠ 0 ∧ ∃ nm, Cond.classLink "WeightedTreesLaw" y.2.2.2 nm ∈ rn_tb ∧ ("java/lang/IllegalArgumentException", nm) ∈ rn_ncs := by
  intro y hy
  simp only [List.mem_cons, List.not_mem_nil, or_false] at hy
  
set_option maxRecDepth 100000 in
theorem hq_Lw_parse_1_2 : ∀ y ∈ ([(0, 15, 18, 13)] : List (Nat × Nat × Nat × Nat)), y.2.2.2 ≠ 0 ∧ ∃ nm, Cond.classLink "WeightedTreesLaw" y.2.2.2 nm ∈ rn_tb ∧ ("java/lang/IllegalStateException", nm) ∈ rn_ncs := by
  intro y hy
  simp only [List.mem_cons, List.not_mem_nil, or_false] at hy
  subst hy
  exact ⟨by decide, _, hl_Lw_parse_0, by decide⟩
set_option maxRecDepth 100000 in
abbrev hh_Lw_unit : List (Nat × Nat × Nat × Nat) := [(0, 9, 12, 25)]
set_option maxRecDepth 100000 in
theorem cw_Lw_unit : Cond.codeWith M_Lw_unit.1 M_Lw_unit.2.1 M_Lw_unit.2.2.1 M_Lw_unit.2.2.2.1 hh_Lw_unit ∈ rn_tb := (rn_in 601 rfl rfl)
set_option maxRecDepth 100000 in
theorem hc_Lw_unit_0 : hh_Lw_unit = [] ++ (0, 9, 12, 25) :: [] := rfl
set_option maxRecDepth 100000 in
theorem hl_Lw_unit_0 : Cond.classLink "WeightedTreesLaw" 25 "java/lang/IndexOutOfBoundsException" ∈ rn_tb := (rn_in 558 rfl rfl)
set_option maxRecDepth 100000 in
theorem hq_Lw_unit_0_3 : ∀ y ∈ ([] : List (Nat × Nat × Nat × Nat)), y.2.2.2 ≠ 0 ∧ ∃ nm, Cond.classLink "WeightedTreesLaw" y.2.2.2 nm ∈ rn_tb ∧ ("java/lang/IndexOutOfBoundsException", nm) ∈ rn_ncs := by
  intro y hy
  simp only [List.mem_cons, List.not_mem_nil, or_false] at hy
  
set_option maxRecDepth 100000 in
abbrev hh_Lw_weight : List (Nat × Nat × Nat × Nat) := [(0, 8, 11, 25)]
set_option maxRecDepth 100000 in
theorem cw_Lw_weight : Cond.codeWith M_Lw_weight.1 M_Lw_weight.2.1 M_Lw_weight.2.2.1 M_Lw_weight.2.2.2.1 hh_Lw_weight ∈ rn_tb := (rn_in 585 rfl rfl)
set_option maxRecDepth 100000 in
theorem hc_Lw_weight_0 : hh_Lw_weight = [] ++ (0, 8, 11, 25) :: [] := rfl
set_option maxRecDepth 100000 in
theorem hl_Lw_weight_0 : Cond.classLink "WeightedTreesLaw" 25 "java/lang/IndexOutOfBoundsException" ∈ rn_tb := (rn_in 558 rfl rfl)
set_option maxRecDepth 100000 in
theorem hq_Lw_weight_0_3 : ∀ y ∈ ([] : List (Nat × Nat × Nat × Nat)), y.2.2.2 ≠ 0 ∧ ∃ nm, Cond.classLink "WeightedTreesLaw" y.2.2.2 nm ∈ rn_tb ∧ ("java/lang/IndexOutOfBoundsException", nm) ∈ rn_ncs := by
  intro y hy
  simp only [List.mem_cons, List.not_mem_nil, or_false] at hy
  
set_option maxRecDepth 100000 in
theorem vl_Wt_118 : Cond.methodLink "WeightedTrees" 118 M_Wt_requireNonterminal.1 ∈ rn_tb := (rn_in 563 rfl rfl)
set_option maxRecDepth 100000 in
theorem vl_Wt_143 : Cond.methodLink "WeightedTrees" 143 M_Wt_requirePart.1 ∈ rn_tb := (rn_in 614 rfl rfl)
set_option maxRecDepth 100000 in
theorem vl_Lw_7 : Cond.methodLink "WeightedTreesLaw" 7 M_Wt_load.1 ∈ rn_tb := (rn_in 249 rfl rfl)
set_option maxRecDepth 100000 in
theorem vl_Lw_17 : Cond.methodLink "WeightedTreesLaw" 17 M_Wt_parse.1 ∈ rn_tb := (rn_in 531 rfl rfl)
set_option maxRecDepth 100000 in
theorem vl_Lw_21 : Cond.methodLink "WeightedTreesLaw" 21 M_Wt_name.1 ∈ rn_tb := (rn_in 559 rfl rfl)
set_option maxRecDepth 100000 in
theorem vl_Lw_27 : Cond.methodLink "WeightedTreesLaw" 27 M_Wt_weight.1 ∈ rn_tb := (rn_in 586 rfl rfl)
set_option maxRecDepth 100000 in
theorem vl_Lw_31 : Cond.methodLink "WeightedTreesLaw" 31 M_Wt_empty.1 ∈ rn_tb := (rn_in 594 rfl rfl)
set_option maxRecDepth 100000 in
theorem vl_Lw_34 : Cond.methodLink "WeightedTreesLaw" 34 M_Wt_unit.1 ∈ rn_tb := (rn_in 602 rfl rfl)
set_option maxRecDepth 100000 in
theorem vl_Lw_38 : Cond.methodLink "WeightedTreesLaw" 38 M_Wt_inside.1 ∈ rn_tb := (rn_in 610 rfl rfl)
set_option maxRecDepth 100000 in
theorem vl_Lw_42 : Cond.methodLink "WeightedTreesLaw" 42 M_Wt_cheapest.1 ∈ rn_tb := (rn_in 623 rfl rfl)
set_option maxRecDepth 100000 in
theorem vl_Lw_46 : Cond.methodLink "WeightedTreesLaw" 46 M_Wt_build.1 ∈ rn_tb := (rn_in 630 rfl rfl)
set_option maxRecDepth 100000 in
theorem vl_Lw_49 : Cond.methodLink "WeightedTreesLaw" 49 M_Wt_node.1 ∈ rn_tb := (rn_in 664 rfl rfl)
