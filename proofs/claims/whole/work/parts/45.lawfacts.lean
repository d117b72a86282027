set_option maxRecDepth 100000 in
theorem lw_ini : Cond.initialized "WeightedTreesLaw" ∈ rn_tb := (rn_in 0 rfl rfl)
set_option maxRecDepth 100000 in
theorem lk_68 : Cond.methodLink "WeightedTreesLaw" 68 M_Lw_load.1 ∈ rn_tb := (rn_in 244 rfl rfl)
set_option maxRecDepth 100000 in
theorem ls_68 : Cond.static M_Lw_load.1 ∈ rn_tb := (rn_in 245 rfl rfl)
set_option maxRecDepth 100000 in
theorem lk_81 : Cond.methodLink "WeightedTreesLaw" 81 M_Lw_parse.1 ∈ rn_tb := (rn_in 528 rfl rfl)
set_option maxRecDepth 100000 in
theorem ls_81 : Cond.static M_Lw_parse.1 ∈ rn_tb := (rn_in 529 rfl rfl)
set_option maxRecDepth 100000 in
theorem lk_88 : Cond.methodLink "WeightedTreesLaw" 88 M_Lw_name.1 ∈ rn_tb := (rn_in 555 rfl rfl)
set_option maxRecDepth 100000 in
theorem ls_88 : Cond.static M_Lw_name.1 ∈ rn_tb := (rn_in 556 rfl rfl)
set_option maxRecDepth 100000 in
theorem lk_92 : Cond.methodLink "WeightedTreesLaw" 92 M_Lw_weight.1 ∈ rn_tb := (rn_in 583 rfl rfl)
set_option maxRecDepth 100000 in
theorem ls_92 : Cond.static M_Lw_weight.1 ∈ rn_tb := (rn_in 584 rfl rfl)
set_option maxRecDepth 100000 in
theorem lk_95 : Cond.methodLink "WeightedTreesLaw" 95 M_Lw_empty.1 ∈ rn_tb := (rn_in 591 rfl rfl)
set_option maxRecDepth 100000 in
theorem ls_95 : Cond.static M_Lw_empty.1 ∈ rn_tb := (rn_in 592 rfl rfl)
set_option maxRecDepth 100000 in
theorem lk_98 : Cond.methodLink "WeightedTreesLaw" 98 M_Lw_unit.1 ∈ rn_tb := (rn_in 599 rfl rfl)
set_option maxRecDepth 100000 in
theorem ls_98 : Cond.static M_Lw_unit.1 ∈ rn_tb := (rn_in 600 rfl rfl)
set_option maxRecDepth 100000 in
theorem lk_102 : Cond.methodLink "WeightedTreesLaw" 102 M_Lw_inside.1 ∈ rn_tb := (rn_in 607 rfl rfl)
set_option maxRecDepth 100000 in
theorem ls_102 : Cond.static M_Lw_inside.1 ∈ rn_tb := (rn_in 608 rfl rfl)
set_option maxRecDepth 100000 in
theorem lk_106 : Cond.methodLink "WeightedTreesLaw" 106 M_Lw_cheapest.1 ∈ rn_tb := (rn_in 620 rfl rfl)
set_option maxRecDepth 100000 in
theorem ls_106 : Cond.static M_Lw_cheapest.1 ∈ rn_tb := (rn_in 621 rfl rfl)
set_option maxRecDepth 100000 in
theorem lk_109 : Cond.methodLink "WeightedTreesLaw" 109 M_Lw_build.1 ∈ rn_tb := (rn_in 627 rfl rfl)
set_option maxRecDepth 100000 in
theorem ls_109 : Cond.static M_Lw_build.1 ∈ rn_tb := (rn_in 628 rfl rfl)
set_option maxRecDepth 100000 in
theorem lk_112 : Cond.methodLink "WeightedTreesLaw" 112 M_Lw_node.1 ∈ rn_tb := (rn_in 661 rfl rfl)
set_option maxRecDepth 100000 in
theorem ls_112 : Cond.static M_Lw_node.1 ∈ rn_tb := (rn_in 662 rfl rfl)
set_option maxRecDepth 100000 in
theorem iv_Lw_59 : rn_IV "WeightedTreesLaw" 59 M_Wt_put 2 0 := ⟨⟨(rn_in 212 rfl rfl), (rn_in 1 rfl rfl), by decide, by decide +kernel⟩, (Or.inl (rn_in 209 rfl rfl)), (rn_in 210 rfl rfl), (rn_in 211 rfl rfl), _, rfl, rfl⟩
set_option maxRecDepth 100000 in
theorem iv_Lw_63 : rn_IV "WeightedTreesLaw" 63 M_Md_put 2 7 := ⟨⟨(rn_in 789 rfl rfl), (rn_in 7 rfl rfl), by decide, by decide +kernel⟩, (Or.inl (rn_in 786 rfl rfl)), (rn_in 787 rfl rfl), (rn_in 788 rfl rfl), _, rfl, rfl⟩
set_option maxRecDepth 100000 in
theorem iv_Lw_64 : rn_IV "WeightedTreesLaw" 64 M_Wt_scrap 0 0 := ⟨⟨(rn_in 227 rfl rfl), (rn_in 1 rfl rfl), by decide, by decide +kernel⟩, (Or.inl (rn_in 224 rfl rfl)), (rn_in 225 rfl rfl), (rn_in 226 rfl rfl), _, rfl, rfl⟩
set_option maxRecDepth 100000 in
theorem iv_Lw_67 : rn_IV "WeightedTreesLaw" 67 M_Md_scrap 0 7 := ⟨⟨(rn_in 794 rfl rfl), (rn_in 7 rfl rfl), by decide, by decide +kernel⟩, (Or.inl (rn_in 791 rfl rfl)), (rn_in 792 rfl rfl), (rn_in 793 rfl rfl), _, rfl, rfl⟩
set_option maxRecDepth 100000 in
theorem iv_Lw_73 : rn_IV "WeightedTreesLaw" 73 M_Md_load 0 7 := ⟨⟨(rn_in 798 rfl rfl), (rn_in 7 rfl rfl), by decide, by decide +kernel⟩, (Or.inl (rn_in 795 rfl rfl)), (rn_in 796 rfl rfl), (rn_in 797 rfl rfl), _, rfl, rfl⟩
set_option maxRecDepth 100000 in
theorem iv_Lw_74 : rn_IV "WeightedTreesLaw" 74 M_Md_thrown 0 7 := ⟨⟨(rn_in 785 rfl rfl), (rn_in 7 rfl rfl), by decide, by decide +kernel⟩, (Or.inl (rn_in 782 rfl rfl)), (rn_in 783 rfl rfl), (rn_in 784 rfl rfl), _, rfl, rfl⟩
set_option maxRecDepth 100000 in
theorem iv_Lw_77 : rn_IV "WeightedTreesLaw" 77 M_Wt_wrong 0 0 := ⟨⟨(rn_in 235 rfl rfl), (rn_in 1 rfl rfl), by decide, by decide +kernel⟩, (Or.inl (rn_in 232 rfl rfl)), (rn_in 233 rfl rfl), (rn_in 234 rfl rfl), _, rfl, rfl⟩
set_option maxRecDepth 100000 in
theorem iv_Lw_80 : rn_IV "WeightedTreesLaw" 80 M_Md_wrong 0 7 := ⟨⟨(rn_in 873 rfl rfl), (rn_in 7 rfl rfl), by decide, by decide +kernel⟩, (Or.inl (rn_in 870 rfl rfl)), (rn_in 871 rfl rfl), (rn_in 872 rfl rfl), _, rfl, rfl⟩
set_option maxRecDepth 100000 in
theorem iv_Lw_83 : rn_IV "WeightedTreesLaw" 83 M_Md_parse 0 7 := ⟨⟨(rn_in 877 rfl rfl), (rn_in 7 rfl rfl), by decide, by decide +kernel⟩, (Or.inl (rn_in 874 rfl rfl)), (rn_in 875 rfl rfl), (rn_in 876 rfl rfl), _, rfl, rfl⟩
set_option maxRecDepth 100000 in
theorem iv_Lw_84 : rn_IV "WeightedTreesLaw" 84 M_Wt_count 1 0 := ⟨⟨(rn_in 239 rfl rfl), (rn_in 1 rfl rfl), by decide, by decide +kernel⟩, (Or.inl (rn_in 236 rfl rfl)), (rn_in 237 rfl rfl), (rn_in 238 rfl rfl), _, rfl, rfl⟩
set_option maxRecDepth 100000 in
theorem iv_Lw_87 : rn_IV "WeightedTreesLaw" 87 M_Md_count 1 7 := ⟨⟨(rn_in 904 rfl rfl), (rn_in 7 rfl rfl), by decide, by decide +kernel⟩, (Or.inl (rn_in 901 rfl rfl)), (rn_in 902 rfl rfl), (rn_in 903 rfl rfl), _, rfl, rfl⟩
set_option maxRecDepth 100000 in
theorem iv_Lw_91 : rn_IV "WeightedTreesLaw" 91 M_Md_name 1 7 := ⟨⟨(rn_in 908 rfl rfl), (rn_in 7 rfl rfl), by decide, by decide +kernel⟩, (Or.inl (rn_in 905 rfl rfl)), (rn_in 906 rfl rfl), (rn_in 907 rfl rfl), _, rfl, rfl⟩
set_option maxRecDepth 100000 in
theorem iv_Lw_94 : rn_IV "WeightedTreesLaw" 94 M_Md_weight 1 7 := ⟨⟨(rn_in 916 rfl rfl), (rn_in 7 rfl rfl), by decide, by decide +kernel⟩, (Or.inl (rn_in 913 rfl rfl)), (rn_in 914 rfl rfl), (rn_in 915 rfl rfl), _, rfl, rfl⟩
set_option maxRecDepth 100000 in
theorem iv_Lw_97 : rn_IV "WeightedTreesLaw" 97 M_Md_empty 1 7 := ⟨⟨(rn_in 920 rfl rfl), (rn_in 7 rfl rfl), by decide, by decide +kernel⟩, (Or.inl (rn_in 917 rfl rfl)), (rn_in 918 rfl rfl), (rn_in 919 rfl rfl), _, rfl, rfl⟩
set_option maxRecDepth 100000 in
theorem iv_Lw_101 : rn_IV "WeightedTreesLaw" 101 M_Md_unit 2 7 := ⟨⟨(rn_in 924 rfl rfl), (rn_in 7 rfl rfl), by decide, by decide +kernel⟩, (Or.inl (rn_in 921 rfl rfl)), (rn_in 922 rfl rfl), (rn_in 923 rfl rfl), _, rfl, rfl⟩
set_option maxRecDepth 100000 in
theorem iv_Lw_105 : rn_IV "WeightedTreesLaw" 105 M_Md_inside 3 7 := ⟨⟨(rn_in 928 rfl rfl), (rn_in 7 rfl rfl), by decide, by decide +kernel⟩, (Or.inl (rn_in 925 rfl rfl)), (rn_in 926 rfl rfl), (rn_in 927 rfl rfl), _, rfl, rfl⟩
set_option maxRecDepth 100000 in
theorem iv_Lw_108 : rn_IV "WeightedTreesLaw" 108 M_Md_cheapest 3 7 := ⟨⟨(rn_in 936 rfl rfl), (rn_in 7 rfl rfl), by decide, by decide +kernel⟩, (Or.inl (rn_in 933 rfl rfl)), (rn_in 934 rfl rfl), (rn_in 935 rfl rfl), _, rfl, rfl⟩
set_option maxRecDepth 100000 in
theorem iv_Lw_111 : rn_IV "WeightedTreesLaw" 111 M_Md_build 3 7 := ⟨⟨(rn_in 940 rfl rfl), (rn_in 7 rfl rfl), by decide, by decide +kernel⟩, (Or.inl (rn_in 937 rfl rfl)), (rn_in 938 rfl rfl), (rn_in 939 rfl rfl), _, rfl, rfl⟩
set_option maxRecDepth 100000 in
theorem iv_Lw_114 : rn_IV "WeightedTreesLaw" 114 M_Md_node 2 7 := ⟨⟨(rn_in 960 rfl rfl), (rn_in 7 rfl rfl), by decide, by decide +kernel⟩, (Or.inl (rn_in 957 rfl rfl)), (rn_in 958 rfl rfl), (rn_in 959 rfl rfl), _, rfl, rfl⟩
set_option maxRecDepth 100000 in
theorem kl_Lw_57 : Cond.constantLong "WeightedTreesLaw" 57 (4294967295) ∈ rn_tb := (rn_in 961 rfl rfl)
def lw_is : List Nat := [0, 1, 2, 3, 4, 5, 6, 7, 8, 9, 10, 11, 12, 13, 14, 15, 16, 17, 18, 19, 20, 21, 22, 23, 24, 25, 26, 27, 28, 29, 30, 31, 32, 33, 34, 44, 45, 46, 47, 48, 49, 50, 51, 52, 35, 36, 37, 38, 39, 40, 41, 42, 43, 53, 54, 55, 56, 57, 58, 59, 60, 61, 62, 63, 64, 65, 66, 67, 68, 69, 70, 71, 72, 73, 74, 75, 76]
def lw_id : List Nat := [0, 1, 2, 3, 4, 5, 6, 7, 8, 9, 10, 11, 12, 13, 14, 15, 16, 17, 18, 19, 20, 21, 22, 23, 24, 25, 26, 27, 28, 29, 30, 31, 32, 33, 34, 35, 36, 37, 38, 39, 40, 41, 42, 43, 44, 45, 46, 47, 48, 49, 50, 51, 52, 53, 54, 55, 56, 57, 58, 59, 60, 61, 62, 63, 64, 65, 66, 67, 68, 69, 70, 71, 72, 73, 74, 75, 76]
def lw_fa (is : List Nat) (w : List rn_C) : List rn_C → List Nat → Prop
  | [], [] => True
  | c :: cs, i :: js => w[i]? = some (rn_mc is c) ∧ lw_fa is w cs js
  | _, _ => False
theorem lw_fa_ok {is : List Nat} {w : List rn_C} : ∀ (w' : List rn_C) (js : List Nat), lw_fa is w w' js → ∀ (j : Nat) (c : rn_C), w'[j]? = some c → ∃ i : Nat, js[j]? = some i ∧ w[i]? = some (rn_mc is c) := by
  intro w'
  induction w' with
  | nil => intro js _ j c hj; simp at hj
  | cons c0 cs ih =>
    intro js h j c hj
    cases js with
    | nil => exact absurd h id
    | cons i0 js =>
      cases j with
      | zero =>
        have : c0 = c := by simpa using hj
        subst this
        exact ⟨i0, rfl, h.1⟩
      | succ j =>
        obtain ⟨i, e1, e2⟩ := ih js h.2 j c (by simpa using hj)
        exact ⟨i, by simpa using e1, e2⟩
set_option maxHeartbeats 8000000 in
set_option maxRecDepth 100000 in
theorem lw_swap1 {Z : rn_Z} {M : rn_M} {pc : Nat} {ls : List (Option Value)} {st : List Value} {ca sa : Nat} {K : rn_K} {x : tX} {d : tD} {c : tC} {u : tU} {t : tT} {a b : tG} {m : tM} {o : tO} {r : tR} (hK : ∀ below args s mc ms A a b, K below args s mc ms A a = K below args s mc ms A b) (hls : ls = ls.map (Option.map (rn_mv lw_is))) (hst : st = st.map (rn_mv lw_is)) (k : Rn Z M pc ls st (emb 35 44 x d c u t b a m o []) ca sa K) : Rn Z M pc ls st (emb 44 35 x d c u t a b m o [rd_cell r]) ca sa K :=
  rn_ren lw_is hK (by exact rfl) (by exact rfl) (by decide) (lw_fa_ok _ _ (by exact ⟨rfl, rfl, rfl, rfl, rfl, rfl, rfl, rfl, rfl, rfl, rfl, rfl, rfl, rfl, rfl, rfl, rfl, rfl, rfl, rfl, rfl, rfl, rfl, rfl, rfl, rfl, rfl, rfl, rfl, rfl, rfl, rfl, rfl, rfl, rfl, rfl, rfl, rfl, rfl, rfl, rfl, rfl, rfl, rfl, rfl, rfl, rfl, rfl, rfl, rfl, rfl, rfl, rfl, rfl, rfl, rfl, rfl, rfl, rfl, rfl, rfl, rfl, rfl, rfl, rfl, rfl, rfl, rfl, rfl, rfl, rfl, rfl, rfl, rfl, rfl, rfl, rfl, trivial⟩)) (by exact rfl) hls hst k
set_option maxHeartbeats 8000000 in
set_option maxRecDepth 100000 in
theorem lw_swap2 {Z : rn_Z} {M : rn_M} {pc : Nat} {ls : List (Option Value)} {st : List Value} {ca sa : Nat} {K : rn_K} {x : tX} {d : tD} {c : tC} {u : tU} {t : tT} {a b : tG} {m : tM} {o : tO} {r : tR} (hK : ∀ below args s mc ms A a b, K below args s mc ms A a = K below args s mc ms A b) (hls : ls = ls.map (Option.map (rn_mv lw_id))) (hst : st = st.map (rn_mv lw_id)) (k : Rn Z M pc ls st (emb 35 44 x d c u t a b m o []) ca sa K) : Rn Z M pc ls st (emb 35 44 x d c u t a b m o [rd_cell r]) ca sa K :=
  rn_ren lw_id hK (by exact rfl) (by exact rfl) (by decide) (lw_fa_ok _ _ (by exact ⟨rfl, rfl, rfl, rfl, rfl, rfl, rfl, rfl, rfl, rfl, rfl, rfl, rfl, rfl, rfl, rfl, rfl, rfl, rfl, rfl, rfl, rfl, rfl, rfl, rfl, rfl, rfl, rfl, rfl, rfl, rfl, rfl, rfl, rfl, rfl, rfl, rfl, rfl, rfl, rfl, rfl, rfl, rfl, rfl, rfl, rfl, rfl, rfl, rfl, rfl, rfl, rfl, rfl, rfl, rfl, rfl, rfl, rfl, rfl, rfl, rfl, rfl, rfl, rfl, rfl, rfl, rfl, rfl, rfl, rfl, rfl, rfl, rfl, rfl, rfl, rfl, rfl, trivial⟩)) (by exact rfl) hls hst k
theorem lw_swap {res : Int32} {Z : rn_Z} {M : rn_M} {pc : Nat} {ls : List (Option Value)} {st : List Value} {ca sa : Nat} {K : rn_K} {x : tX} {d : tD} {c : tC} {u : tU} {t : tT} {a b : tG} {m : tM} {o : tO} {r : tR} (hK : ∀ below args s mc ms A a b, K below args s mc ms A a = K below args s mc ms A b) (h1 : ls = ls.map (Option.map (rn_mv lw_is))) (h2 : st = st.map (rn_mv lw_is)) (h3 : ls = ls.map (Option.map (rn_mv lw_id))) (h4 : st = st.map (rn_mv lw_id)) (k : Rn Z M pc ls st (emb 35 44 x d c u t (if res = 0 then b else a) (if res = 0 then a else b) m o []) ca sa K) : Rn Z M pc ls st (emb (if res = 0 then 44 else 35) (if res = 0 then 35 else 44) x d c u t a b m o [rd_cell r]) ca sa K := by
  by_cases h : res = 0
  · rw [if_pos h, if_pos h] at k
    rw [if_pos h, if_pos h]
    exact lw_swap1 hK h1 h2 k
  · rw [if_neg h, if_neg h] at k
    rw [if_neg h, if_neg h]
    exact lw_swap2 hK h3 h4 k
