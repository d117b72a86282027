/-! Classes, fields, methods, codes: written by program out of the Statement and the listing. -/
def R_Wt : String := "WeightedTrees"
def T_Wt : u_T := fun k => match k with
  | 0 => ("WeightedTrees", "draft", "LWeightedTrees$Draft;", true)
  | 1 => ("WeightedTrees", "chart", "LWeightedTrees$Chart;", true)
  | 2 => ("WeightedTrees", "units", "LWeightedTrees$UnitTable;", true)
  | 3 => ("WeightedTrees", "tree", "LWeightedTrees$TreeListing;", true)
  | 4 => ("WeightedTrees", "grammar", "LWeightedTrees$Grammar;", false)
  | 5 => ("WeightedTrees", "spare", "LWeightedTrees$Grammar;", false)
  | _ => ("WeightedTrees", "wrongLine", "I", false)
def ty_Wt : Nat → FieldType := fun k => match k with
  | 0 => .object "WeightedTrees$Draft"
  | 1 => .object "WeightedTrees$Chart"
  | 2 => .object "WeightedTrees$UnitTable"
  | 3 => .object "WeightedTrees$TreeListing"
  | 4 => .object "WeightedTrees$Grammar"
  | 5 => .object "WeightedTrees$Grammar"
  | _ => .int
def R_Dr : String := "WeightedTrees$Draft"
def T_Dr : u_T := fun k => match k with
  | 0 => ("WeightedTrees$Draft", "characters", "[C", true)
  | _ => ("WeightedTrees$Draft", "length", "I", false)
def ty_Dr : Nat → FieldType := fun k => match k with
  | 0 => .array .char
  | _ => .int
def R_Ch : String := "WeightedTrees$Chart"
def T_Ch : u_T := fun k => match k with
  | 0 => ("WeightedTrees$Chart", "sums", "[J", true)
  | 1 => ("WeightedTrees$Chart", "costs", "[I", true)
  | 2 => ("WeightedTrees$Chart", "rules", "[I", true)
  | 3 => ("WeightedTrees$Chart", "sizes", "[I", true)
  | 4 => ("WeightedTrees$Chart", "lengths", "[I", true)
  | 5 => ("WeightedTrees$Chart", "letters", "[C", true)
  | 6 => ("WeightedTrees$Chart", "textLength", "I", false)
  | 7 => ("WeightedTrees$Chart", "restSums", "[[J", true)
  | 8 => ("WeightedTrees$Chart", "restCosts", "[[I", true)
  | _ => ("WeightedTrees$Chart", "restLengths", "[[I", true)
def ty_Ch : Nat → FieldType := fun k => match k with
  | 0 => .array .long
  | 1 => .array .int
  | 2 => .array .int
  | 3 => .array .int
  | 4 => .array .int
  | 5 => .array .char
  | 6 => .int
  | 7 => .array (.array .long)
  | 8 => .array (.array .int)
  | _ => .array (.array .int)
def R_Ut : String := "WeightedTrees$UnitTable"
def T_Ut : u_T := fun k => match k with
  | _ => ("WeightedTrees$UnitTable", "table", "[J", true)
def ty_Ut : Nat → FieldType := fun k => match k with
  | _ => .array .long
def R_Tl : String := "WeightedTrees$TreeListing"
def T_Tl : u_T := fun k => match k with
  | 0 => ("WeightedTrees$TreeListing", "rules", "[I", true)
  | 1 => ("WeightedTrees$TreeListing", "starts", "[I", true)
  | 2 => ("WeightedTrees$TreeListing", "ends", "[I", true)
  | 3 => ("WeightedTrees$TreeListing", "symbols", "[I", true)
  | _ => ("WeightedTrees$TreeListing", "nodeCount", "I", false)
def ty_Tl : Nat → FieldType := fun k => match k with
  | 0 => .array .int
  | 1 => .array .int
  | 2 => .array .int
  | 3 => .array .int
  | _ => .int
def R_Gr : String := "WeightedTrees$Grammar"
def T_Gr : u_T := fun k => match k with
  | 0 => ("WeightedTrees$Grammar", "heads", "[I", true)
  | 1 => ("WeightedTrees$Grammar", "bodies", "[I", true)
  | 2 => ("WeightedTrees$Grammar", "bodyLengths", "[I", true)
  | 3 => ("WeightedTrees$Grammar", "weights", "[J", true)
  | 4 => ("WeightedTrees$Grammar", "costs", "[I", true)
  | 5 => ("WeightedTrees$Grammar", "capitals", "[I", true)
  | 6 => ("WeightedTrees$Grammar", "order", "[I", true)
  | 7 => ("WeightedTrees$Grammar", "ruleCount", "I", false)
  | 8 => ("WeightedTrees$Grammar", "nonterminalCount", "I", false)
  | _ => ("WeightedTrees$Grammar", "reached", "[I", true)
def ty_Gr : Nat → FieldType := fun k => match k with
  | 0 => .array .int
  | 1 => .array .int
  | 2 => .array .int
  | 3 => .array .long
  | 4 => .array .int
  | 5 => .array .int
  | 6 => .array .int
  | 7 => .int
  | 8 => .int
  | _ => .array .int
def R_Rd : String := "WeightedTrees$GrammarReader"
def T_Rd : u_T := fun k => match k with
  | 0 => ("WeightedTrees$GrammarReader", "source", "LWeightedTrees$Draft;", true)
  | 1 => ("WeightedTrees$GrammarReader", "target", "LWeightedTrees$Grammar;", true)
  | 2 => ("WeightedTrees$GrammarReader", "at", "I", false)
  | _ => ("WeightedTrees$GrammarReader", "end", "I", false)
def ty_Rd : Nat → FieldType := fun k => match k with
  | 0 => .object "WeightedTrees$Draft"
  | 1 => .object "WeightedTrees$Grammar"
  | 2 => .int
  | _ => .int
def R_Md : String := "WeightedTreesModel"
def T_Md : u_T := fun k => match k with
  | 0 => ("WeightedTreesModel", "code", "I", false)
  | 1 => ("WeightedTreesModel", "draft", "[I", true)
  | 2 => ("WeightedTreesModel", "size", "I", false)
  | 3 => ("WeightedTreesModel", "src", "[I", true)
  | 4 => ("WeightedTreesModel", "kept", "[I", true)
  | 5 => ("WeightedTreesModel", "keptSize", "I", false)
  | 6 => ("WeightedTreesModel", "loaded", "Z", false)
  | 7 => ("WeightedTreesModel", "wrongLine", "I", false)
  | 8 => ("WeightedTreesModel", "rules", "I", false)
  | 9 => ("WeightedTreesModel", "heads", "[I", true)
  | 10 => ("WeightedTreesModel", "lengths", "[I", true)
  | 11 => ("WeightedTreesModel", "bodies", "[I", true)
  | 12 => ("WeightedTreesModel", "weights", "[J", true)
  | 13 => ("WeightedTreesModel", "costs", "[I", true)
  | 14 => ("WeightedTreesModel", "symbols", "I", false)
  | 15 => ("WeightedTreesModel", "names", "[I", true)
  | 16 => ("WeightedTreesModel", "hasText", "Z", false)
  | 17 => ("WeightedTreesModel", "letters", "I", false)
  | 18 => ("WeightedTreesModel", "text", "[I", true)
  | 19 => ("WeightedTreesModel", "emptySum", "[J", true)
  | 20 => ("WeightedTreesModel", "emptyCost", "[I", true)
  | 21 => ("WeightedTreesModel", "sums", "[J", true)
  | 22 => ("WeightedTreesModel", "least", "[I", true)
  | 23 => ("WeightedTreesModel", "units", "[J", true)
  | 24 => ("WeightedTreesModel", "upTo", "[J", true)
  | 25 => ("WeightedTreesModel", "upToNext", "[J", true)
  | 26 => ("WeightedTreesModel", "rest", "[I", true)
  | 27 => ("WeightedTreesModel", "nodes", "I", false)
  | 28 => ("WeightedTreesModel", "nodeRule", "[I", true)
  | 29 => ("WeightedTreesModel", "nodeFrom", "[I", true)
  | 30 => ("WeightedTreesModel", "nodeTo", "[I", true)
  | 31 => ("WeightedTreesModel", "waits", "[I", true)
  | 32 => ("WeightedTreesModel", "at", "I", false)
  | 33 => ("WeightedTreesModel", "end", "I", false)
  | _ => ("WeightedTreesModel", "value", "I", false)
def ty_Md : Nat → FieldType := fun k => match k with
  | 0 => .int
  | 1 => .array .int
  | 2 => .int
  | 3 => .array .int
  | 4 => .array .int
  | 5 => .int
  | 6 => .boolean
  | 7 => .int
  | 8 => .int
  | 9 => .array .int
  | 10 => .array .int
  | 11 => .array .int
  | 12 => .array .long
  | 13 => .array .int
  | 14 => .int
  | 15 => .array .int
  | 16 => .boolean
  | 17 => .int
  | 18 => .array .int
  | 19 => .array .long
  | 20 => .array .int
  | 21 => .array .long
  | 22 => .array .int
  | 23 => .array .long
  | 24 => .array .long
  | 25 => .array .long
  | 26 => .array .int
  | 27 => .int
  | 28 => .array .int
  | 29 => .array .int
  | 30 => .array .int
  | 31 => .array .int
  | 32 => .int
  | 33 => .int
  | _ => .int
abbrev rn_cl : List vw_C := [("WeightedTrees", T_Wt, 7), ("WeightedTrees$Draft", T_Dr, 2), ("WeightedTrees$Chart", T_Ch, 10), ("WeightedTrees$UnitTable", T_Ut, 1), ("WeightedTrees$TreeListing", T_Tl, 5), ("WeightedTrees$Grammar", T_Gr, 10), ("WeightedTrees$GrammarReader", T_Rd, 4), ("WeightedTreesModel", T_Md, 35)]
def rn_wk : Cond → Bool
  | .fieldLinkNest .. => true
  | .methodLinkNest .. => true
  | .castable .. => true
  | .declares _ => true
  | .arrayOver (.array _) => true
  | w => goodWord w
def rn_tb : List Cond := lw_tbl.filter rn_wk
theorem rn_in (i : Nat) {w : Cond} (h : tables_1[i]? = some w) (hk : rn_wk w = true) : w ∈ rn_tb := List.mem_filter.mpr ⟨List.mem_append_right _ (List.mem_of_getElem? h), hk⟩
theorem rn_inS (i : Nat) {w : Cond} (h : (k2_sels lw_privs)[i]? = some w) (hk : rn_wk w = true) : w ∈ rn_tb := List.mem_filter.mpr ⟨List.mem_append_left _ (List.mem_of_getElem? h), hk⟩
theorem rn_over {t : FieldType} {args a' : Array Value} {u U : State} (hal : u.vm.Alike U.vm) (h : (Cond.arrayOver (.array t)).before args u = true) : (Cond.arrayOver (.array t)).before a' U = true := by
  simp only [Cond.before, Cond.holds, Cond.value] at h ⊢
  rw [hal.findClass]
  cases hf : u.vm.findClass (FieldType.array t).toString with
  | none => rw [hf] at h; simp at h
  | some comp =>
    rw [hf] at h
    simp only [Option.bind_some] at h ⊢
    rw [hal.findIdx_congr _ (fun _ _ _ _ => rfl)]
    generalize hF : (u.vm.classes.findIdx? fun (x : Class) => match x.kind with | .array component _ => component == comp | _ => false) = fi at h ⊢
    cases fi with
    | none => simp at h
    | some c =>
      simp only [Option.bind_some] at h ⊢
      cases hk : u.vm.classes[c]? with
      | none => rw [hk] at h; simp at h
      | some k =>
        obtain ⟨k', hk', ek⟩ := hal.2.2 _ _ hk
        rw [hk] at h
        rw [hk', hal.findClass]
        have ekind : k'.kind = k.kind := by rw [ek]
        simp only [Option.map_some] at h ⊢
        rw [ekind]
        exact h
theorem rn_warm {w : Cond} {args a' : Array Value} {s U : State} (hk : rn_wk w = true) (h : w.before args s = true) (hW : s.WarmedH U.vm) : w.before a' U = true := by
  unfold rn_wk at hk
  split at hk
  · exact va_Nw.use rfl (va_Nw.warmF hW (va_Nw.of rfl h))
  · exact va_Nw.use rfl (va_Nw.warmM hW (va_Nw.of rfl h))
  · exact va_Nw.use rfl (va_Nw.warmC hW (va_Nw.of rfl h))
  · exact va_Nw.use rfl (va_Nw.warmD hW (va_Nw.of rfl h))
  · exact rn_over hW.alike h
  · exact word_at hW (good_of_word hk) h
def rn_zs : List (String × String × String) := [("java/lang/Throwable", "UNASSIGNED_STACK", "[Ljava/lang/StackTraceElement;"), ("java/lang/Throwable", "SUPPRESSED_SENTINEL", "Ljava/util/List;")]
def rn_strs : List (String × Nat × String) := [("WeightedTrees", 69, "the grammar is wrong"), ("WeightedTrees", 80, "the grammar loops"), ("WeightedTrees", 99, "the draft is no text"), ("WeightedTrees", 101, "there is no grammar"), ("WeightedTrees", 191, "there is no such nonterminal"), ("WeightedTrees", 128, "there is no such rule"), ("WeightedTrees", 193, "there is no such part of a text"), ("WeightedTrees", 157, "there is no tree"), ("WeightedTrees", 169, "there is no such node")]
def rn_ncs : List (String × String) := [("java/lang/IllegalArgumentException", "java/lang/IllegalStateException"), ("java/lang/IllegalArgumentException", "java/lang/IndexOutOfBoundsException"), ("java/lang/IllegalStateException", "java/lang/IllegalArgumentException"), ("java/lang/IllegalStateException", "java/lang/IndexOutOfBoundsException"), ("java/lang/IndexOutOfBoundsException", "java/lang/IllegalArgumentException"), ("java/lang/IndexOutOfBoundsException", "java/lang/IllegalStateException")]
