/-! ===== what stays through all calls: the tables' words, nest links, texts, two statics ===== -/
def wAll : List Cond := lw_tbl.filter goodWord
theorem wAll_in {w : Cond} {i : Nat} (h : lw_tbl[i]? = some w) (hg : goodWord w = true) : w ∈ wAll := List.mem_filter.mpr ⟨List.mem_of_getElem? h, hg⟩
theorem wAll_tbl {w : Cond} (h : w ∈ wAll) : w ∈ lw_tbl := (List.mem_filter.mp h).1
theorem wAll_good {w : Cond} (h : w ∈ wAll) : goodWord w = true := (List.mem_filter.mp h).2
abbrev wsc (y : MethodName) (cc : ByteArray) (n : Nat) (ret : Option FieldType) : List Cond := .code y cc n ret :: wAll
theorem good_c {c0 : Cond} (h : c0 ∈ wAll) : GoodIn wAll (c0 :: wAll) := fun w hw => by
  rcases List.mem_cons.mp hw with rfl | hw
  · exact ⟨h, good_of_word (wAll_good h)⟩
  · exact ⟨hw, good_of_word (wAll_good hw)⟩
theorem good_V {own C : String} {idx : Nat} {y : MethodName} {ws : List Cond} (h1 : Cond.methodLink own idx y ∈ wAll) (h2 : Cond.instanceMethod y ∈ wAll) (h3 : Cond.selects C y y ∈ wAll) (h4 : Cond.initialized C ∈ wAll) (hG : GoodIn wAll ws) : GoodIn wAll (wsV own idx C y ws) := by
  intro w hw
  unfold wsV at hw
  rcases List.mem_append.mp hw with hw | hw
  · have : w ∈ wAll := by
      rcases List.mem_cons.mp hw with rfl | hw
      · exact h1
      · rcases List.mem_cons.mp hw with rfl | hw
        · exact h2
        · rcases List.mem_cons.mp hw with rfl | hw
          · exact h3
          · rcases List.mem_cons.mp hw with rfl | hw
            · exact h4
            · cases hw
    exact ⟨this, good_of_word (wAll_good this)⟩
  · exact hG w hw
theorem good_S {own : String} {idx : Nat} {y : MethodName} {ws : List Cond} (h1 : Cond.methodLink own idx y ∈ wAll) (h2 : Cond.static y ∈ wAll) (h4 : Cond.initialized own ∈ wAll) (hG : GoodIn wAll ws) : GoodIn wAll (wsS own idx y ws) := by
  intro w hw
  unfold wsS at hw
  rcases List.mem_append.mp hw with hw | hw
  · have : w ∈ wAll := by
      rcases List.mem_cons.mp hw with rfl | hw
      · exact h1
      · rcases List.mem_cons.mp hw with rfl | hw
        · exact h2
        · rcases List.mem_cons.mp hw with rfl | hw
          · exact h4
          · cases hw
    exact ⟨this, good_of_word (wAll_good this)⟩
  · exact hG w hw
def isNest : Cond → Bool
  | .fieldLinkNest .. => true
  | .methodLinkNest .. => true
  | _ => false
def nestW : List Cond := tables_1.filter isNest
theorem nest_in {w : Cond} {i : Nat} (h : tables_1[i]? = some w) (hg : isNest w = true) : w ∈ nestW := List.mem_filter.mpr ⟨List.mem_of_getElem? h, hg⟩
theorem nest_warm {w : Cond} (hg : isNest w = true) {s U : State} (hW : s.WarmedH U.vm) (h : va_Nw w s) : va_Nw w U := by
  cases w <;> first | exact va_Nw.warmF hW h | exact va_Nw.warmM hW h | cases hg
theorem nest_tab {w : Cond} (hg : isNest w = true) : w.onTables = true := by
  cases w <;> first | rfl | cases hg
/-- the texts that the class throws: their places in its pool -/
def strW : List (Nat × String) := [(21, "skill is not 1 to 9"), (32, "there are 4 jugglers"), (43, "length is not 1 to 8"), (48, "heights has not at most length digits"), (83, "kind is not 0 to 2"), (88, "there are 12 things"), (98, "hand is not 0 or 1"), (110, "the thing is not on the floor"), (115, "the hand has a thing"), (185, "there is no such juggler"), (187, "there is no such place"), (192, "there is no such thing"), (194, "what is none of the answers"), (196, "beats is too few or too many")]
def exN : List String := ["java/lang/RuntimeException", "java/lang/Exception"]
def exL : List Cond := vx_atS RX4 23 "java/lang/IllegalArgumentException" exN ++ (vx_atS RX4 34 "java/lang/IllegalStateException" exN ++ vx_atS RX4 100 "java/lang/IndexOutOfBoundsException" exN)
def isBad : Cond → Bool
  | .castable .. => true
  | .declares .. => true
  | _ => false
def badW : List Cond := tables_1.filter isBad
theorem bad_in {w : Cond} {i : Nat} (h : tables_1[i]? = some w) (hg : isBad w = true) : w ∈ badW := List.mem_filter.mpr ⟨List.mem_of_getElem? h, hg⟩
theorem bad_warm0 {w : Cond} (hg : isBad w = true) {s U : State} (hW : s.WarmedH U.vm) (h : va_Nw w s) : va_Nw w U := by
  cases w <;> first | exact va_Nw.warmC hW h | exact va_Nw.warmD hW h | cases hg
theorem bad_tab0 {w : Cond} (hg : isBad w = true) : w.onTables = true := by
  cases w <;> first | rfl | cases hg
theorem bad_warm (w : Cond) (hw : w ∈ badW) {s U : State} (hW : s.WarmedH U.vm) (h : va_Nw w s) : va_Nw w U := bad_warm0 (List.mem_filter.mp hw).2 hW h
theorem bad_tab (w : Cond) (hw : w ∈ badW) : w.onTables = true := bad_tab0 (List.mem_filter.mp hw).2
theorem exL_kind : exL.all (fun w => goodWord w || isBad w) = true := by decide +kernel
theorem exL_tbl : exL.all (fun w => decide (w ∈ lw_tbl)) = true := by decide +kernel
theorem exL_bad : (exL.filter isBad).all (fun w => decide (w ∈ tables_1)) = true := by decide +kernel
theorem exL_hat {args : Array Value} {s : State} (h1 : ∀ w, w ∈ wAll → w.before args s = true) (h2 : ∀ w, w ∈ badW → va_Nw w s) : ∀ w, w ∈ exL → w.before args s = true := by
  intro w hw
  have hk := List.all_eq_true.mp exL_kind w hw
  simp only [Bool.or_eq_true] at hk
  rcases hk with hk | hk
  · exact h1 w (List.mem_filter.mpr ⟨of_decide_eq_true (List.all_eq_true.mp exL_tbl w hw), hk⟩)
  · exact va_Nw.use (bad_tab0 hk) (h2 w (List.mem_filter.mpr ⟨of_decide_eq_true (List.all_eq_true.mp exL_bad w (List.mem_filter.mpr ⟨hw, hk⟩)), hk⟩))
theorem exL_ot : exL.all vx_ot = true := by decide +kernel
