/-! names of classes, methods; their words -/
/-- a word that stays true in every callee -/
def am_gw (w : Cond) : Bool := match w with
  | .arrayClass _ => true
  | w => w.onTables && w.keepsFace
def am_tbl : List Cond := lw_tbl.filter am_gw
theorem am_in {w : Cond} (i : Nat) (h : tables_1[i]? = some w) (hg : am_gw w = true) : w ∈ am_tbl := List.mem_filter.mpr ⟨List.mem_append_right _ (List.mem_of_getElem? h), hg⟩
theorem am_inS {w : Cond} (i : Nat) (h : (k2_sels lw_privs)[i]? = some w) (hg : am_gw w = true) : w ∈ am_tbl := List.mem_filter.mpr ⟨List.mem_append_left _ (List.mem_of_getElem? h), hg⟩
theorem am_word {args a2 : Array Value} {s U : State} (hW : s.WarmedH U.vm) {c : Cond} (hc : am_gw c = true) (h : c.before args s = true) : c.before a2 U = true := by
  by_cases ha : ∃ ty, c = .arrayClass ty
  · exact word_at hW (Or.inr ha) h
  · have hg : (c.onTables && c.keepsFace) = true := by
      cases c <;> first | exact hc | exact absurd ⟨_, rfl⟩ ha
    rw [Bool.and_eq_true] at hg
    have h1 : c.before args (s.setVm U.vm) = true := Cond.before_shiftedFace (State.Shifted.of_warmed hW) _ hg.2 h
    rw [Cond.onTables_vm (A' := a2) (U' := U) U.vm c hg.1, State.setVm_self] at h1
    exact h1
def am_RS : String := "StrideViews$Store"
def am_TS : u_T := fun k => match k with
  | 0 => ("StrideViews$Store", "number", "I", true)
  | 1 => ("StrideViews$Store", "lane", "I", true)
  | 2 => ("StrideViews$Store", "row", "[J", true)
  | _ => ("StrideViews$Store", "viewsOfIt", "I", false)
def am_tS : Nat → FieldType := fun k => match k with
  | 0 => .int
  | 1 => .int
  | 2 => (.array .long)
  | _ => .int
def am_RV : String := "StrideViews$View"
def am_TV : u_T := fun k => match k with
  | 0 => ("StrideViews$View", "store", "LStrideViews$Store;", true)
  | 1 => ("StrideViews$View", "start", "I", false)
  | 2 => ("StrideViews$View", "axes", "I", false)
  | 3 => ("StrideViews$View", "items", "I", false)
  | 4 => ("StrideViews$View", "extents", "[I", true)
  | _ => ("StrideViews$View", "steps", "[I", true)
def am_tV : Nat → FieldType := fun k => match k with
  | 0 => (.object "StrideViews$Store")
  | 1 => .int
  | 2 => .int
  | 3 => .int
  | 4 => (.array .int)
  | _ => (.array .int)
def am_RX : String := "StrideViews"
def am_TX : u_T := fun k => match k with
  | 0 => ("StrideViews", "stores", "[LStrideViews$Store;", true)
  | 1 => ("StrideViews", "views", "[LStrideViews$View;", true)
  | 2 => ("StrideViews", "storesMade", "I", false)
  | 3 => ("StrideViews", "viewsMade", "I", false)
  | 4 => ("StrideViews", "places", "[I", true)
  | 5 => ("StrideViews", "numbers", "[J", true)
  | _ => ("StrideViews", "marks", "[Z", true)
def am_tX : Nat → FieldType := fun k => match k with
  | 0 => (.array (.object "StrideViews$Store"))
  | 1 => (.array (.object "StrideViews$View"))
  | 2 => .int
  | 3 => .int
  | 4 => (.array .int)
  | 5 => (.array .long)
  | _ => (.array .boolean)
def am_RM : String := "StrideViewsModel"
def am_TM : u_T := fun k => match k with
  | 0 => ("StrideViewsModel", "thrown", "I", false)
  | 1 => ("StrideViewsModel", "stores", "I", false)
  | 2 => ("StrideViewsModel", "lanes", "[I", true)
  | 3 => ("StrideViewsModel", "sizes", "[I", true)
  | 4 => ("StrideViewsModel", "numbers", "[J", true)
  | 5 => ("StrideViewsModel", "views", "I", false)
  | 6 => ("StrideViewsModel", "storeOf", "[I", true)
  | 7 => ("StrideViewsModel", "starts", "[I", true)
  | 8 => ("StrideViewsModel", "axes", "[I", true)
  | 9 => ("StrideViewsModel", "extents", "[I", true)
  | 10 => ("StrideViewsModel", "steps", "[I", true)
  | 11 => ("StrideViewsModel", "newExtents", "[J", true)
  | 12 => ("StrideViewsModel", "newSteps", "[J", true)
  | 13 => ("StrideViewsModel", "newAxes", "I", false)
  | 14 => ("StrideViewsModel", "read", "[J", true)
  | _ => ("StrideViewsModel", "met", "[Z", true)
def am_tM : Nat → FieldType := fun k => match k with
  | 0 => .int
  | 1 => .int
  | 2 => (.array .int)
  | 3 => (.array .int)
  | 4 => (.array .long)
  | 5 => .int
  | 6 => (.array .int)
  | 7 => (.array .int)
  | 8 => (.array .int)
  | 9 => (.array .int)
  | 10 => (.array .int)
  | 11 => (.array .long)
  | 12 => (.array .long)
  | 13 => .int
  | 14 => (.array .long)
  | _ => (.array .boolean)
def am_T0 : u_T := fun _ => ("", "", "", false)
/-- the classes whose objects are cells: stores, views, the class, the reference, three exceptions -/
def am_cl : List vw_C := [("StrideViews$Store", am_TS, 4), ("StrideViews$View", am_TV, 6), ("StrideViews", am_TX, 7), ("StrideViewsModel", am_TM, 16), ("java/lang/IndexOutOfBoundsException", am_T0, 0), ("java/lang/IllegalArgumentException", am_T0, 0), ("java/lang/IllegalStateException", am_T0, 0)]
/-- the kinds of arrays -/
def am_tyl : List FieldType := [.int, .long, .boolean, .object "StrideViews$Store", .object "StrideViews$View"]
def am_ncl : List (String × String) := [("java/lang/IndexOutOfBoundsException", "java/lang/IllegalArgumentException"), ("java/lang/IndexOutOfBoundsException", "java/lang/IllegalStateException"), ("java/lang/IllegalArgumentException", "java/lang/IndexOutOfBoundsException"), ("java/lang/IllegalArgumentException", "java/lang/IllegalStateException"), ("java/lang/IllegalStateException", "java/lang/IndexOutOfBoundsException"), ("java/lang/IllegalStateException", "java/lang/IllegalArgumentException")]
def am_strs : List (String × Nat × String) := [("StrideViews", 250, "no such lane"), ("StrideViews", 46, "a store has 0 to 300 numbers"), ("StrideViews", 265, "too many stores or views"), ("StrideViews", 267, "too many views or items"), ("StrideViews", 244, "no such view"), ("StrideViews", 246, "no such axis"), ("StrideViews", 252, "an extent below 0, or a step of 0"), ("StrideViews", 254, "an index outside the axis"), ("StrideViews", 98, "no such index along the axis"), ("StrideViews", 107, "no such place for an axis"), ("StrideViews", 109, "an extent below 0"), ("StrideViews", 113, "the view has four axes"), ("StrideViews", 116, "the two axes are one"), ("StrideViews", 127, "an extent below NONE"), ("StrideViews", 142, "the extents make another number of items"), ("StrideViews", 156, "there are no such steps"), ("StrideViews", 263, "more than 300 items"), ("StrideViews", 248, "no such item"), ("StrideViews", 261, "the view is fixed"), ("StrideViews", 259, "a view does not go to the other one"), ("StrideViews", 193, "no such act"), ("StrideViews", 199, "no such act for a fold"), ("StrideViews", 228, "nothing of a view has this number"), ("StrideViews", 230, "nothing of an axis has this number"), ("StrideViews", 232, "no such store"), ("StrideViews", 240, "nothing of a store has this number"), ("StrideViews", 242, "nothing that is counted has this number")]
def am_aos : List String := ["StrideViews$Store", "StrideViews$View"]
theorem am_iS : ∀ w ∈ u_ws "StrideViews$Store" am_TS 4, w ∈ am_tbl := by decide +kernel
theorem am_nS : ∀ a, a < 4 → ∀ b, b < 4 → a ≠ b → (am_TS a).2.1 ≠ (am_TS b).2.1 := by decide +kernel
theorem am_qS : ∀ k, k < 4 → parseFieldDescriptor (am_TS k).2.2.1 = some (am_tS k) := by decide +kernel
theorem am_iV : ∀ w ∈ u_ws "StrideViews$View" am_TV 6, w ∈ am_tbl := by decide +kernel
theorem am_nV : ∀ a, a < 6 → ∀ b, b < 6 → a ≠ b → (am_TV a).2.1 ≠ (am_TV b).2.1 := by decide +kernel
theorem am_qV : ∀ k, k < 6 → parseFieldDescriptor (am_TV k).2.2.1 = some (am_tV k) := by decide +kernel
theorem am_iX : ∀ w ∈ u_ws "StrideViews" am_TX 7, w ∈ am_tbl := by decide +kernel
theorem am_nX : ∀ a, a < 7 → ∀ b, b < 7 → a ≠ b → (am_TX a).2.1 ≠ (am_TX b).2.1 := by decide +kernel
theorem am_qX : ∀ k, k < 7 → parseFieldDescriptor (am_TX k).2.2.1 = some (am_tX k) := by decide +kernel
theorem am_iM : ∀ w ∈ u_ws "StrideViewsModel" am_TM 16, w ∈ am_tbl := by decide +kernel
theorem am_nM : ∀ a, a < 16 → ∀ b, b < 16 → a ≠ b → (am_TM a).2.1 ≠ (am_TM b).2.1 := by decide +kernel
theorem am_qM : ∀ k, k < 16 → parseFieldDescriptor (am_TM k).2.2.1 = some (am_tM k) := by decide +kernel
