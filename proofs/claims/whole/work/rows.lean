section
-- ===== PART A: goes FIRST, ahead of the names: the tables' words, and 'selects' of the private methods out of them =====
/-- a private method of a class that the tables say can be made, by its rows of tables_1 -/
def lw_okq (q : MethodName × Nat) : Prop := (q.1.cls ≠ "java/lang/invoke/MethodHandle" ∧ q.1.cls ≠ "java/lang/invoke/VarHandle") ∧ Cond.instantiable q.1.cls q.2 ∈ tables_1 ∧ Cond.privateMethod q.1 ∈ tables_1 ∧ Cond.instanceMethod q.1 ∈ tables_1
theorem lw_p0 : lw_okq (⟨"java/lang/Throwable", "fillInStackTrace", "(I)Ljava/lang/Throwable;"⟩, 6) := ⟨⟨by decide +kernel, by decide +kernel⟩, List.mem_of_getElem? (i := 100) (by decide +kernel), List.mem_of_getElem? (i := 98) (by decide +kernel), List.mem_of_getElem? (i := 99) (by decide +kernel)⟩
theorem lw_p1 : lw_okq (⟨"StrideViews", "needRoomForStore", "()V"⟩, 7) := ⟨⟨by decide +kernel, by decide +kernel⟩, List.mem_of_getElem? (i := 13) (by decide +kernel), List.mem_of_getElem? (i := 131) (by decide +kernel), List.mem_of_getElem? (i := 132) (by decide +kernel)⟩
theorem lw_p2 : lw_okq (⟨"StrideViews", "keepStore", "(LStrideViews$Store;)V"⟩, 7) := ⟨⟨by decide +kernel, by decide +kernel⟩, List.mem_of_getElem? (i := 13) (by decide +kernel), List.mem_of_getElem? (i := 207) (by decide +kernel), List.mem_of_getElem? (i := 208) (by decide +kernel)⟩
theorem lw_p3 : lw_okq (⟨"StrideViews", "keepView", "(LStrideViews$View;)I"⟩, 7) := ⟨⟨by decide +kernel, by decide +kernel⟩, List.mem_of_getElem? (i := 13) (by decide +kernel), List.mem_of_getElem? (i := 211) (by decide +kernel), List.mem_of_getElem? (i := 212) (by decide +kernel)⟩
theorem lw_p4 : lw_okq (⟨"StrideViews", "viewAt", "(I)LStrideViews$View;"⟩, 7) := ⟨⟨by decide +kernel, by decide +kernel⟩, List.mem_of_getElem? (i := 13) (by decide +kernel), List.mem_of_getElem? (i := 236) (by decide +kernel), List.mem_of_getElem? (i := 237) (by decide +kernel)⟩
theorem lw_p5 : lw_okq (⟨"StrideViews", "layOut", "(LStrideViews$View;LStrideViews$View;)V"⟩, 7) := ⟨⟨by decide +kernel, by decide +kernel⟩, List.mem_of_getElem? (i := 13) (by decide +kernel), List.mem_of_getElem? (i := 328) (by decide +kernel), List.mem_of_getElem? (i := 329) (by decide +kernel)⟩
theorem lw_p6 : lw_okq (⟨"StrideViews", "guessSteps", "(LStrideViews$View;)V"⟩, 7) := ⟨⟨by decide +kernel, by decide +kernel⟩, List.mem_of_getElem? (i := 13) (by decide +kernel), List.mem_of_getElem? (i := 332) (by decide +kernel), List.mem_of_getElem? (i := 333) (by decide +kernel)⟩
theorem lw_p7 : lw_okq (⟨"StrideViews", "liesAsLaidOut", "(LStrideViews$View;)Z"⟩, 7) := ⟨⟨by decide +kernel, by decide +kernel⟩, List.mem_of_getElem? (i := 13) (by decide +kernel), List.mem_of_getElem? (i := 336) (by decide +kernel), List.mem_of_getElem? (i := 337) (by decide +kernel)⟩
theorem lw_p8 : lw_okq (⟨"StrideViews", "readItems", "(LStrideViews$View;LStrideViews$View;)V"⟩, 7) := ⟨⟨by decide +kernel, by decide +kernel⟩, List.mem_of_getElem? (i := 13) (by decide +kernel), List.mem_of_getElem? (i := 364) (by decide +kernel), List.mem_of_getElem? (i := 365) (by decide +kernel)⟩
theorem lw_p9 : lw_okq (⟨"StrideViews", "writeItems", "(LStrideViews$View;)I"⟩, 7) := ⟨⟨by decide +kernel, by decide +kernel⟩, List.mem_of_getElem? (i := 13) (by decide +kernel), List.mem_of_getElem? (i := 368) (by decide +kernel), List.mem_of_getElem? (i := 369) (by decide +kernel)⟩
theorem lw_p10 : lw_okq (⟨"StrideViews", "foldInto", "(LStrideViews$Store;ILStrideViews$View;LStrideViews$View;I)V"⟩, 7) := ⟨⟨by decide +kernel, by decide +kernel⟩, List.mem_of_getElem? (i := 13) (by decide +kernel), List.mem_of_getElem? (i := 441) (by decide +kernel), List.mem_of_getElem? (i := 442) (by decide +kernel)⟩
theorem lw_p11 : lw_okq (⟨"StrideViews", "clearMarks", "()V"⟩, 7) := ⟨⟨by decide +kernel, by decide +kernel⟩, List.mem_of_getElem? (i := 13) (by decide +kernel), List.mem_of_getElem? (i := 457) (by decide +kernel), List.mem_of_getElem? (i := 458) (by decide +kernel)⟩
theorem lw_p12 : lw_okq (⟨"StrideViewsModel", "goesOf", "(ZZ)Z"⟩, 16) := ⟨⟨by decide +kernel, by decide +kernel⟩, List.mem_of_getElem? (i := 522) (by decide +kernel), List.mem_of_getElem? (i := 588) (by decide +kernel), List.mem_of_getElem? (i := 589) (by decide +kernel)⟩
theorem lw_p13 : lw_okq (⟨"StrideViewsModel", "more", "(JJ)V"⟩, 16) := ⟨⟨by decide +kernel, by decide +kernel⟩, List.mem_of_getElem? (i := 522) (by decide +kernel), List.mem_of_getElem? (i := 592) (by decide +kernel), List.mem_of_getElem? (i := 593) (by decide +kernel)⟩
theorem lw_p14 : lw_okq (⟨"StrideViewsModel", "addStore", "(II)I"⟩, 16) := ⟨⟨by decide +kernel, by decide +kernel⟩, List.mem_of_getElem? (i := 522) (by decide +kernel), List.mem_of_getElem? (i := 596) (by decide +kernel), List.mem_of_getElem? (i := 597) (by decide +kernel)⟩
theorem lw_p15 : lw_okq (⟨"StrideViewsModel", "add", "(IJ)I"⟩, 16) := ⟨⟨by decide +kernel, by decide +kernel⟩, List.mem_of_getElem? (i := 522) (by decide +kernel), List.mem_of_getElem? (i := 600) (by decide +kernel), List.mem_of_getElem? (i := 601) (by decide +kernel)⟩
def lw_privs_1 : List (MethodName × Nat) := [(⟨"java/lang/Throwable", "fillInStackTrace", "(I)Ljava/lang/Throwable;"⟩, 6), (⟨"StrideViews", "needRoomForStore", "()V"⟩, 7), (⟨"StrideViews", "keepStore", "(LStrideViews$Store;)V"⟩, 7), (⟨"StrideViews", "keepView", "(LStrideViews$View;)I"⟩, 7), (⟨"StrideViews", "viewAt", "(I)LStrideViews$View;"⟩, 7), (⟨"StrideViews", "layOut", "(LStrideViews$View;LStrideViews$View;)V"⟩, 7), (⟨"StrideViews", "guessSteps", "(LStrideViews$View;)V"⟩, 7), (⟨"StrideViews", "liesAsLaidOut", "(LStrideViews$View;)Z"⟩, 7), (⟨"StrideViews", "readItems", "(LStrideViews$View;LStrideViews$View;)V"⟩, 7), (⟨"StrideViews", "writeItems", "(LStrideViews$View;)I"⟩, 7), (⟨"StrideViews", "foldInto", "(LStrideViews$Store;ILStrideViews$View;LStrideViews$View;I)V"⟩, 7), (⟨"StrideViews", "clearMarks", "()V"⟩, 7), (⟨"StrideViewsModel", "goesOf", "(ZZ)Z"⟩, 16), (⟨"StrideViewsModel", "more", "(JJ)V"⟩, 16), (⟨"StrideViewsModel", "addStore", "(II)I"⟩, 16), (⟨"StrideViewsModel", "add", "(IJ)I"⟩, 16)]
theorem lw_r1 : ∀ q ∈ lw_privs_1, lw_okq q := List.forall_mem_cons.mpr ⟨lw_p0, List.forall_mem_cons.mpr ⟨lw_p1, List.forall_mem_cons.mpr ⟨lw_p2, List.forall_mem_cons.mpr ⟨lw_p3, List.forall_mem_cons.mpr ⟨lw_p4, List.forall_mem_cons.mpr ⟨lw_p5, List.forall_mem_cons.mpr ⟨lw_p6, List.forall_mem_cons.mpr ⟨lw_p7, List.forall_mem_cons.mpr ⟨lw_p8, List.forall_mem_cons.mpr ⟨lw_p9, List.forall_mem_cons.mpr ⟨lw_p10, List.forall_mem_cons.mpr ⟨lw_p11, List.forall_mem_cons.mpr ⟨lw_p12, List.forall_mem_cons.mpr ⟨lw_p13, List.forall_mem_cons.mpr ⟨lw_p14, List.forall_mem_cons.mpr ⟨lw_p15, fun _ h => absurd h List.not_mem_nil⟩⟩⟩⟩⟩⟩⟩⟩⟩⟩⟩⟩⟩⟩⟩⟩
theorem lw_p16 : lw_okq (⟨"StrideViewsModel", "product", "()J"⟩, 16) := ⟨⟨by decide +kernel, by decide +kernel⟩, List.mem_of_getElem? (i := 522) (by decide +kernel), List.mem_of_getElem? (i := 604) (by decide +kernel), List.mem_of_getElem? (i := 605) (by decide +kernel)⟩
theorem lw_p17 : lw_okq (⟨"StrideViewsModel", "isAxis", "(II)Z"⟩, 16) := ⟨⟨by decide +kernel, by decide +kernel⟩, List.mem_of_getElem? (i := 522) (by decide +kernel), List.mem_of_getElem? (i := 615) (by decide +kernel), List.mem_of_getElem? (i := 616) (by decide +kernel)⟩
theorem lw_p18 : lw_okq (⟨"StrideViewsModel", "isView", "(I)Z"⟩, 16) := ⟨⟨by decide +kernel, by decide +kernel⟩, List.mem_of_getElem? (i := 522) (by decide +kernel), List.mem_of_getElem? (i := 619) (by decide +kernel), List.mem_of_getElem? (i := 620) (by decide +kernel)⟩
theorem lw_p19 : lw_okq (⟨"StrideViewsModel", "goes", "(ZZZ)Z"⟩, 16) := ⟨⟨by decide +kernel, by decide +kernel⟩, List.mem_of_getElem? (i := 522) (by decide +kernel), List.mem_of_getElem? (i := 623) (by decide +kernel), List.mem_of_getElem? (i := 624) (by decide +kernel)⟩
theorem lw_p20 : lw_okq (⟨"StrideViewsModel", "take", "(III)V"⟩, 16) := ⟨⟨by decide +kernel, by decide +kernel⟩, List.mem_of_getElem? (i := 522) (by decide +kernel), List.mem_of_getElem? (i := 627) (by decide +kernel), List.mem_of_getElem? (i := 628) (by decide +kernel)⟩
theorem lw_p21 : lw_okq (⟨"StrideViewsModel", "tells", "(III)Z"⟩, 16) := ⟨⟨by decide +kernel, by decide +kernel⟩, List.mem_of_getElem? (i := 522) (by decide +kernel), List.mem_of_getElem? (i := 651) (by decide +kernel), List.mem_of_getElem? (i := 652) (by decide +kernel)⟩
theorem lw_p22 : lw_okq (⟨"StrideViewsModel", "items", "(I)I"⟩, 16) := ⟨⟨by decide +kernel, by decide +kernel⟩, List.mem_of_getElem? (i := 522) (by decide +kernel), List.mem_of_getElem? (i := 655) (by decide +kernel), List.mem_of_getElem? (i := 656) (by decide +kernel)⟩
theorem lw_p23 : lw_okq (⟨"StrideViewsModel", "findSteps", "(I)Z"⟩, 16) := ⟨⟨by decide +kernel, by decide +kernel⟩, List.mem_of_getElem? (i := 522) (by decide +kernel), List.mem_of_getElem? (i := 659) (by decide +kernel), List.mem_of_getElem? (i := 660) (by decide +kernel)⟩
theorem lw_p24 : lw_okq (⟨"StrideViewsModel", "place", "(II)I"⟩, 16) := ⟨⟨by decide +kernel, by decide +kernel⟩, List.mem_of_getElem? (i := 522) (by decide +kernel), List.mem_of_getElem? (i := 663) (by decide +kernel), List.mem_of_getElem? (i := 664) (by decide +kernel)⟩
theorem lw_p25 : lw_okq (⟨"StrideViewsModel", "indexOf", "(III)I"⟩, 16) := ⟨⟨by decide +kernel, by decide +kernel⟩, List.mem_of_getElem? (i := 522) (by decide +kernel), List.mem_of_getElem? (i := 667) (by decide +kernel), List.mem_of_getElem? (i := 668) (by decide +kernel)⟩
theorem lw_p26 : lw_okq (⟨"StrideViewsModel", "item", "(II)J"⟩, 16) := ⟨⟨by decide +kernel, by decide +kernel⟩, List.mem_of_getElem? (i := 522) (by decide +kernel), List.mem_of_getElem? (i := 675) (by decide +kernel), List.mem_of_getElem? (i := 676) (by decide +kernel)⟩
theorem lw_p27 : lw_okq (⟨"StrideViewsModel", "inOrder", "()V"⟩, 16) := ⟨⟨by decide +kernel, by decide +kernel⟩, List.mem_of_getElem? (i := 522) (by decide +kernel), List.mem_of_getElem? (i := 682) (by decide +kernel), List.mem_of_getElem? (i := 683) (by decide +kernel)⟩
theorem lw_p28 : lw_okq (⟨"StrideViewsModel", "isFixed", "(I)Z"⟩, 16) := ⟨⟨by decide +kernel, by decide +kernel⟩, List.mem_of_getElem? (i := 522) (by decide +kernel), List.mem_of_getElem? (i := 694) (by decide +kernel), List.mem_of_getElem? (i := 695) (by decide +kernel)⟩
theorem lw_p29 : lw_okq (⟨"StrideViewsModel", "setItem", "(IIJ)V"⟩, 16) := ⟨⟨by decide +kernel, by decide +kernel⟩, List.mem_of_getElem? (i := 522) (by decide +kernel), List.mem_of_getElem? (i := 698) (by decide +kernel), List.mem_of_getElem? (i := 699) (by decide +kernel)⟩
theorem lw_p30 : lw_okq (⟨"StrideViewsModel", "goesTo", "(II)Z"⟩, 16) := ⟨⟨by decide +kernel, by decide +kernel⟩, List.mem_of_getElem? (i := 522) (by decide +kernel), List.mem_of_getElem? (i := 706) (by decide +kernel), List.mem_of_getElem? (i := 707) (by decide +kernel)⟩
theorem lw_p31 : lw_okq (⟨"StrideViewsModel", "gone", "(III)J"⟩, 16) := ⟨⟨by decide +kernel, by decide +kernel⟩, List.mem_of_getElem? (i := 522) (by decide +kernel), List.mem_of_getElem? (i := 710) (by decide +kernel), List.mem_of_getElem? (i := 711) (by decide +kernel)⟩
def lw_privs_2 : List (MethodName × Nat) := [(⟨"StrideViewsModel", "product", "()J"⟩, 16), (⟨"StrideViewsModel", "isAxis", "(II)Z"⟩, 16), (⟨"StrideViewsModel", "isView", "(I)Z"⟩, 16), (⟨"StrideViewsModel", "goes", "(ZZZ)Z"⟩, 16), (⟨"StrideViewsModel", "take", "(III)V"⟩, 16), (⟨"StrideViewsModel", "tells", "(III)Z"⟩, 16), (⟨"StrideViewsModel", "items", "(I)I"⟩, 16), (⟨"StrideViewsModel", "findSteps", "(I)Z"⟩, 16), (⟨"StrideViewsModel", "place", "(II)I"⟩, 16), (⟨"StrideViewsModel", "indexOf", "(III)I"⟩, 16), (⟨"StrideViewsModel", "item", "(II)J"⟩, 16), (⟨"StrideViewsModel", "inOrder", "()V"⟩, 16), (⟨"StrideViewsModel", "isFixed", "(I)Z"⟩, 16), (⟨"StrideViewsModel", "setItem", "(IIJ)V"⟩, 16), (⟨"StrideViewsModel", "goesTo", "(II)Z"⟩, 16), (⟨"StrideViewsModel", "gone", "(III)J"⟩, 16)]
theorem lw_r2 : ∀ q ∈ lw_privs_2, lw_okq q := List.forall_mem_cons.mpr ⟨lw_p16, List.forall_mem_cons.mpr ⟨lw_p17, List.forall_mem_cons.mpr ⟨lw_p18, List.forall_mem_cons.mpr ⟨lw_p19, List.forall_mem_cons.mpr ⟨lw_p20, List.forall_mem_cons.mpr ⟨lw_p21, List.forall_mem_cons.mpr ⟨lw_p22, List.forall_mem_cons.mpr ⟨lw_p23, List.forall_mem_cons.mpr ⟨lw_p24, List.forall_mem_cons.mpr ⟨lw_p25, List.forall_mem_cons.mpr ⟨lw_p26, List.forall_mem_cons.mpr ⟨lw_p27, List.forall_mem_cons.mpr ⟨lw_p28, List.forall_mem_cons.mpr ⟨lw_p29, List.forall_mem_cons.mpr ⟨lw_p30, List.forall_mem_cons.mpr ⟨lw_p31, fun _ h => absurd h List.not_mem_nil⟩⟩⟩⟩⟩⟩⟩⟩⟩⟩⟩⟩⟩⟩⟩⟩
theorem lw_p32 : lw_okq (⟨"StrideViewsModel", "putAll", "(I)I"⟩, 16) := ⟨⟨by decide +kernel, by decide +kernel⟩, List.mem_of_getElem? (i := 522) (by decide +kernel), List.mem_of_getElem? (i := 714) (by decide +kernel), List.mem_of_getElem? (i := 715) (by decide +kernel)⟩
theorem lw_p33 : lw_okq (⟨"StrideViewsModel", "end", "(IZ)I"⟩, 16) := ⟨⟨by decide +kernel, by decide +kernel⟩, List.mem_of_getElem? (i := 522) (by decide +kernel), List.mem_of_getElem? (i := 748) (by decide +kernel), List.mem_of_getElem? (i := 749) (by decide +kernel)⟩
def lw_privs_3 : List (MethodName × Nat) := [(⟨"StrideViewsModel", "putAll", "(I)I"⟩, 16), (⟨"StrideViewsModel", "end", "(IZ)I"⟩, 16)]
theorem lw_r3 : ∀ q ∈ lw_privs_3, lw_okq q := List.forall_mem_cons.mpr ⟨lw_p32, List.forall_mem_cons.mpr ⟨lw_p33, fun _ h => absurd h List.not_mem_nil⟩⟩
def lw_privs : List (MethodName × Nat) := lw_privs_1 ++ (lw_privs_2 ++ (lw_privs_3))
def lw_tbl : List Cond := k2_sels lw_privs ++ tables_1
theorem lw_privs_ok : ∀ q ∈ lw_privs, lw_okq q := by
  show ∀ q ∈ lw_privs_1 ++ (lw_privs_2 ++ (lw_privs_3)), lw_okq q
  exact List.forall_mem_append.mpr ⟨lw_r1, List.forall_mem_append.mpr ⟨lw_r2, lw_r3⟩⟩
end
section
/-! ===== BEGIN words of one list among another's, by their places ===== -/
theorem goodIn_r {big : List Cond} (ws : List Cond) (ps : List Nat) (hp : ws = ps.filterMap (fun i => big[i]?)) (h : ws.all goodWord = true) : GoodIn big ws := by
  intro w hw
  have h1 := List.all_eq_true.mp h w hw
  rw [hp] at hw
  obtain ⟨i, -, hi⟩ := List.mem_filterMap.mp hw
  have hm : w ∈ big := by first | exact List.mem_of_getElem? hi | exact List.getElem?_mem hi
  exact ⟨hm, good_of_word h1⟩
theorem goodIn_app {big a b : List Cond} (ha : GoodIn big a) (hb : GoodIn big b) : GoodIn big (a ++ b) := fun w h => (List.mem_append.mp h).elim (ha w) (hb w)
theorem goodIn_ca {big a b : List Cond} {c : Cond} (ha : GoodIn big (c :: a)) (hb : GoodIn big b) : GoodIn big (c :: (a ++ b)) := fun w h => (List.mem_cons.mp h).elim (fun e => ha w (List.mem_cons.mpr (Or.inl e))) (fun h => (List.mem_append.mp h).elim (fun h => ha w (List.mem_cons.mpr (Or.inr h))) (hb w))
theorem goodIn_sub {big ws : List Cond} (hm : ∀ w ∈ ws, w ∈ big) (h : ws.all goodWord = true) : GoodIn big ws := fun w hw => ⟨hm w hw, good_of_word (List.all_eq_true.mp h w hw)⟩
/-! ===== END ===== -/

/-! ===== BEGIN exceptions that leave a method, and their catching by the caller (launches without stack traces) ===== -/
section VXA
/-! The laws vx_back, vx_callV, vx_callS, vx_callSW, vx_throw0, vx_throwS follow proofs of the library, with one case more: JvmDerived/Free/Laws.lean (Back.of_free), Shelf42/LK1.lean (callV, callS), Shelf/KitTraced.lean (throwNew0V, throwNewS). -/
/-- where a method has thrown q: the class by its name, the cell, what was written, the world -/
def vx_T (XC : String → State → State → Prop) (st : State) (q : Addr) (t : State) (mc ms : Nat) (free : Addr → Prop) : Prop :=
  ∃ (E : String) (ce : Cell) (L : List Loc), XC E st t ∧ t.heap[q]? = some ce ∧ ce.vm = .none ∧ st.vm.findClass E = some ce.cls ∧ st.WarmedH t.vm ∧ st.sameButNew ({ t with vm := st.vm } : State) L mc ms ∧ ∀ z ∈ L, free z.base
def vx_Q (Qc : Array Value → State → Outcome → State → Prop) (XC : String → State → State → Prop) (mc ms : Nat) (free : Addr → Prop) : Array Value → State → Outcome → State → Prop := fun a st o t =>
  (Qc a st o t ∧ ∃ L, FrameEnd st o t L mc ms ∧ ∀ q ∈ L, free q.base) ∨ ∃ q, o = .threw q ∧ vx_T XC st q t mc ms free
/-- a callee that returns or throws -/
def vx_Met (l : Launch) (y : MethodName) (ws : List Cond) (rm : Room) (Pc : Array Value → State → Prop) (Qc : Array Value → State → Outcome → State → Prop) (XC : String → State → State → Prop) (mc ms : Nat) (free : Addr → Prop) : Prop :=
  MetFree l y (headSpec ws rm) Pc (fun _ _ _ _ _ => True) (vx_Q Qc XC mc ms free)
def vx_Post (XC : String → State → State → Prop) (mc ms : Nat) (free : Addr → Prop) : Pt → Array Value → Addr → Pt → Prop := fun A a q B =>
  ∃ (g : JFrame) (mk : MethodId) (t : State) (L : List Loc) (E : String) (ce : Cell), B.U.heap = t.heap ∧ B.U.vm = t.vm ∧ XC E (A.U.calling g mk a) t ∧ t.heap[q]? = some ce ∧ ce.vm = .none ∧ A.U.vm.findClass E = some ce.cls ∧ B.locs = A.locs ++ L ∧ (∀ z ∈ L, free z.base) ∧ B.cells = A.cells + mc ∧ B.slots = A.slots + ms
def vx_Back (l : Launch) (R : Room) (p : Program) (e : Env) (below : List Frame) (s : State) (sargs : Array Value) (y : MethodName) (len W9 : Nat)
    (Pre : Pt → Array Value → Prop) (Post : Pt → Array Value → Option Value → Pt → Prop) (PostX : Pt → Array Value → Addr → Pt → Prop) : Prop :=
  ∀ (m : MethodId) (meth : Method) (c : Code) (A : Pt) (g : JFrame) (ig : Instr) (mk : MethodId) (a : Array Value),
    Stand p l e R s m sargs below meth c A.U A.locs A.cells A.slots → g.method = m → g.locals.size = c.maxLocals → decode c.code g.pc = .ok (ig, len) →
    2 * g.monitorRoom + (g.stack.map fun v => v.category).sum ≤ W9 → A.U.methodNamed? y = some mk → Pre A a →
    (∃ (v : Option Value) (B : Pt), Stand p l e R s m sargs below meth c B.U B.locs B.cells B.slots ∧ Post A a v B ∧
      Steps p.tables e below (doInvoke e (A.U.setTop g) [] mk a).1 (B.U.setTop { g with pc := g.pc + len, stack := v.toList ++ g.stack })) ∨
    (∃ (q : Addr) (B : Pt), Stand p l e R s m sargs below meth c B.U B.locs B.cells B.slots ∧ PostX A a q B ∧
      Steps p.tables e below (doInvoke e (A.U.setTop g) [] mk a).1 ((B.U.setTop g).pushFrame (.throwing q)))
section Payer
variable {l : Launch} {R : Room} {p : Program} {e : Env} {below : List Frame} {s : State} {sargs : Array Value} {y : MethodName} {len W9 : Nat}
theorem vx_back {ws : List Cond} {rm : Room} {Pc : Array Value → State → Prop} {Qc : Array Value → State → Outcome → State → Prop} {XC : String → State → State → Prop} {mc ms : Nat} {free : Addr → Prop} {bytes : ByteArray} {maxL : Nat} {ret : Option FieldType}
    (hM : vx_Met l y ws rm Pc Qc XC mc ms free) (hblind : FrameBlind Pc) (hrc : rm.cells = mc) (hrs : rm.slots = ms)
    (hframes : rm.frames + 1 ≤ R.frames) (hlocals : W9 + (maxL + 11) + rm.locals ≤ R.locals)
    (hws : ∀ w ∈ ws, ∀ a' U, s.WarmedH U.vm → w.before a' U = true) (hcode : Cond.code y bytes maxL ret ∈ ws) (hinit : ∀ a' U, s.WarmedH U.vm → (Cond.initialized y.cls).before a' U = true) :
    vx_Back l R p e below s sargs y len W9 (PreOf R mc ms Pc) (PostOf Qc mc ms free) (vx_Post XC mc ms free) := by
  intro m meth c A g ig mk a X hg hsize hdg hW hn hp
  have h1 : (headSpec ws rm).pre.before a A.U = true := atoms_intro fun w hw => hws w hw _ _ X.warmed
  have h2 : (Cond.code y bytes maxL ret).before a A.U = true := hws _ hcode _ _ X.warmed
  have h3 : (Cond.initialized y.cls).before a A.U = true := hinit _ _ X.warmed
  have h4 : A.cells + (headSpec ws rm).room.cells ≤ R.cells := by rw [show (headSpec ws rm).room.cells = mc from hrc]; exact hp.1
  have h5 : A.slots + (headSpec ws rm).room.slots ≤ R.slots := by rw [show (headSpec ws rm).room.slots = ms from hrs]; exact hp.2.1
  have hPc : Pc a (A.U.calling g mk a) := hblind _ _ _ _ hp.2.2
  obtain ⟨U, Ls, c0, s0⟩ := A
  dsimp only [Pt.U, Pt.locs, Pt.cells, Pt.slots] at h1 h2 h3 h4 h5 X hn hPc ⊢
  obtain ⟨methY, cY, hmY, hcY, -, hlY, -, -, -, -⟩ := Cond.code_spec hn h2
  obtain ⟨kY, hkY, -⟩ := className_of_methodNamed hn
  have hinitY : kY.init = .initialized := Cond.initialized_spec (findClass_of_methodNamed hn) hkY h3
  have h : At U g.method c below := by rw [hg]; exact X.here
  have hlocals9 : W9 + (maxL + 11) + (headSpec ws rm).room.locals ≤ R.locals := hlocals
  have happ : (headSpec ws rm).appliesLoose y e.platform (U.calling g mk a) = true :=
    Spec.appliesLoose_calling (g := g) h hdg hn hkY hinitY
      (X.room_calling (g := g) (R' := (headSpec ws rm).room) hsize hmY hcY hframes (by rw [hlY]; omega) h4 h5) h1
  obtain ⟨mid, hmid⟩ := h.above
  have hfr : (U.setTop g).frames = (.java g :: mid) ++ below := by rw [State.frames_setTop' g h.top, hmid]; rfl
  obtain ⟨o, s₂, hsteps, -, hend, hq⟩ := Steps.callFree hM p X.admits X.cas X.clock (acts := []) hfr happ hPc trivial
  have hq' : vx_Q Qc XC mc ms free a (U.calling g mk a) o s₂ := hq
  rw [State.frames_setTop' g h.top] at hend
  obtain ⟨g₀, hg0⟩ := Option.isSome_iff_exists.mp h.top
  obtain ⟨r, hr⟩ := State.topJava?_eq_some.mp hg0
  have hr' : (({ U with heap := s₂.heap, slotsUsed := s₂.slotsUsed } : State).setVm s₂.vm).frames = .java g₀ :: r := hr
  rcases hq' with ⟨hqc, L, hfe, hL⟩ | ⟨q, rfl, E, ce, L, hx, hce, hcv, hcl, hW₂, hsm, hL⟩
  · obtain ⟨⟨v, rfl⟩, hW₂, e2, q2, q3, q4, q5, q6⟩ := id hfe
    have e3 : s₂ = ({ (U.calling g mk a).setFrames s₂.frames with heap := s₂.heap, slotsUsed := s₂.slotsUsed } : State).setVm s₂.vm := by
      have : s₂ = ({ s₂ with vm := (U.calling g mk a).vm } : State).setVm s₂.vm := rfl
      rw [e2] at this
      exact this
    obtain ⟨c₂, i₂, len₂, hc₂, hd₂, hf₂⟩ := hend
    have hW' : U.WarmedH s₂.vm := hW₂
    have hcc : c₂ = c := by
      have h1 : s₂.code? g.method = U.code? g.method := by
        rw [State.code?_eq, State.code?_eq, hW'.alike.method?]
      exact Option.some.inj (hc₂.symm.trans (h1.trans h.code))
    subst hcc
    have hlen : len₂ = len := by rw [hdg] at hd₂; cases hd₂; rfl
    subst hlen
    have hs₂ : s₂ = (({ U with heap := s₂.heap, slotsUsed := s₂.slotsUsed } : State).setVm s₂.vm).setTop { g with pc := g.pc + len₂, stack := v.toList ++ g.stack } := by
      refine e3.trans ?_
      rw [hf₂, State.calling_eq h.top, State.setFrames_setFrames, State.setTop_of_frames _ hr', hr]
      rfl
    have hsame : U.sameButNew ({ U with heap := s₂.heap, slotsUsed := s₂.slotsUsed } : State) L mc ms := by
      refine ⟨?_, q2, q3, q4, q5, q6⟩
      obtain ⟨t, ht, -⟩ := State.frames_cons hr
      show ({ U with heap := s₂.heap, slotsUsed := s₂.slotsUsed } : State) = { U.setFrames U.frames with heap := s₂.heap, slotsUsed := s₂.slotsUsed }
      rw [State.setFrames_self ht]
    subst hg
    refine Or.inl ⟨v, ⟨(({ U with heap := s₂.heap, slotsUsed := s₂.slotsUsed } : State).setVm s₂.vm), Ls ++ L, c0 + mc, s0 + ms⟩,
      ⟨X.admits, X.cas, X.clock, X.frames, X.room, X.hears, X.method, X.code, (X.here.setHeapUsed s₂.heap s₂.slotsUsed).setVm hW'.alike, X.tail, State.WarmedH.trans X.warmed hW', X.limits, X.bytes, X.same.trans (hsame.setVm s.vm)⟩,
      ⟨g, mk, s₂, L, rfl, rfl, hqc, rfl, hL, rfl, rfl⟩, ?_⟩
    show Steps p.tables e below _ ((({ U with heap := s₂.heap, slotsUsed := s₂.slotsUsed } : State).setVm s₂.vm).setTop { g with pc := g.pc + len₂, stack := v.toList ++ g.stack })
    rw [← hs₂]
    exact hsteps
  · obtain ⟨e2, q2, q3, q4, q5, q6⟩ := id hsm
    have e3 : s₂ = ({ (U.calling g mk a).setFrames s₂.frames with heap := s₂.heap, slotsUsed := s₂.slotsUsed } : State).setVm s₂.vm := by
      have : s₂ = ({ s₂ with vm := (U.calling g mk a).vm } : State).setVm s₂.vm := rfl
      rw [e2] at this
      exact this
    have hf₂ : s₂.frames = .throwing q :: .java g :: U.frames.tail := hend
    have hW' : U.WarmedH s₂.vm := hW₂
    have hs₂ : s₂ = ((({ U with heap := s₂.heap, slotsUsed := s₂.slotsUsed } : State).setVm s₂.vm).setTop g).pushFrame (.throwing q) := by
      refine e3.trans ?_
      rw [hf₂, State.calling_eq h.top, State.setFrames_setFrames, State.pushFrame, State.frames_setTop _ hr', State.setTop_of_frames _ hr', State.setFrames_setFrames, hr]
      rfl
    have hsame : U.sameButNew ({ U with heap := s₂.heap, slotsUsed := s₂.slotsUsed } : State) L mc ms := by
      refine ⟨?_, q2, q3, q4, q5, q6⟩
      obtain ⟨t, ht, -⟩ := State.frames_cons hr
      show ({ U with heap := s₂.heap, slotsUsed := s₂.slotsUsed } : State) = { U.setFrames U.frames with heap := s₂.heap, slotsUsed := s₂.slotsUsed }
      rw [State.setFrames_self ht]
    subst hg
    refine Or.inr ⟨q, ⟨(({ U with heap := s₂.heap, slotsUsed := s₂.slotsUsed } : State).setVm s₂.vm), Ls ++ L, c0 + mc, s0 + ms⟩,
      ⟨X.admits, X.cas, X.clock, X.frames, X.room, X.hears, X.method, X.code, (X.here.setHeapUsed s₂.heap s₂.slotsUsed).setVm hW'.alike, X.tail, State.WarmedH.trans X.warmed hW', X.limits, X.bytes, X.same.trans (hsame.setVm s.vm)⟩,
      ⟨g, mk, s₂, L, E, ce, rfl, rfl, hx, hce, hcv, hcl, rfl, hL, rfl, rfl⟩, ?_⟩
    show Steps p.tables e below _ (((({ U with heap := s₂.heap, slotsUsed := s₂.slotsUsed } : State).setVm s₂.vm).setTop g).pushFrame (.throwing q))
    rw [← hs₂]
    exact hsteps
end Payer
section Calls
variable {p : Program} {l : Launch} {e : Env} {R : Room} {s : State} {m : MethodId} {args : Array Value} {below : List Frame} {meth : Method} {c : Code} {T : State} {locs : List Loc} {cells slots : Nat}
theorem vx_callV (X : Stand p l e R s m args below meth c T locs cells slots) (hexec : p.tables.exec = Jvm.exec) {own C : String} {index : Nat} {y : MethodName} {bytes : ByteArray} {maxL : Nat} {ret : Option FieldType}
    (hown : s.vm.findClass own = some m.cls) (hlink : (Cond.methodLink own index y).before args s = true) (hinst : (Cond.instanceMethod y).before args s = true) (hsel : (Cond.selects C y y).before args s = true)
    (hcode : (Cond.code y bytes maxL ret).before args s = true) (hy : y.cls ≠ "java/lang/invoke/MethodHandle" ∧ y.cls ≠ "java/lang/invoke/VarHandle")
    {W9 : Nat} {Pre : Pt → Array Value → Prop} {Post : Pt → Array Value → Option Value → Pt → Prop} {PostX : Pt → Array Value → Addr → Pt → Prop} (hK : vx_Back l R p e below s args y 3 W9 Pre Post PostX)
    {b : Addr} {cellB : Cell} (hcell : T.heap[b]? = some cellB) (hobj : cellB.vm.isStatics = false) (hcls : s.vm.findClass C = some cellB.cls)
    {g : JFrame} (hg : g.method = m) (hsize : g.locals.size = c.maxLocals) {argsL rest : List Value} (hlen : ∀ sig, parseMethodDescriptor y.desc = some sig → argsL.length = sig.parameters.length)
    (hstack : g.stack = argsL.reverse ++ .ref b :: rest) (hW : 2 * g.monitorRoom + (rest.map fun v => v.category).sum ≤ W9) (hdg : decode c.code g.pc = .ok (.invokevirtual index, 3))
    (hpre : ∀ vm₁, s.WarmedH vm₁ → Pre ⟨T.setVm vm₁, locs, cells, slots⟩ (Value.ref b :: argsL).toArray) :
    (∃ (v : Option Value) (vm₁ : Vm) (B : Pt), s.WarmedH vm₁ ∧ Stand p l e R s m args below meth c B.U B.locs B.cells B.slots ∧ Post ⟨T.setVm vm₁, locs, cells, slots⟩ (Value.ref b :: argsL).toArray v B ∧
      ∀ target, Steps p.tables e below (B.U.setTop { g with pc := g.pc + 3, stack := v.toList ++ rest }) target → Steps p.tables e below (T.setTop g) target) ∨
    (∃ (q : Addr) (vm₁ : Vm) (B : Pt), s.WarmedH vm₁ ∧ Stand p l e R s m args below meth c B.U B.locs B.cells B.slots ∧ PostX ⟨T.setVm vm₁, locs, cells, slots⟩ (Value.ref b :: argsL).toArray q B ∧
      Steps p.tables e below (T.setTop g) ((B.U.setTop { g with stack := rest }).pushFrame (.throwing q))) := by
  obtain ⟨mk, methM, hnamed, hmethM, hstM, habM⟩ := Cond.instanceMethod_spec hinst
  obtain ⟨methM', cM, hmethM', -, -, -, -, -, -, hsigM⟩ := Cond.code_spec hnamed hcode
  cases hmethM.symm.trans hmethM'
  obtain ⟨c2, r2, m2, q1, q2, q3, q4, kP, hkP, hkPi⟩ := Cond.selects_spec hsel
  cases hcls.symm.trans q1
  cases (State.methodFound?_of_named hnamed hy).symm.trans q2
  cases hnamed.symm.trans q3
  have hselP : selectMethod e.platform s.vm cellB.cls mk = .method mk := by rw [Launch.admits_selectMethod X.admits]; exact q4
  obtain ⟨vm₁, X₁, hstep₁⟩ := X.invokevirtual hexec hown hlink hnamed hmethM hstM hkP hkPi hy (a := b) (cell := cellB) hcell
    (fun z h => by rw [h] at hobj; cases hobj) hselP hmethM habM hkP hkPi (g := g) hg (argsL := argsL) (rest := rest) (hlen _ hsigM) hstack hdg
  rcases hK m meth c ⟨T.setVm vm₁, locs, cells, slots⟩ { g with stack := rest } (.invokevirtual index) mk (Value.ref b :: argsL).toArray X₁ hg hsize hdg hW (X₁.named hnamed) (hpre vm₁ X₁.warmed) with ⟨v, B, X', hpost, hsteps⟩ | ⟨q, B, X', hpost, hsteps⟩
  · exact Or.inl ⟨v, vm₁, B, X₁.warmed, X', hpost, fun target h => hstep₁ _ fun acts => by rw [doInvoke_state]; exact hsteps.trans h⟩
  · exact Or.inr ⟨q, vm₁, B, X₁.warmed, X', hpost, hstep₁ _ fun acts => by rw [doInvoke_state]; exact hsteps⟩
theorem vx_callS (X : Stand p l e R s m args below meth c T locs cells slots) (hexec : p.tables.exec = Jvm.exec) {own : String} {index : Nat} {y : MethodName} {bytes : ByteArray} {maxL : Nat} {ret : Option FieldType}
    (hown : s.vm.findClass own = some m.cls) (hlink : (Cond.methodLink own index y).before args s = true) (hstat : (Cond.static y).before args s = true) (hinit : (Cond.initialized y.cls).before args s = true)
    (hcode : (Cond.code y bytes maxL ret).before args s = true) (hy : y.cls ≠ "java/lang/invoke/MethodHandle" ∧ y.cls ≠ "java/lang/invoke/VarHandle")
    {W9 : Nat} {Pre : Pt → Array Value → Prop} {Post : Pt → Array Value → Option Value → Pt → Prop} {PostX : Pt → Array Value → Addr → Pt → Prop} (hK : vx_Back l R p e below s args y 3 W9 Pre Post PostX)
    {g : JFrame} (hg : g.method = m) (hsize : g.locals.size = c.maxLocals) {argsL rest : List Value} (hlen : ∀ sig, parseMethodDescriptor y.desc = some sig → argsL.length = sig.parameters.length)
    (hstack : g.stack = argsL.reverse ++ rest) (hW : 2 * g.monitorRoom + (rest.map fun v => v.category).sum ≤ W9) (hdg : decode c.code g.pc = .ok (.invokestatic index, 3))
    (hpre : ∀ vm₁, s.WarmedH vm₁ → Pre ⟨T.setVm vm₁, locs, cells, slots⟩ argsL.toArray) :
    (∃ (v : Option Value) (vm₁ : Vm) (B : Pt), s.WarmedH vm₁ ∧ Stand p l e R s m args below meth c B.U B.locs B.cells B.slots ∧ Post ⟨T.setVm vm₁, locs, cells, slots⟩ argsL.toArray v B ∧
      ∀ target, Steps p.tables e below (B.U.setTop { g with pc := g.pc + 3, stack := v.toList ++ rest }) target → Steps p.tables e below (T.setTop g) target) ∨
    (∃ (q : Addr) (vm₁ : Vm) (B : Pt), s.WarmedH vm₁ ∧ Stand p l e R s m args below meth c B.U B.locs B.cells B.slots ∧ PostX ⟨T.setVm vm₁, locs, cells, slots⟩ argsL.toArray q B ∧
      Steps p.tables e below (T.setTop g) ((B.U.setTop { g with stack := rest }).pushFrame (.throwing q))) := by
  obtain ⟨mk, hnamed⟩ := Cond.code_named hcode
  obtain ⟨methM, cM, hmethM, -, -, -, -, -, -, hsigM⟩ := Cond.code_spec hnamed hcode
  have hstatic : methM.isStatic = true := Cond.static_spec hnamed hmethM hstat
  obtain ⟨kP, hkP, -⟩ := className_of_methodNamed hnamed
  have hinitP : kP.init = .initialized := Cond.initialized_spec (findClass_of_methodNamed hnamed) hkP hinit
  obtain ⟨vm₁, X₁, hstep₁⟩ := X.invokestatic hexec hown hlink hnamed hmethM hstatic hkP hinitP hy (g := g) hg (argsL := argsL) (rest := rest) (hlen _ hsigM) hstack hdg
  rcases hK m meth c ⟨T.setVm vm₁, locs, cells, slots⟩ { g with stack := rest } (.invokestatic index) mk argsL.toArray X₁ hg hsize hdg hW (X₁.named hnamed) (hpre vm₁ X₁.warmed) with ⟨v, B, X', hpost, hsteps⟩ | ⟨q, B, X', hpost, hsteps⟩
  · exact Or.inl ⟨v, vm₁, B, X₁.warmed, X', hpost, fun target h => hstep₁ _ fun acts => by rw [doInvoke_state]; exact hsteps.trans h⟩
  · exact Or.inr ⟨q, vm₁, B, X₁.warmed, X', hpost, hstep₁ _ fun acts => by rw [doInvoke_state]; exact hsteps⟩
end Calls
theorem vx_cls {s : State} {T : State} {vm₁ : Vm} {E : String} {k : ClassId} (hW : s.WarmedH vm₁) (h : (T.setVm vm₁).vm.findClass E = some k) : s.vm.findClass E = some k := by
  have h1 : vm₁.findClass E = some k := h
  rw [hW.alike.findClass] at h1
  exact h1
/-- the method's frame g, with q thrown over it -/
def vx_W (p : Program) (l : Launch) (e : Env) (R : Room) (s : State) (m : MethodId) (args : Array Value) (below : List Frame) (meth : Method) (c : Code) (H : Heap) (locs : List Loc) (cells slots : Nat) (Q : State → Prop) (g : JFrame) (q : Addr) : Prop :=
  ∀ T : State, T.heap = H → Stand p l e R s m args below meth c T locs cells slots → ∃ t, Steps p.tables e below ((T.setTop g).pushFrame (.throwing q)) t ∧ Q t
def vx_Run (p : Program) (l : Launch) (e : Env) (R : Room) (s : State) (m : MethodId) (args : Array Value) (below : List Frame) (meth : Method) (c : Code) (H : Heap) (locs : List Loc) (cells slots mc ms : Nat) (g : JFrame) (rest : List Value) (Qa : State → Outcome → State → Prop) (XC : String → State → State → Prop) (free : Addr → Prop) : Prop :=
  ∀ T : State, T.heap = H → Stand p l e R s m args below meth c T locs cells slots →
    (∃ (v : Option Value) (st₀ t T' : State) (L : List Loc), st₀.heap = H ∧ Stand p l e R s m args below meth c T' (locs ++ L) (cells + mc) (slots + ms) ∧ (∀ q ∈ L, free q.base) ∧ T'.heap = t.heap ∧ T'.vm = t.vm ∧ Qa st₀ (.returned v) t ∧
      Goes p e below T g T' { g with pc := g.pc + 3, stack := v.toList ++ rest }) ∨
    (∃ (q : Addr) (st₀ t T' : State) (L : List Loc) (E : String) (ce : Cell), st₀.heap = H ∧ Stand p l e R s m args below meth c T' (locs ++ L) (cells + mc) (slots + ms) ∧ (∀ z ∈ L, free z.base) ∧ T'.heap = t.heap ∧ T'.vm = t.vm ∧ XC E st₀ t ∧ t.heap[q]? = some ce ∧ ce.vm = .none ∧ s.vm.findClass E = some ce.cls ∧
      Steps p.tables e below (T.setTop g) ((T'.setTop { g with stack := rest }).pushFrame (.throwing q)))
def vx_X {S : Type} (px : S → Prop) (B : String → S → State → Prop) (A : Nat → Prop) : String → State → State → Prop := fun E st t => ∃ u : S, px u ∧ B E u t ∧ va_F A st t
section Runs
variable {p : Program} {l : Launch} {e : Env} {R : Room} {s : State} {m : MethodId} {args : Array Value} {below : List Frame} {meth : Method} {c : Code} {H : Heap} {locs : List Loc} {cells slots : Nat}
variable {y : MethodName} {bytes cc : ByteArray} {maxL nL mc ms n index : Nat} {ret : Option FieldType} {ws : List Cond} {rm : Room} {Pc : Array Value → State → Prop} {Qc : Array Value → State → Outcome → State → Prop} {XC : String → State → State → Prop} {free : Addr → Prop} {Ts : List Cond} {own C : String} {b : Addr} {As rest : List Value} {g : JFrame}
theorem vx_callBack (cb : CallB R s args own index y bytes maxL ret ws rm mc ms n) (hM : vx_Met l y ws rm Pc Qc XC mc ms free) (hbl : FrameBlind Pc) : vx_Back l R p e below s args y 3 8 (PreOf R mc ms Pc) (PostOf Qc mc ms free) (vx_Post XC mc ms free) := by
  obtain ⟨hrc, hrs, hfr, hlo, hws, hcw, -, hini, -⟩ := cb
  exact vx_back (bytes := bytes) (maxL := maxL) (ret := ret) hM hbl hrc hrs hfr hlo hws hcw (fun a' U hW => word_at hW (Or.inl (by first | rfl | simp [Cond.onTables, Cond.keeps, Cond.steady])) hini)
theorem vx_runV (S : CallFix p m c cc nL s args Ts own) (hM : vx_Met l y ws rm Pc Qc XC mc ms free) (cw : CallW R s args own C index y bytes maxL ret ws rm mc ms n) (hp : PreV s H C b Pc As)
    (hg : g.method = m) (hn : As.length = n) (hsize : g.locals.size = nL) (hstack : g.stack = As.reverse ++ .ref b :: rest) (hW : 2 * g.monitorRoom + (rest.map fun v => v.category).sum ≤ 8) (hdg : decode cc g.pc = .ok (.invokevirtual index, 3)) (hf : cells + mc ≤ R.cells ∧ slots + ms ≤ R.slots) :
    vx_Run p l e R s m args below meth c H locs cells slots mc ms g rest (Qc (Value.ref b :: As).toArray) XC free := by
  have hK : vx_Back l R p e below s args y 3 8 (PreOf R mc ms Pc) (PostOf Qc mc ms free) (vx_Post XC mc ms free) := vx_callBack cw.1 hM hp.1
  obtain ⟨⟨-, -, -, -, -, -, hcode, -, hy, hlen, hl⟩, hin, hse⟩ := cw
  obtain ⟨hx, hb, hml, ho, -⟩ := S
  obtain ⟨-, ⟨cellB, hcB, hoB, hclB⟩, hPc⟩ := hp
  intro T hT X
  rcases vx_callV X hx (C := C) (bytes := bytes) (maxL := maxL) (ret := ret) ho hl hin hse hcode hy hK (by rw [hT]; exact hcB) hoB hclB hg (hsize.trans hml.symm) (argsL := As) (rest := rest) (fun sig h => hn.trans (hlen sig h)) hstack hW (by rw [hb]; exact hdg)
    (fun vm₁ hW₁ => ⟨hf.1, hf.2, hPc (T.setVm vm₁) hT hW₁⟩) with ⟨v, vm₁, ⟨U', l2, c2, s2⟩, hW₁, X', ⟨g', mk, t, L, e1, e2, hq, h1, hL, h2, h3⟩, st⟩ | ⟨q, vm₁, ⟨U', l2, c2, s2⟩, hW₁, X', ⟨g', mk, t, L, E, ce, e1, e2, hq, hce, hcv, hcl, h1, hL, h2, h3⟩, st⟩
  · dsimp only [Pt.U, Pt.locs, Pt.cells, Pt.slots] at X' e1 e2 h1 h2 h3 st
    subst h1; subst h2; subst h3
    exact Or.inl ⟨v, (T.setVm vm₁).calling g' mk (Value.ref b :: As).toArray, t, U', L, hT, X', hL, e1, e2, hq, st⟩
  · dsimp only [Pt.U, Pt.locs, Pt.cells, Pt.slots] at X' e1 e2 h1 h2 h3 st hcl
    subst h1; subst h2; subst h3
    exact Or.inr ⟨q, (T.setVm vm₁).calling g' mk (Value.ref b :: As).toArray, t, U', L, E, ce, hT, X', hL, e1, e2, hq, hce, hcv, vx_cls hW₁ hcl, st⟩
theorem vx_runS (S : CallFix p m c cc nL s args Ts own) (hM : vx_Met l y ws rm Pc Qc XC mc ms free) (cw : CallB R s args own index y bytes maxL ret ws rm mc ms n ∧ (Cond.static y).before args s = true) (hp : PreS s H Pc As)
    (hg : g.method = m) (hn : As.length = n) (hsize : g.locals.size = nL) (hstack : g.stack = As.reverse ++ rest) (hW : 2 * g.monitorRoom + (rest.map fun v => v.category).sum ≤ 8) (hdg : decode cc g.pc = .ok (.invokestatic index, 3)) (hf : cells + mc ≤ R.cells ∧ slots + ms ≤ R.slots) :
    vx_Run p l e R s m args below meth c H locs cells slots mc ms g rest (Qc As.toArray) XC free := by
  have hK : vx_Back l R p e below s args y 3 8 (PreOf R mc ms Pc) (PostOf Qc mc ms free) (vx_Post XC mc ms free) := vx_callBack cw.1 hM hp.1
  obtain ⟨⟨-, -, -, -, -, -, hcode, hini, hy, hlen, hl⟩, hstt⟩ := cw
  obtain ⟨hx, hb, hml, ho, -⟩ := S
  intro T hT X
  rcases vx_callS X hx (bytes := bytes) (maxL := maxL) (ret := ret) ho hl hstt hini hcode hy hK hg (hsize.trans hml.symm) (argsL := As) (rest := rest) (fun sig h => hn.trans (hlen sig h)) hstack hW (by rw [hb]; exact hdg)
    (fun vm₁ hW₁ => ⟨hf.1, hf.2, hp.2 (T.setVm vm₁) hT hW₁⟩) with ⟨v, vm₁, ⟨U', l2, c2, s2⟩, hW₁, X', ⟨g', mk, t, L, e1, e2, hq, h1, hL, h2, h3⟩, st⟩ | ⟨q, vm₁, ⟨U', l2, c2, s2⟩, hW₁, X', ⟨g', mk, t, L, E, ce, e1, e2, hq, hce, hcv, hcl, h1, hL, h2, h3⟩, st⟩
  · dsimp only [Pt.U, Pt.locs, Pt.cells, Pt.slots] at X' e1 e2 h1 h2 h3 st
    subst h1; subst h2; subst h3
    exact Or.inl ⟨v, (T.setVm vm₁).calling g' mk As.toArray, t, U', L, hT, X', hL, e1, e2, hq, st⟩
  · dsimp only [Pt.U, Pt.locs, Pt.cells, Pt.slots] at X' e1 e2 h1 h2 h3 st hcl
    subst h1; subst h2; subst h3
    exact Or.inr ⟨q, (T.setVm vm₁).calling g' mk As.toArray, t, U', L, E, ce, hT, X', hL, e1, e2, hq, hce, hcv, vx_cls hW₁ hcl, st⟩
end Runs
section Rows
variable {p : Program} {l : Launch} {e : Env} {R : Room} {s : State} {m : MethodId} {args : Array Value} {below : List Frame} {meth : Method} {c : Code} {H : Heap} {locs : List Loc} {cells slots : Nat} {Q : State → Prop}
variable {mc ms : Nat} {free : Addr → Prop} {A0 A1 : Nat → Prop} {H0 : Heap} {a : Array Value} {pc : Nat} {ls : Array Slot} {st0 rest : List Value}
theorem vx_keep {st₀ t T' : State} {L : List Loc} (h0 : st₀.heap = H) (e1 : T'.heap = t.heap) (hS : va_S A0 H0 H locs) (hA : ∀ q, q < H.size → A1 q → A0 q) (hf : ∀ q, free q → A0 q) (hL : ∀ q ∈ L, free q.base) (hF : va_F A1 st₀ t) :
    H.size ≤ T'.heap.size ∧ (∀ q : Nat, q < H.size → ¬ A1 q → T'.heap[q]? = H[q]?) ∧ va_S A0 H0 T'.heap (locs ++ L) := by
  obtain ⟨hz, hk⟩ := hF
  rw [h0] at hz hk
  exact ⟨by rw [e1]; exact hz, fun q h1 h2 => by rw [e1]; exact hk q h1 h2,
    ⟨Nat.le_trans hS.1 (by rw [e1]; exact hz), fun q h1 h2 => by rw [e1, hk q (Nat.lt_of_lt_of_le h1 hS.1) (fun z => h2 (hA q (Nat.lt_of_lt_of_le h1 hS.1) z))]; exact hS.2.1 q h1 h2, fun q hq => by
      rcases List.mem_append.mp hq with h | h
      · exact hS.2.2 q h
      · exact hf _ (hL q h)⟩⟩
theorem vx_calli {S SX : Type} {post : Int32 → S → Prop} {px : SX → Prop} {B : S → State → Prop} {BX : String → SX → State → Prop} {AX : Nat → Prop} (hr : vx_Run p l e R s m args below meth c H locs cells slots mc ms (F0 m pc ls st0) rest (va_Qi post B A1 a) (vx_X px BX AX) free) (hS : va_S A0 H0 H locs) (hA : ∀ q, q < H.size → A1 q → A0 q) (hf : ∀ q, free q → A0 q) (hAX : ∀ q, q < H.size → AX q → A0 q)
    (kx : ∀ (E : String) (ce : Cell) (q9 : Addr) (u : SX) (t : State) (H1 : Heap) (locs1 : List Loc), t.heap = H1 → s.vm.Alike t.vm → px u → BX E u t → H.size ≤ H1.size → (∀ q : Nat, q < H.size → ¬ AX q → H1[q]? = H[q]?) → va_S A0 H0 H1 locs1 → H1[q9]? = some ce → ce.vm = .none → s.vm.findClass E = some ce.cls → vx_W p l e R s m args below meth c H1 locs1 (cells + mc) (slots + ms) Q (F0 m pc ls rest) q9)
    (kk : ∀ (r : Int32) (u : S) (t : State) (H1 : Heap) (locs1 : List Loc), t.heap = H1 → s.vm.Alike t.vm → post r u → B u t → H.size ≤ H1.size → (∀ q : Nat, q < H.size → ¬ A1 q → H1[q]? = H[q]?) → va_S A0 H0 H1 locs1 → W p l e R s m args below meth c H1 locs1 (cells + mc) (slots + ms) Q (F0 m (pc + 3) ls (.int r :: rest))) : W p l e R s m args below meth c H locs cells slots Q (F0 m pc ls st0) := by
  intro T hT X
  rcases hr T hT X with ⟨v, st₀, t, T', L, h0, X', hL, e1, e2, ⟨⟨r, u, hv, hp, hb⟩, hF⟩, st⟩ | ⟨q, st₀, t, T', L, E, ce, h0, X', hL, e1, e2, ⟨u, hp, hb, hF⟩, hce, hcv, hcl, st⟩
  · cases hv
    obtain ⟨k1, k2, k3⟩ := vx_keep h0 e1 hS hA hf hL hF
    obtain ⟨t2, a1, b1⟩ := kk r u t T'.heap (locs ++ L) e1.symm (by rw [← e2]; exact X'.warmed.alike) hp hb k1 k2 k3 T' rfl X'
    exact ⟨t2, st t2 a1, b1⟩
  · obtain ⟨k1, k2, k3⟩ := vx_keep h0 e1 hS hAX hf hL hF
    obtain ⟨t2, a1, b1⟩ := kx E ce q u t T'.heap (locs ++ L) e1.symm (by rw [← e2]; exact X'.warmed.alike) hp hb k1 k2 k3 (by rw [e1]; exact hce) hcv hcl T' rfl X'
    exact ⟨t2, st.trans a1, b1⟩
theorem vx_calll {S SX : Type} {post : Int64 → S → Prop} {px : SX → Prop} {B : S → State → Prop} {BX : String → SX → State → Prop} {AX : Nat → Prop} (hr : vx_Run p l e R s m args below meth c H locs cells slots mc ms (F0 m pc ls st0) rest (va_Ql post B A1 a) (vx_X px BX AX) free) (hS : va_S A0 H0 H locs) (hA : ∀ q, q < H.size → A1 q → A0 q) (hf : ∀ q, free q → A0 q) (hAX : ∀ q, q < H.size → AX q → A0 q)
    (kx : ∀ (E : String) (ce : Cell) (q9 : Addr) (u : SX) (t : State) (H1 : Heap) (locs1 : List Loc), t.heap = H1 → s.vm.Alike t.vm → px u → BX E u t → H.size ≤ H1.size → (∀ q : Nat, q < H.size → ¬ AX q → H1[q]? = H[q]?) → va_S A0 H0 H1 locs1 → H1[q9]? = some ce → ce.vm = .none → s.vm.findClass E = some ce.cls → vx_W p l e R s m args below meth c H1 locs1 (cells + mc) (slots + ms) Q (F0 m pc ls rest) q9)
    (kk : ∀ (r : Int64) (u : S) (t : State) (H1 : Heap) (locs1 : List Loc), t.heap = H1 → s.vm.Alike t.vm → post r u → B u t → H.size ≤ H1.size → (∀ q : Nat, q < H.size → ¬ A1 q → H1[q]? = H[q]?) → va_S A0 H0 H1 locs1 → W p l e R s m args below meth c H1 locs1 (cells + mc) (slots + ms) Q (F0 m (pc + 3) ls (.long r :: rest))) : W p l e R s m args below meth c H locs cells slots Q (F0 m pc ls st0) := by
  intro T hT X
  rcases hr T hT X with ⟨v, st₀, t, T', L, h0, X', hL, e1, e2, ⟨⟨r, u, hv, hp, hb⟩, hF⟩, st⟩ | ⟨q, st₀, t, T', L, E, ce, h0, X', hL, e1, e2, ⟨u, hp, hb, hF⟩, hce, hcv, hcl, st⟩
  · cases hv
    obtain ⟨k1, k2, k3⟩ := vx_keep h0 e1 hS hA hf hL hF
    obtain ⟨t2, a1, b1⟩ := kk r u t T'.heap (locs ++ L) e1.symm (by rw [← e2]; exact X'.warmed.alike) hp hb k1 k2 k3 T' rfl X'
    exact ⟨t2, st t2 a1, b1⟩
  · obtain ⟨k1, k2, k3⟩ := vx_keep h0 e1 hS hAX hf hL hF
    obtain ⟨t2, a1, b1⟩ := kx E ce q u t T'.heap (locs ++ L) e1.symm (by rw [← e2]; exact X'.warmed.alike) hp hb k1 k2 k3 (by rw [e1]; exact hce) hcv hcl T' rfl X'
    exact ⟨t2, st.trans a1, b1⟩
theorem vx_callf {S SX : Type} {post : UInt32 → S → Prop} {px : SX → Prop} {B : S → State → Prop} {BX : String → SX → State → Prop} {AX : Nat → Prop} (hr : vx_Run p l e R s m args below meth c H locs cells slots mc ms (F0 m pc ls st0) rest (va_Qf post B A1 a) (vx_X px BX AX) free) (hS : va_S A0 H0 H locs) (hA : ∀ q, q < H.size → A1 q → A0 q) (hf : ∀ q, free q → A0 q) (hAX : ∀ q, q < H.size → AX q → A0 q)
    (kx : ∀ (E : String) (ce : Cell) (q9 : Addr) (u : SX) (t : State) (H1 : Heap) (locs1 : List Loc), t.heap = H1 → s.vm.Alike t.vm → px u → BX E u t → H.size ≤ H1.size → (∀ q : Nat, q < H.size → ¬ AX q → H1[q]? = H[q]?) → va_S A0 H0 H1 locs1 → H1[q9]? = some ce → ce.vm = .none → s.vm.findClass E = some ce.cls → vx_W p l e R s m args below meth c H1 locs1 (cells + mc) (slots + ms) Q (F0 m pc ls rest) q9)
    (kk : ∀ (r : UInt32) (u : S) (t : State) (H1 : Heap) (locs1 : List Loc), t.heap = H1 → s.vm.Alike t.vm → post r u → B u t → H.size ≤ H1.size → (∀ q : Nat, q < H.size → ¬ A1 q → H1[q]? = H[q]?) → va_S A0 H0 H1 locs1 → W p l e R s m args below meth c H1 locs1 (cells + mc) (slots + ms) Q (F0 m (pc + 3) ls (.float r :: rest))) : W p l e R s m args below meth c H locs cells slots Q (F0 m pc ls st0) := by
  intro T hT X
  rcases hr T hT X with ⟨v, st₀, t, T', L, h0, X', hL, e1, e2, ⟨⟨r, u, hv, hp, hb⟩, hF⟩, st⟩ | ⟨q, st₀, t, T', L, E, ce, h0, X', hL, e1, e2, ⟨u, hp, hb, hF⟩, hce, hcv, hcl, st⟩
  · cases hv
    obtain ⟨k1, k2, k3⟩ := vx_keep h0 e1 hS hA hf hL hF
    obtain ⟨t2, a1, b1⟩ := kk r u t T'.heap (locs ++ L) e1.symm (by rw [← e2]; exact X'.warmed.alike) hp hb k1 k2 k3 T' rfl X'
    exact ⟨t2, st t2 a1, b1⟩
  · obtain ⟨k1, k2, k3⟩ := vx_keep h0 e1 hS hAX hf hL hF
    obtain ⟨t2, a1, b1⟩ := kx E ce q u t T'.heap (locs ++ L) e1.symm (by rw [← e2]; exact X'.warmed.alike) hp hb k1 k2 k3 (by rw [e1]; exact hce) hcv hcl T' rfl X'
    exact ⟨t2, st.trans a1, b1⟩
theorem vx_calld {S SX : Type} {post : UInt64 → S → Prop} {px : SX → Prop} {B : S → State → Prop} {BX : String → SX → State → Prop} {AX : Nat → Prop} (hr : vx_Run p l e R s m args below meth c H locs cells slots mc ms (F0 m pc ls st0) rest (va_Qd post B A1 a) (vx_X px BX AX) free) (hS : va_S A0 H0 H locs) (hA : ∀ q, q < H.size → A1 q → A0 q) (hf : ∀ q, free q → A0 q) (hAX : ∀ q, q < H.size → AX q → A0 q)
    (kx : ∀ (E : String) (ce : Cell) (q9 : Addr) (u : SX) (t : State) (H1 : Heap) (locs1 : List Loc), t.heap = H1 → s.vm.Alike t.vm → px u → BX E u t → H.size ≤ H1.size → (∀ q : Nat, q < H.size → ¬ AX q → H1[q]? = H[q]?) → va_S A0 H0 H1 locs1 → H1[q9]? = some ce → ce.vm = .none → s.vm.findClass E = some ce.cls → vx_W p l e R s m args below meth c H1 locs1 (cells + mc) (slots + ms) Q (F0 m pc ls rest) q9)
    (kk : ∀ (r : UInt64) (u : S) (t : State) (H1 : Heap) (locs1 : List Loc), t.heap = H1 → s.vm.Alike t.vm → post r u → B u t → H.size ≤ H1.size → (∀ q : Nat, q < H.size → ¬ A1 q → H1[q]? = H[q]?) → va_S A0 H0 H1 locs1 → W p l e R s m args below meth c H1 locs1 (cells + mc) (slots + ms) Q (F0 m (pc + 3) ls (.double r :: rest))) : W p l e R s m args below meth c H locs cells slots Q (F0 m pc ls st0) := by
  intro T hT X
  rcases hr T hT X with ⟨v, st₀, t, T', L, h0, X', hL, e1, e2, ⟨⟨r, u, hv, hp, hb⟩, hF⟩, st⟩ | ⟨q, st₀, t, T', L, E, ce, h0, X', hL, e1, e2, ⟨u, hp, hb, hF⟩, hce, hcv, hcl, st⟩
  · cases hv
    obtain ⟨k1, k2, k3⟩ := vx_keep h0 e1 hS hA hf hL hF
    obtain ⟨t2, a1, b1⟩ := kk r u t T'.heap (locs ++ L) e1.symm (by rw [← e2]; exact X'.warmed.alike) hp hb k1 k2 k3 T' rfl X'
    exact ⟨t2, st t2 a1, b1⟩
  · obtain ⟨k1, k2, k3⟩ := vx_keep h0 e1 hS hAX hf hL hF
    obtain ⟨t2, a1, b1⟩ := kx E ce q u t T'.heap (locs ++ L) e1.symm (by rw [← e2]; exact X'.warmed.alike) hp hb k1 k2 k3 (by rw [e1]; exact hce) hcv hcl T' rfl X'
    exact ⟨t2, st.trans a1, b1⟩
theorem vx_callv {S SX : Type} {post : S → Prop} {px : SX → Prop} {B : S → State → Prop} {BX : String → SX → State → Prop} {AX : Nat → Prop} (hr : vx_Run p l e R s m args below meth c H locs cells slots mc ms (F0 m pc ls st0) rest (va_Qv post B A1 a) (vx_X px BX AX) free) (hS : va_S A0 H0 H locs) (hA : ∀ q, q < H.size → A1 q → A0 q) (hf : ∀ q, free q → A0 q) (hAX : ∀ q, q < H.size → AX q → A0 q)
    (kx : ∀ (E : String) (ce : Cell) (q9 : Addr) (u : SX) (t : State) (H1 : Heap) (locs1 : List Loc), t.heap = H1 → s.vm.Alike t.vm → px u → BX E u t → H.size ≤ H1.size → (∀ q : Nat, q < H.size → ¬ AX q → H1[q]? = H[q]?) → va_S A0 H0 H1 locs1 → H1[q9]? = some ce → ce.vm = .none → s.vm.findClass E = some ce.cls → vx_W p l e R s m args below meth c H1 locs1 (cells + mc) (slots + ms) Q (F0 m pc ls rest) q9)
    (kk : ∀ (u : S) (t : State) (H1 : Heap) (locs1 : List Loc), t.heap = H1 → s.vm.Alike t.vm → post u → B u t → H.size ≤ H1.size → (∀ q : Nat, q < H.size → ¬ A1 q → H1[q]? = H[q]?) → va_S A0 H0 H1 locs1 → W p l e R s m args below meth c H1 locs1 (cells + mc) (slots + ms) Q (F0 m (pc + 3) ls (rest))) : W p l e R s m args below meth c H locs cells slots Q (F0 m pc ls st0) := by
  intro T hT X
  rcases hr T hT X with ⟨v, st₀, t, T', L, h0, X', hL, e1, e2, ⟨⟨u, hv, hp, hb⟩, hF⟩, st⟩ | ⟨q, st₀, t, T', L, E, ce, h0, X', hL, e1, e2, ⟨u, hp, hb, hF⟩, hce, hcv, hcl, st⟩
  · cases hv
    obtain ⟨k1, k2, k3⟩ := vx_keep h0 e1 hS hA hf hL hF
    obtain ⟨t2, a1, b1⟩ := kk u t T'.heap (locs ++ L) e1.symm (by rw [← e2]; exact X'.warmed.alike) hp hb k1 k2 k3 T' rfl X'
    exact ⟨t2, st t2 a1, b1⟩
  · obtain ⟨k1, k2, k3⟩ := vx_keep h0 e1 hS hAX hf hL hF
    obtain ⟨t2, a1, b1⟩ := kx E ce q u t T'.heap (locs ++ L) e1.symm (by rw [← e2]; exact X'.warmed.alike) hp hb k1 k2 k3 (by rw [e1]; exact hce) hcv hcl T' rfl X'
    exact ⟨t2, st.trans a1, b1⟩
/-- caught by the row x of this method's table; the rows ahead don't take it -/
theorem vx_catch {own name : String} {E : String} {ce : Cell} {q : Addr} (hown : s.vm.findClass own = some m.cls) (pre : List ExceptionTableEntry) (x : ExceptionTableEntry) (suf : List ExceptionTableEntry) (hsplit : c.exceptionTable.toList = pre ++ x :: suf)
    (hpass : ∀ z ∈ pre, covers z pc = false ∨ (z.catchType ≠ 0 ∧ ∃ nm : String, (Cond.classLink own z.catchType nm).before args s = true ∧ va_Nc E nm s)) (hx : covers x pc = true) (h0 : x.catchType ≠ 0)
    (hlink : (Cond.classLink own x.catchType name).before args s = true) (hcast : (Cond.castable E name).before args s = true) (hcell : H[q]? = some ce) (hv : ce.vm = .none) (hcl : s.vm.findClass E = some ce.cls)
    (kk : W p l e R s m args below meth c H locs cells slots Q (F0 m x.handlerPc ls [.ref q])) : vx_W p l e R s m args below meth c H locs cells slots Q (F0 m pc ls rest) q := by
  intro T hT X
  have hpl : e.platform.magicAccessors = ({} : Platform).magicAccessors := by rw [X.admits.platform]
  obtain ⟨c3, c4, hc3, hc4, hasg⟩ := Cond.castable_spec hcast
  cases Option.some.inj (hc3.symm.trans hcl)
  obtain ⟨c5, hc5, hcl5⟩ := Cond.classLink_spec hown hlink e.platform hpl
  cases Option.some.inj (hc4.symm.trans hc5)
  obtain ⟨vm', X', st⟩ := X.thenCaughtThrough q (g := F0 m pc ls rest) rfl (Steps.refl _) (by rw [hT]; exact hcell) (by rw [hv]; rfl) (by obtain ⟨k9, h9, -⟩ := Vm.findClass_spec hcl; exact ⟨k9, h9⟩) pre x suf hsplit
    (fun z hz => by
      rcases hpass z hz with h | ⟨hz0, nm, hl1, hn1⟩
      · exact Or.inl h
      · obtain ⟨c6, hc6, hcl6⟩ := Cond.classLink_spec hown hl1 e.platform hpl
        obtain ⟨a8, b8, h1, h2, h3⟩ := hn1
        cases Option.some.inj (h1.symm.trans hcl)
        cases Option.some.inj (h2.symm.trans hc6)
        exact Or.inr ⟨hz0, _, hcl6, h3⟩) hx (Or.inr ⟨h0, c4, hcl5, hasg⟩)
  obtain ⟨t, a1, b1⟩ := kk (T.setVm vm') hT X'
  exact ⟨t, st.trans a1, b1⟩
end Rows
section Ends
variable {p : Program} {l : Launch} {e : Env} {R : Room} {s : State} {m : MethodId} {args : Array Value} {below : List Frame} {meth : Method} {c : Code} {H : Heap} {locs : List Loc} {cells slots : Nat} {Q : State → Prop}
variable {mc ms : Nat} {free : Addr → Prop} {A0 A1 : Nat → Prop} {H0 : Heap} {a : Array Value} {ls : Array Slot} {st0 rest : List Value}
variable {Qc : Array Value → State → Outcome → State → Prop} {XC : String → State → State → Prop}
/-- what a body that may throw owes at its end -/
def vx_MQ (below : List Frame) (Qc : Array Value → State → Outcome → State → Prop) (XC : String → State → State → Prop) (a : Array Value) (s : State) (mc ms : Nat) (free : Addr → Prop) : State → Prop := fun t =>
  ∃ o, t.status = .running ∧ Ended t below o ∧ vx_Q Qc XC mc ms free a s o t
theorem vx_ret {g : JFrame} {mc ms : Nat} (k : W p l e R s m args below meth c H locs cells slots (MQ below Qc args s mc ms free) g) : W p l e R s m args below meth c H locs cells slots (vx_MQ below Qc XC args s mc ms free) g := by
  intro T hT X
  obtain ⟨t, a1, o, b1, b2, b3, b4⟩ := k T hT X
  exact ⟨t, a1, o, b1, b2, Or.inl ⟨b3, b4⟩⟩
/-- not caught here: it goes on to the caller -/
theorem vx_widen {g : JFrame} {q : Addr} {k n : Nat} (h1 : cells ≤ k) (h2 : slots ≤ n) (kk : vx_W p l e R s m args below meth c H locs k n Q g q) : vx_W p l e R s m args below meth c H locs cells slots Q g q := fun T hT X => kk T hT (stand_widen X h1 h2)
theorem vx_out {pc : Nat} {E : String} {ce : Cell} {q : Addr} {mc ms : Nat} (hout : ∀ x ∈ c.exceptionTable.toList, covers x pc = false) (hlocks : meth.locks = false) (hcell : H[q]? = some ce) (hv : ce.vm = .none) (hcl : s.vm.findClass E = some ce.cls)
    (hx : ∀ t : State, t.heap = H → s.vm.Alike t.vm → XC E s t) (hf : ∀ z ∈ locs, free z.base) (hc : cells ≤ mc) (hs : slots ≤ ms) :
    vx_W p l e R s m args below meth c H locs cells slots (vx_MQ below Qc XC args s mc ms free) (F0 m pc ls rest) q := by
  intro T hT X
  obtain ⟨st1, hrun, hend, hW, hsm⟩ := X.leaveThrown q (g := F0 m pc ls rest) rfl rfl rfl hout hlocks
  have hcell9 : (T.setFrames (.throwing q :: below)).heap[q]? = some ce := by
    show T.heap[q]? = some ce
    rw [hT]; exact hcell
  exact ⟨_, st1, .threw q, hrun, hend, Or.inr ⟨q, rfl, E, ce, locs, hx _ hT hW.alike, hcell9, hv, hcl, hW, hsm.mono hc hs, hf⟩⟩
theorem vx_frame {U : State} {k n : Nat} (h : s.sameButNew ({ U with vm := s.vm } : State) locs k n) : s.heap.size ≤ U.heap.size ∧ ∀ q : Nat, q < s.heap.size → (∀ z ∈ locs, z.base ≠ q) → U.heap[q]? = s.heap[q]? := by
  obtain ⟨-, h2, -, -, -, h6⟩ := h
  refine ⟨h2, fun q hq hz => ?_⟩
  obtain ⟨c9, e1, e2, e3, e4⟩ := h6 q _ (Array.getElem?_eq_getElem hq)
  have hs : c9.slots = (s.heap[q]).slots := Array.ext_getElem? fun i => e4 i fun hm => hz _ hm rfl
  have h9 : c9 = s.heap[q] := by
    rw [hs] at e2
    exact e2
  have e5 : U.heap[q]? = some c9 := e1
  rw [e5, h9, Array.getElem?_eq_getElem hq]
/-- the words of a throw but the four that speak of the heap -/
def vx_no (w : Cond) : Bool := decide (w ≠ .isRef (.static Bundle.tN "UNASSIGNED_STACK" Bundle.steD)) && decide (w ≠ .isRef (.static Bundle.tN "SUPPRESSED_SENTINEL" Bundle.listD)) && decide (w ≠ .laysStatic Bundle.tN "UNASSIGNED_STACK" Bundle.steD) && decide (w ≠ .laysStatic Bundle.tN "SUPPRESSED_SENTINEL" Bundle.listD)
def vx_at0 (own : String) (ic : Nat) (X : String) (names : List String) : List Cond := (Bundle.ownAtoms0 own ic X names).filter vx_no
def vx_atS (own : String) (ic : Nat) (X : String) (names : List String) : List Cond := (Bundle.ownAtoms own ic X names).filter vx_no
/-- a word that the tables alone decide, or a good one -/
def vx_ot (w : Cond) : Bool := w.onTables || goodWord w
theorem vx_ot_at {args a' : Array Value} {s U : State} {w : Cond} (hW : s.WarmedH U.vm) (hvm : s.vm = U.vm) (hg : vx_ot w = true) (h : w.before args s = true) : w.before a' U = true := by
  simp only [vx_ot, Bool.or_eq_true] at hg
  rcases hg with hg | hg
  · exact va_tabs hg hvm h
  · exact word_at hW (good_of_word hg) h
/-- a list's words: the good ones out of the method's own list, the others by premises of their own -/
theorem vx_hat {args : Array Value} {s : State} {L B : List Cond} (h1 : ∀ w ∈ L.filter goodWord, w.before args s = true) (h2 : ∀ w ∈ L.filter (fun w => !goodWord w), w ∈ B) (h3 : ∀ w ∈ B, w.before args s = true) : ∀ w ∈ L, w.before args s = true := by
  intro w hw
  by_cases g : goodWord w = true
  · exact h1 w (List.mem_filter.mpr ⟨hw, g⟩)
  · refine h3 w (h2 w (List.mem_filter.mpr ⟨hw, ?_⟩))
    show (!goodWord w) = true
    cases hgw : goodWord w
    · rfl
    · exact absurd hgw g
theorem vx_c {args : Array Value} {s : State} {w : Cond} {B : List Cond} (h : w.before args s = true) (t : ∀ w ∈ B, w.before args s = true) : ∀ w' ∈ w :: B, w'.before args s = true := fun w' h' => (List.mem_cons.mp h').elim (fun e => by rw [e]; exact h) (t w')
theorem vx_n {args : Array Value} {s : State} : ∀ w ∈ ([] : List Cond), w.before args s = true := fun _ h => nomatch h
theorem vx_own {args : Array Value} {s : State} {L : List Cond} (h1 : ∀ w ∈ L.filter vx_no, w.before args s = true)
    (hU : (Cond.isRef (.static Bundle.tN "UNASSIGNED_STACK" Bundle.steD)).before args s = true) (hN : (Cond.isRef (.static Bundle.tN "SUPPRESSED_SENTINEL" Bundle.listD)).before args s = true)
    (lU : (Cond.laysStatic Bundle.tN "UNASSIGNED_STACK" Bundle.steD).before args s = true) (lN : (Cond.laysStatic Bundle.tN "SUPPRESSED_SENTINEL" Bundle.listD).before args s = true) : ∀ w ∈ L, w.before args s = true := by
  intro w hw
  by_cases e1 : w = .isRef (.static Bundle.tN "UNASSIGNED_STACK" Bundle.steD)
  · rw [e1]; exact hU
  · by_cases e2 : w = .isRef (.static Bundle.tN "SUPPRESSED_SENTINEL" Bundle.listD)
    · rw [e2]; exact hN
    · by_cases e3 : w = .laysStatic Bundle.tN "UNASSIGNED_STACK" Bundle.steD
      · rw [e3]; exact lU
      · by_cases e4 : w = .laysStatic Bundle.tN "SUPPRESSED_SENTINEL" Bundle.listD
        · rw [e4]; exact lN
        · exact h1 w (List.mem_filter.mpr ⟨hw, by unfold vx_no; rw [decide_eq_true e1, decide_eq_true e2, decide_eq_true e3, decide_eq_true e4]; rfl⟩)
/-- where a static field lies, its class's statics cell in H -/
def vx_L (C n d : String) (A : Nat → Prop) (U : State) (H : Heap) : Prop := ∃ (c : ClassId) (k : Class) (i : Nat) (f : Field) (a : Nat) (cell : Cell), U.vm.findClass C = some c ∧ U.fieldFound? C n d = some (c, k, i, f) ∧ f.isStatic = true ∧ k.statics = some a ∧ H[a]? = some cell ∧ cell.vm.isStatics = true ∧ cell.cls = c ∧ f.slot < cell.slots.size ∧ k.staticTypes[f.slot]? = some f.type ∧ ¬ A a
theorem vx_L.moved {C n d : String} {A : Nat → Prop} {u U : State} {H : Heap} (hvm : u.vm.Alike U.vm) (h : vx_L C n d A u H) : vx_L C n d A U H := by
  obtain ⟨c, k, i, f, a, cell, h1, h2, h3, h4, h5, h6, h7, h8, h9, h10⟩ := h
  obtain ⟨k', hi', he⟩ := State.fieldFound?_setVm hvm h2
  exact ⟨c, k', i, f, a, cell, by rw [hvm.findClass]; exact h1, hi', h3, by rw [he]; exact h4, h5, h6, h7, h8, by rw [he]; exact h9, h10⟩
theorem vx_L.kept {C n d : String} {A : Nat → Prop} {U : State} {H H1 : Heap} (h : vx_L C n d A U H) (hq : ∀ a : Nat, a < H.size → ¬ A a → H1[a]? = H[a]?) : vx_L C n d A U H1 := by
  obtain ⟨c, k, i, f, a, cell, h1, h2, h3, h4, h5, h6, h7, h8, h9, h10⟩ := h
  exact ⟨c, k, i, f, a, cell, h1, h2, h3, h4, by rw [hq a (Array.getElem?_eq_some_iff.mp h5).1 h10]; exact h5, h6, h7, h8, h9, h10⟩
theorem vx_L.narrow {C n d : String} {A B : Nat → Prop} {U : State} {H : Heap} (h : vx_L C n d A U H) (hAB : ∀ q, B q → A q) : vx_L C n d B U H := by
  obtain ⟨c, k, i, f, a, cell, h1, h2, h3, h4, h5, h6, h7, h8, h9, h10⟩ := h
  exact ⟨c, k, i, f, a, cell, h1, h2, h3, h4, h5, h6, h7, h8, h9, fun z => h10 (hAB _ z)⟩
theorem vx_L.word {C n d : String} {A : Nat → Prop} {s : State} {args : Array Value} (h : vx_L C n d A s s.heap) : (Cond.laysStatic C n d).before args s = true := by
  obtain ⟨c, k, i, f, a, cell, h1, h2, h3, h4, h5, h6, h7, h8, h9, -⟩ := h
  show (Cond.laysStatic C n d).holds args s none s [] = true
  exact Cond.laysStatic_of h1 h2 h3 h4 h5 h6 h7 h8 h9
/-- .. and what it holds: null or some reference -/
def vx_Zq (C n d : String) (A : Nat → Prop) (U : State) (H : Heap) : Prop := va_Zq C n d A U H ∧ vx_L C n d A U H
theorem vx_Zq.moved {C n d : String} {A : Nat → Prop} {u U : State} {H : Heap} (hvm : u.vm.Alike U.vm) (h : vx_Zq C n d A u H) : vx_Zq C n d A U H := ⟨va_Zq.moved hvm h.1, vx_L.moved hvm h.2⟩
theorem vx_Zq.kept {C n d : String} {A : Nat → Prop} {U : State} {H H1 : Heap} (h : vx_Zq C n d A U H) (hq : ∀ a : Nat, a < H.size → ¬ A a → H1[a]? = H[a]?) : vx_Zq C n d A U H1 := ⟨va_Zq.kept h.1 hq, vx_L.kept h.2 hq⟩
theorem vx_Zq.narrow {C n d : String} {A B : Nat → Prop} {U : State} {H : Heap} (h : vx_Zq C n d A U H) (hAB : ∀ q, B q → A q) : vx_Zq C n d B U H := ⟨va_Zq.narrow h.1 hAB, vx_L.narrow h.2 hAB⟩
theorem vx_Zqof {args : Array Value} {s : State} {C n d : String} {A : Nat → Prop} (hl : (Cond.laysStatic C n d).before args s = true) (hini : (Cond.initialized C).before args s = true) (h : (Cond.isRef (.static C n d)).before args s = true) (hA : ∀ a : Nat, a < s.heap.size → ¬ A a) : vx_Zq C n d A s s.heap := by
  refine ⟨va_Zqof hl hini h hA, ?_⟩
  obtain ⟨c, k, i, f, a, cell, h1, h2, h3, h4, h5, h6, h7, h8, h9⟩ := Cond.laysStatic_spec hl
  exact ⟨c, k, i, f, a, cell, h1, h2, h3, h4, h5, h6, h7, h8, h9, hA a (Array.getElem?_eq_some_iff.mp h5).1⟩
theorem vx_isRef {C n d : String} {v : Value} {A : Nat → Prop} {s : State} {args : Array Value} (h : va_Z C n d v A s s.heap) (hv : v.isRef = true) : (Cond.isRef (.static C n d)).before args s = true := by
  obtain ⟨cf, kf, fi, f, a, cell, h1, h2, h3, h4, h5, h6, h7, -⟩ := h
  have he : (Term.static C n d).eval args s none [] s = some v := by
    simp [Term.eval, State.fieldNamed?, h1, h2, h4, h5, h6, h7]
  simp only [Cond.before, Cond.holds, Cond.value, he]
  cases v <;> simp_all [Value.isRef]
theorem vx_isRefq {C n d : String} {A : Nat → Prop} {s : State} {args : Array Value} (h : va_Zq C n d A s s.heap) : (Cond.isRef (.static C n d)).before args s = true := by
  rcases h with h | ⟨t, h⟩
  · exact vx_isRef h rfl
  · exact vx_isRef h rfl
/-- the same frame, seen from here: as if the method were called anew in this heap -/
theorem vx_rebase {T : State} (X : Stand p l e R s m args below meth c T locs cells slots) {R' : Room} (hf : R'.frames ≤ R.frames) (hl : R'.locals ≤ R.locals) (hc : cells + R'.cells ≤ R.cells) (hs : slots + R'.slots ≤ R.slots) :
    Stand p l e R' ((T.setVm s.vm).setFrames (.invoking m args :: below)) m args below meth c T [] 0 0 := by
  have htop : (T.setVm s.vm).topJava?.isSome := X.here.top
  have hF : ((T.setVm s.vm).setFrames (.invoking m args :: below)).frames = .invoking m args :: below := State.frames_setFrames _ (State.cur_lt_of_top htop)
  obtain ⟨g₀, hg0⟩ := Option.isSome_iff_exists.mp htop
  obtain ⟨r, hr⟩ := State.topJava?_eq_some.mp hg0
  have hl9 : e.platform.stackLimits (T.setVm s.vm).me = e.platform.stackLimits s.me := X.limits
  have hb9 : (T.setVm s.vm).me.stackBytes = s.me.stackBytes := X.bytes
  refine ⟨X.admits, X.cas, X.clock, hF, ?_, X.hears, X.method, X.code, X.here, X.tail, X.warmed, ?_, ?_, ?_⟩
  · have h := X.room
    have hU : ((T.setVm s.vm).setFrames (.invoking m args :: below)).localsInUse = s.localsInUse := by
      rw [State.localsInUse_invoking hF (meth := meth) (c := c) X.method X.code, State.localsInUse_invoking X.frames X.method X.code]
    simp only [State.hasRoom, Bool.and_eq_true, decide_eq_true_eq] at h ⊢
    obtain ⟨⟨⟨⟨h1, h2, h3, h4, h5, h6⟩, h7⟩, h8⟩, h9⟩ := h
    rw [X.frames, List.length_cons] at h2 h3
    have q1 := X.heapSize
    have q2 := X.used
    simp only [hF, hU, List.length_cons, State.stackLimits_setFrames, State.stackBytes_setFrames, hl9, hb9]
    refine ⟨⟨⟨⟨by omega, by omega, by omega, by omega, by omega, h6⟩, ?_⟩, ?_⟩, X.book⟩
    · show T.heap.size + R'.cells ≤ e.platform.maxCells
      omega
    · show T.slotsUsed + R'.slots ≤ e.platform.maxSlots
      omega
  · rw [State.stackLimits_setFrames]; rfl
  · rw [State.stackBytes_setFrames]; rfl
  · refine ⟨?_, Nat.le_refl _, Nat.le_refl _, ?_, ?_, fun a c9 h9 => ⟨c9, h9, rfl, rfl, fun _ _ => rfl⟩⟩
    · obtain ⟨t, ht, -⟩ := State.frames_cons hr
      show T.setVm s.vm = { ((T.setVm s.vm).setFrames (.invoking m args :: below)).setFrames (T.setVm s.vm).frames with heap := T.heap, slotsUsed := T.slotsUsed }
      rw [State.setFrames_setFrames, State.setFrames_self ht]
      rfl
    · show T.slotsUsed = T.slotsUsed + ((T.heap.toList.drop T.heap.size).map (·.slots.size)).sum
      rw [List.drop_eq_nil_of_le (Nat.le_of_eq Array.length_toList)]
      rfl
    · show ((T.heap.toList.drop T.heap.size).map (·.slots.size)).sum ≤ 0
      rw [List.drop_eq_nil_of_le (Nat.le_of_eq Array.length_toList)]
      exact Nat.le_refl _
/-- 'throw new E()': new; dup; invokespecial; athrow -/
theorem vx_throw0 {cc : ByteArray} {pc : Nat} (hexec : p.tables.exec = Jvm.exec) (hb : c.code = cc) (hl : l.stackTraces = false) {own cls : String} {names : List String} {ik ic mc ms : Nat} {A : Nat → Prop}
    (hown : s.vm.findClass own = some m.cls) (hcls : Bundle.fit cls = true) (hnames : ∀ n ∈ names, Bundle.fit n = true)
    (hk : (Cond.classLink own ik cls).before args s = true) (hini : (Cond.initialized cls).before args s = true) (hat : ∀ w ∈ vx_at0 own ic cls names, w.before args s = true)
    (hgood : ∀ w ∈ Cond.classLink own ik cls :: Cond.initialized cls :: vx_at0 own ic cls names, vx_ot w = true)
    (hU : vx_Zq Bundle.tN "UNASSIGNED_STACK" Bundle.steD A s s.heap) (hN : vx_Zq Bundle.tN "SUPPRESSED_SENTINEL" Bundle.listD A s s.heap) (hS : va_S A s.heap H locs) (hsize : ls.size = c.maxLocals)
    (d0 : decode cc pc = .ok (.new ik, 3)) (d3 : decode cc (pc + 3) = .ok (.dup, 1)) (d4 : decode cc (pc + 4) = .ok (.invokespecial ic, 3)) (d7 : decode cc (pc + 7) = .ok (.athrow, 1))
    (hout : ∀ x ∈ c.exceptionTable.toList, covers x (pc + 7) = false)
    (hRframes : names.length + 3 < R.frames) (hRlocals : (rest.map fun v => v.category).sum + (13 * (names.length + 1) + 42) ≤ R.locals) (hRcells : cells + 1 ≤ R.cells) (hRslots : slots + 6 ≤ R.slots) (hlocks : meth.locks = false)
    (hx : ∀ t : State, s.vm.Alike t.vm → H.size ≤ t.heap.size → (∀ q : Nat, q < H.size → t.heap[q]? = H[q]?) → XC cls s t)
    (hf : ∀ z ∈ locs, free z.base) (hc : cells + 1 ≤ mc) (hs : slots + 6 ≤ ms) :
    W p l e R s m args below meth c H locs cells slots (vx_MQ below Qc XC args s mc ms free) (F0 m pc ls rest) := by
  intro T hT X
  have htr : e.platform.stackTraces = false := (show e.platform.stackTraces = l.stackTraces by rw [X.admits.platform]).trans hl
  have Y := vx_rebase X (R' := { frames := R.frames, locals := R.locals, cells := 1, slots := 6 }) (Nat.le_refl _) (Nat.le_refl _) hRcells hRslots
  obtain ⟨s', hA⟩ : ∃ z, z = (T.setVm s.vm).setFrames (.invoking m args :: below) := ⟨_, rfl⟩
  rw [← hA] at Y
  have hvm : s'.vm = s.vm := by rw [hA]; rfl
  have hhp : s'.heap = H := by rw [hA]; exact hT
  have hW0 : s.WarmedH s'.vm := by rw [hvm]; exact State.WarmedH.refl s
  have hat' : ∀ w ∈ vx_at0 own ic cls names, w.before args s' = true := fun w hw => vx_ot_at hW0 hvm.symm (hgood w (List.mem_cons_of_mem _ (List.mem_cons_of_mem _ hw))) (hat w hw)
  have hk' : (Cond.classLink own ik cls).before args s' = true := vx_ot_at hW0 hvm.symm (hgood _ List.mem_cons_self) hk
  have hini' : (Cond.initialized cls).before args s' = true := vx_ot_at hW0 hvm.symm (hgood _ (List.mem_cons_of_mem _ List.mem_cons_self)) hini
  have hU' : vx_Zq Bundle.tN "UNASSIGNED_STACK" Bundle.steD A s' s'.heap := by rw [hhp]; exact vx_Zq.moved hW0.alike (hU.kept hS.2.1)
  have hN' : vx_Zq Bundle.tN "SUPPRESSED_SENTINEL" Bundle.listD A s' s'.heap := by rw [hhp]; exact vx_Zq.moved hW0.alike (hN.kept hS.2.1)
  have h : ∀ w ∈ Bundle.ownAtoms0 own ic cls names, w.before args s' = true := vx_own hat' (vx_isRefq hU'.1) (vx_isRefq hN'.1) hU'.2.word hN'.2.word
  have hown' : s'.vm.findClass own = some m.cls := by rw [hvm]; exact hown
  have hins : (Cond.instantiable cls 6).before args s' = true := h _ (by simp [Bundle.ownAtoms0])
  obtain ⟨vm₁, cX, kX, hfX, hkX, -, -, X₁, st1⟩ := Y.newCold hexec (own := own) (C := cls) (index := ik) (n := 6) hown' hk' hins hini'
    (g := F0 m pc ls rest) rfl (by rw [hb]; exact d0) (Nat.le_refl _) (Nat.le_refl _)
  generalize hT1 : (T.setVm vm₁).pushCell { cls := cX, slots := kX.instanceTypes.map defaultValue, vm := .none } = T1 at X₁ st1
  have hcat : (Value.ref T.heap.size).category = 1 := rfl
  have hcellA : T1.heap[T.heap.size]? = some (freshCell cX kX) := by rw [← hT1]; exact State.heap_pushCell_size _ _
  have d3' : decode c.code (pc + 3) = .ok (.dup, 1) := by rw [hb]; exact d3
  obtain ⟨U, hsteps, hrun, hend, hW, hsame, ce, hce, hO⟩ := X₁.ctorThrow0 hexec htr (own := own) (cls := cls) (names := names) (ic := ic) hown' hcls hnames h (fun x hx => nomatch hx) hfX hkX hcellA (by rw [hhp, hT]; exact Nat.le_refl _)
    (g := { method := m, pc := pc + 4, locals := ls, stack := .ref T.heap.size :: .ref T.heap.size :: rest, locked := none }) rfl hsize rfl rfl (rest := rest) rfl
    (by rw [hb]; exact d4) (by rw [hb]; exact d7) hout hRframes (by simp only [List.map_cons, List.sum_cons, hcat]; omega) hlocks
  obtain ⟨f1, f2⟩ := vx_frame hsame
  rw [hhp] at f1 f2
  have hWs : s.WarmedH U.vm := State.WarmedH.trans hW0 hW
  have hcl : s.vm.findClass cls = some ce.cls := by
    have h9 := hO.cls
    rw [hvm] at h9
    exact h9
  have hall : s.sameButNew ({ U with vm := s.vm } : State) locs mc ms := by
    subst hA
    obtain ⟨e1, e2⟩ := hsame
    rw [State.setFrames_setFrames] at e1
    have h2 : (T.setVm s.vm).sameButNew ({ U with vm := s.vm } : State) [] (0 + 1) (0 + 6) := ⟨e1, e2⟩
    have h3 := X.same.trans h2
    rw [List.append_nil] at h3
    exact h3.mono hc hs
  refine ⟨U, ?_, .threw T.heap.size, hrun, hend, Or.inr ⟨T.heap.size, rfl, cls, ce, locs, hx U hWs.alike f1 (fun q hq => f2 q hq (fun z hz => nomatch hz)), hce, hO.vm, hcl, hWs, hall, hf⟩⟩
  refine st1 _ ?_
  show Steps p.tables e below (T1.setTop { method := m, pc := pc + 3, locals := ls, stack := .ref T.heap.size :: rest, locked := none }) _
  jvm_step X₁.here [X₁.here.top, hexec, d3', Value.category]
  exact hsteps
/-- 'throw new E("text")': new; dup; ldc; invokespecial; athrow -/
theorem vx_throwS {cc : ByteArray} {pc : Nat} (hexec : p.tables.exec = Jvm.exec) (hb : c.code = cc) (hl : l.stackTraces = false) {own cls text : String} {names : List String} {ik is ic mc ms sa : Nat} {A : Nat → Prop}
    (hown : s.vm.findClass own = some m.cls) (hcls : Bundle.fit cls = true) (hnames : ∀ n ∈ names, Bundle.fit n = true)
    (hk : (Cond.classLink own ik cls).before args s = true) (hini : (Cond.initialized cls).before args s = true) (hstr : vk_R own is text sa s) (hat : ∀ w ∈ vx_atS own ic cls names, w.before args s = true)
    (hgood : ∀ w ∈ Cond.classLink own ik cls :: Cond.initialized cls :: vx_atS own ic cls names, vx_ot w = true)
    (hU : vx_Zq Bundle.tN "UNASSIGNED_STACK" Bundle.steD A s s.heap) (hN : vx_Zq Bundle.tN "SUPPRESSED_SENTINEL" Bundle.listD A s s.heap) (hS : va_S A s.heap H locs) (hsize : ls.size = c.maxLocals)
    (d0 : decode cc pc = .ok (.new ik, 3)) (d3 : decode cc (pc + 3) = .ok (.dup, 1)) (d4 : decode cc (pc + 4) = .ok (.ldc is, 2)) (d6 : decode cc (pc + 6) = .ok (.invokespecial ic, 3)) (d9 : decode cc (pc + 9) = .ok (.athrow, 1))
    (hout : ∀ x ∈ c.exceptionTable.toList, covers x (pc + 9) = false)
    (hRframes : names.length + 3 < R.frames) (hRlocals : (rest.map fun v => v.category).sum + (13 * (names.length + 1) + 43) ≤ R.locals) (hRcells : cells + 1 ≤ R.cells) (hRslots : slots + 6 ≤ R.slots) (hlocks : meth.locks = false)
    (hx : ∀ t : State, s.vm.Alike t.vm → H.size ≤ t.heap.size → (∀ q : Nat, q < H.size → t.heap[q]? = H[q]?) → XC cls s t)
    (hf : ∀ z ∈ locs, free z.base) (hc : cells + 1 ≤ mc) (hs : slots + 6 ≤ ms) :
    W p l e R s m args below meth c H locs cells slots (vx_MQ below Qc XC args s mc ms free) (F0 m pc ls rest) := by
  intro T hT X
  have htr : e.platform.stackTraces = false := (show e.platform.stackTraces = l.stackTraces by rw [X.admits.platform]).trans hl
  have Y := vx_rebase X (R' := { frames := R.frames, locals := R.locals, cells := 1, slots := 6 }) (Nat.le_refl _) (Nat.le_refl _) hRcells hRslots
  obtain ⟨s', hA⟩ : ∃ z, z = (T.setVm s.vm).setFrames (.invoking m args :: below) := ⟨_, rfl⟩
  rw [← hA] at Y
  have hvm : s'.vm = s.vm := by rw [hA]; rfl
  have hhp : s'.heap = H := by rw [hA]; exact hT
  have hW0 : s.WarmedH s'.vm := by rw [hvm]; exact State.WarmedH.refl s
  have hat' : ∀ w ∈ vx_atS own ic cls names, w.before args s' = true := fun w hw => vx_ot_at hW0 hvm.symm (hgood w (List.mem_cons_of_mem _ (List.mem_cons_of_mem _ hw))) (hat w hw)
  have hk' : (Cond.classLink own ik cls).before args s' = true := vx_ot_at hW0 hvm.symm (hgood _ List.mem_cons_self) hk
  have hini' : (Cond.initialized cls).before args s' = true := vx_ot_at hW0 hvm.symm (hgood _ (List.mem_cons_of_mem _ List.mem_cons_self)) hini
  have hU' : vx_Zq Bundle.tN "UNASSIGNED_STACK" Bundle.steD A s' s'.heap := by rw [hhp]; exact vx_Zq.moved hW0.alike (hU.kept hS.2.1)
  have hN' : vx_Zq Bundle.tN "SUPPRESSED_SENTINEL" Bundle.listD A s' s'.heap := by rw [hhp]; exact vx_Zq.moved hW0.alike (hN.kept hS.2.1)
  have h : ∀ w ∈ Bundle.ownAtoms own ic cls names, w.before args s' = true := vx_own hat' (vx_isRefq hU'.1) (vx_isRefq hN'.1) hU'.2.word hN'.2.word
  have hown' : s'.vm.findClass own = some m.cls := by rw [hvm]; exact hown
  have hins : (Cond.instantiable cls 6).before args s' = true := h _ (by simp [Bundle.ownAtoms])
  obtain ⟨vm₁, cX, kX, hfX, hkX, -, -, X₁, st1⟩ := Y.newCold hexec (own := own) (C := cls) (index := ik) (n := 6) hown' hk' hins hini'
    (g := F0 m pc ls rest) rfl (by rw [hb]; exact d0) (Nat.le_refl _) (Nat.le_refl _)
  generalize hT1 : (T.setVm vm₁).pushCell { cls := cX, slots := kX.instanceTypes.map defaultValue, vm := .none } = T1 at X₁ st1
  have hcat : (Value.ref T.heap.size).category = 1 := rfl
  have hcellA : T1.heap[T.heap.size]? = some (freshCell cX kX) := by rw [← hT1]; exact State.heap_pushCell_size _ _
  have d3' : decode c.code (pc + 3) = .ok (.dup, 1) := by rw [hb]; exact d3
  have d4' : decode c.code (pc + 4) = .ok (.ldc is, 2) := by rw [hb]; exact d4
  have hstr' : vk_R own is text sa s' := vk_R.warm hW0 hstr
  obtain ⟨U, hsteps, hrun, hend, hW, hsame, ce, hce, hO⟩ := X₁.ctorThrowS hexec htr (own := own) (cls := cls) (names := names) (ic := ic) hown' hcls hnames h (fun x hx => nomatch hx) hfX hkX hcellA (by rw [hhp, hT]; exact Nat.le_refl _) (msg := .ref sa) rfl
    (g := { method := m, pc := pc + 6, locals := ls, stack := .ref sa :: .ref T.heap.size :: .ref T.heap.size :: rest, locked := none }) rfl hsize rfl rfl (rest := rest) rfl
    (by rw [hb]; exact d6) (by rw [hb]; exact d9) hout hRframes (by simp only [List.map_cons, List.sum_cons, hcat]; omega) hlocks
  obtain ⟨f1, f2⟩ := vx_frame hsame
  rw [hhp] at f1 f2
  have hWs : s.WarmedH U.vm := State.WarmedH.trans hW0 hW
  have hcl : s.vm.findClass cls = some ce.cls := by
    have h9 := hO.cls
    rw [hvm] at h9
    exact h9
  have hall : s.sameButNew ({ U with vm := s.vm } : State) locs mc ms := by
    subst hA
    obtain ⟨e1, e2⟩ := hsame
    rw [State.setFrames_setFrames] at e1
    have h2 : (T.setVm s.vm).sameButNew ({ U with vm := s.vm } : State) [] (0 + 1) (0 + 6) := ⟨e1, e2⟩
    have h3 := X.same.trans h2
    rw [List.append_nil] at h3
    exact h3.mono hc hs
  refine ⟨U, ?_, .threw T.heap.size, hrun, hend, Or.inr ⟨T.heap.size, rfl, cls, ce, locs, hx U hWs.alike f1 (fun q hq => f2 q hq (fun z hz => nomatch hz)), hce, hO.vm, hcl, hWs, hall, hf⟩⟩
  refine st1 _ ?_
  show Steps p.tables e below (T1.setTop { method := m, pc := pc + 3, locals := ls, stack := .ref T.heap.size :: rest, locked := none }) _
  jvm_step X₁.here [X₁.here.top, hexec, d3', Value.category]
  exact X₁.ldcString hexec (own := own) (text := text) (index := is) (a := sa) hown' hstr'.1 hstr'.2
    (g := { method := m, pc := pc + 4, locals := ls, stack := .ref T.heap.size :: .ref T.heap.size :: rest, locked := none }) rfl d4' _ hsteps
/-- 'throw new E("text")', the text by a wide index -/
theorem vx_throwSW {cc : ByteArray} {pc : Nat} (hexec : p.tables.exec = Jvm.exec) (hb : c.code = cc) (hl : l.stackTraces = false) {own cls text : String} {names : List String} {ik is ic mc ms sa : Nat} {A : Nat → Prop}
    (hown : s.vm.findClass own = some m.cls) (hcls : Bundle.fit cls = true) (hnames : ∀ n ∈ names, Bundle.fit n = true)
    (hk : (Cond.classLink own ik cls).before args s = true) (hini : (Cond.initialized cls).before args s = true) (hstr : vk_R own is text sa s) (hat : ∀ w ∈ vx_atS own ic cls names, w.before args s = true)
    (hgood : ∀ w ∈ Cond.classLink own ik cls :: Cond.initialized cls :: vx_atS own ic cls names, vx_ot w = true)
    (hU : vx_Zq Bundle.tN "UNASSIGNED_STACK" Bundle.steD A s s.heap) (hN : vx_Zq Bundle.tN "SUPPRESSED_SENTINEL" Bundle.listD A s s.heap) (hS : va_S A s.heap H locs) (hsize : ls.size = c.maxLocals)
    (d0 : decode cc pc = .ok (.new ik, 3)) (d3 : decode cc (pc + 3) = .ok (.dup, 1)) (d4 : decode cc (pc + 4) = .ok (.ldc_w is, 3)) (d7 : decode cc (pc + 7) = .ok (.invokespecial ic, 3)) (d10 : decode cc (pc + 10) = .ok (.athrow, 1))
    (hout : ∀ x ∈ c.exceptionTable.toList, covers x (pc + 10) = false)
    (hRframes : names.length + 3 < R.frames) (hRlocals : (rest.map fun v => v.category).sum + (13 * (names.length + 1) + 43) ≤ R.locals) (hRcells : cells + 1 ≤ R.cells) (hRslots : slots + 6 ≤ R.slots) (hlocks : meth.locks = false)
    (hx : ∀ t : State, s.vm.Alike t.vm → H.size ≤ t.heap.size → (∀ q : Nat, q < H.size → t.heap[q]? = H[q]?) → XC cls s t)
    (hf : ∀ z ∈ locs, free z.base) (hc : cells + 1 ≤ mc) (hs : slots + 6 ≤ ms) :
    W p l e R s m args below meth c H locs cells slots (vx_MQ below Qc XC args s mc ms free) (F0 m pc ls rest) := by
  intro T hT X
  have htr : e.platform.stackTraces = false := (show e.platform.stackTraces = l.stackTraces by rw [X.admits.platform]).trans hl
  have Y := vx_rebase X (R' := { frames := R.frames, locals := R.locals, cells := 1, slots := 6 }) (Nat.le_refl _) (Nat.le_refl _) hRcells hRslots
  obtain ⟨s', hA⟩ : ∃ z, z = (T.setVm s.vm).setFrames (.invoking m args :: below) := ⟨_, rfl⟩
  rw [← hA] at Y
  have hvm : s'.vm = s.vm := by rw [hA]; rfl
  have hhp : s'.heap = H := by rw [hA]; exact hT
  have hW0 : s.WarmedH s'.vm := by rw [hvm]; exact State.WarmedH.refl s
  have hat' : ∀ w ∈ vx_atS own ic cls names, w.before args s' = true := fun w hw => vx_ot_at hW0 hvm.symm (hgood w (List.mem_cons_of_mem _ (List.mem_cons_of_mem _ hw))) (hat w hw)
  have hk' : (Cond.classLink own ik cls).before args s' = true := vx_ot_at hW0 hvm.symm (hgood _ List.mem_cons_self) hk
  have hini' : (Cond.initialized cls).before args s' = true := vx_ot_at hW0 hvm.symm (hgood _ (List.mem_cons_of_mem _ List.mem_cons_self)) hini
  have hU' : vx_Zq Bundle.tN "UNASSIGNED_STACK" Bundle.steD A s' s'.heap := by rw [hhp]; exact vx_Zq.moved hW0.alike (hU.kept hS.2.1)
  have hN' : vx_Zq Bundle.tN "SUPPRESSED_SENTINEL" Bundle.listD A s' s'.heap := by rw [hhp]; exact vx_Zq.moved hW0.alike (hN.kept hS.2.1)
  have h : ∀ w ∈ Bundle.ownAtoms own ic cls names, w.before args s' = true := vx_own hat' (vx_isRefq hU'.1) (vx_isRefq hN'.1) hU'.2.word hN'.2.word
  have hown' : s'.vm.findClass own = some m.cls := by rw [hvm]; exact hown
  have hins : (Cond.instantiable cls 6).before args s' = true := h _ (by simp [Bundle.ownAtoms])
  obtain ⟨vm₁, cX, kX, hfX, hkX, -, -, X₁, st1⟩ := Y.newCold hexec (own := own) (C := cls) (index := ik) (n := 6) hown' hk' hins hini'
    (g := F0 m pc ls rest) rfl (by rw [hb]; exact d0) (Nat.le_refl _) (Nat.le_refl _)
  generalize hT1 : (T.setVm vm₁).pushCell { cls := cX, slots := kX.instanceTypes.map defaultValue, vm := .none } = T1 at X₁ st1
  have hcat : (Value.ref T.heap.size).category = 1 := rfl
  have hcellA : T1.heap[T.heap.size]? = some (freshCell cX kX) := by rw [← hT1]; exact State.heap_pushCell_size _ _
  have d3' : decode c.code (pc + 3) = .ok (.dup, 1) := by rw [hb]; exact d3
  have d4' : decode c.code (pc + 4) = .ok (.ldc_w is, 3) := by rw [hb]; exact d4
  have hstr' : vk_R own is text sa s' := vk_R.warm hW0 hstr
  obtain ⟨U, hsteps, hrun, hend, hW, hsame, ce, hce, hO⟩ := X₁.ctorThrowS hexec htr (own := own) (cls := cls) (names := names) (ic := ic) hown' hcls hnames h (fun x hx => nomatch hx) hfX hkX hcellA (by rw [hhp, hT]; exact Nat.le_refl _) (msg := .ref sa) rfl
    (g := { method := m, pc := pc + 7, locals := ls, stack := .ref sa :: .ref T.heap.size :: .ref T.heap.size :: rest, locked := none }) rfl hsize rfl rfl (rest := rest) rfl
    (by rw [hb]; exact d7) (by rw [hb]; exact d10) hout hRframes (by simp only [List.map_cons, List.sum_cons, hcat]; omega) hlocks
  obtain ⟨f1, f2⟩ := vx_frame hsame
  rw [hhp] at f1 f2
  have hWs : s.WarmedH U.vm := State.WarmedH.trans hW0 hW
  have hcl : s.vm.findClass cls = some ce.cls := by
    have h9 := hO.cls
    rw [hvm] at h9
    exact h9
  have hall : s.sameButNew ({ U with vm := s.vm } : State) locs mc ms := by
    subst hA
    obtain ⟨e1, e2⟩ := hsame
    rw [State.setFrames_setFrames] at e1
    have h2 : (T.setVm s.vm).sameButNew ({ U with vm := s.vm } : State) [] (0 + 1) (0 + 6) := ⟨e1, e2⟩
    have h3 := X.same.trans h2
    rw [List.append_nil] at h3
    exact h3.mono hc hs
  refine ⟨U, ?_, .threw T.heap.size, hrun, hend, Or.inr ⟨T.heap.size, rfl, cls, ce, locs, hx U hWs.alike f1 (fun q hq => f2 q hq (fun z hz => nomatch hz)), hce, hO.vm, hcl, hWs, hall, hf⟩⟩
  refine st1 _ ?_
  show Steps p.tables e below (T1.setTop { method := m, pc := pc + 3, locals := ls, stack := .ref T.heap.size :: rest, locked := none }) _
  jvm_step X₁.here [X₁.here.top, hexec, d3', Value.category]
  exact X₁.ldcStringW hexec (own := own) (text := text) (index := is) (a := sa) hown' hstr'.1 hstr'.2
    (g := { method := m, pc := pc + 4, locals := ls, stack := .ref T.heap.size :: .ref T.heap.size :: rest, locked := none }) rfl d4' _ hsteps
end Ends
section Bodies
variable {l : Launch}
theorem vx_ofW {y : MethodName} {ws ws' : List Cond} {rm : Room} {Pc : Array Value → State → Prop} {Qc : Array Value → State → Outcome → State → Prop} {XC : String → State → State → Prop} {mc ms : Nat} {free : Addr → Prop} {cc : ByteArray} {maxL : Nat} {ret : Option FieldType}
    (hy : plainName y.cls = true) (hw : ws = Cond.code y cc maxL ret :: ws')
    (body : ∀ p e s m args below meth c s₁, BodyLoose p l y (headSpec ws rm) cc maxL ret e s m args below meth c s₁ → c.maxLocals = maxL → (∀ x ∈ c.exceptionTable.toList, False) → Pc args s →
      W p l e (headSpec ws rm).room s m args below meth c s.heap [] 0 0 (vx_MQ below Qc XC args s mc ms free) (entryFrame m args maxL)) : vx_Met l y ws rm Pc Qc XC mc ms free := by
  refine MetFree.of_bodyS (code := cc) (maxLocals := maxL) (ret := ret) hy ?_ ?_
  · intro args s m h hn
    obtain ⟨meth, c, h1, h2, h3, h4, h5, h6, -, -⟩ := Cond.code_spec hn (atoms_spec (ws := ws) h _ (by rw [hw]; exact List.mem_cons_self))
    exact ⟨meth, c, h1, h2, h3, h4, h5, h6⟩
  · intro p e s m args below meth c s₁ B hml hP _
    have hh0 : s₁.heap = s.heap := by rw [B.state]; rfl
    have ht : ∀ x ∈ c.exceptionTable.toList, False := by
      obtain ⟨meth9, c9, h1, h2, -, -, -, -, h7, -⟩ := Cond.code_spec B.named (atoms_spec (ws := ws) B.pre _ (by rw [hw]; exact List.mem_cons_self))
      cases Option.some.inj (h1.symm.trans B.method)
      cases Option.some.inj (h2.symm.trans (Stand.of_body B).code)
      intro x hx
      rw [Array.isEmpty_iff.mp h7] at hx
      cases hx
    obtain ⟨t, a1, o, b1, b2, b3⟩ := body p e s m args below meth c s₁ B hml ht hP s₁ hh0 (Stand.of_body B)
    exact ⟨t, o, a1, b1, b2, b3⟩
/-- the table of a body with handlers -/
theorem vx_table {p : Program} {x y : MethodName} {S : Spec} {cc bytes : ByteArray} {maxL maxL' : Nat} {ret ret' : Option FieldType} {e : Env} {s s₁ : State} {m : MethodId} {args : Array Value} {below : List Frame} {meth : Method} {c : Code} {hh : List (Nat × Nat × Nat × Nat)}
    (B : BodyLoose p l y S cc maxL ret e s m args below meth c s₁) (h : (Cond.codeWith y bytes maxL' ret' hh).before args s = true) : c.exceptionTable.toList = tableOf hh := by
  obtain ⟨m9, meth9, c9, hn9, h1, h2, -, -, h6, -⟩ := Cond.codeWith_spec h
  cases Option.some.inj (hn9.symm.trans B.named)
  cases Option.some.inj (h1.symm.trans B.method)
  cases Option.some.inj (h2.symm.trans (Stand.of_body B).code)
  rw [← h6, table_eq]
end Bodies
end VXA
/-! ===== END ===== -/
/-! ===== BEGIN a static call of a method with an exception table ===== -/
section VXS
variable {p : Program} {l : Launch} {e : Env} {R : Room} {s : State} {m : MethodId} {args : Array Value} {below : List Frame} {meth : Method} {c : Code} {T : State} {H : Heap} {locs : List Loc} {cells slots : Nat}
abbrev vx_CSW (R : Room) (s : State) (args : Array Value) (own : String) (index : Nat) (y : MethodName) (bytes : ByteArray) (maxL : Nat) (ret : Option FieldType) (hh : List (Nat × Nat × Nat × Nat)) (ws : List Cond) (rm : Room) (mc ms n : Nat) : Prop :=
  (rm.cells = mc ∧ rm.slots = ms ∧ rm.frames + 1 ≤ R.frames ∧ 8 + (maxL + 11) + rm.locals ≤ R.locals ∧ (∀ w ∈ ws, ∀ (a' : Array Value) (U : State), s.WarmedH U.vm → w.before a' U = true) ∧ Cond.codeWith y bytes maxL ret hh ∈ ws) ∧
  (Cond.codeWith y bytes maxL ret hh).before args s = true ∧ (Cond.initialized y.cls).before args s = true ∧ (y.cls ≠ "java/lang/invoke/MethodHandle" ∧ y.cls ≠ "java/lang/invoke/VarHandle") ∧
  (∀ sig, parseMethodDescriptor y.desc = some sig → n = sig.parameters.length) ∧ (Cond.methodLink own index y).before args s = true ∧ (Cond.static y).before args s = true
theorem vx_cwSW {own : String} {index maxL mc ms : Nat} {y : MethodName} {bytes : ByteArray} {ret : Option FieldType} {hh : List (Nat × Nat × Nat × Nat)} {Ts ws ws' : List Cond} {rm : Room} (n : Nat) (ht : ∀ w ∈ Ts, w.before args s = true) (hT : GoodIn Ts (va_wsS own index y ws)) (hw : ws = Cond.codeWith y bytes maxL ret hh :: ws') (hrc : rm.cells = mc) (hrs : rm.slots = ms)
    (hd : y.cls ≠ "java/lang/invoke/MethodHandle" ∧ y.cls ≠ "java/lang/invoke/VarHandle" ∧ (parseMethodDescriptor y.desc).map (fun d => d.parameters.length) = some n) (hR : rm.frames + 1 ≤ R.frames ∧ 8 + (maxL + 11) + rm.locals ≤ R.locals) :
    vx_CSW R s args own index y bytes maxL ret hh ws rm mc ms n := by
  have ok : ∀ w ∈ va_wsS own index y ws, w.before args s = true := fun w h => ht w (hT w h).1
  have hG : GoodIn Ts ws := fun w h => hT w (by unfold va_wsS; exact List.mem_append_right _ h)
  have hc : Cond.codeWith y bytes maxL ret hh ∈ ws := by rw [hw]; exact List.mem_cons_self
  refine ⟨⟨hrc, hrs, hR.1, hR.2, pay_in ht hG, hc⟩, ht _ (hG _ hc).1, ok _ (by simp [va_wsS]), ⟨hd.1, hd.2.1⟩, fun sig h => ?_, ok _ (by simp [va_wsS]), ok _ (by simp [va_wsS])⟩
  have h2 := hd.2.2
  rw [h] at h2
  exact (Option.some.inj h2).symm
theorem vx_callSW (X : Stand p l e R s m args below meth c T locs cells slots) (hexec : p.tables.exec = Jvm.exec) {own : String} {index : Nat} {y : MethodName} {bytes : ByteArray} {maxL : Nat} {ret : Option FieldType} {hh : List (Nat × Nat × Nat × Nat)}
    (hown : s.vm.findClass own = some m.cls) (hlink : (Cond.methodLink own index y).before args s = true) (hstat : (Cond.static y).before args s = true) (hinit : (Cond.initialized y.cls).before args s = true)
    (hcode : (Cond.codeWith y bytes maxL ret hh).before args s = true) (hy : y.cls ≠ "java/lang/invoke/MethodHandle" ∧ y.cls ≠ "java/lang/invoke/VarHandle")
    {W9 : Nat} {Pre : Pt → Array Value → Prop} {Post : Pt → Array Value → Option Value → Pt → Prop} (hK : Back l R p e below s args y 3 W9 Pre Post)
    {g : JFrame} (hg : g.method = m) (hsize : g.locals.size = c.maxLocals) {argsL rest : List Value} (hlen : ∀ sig, parseMethodDescriptor y.desc = some sig → argsL.length = sig.parameters.length)
    (hstack : g.stack = argsL.reverse ++ rest) (hW : 2 * g.monitorRoom + (rest.map fun v => v.category).sum ≤ W9) (hdg : decode c.code g.pc = .ok (.invokestatic index, 3))
    (hpre : ∀ vm₁, s.WarmedH vm₁ → Pre ⟨T.setVm vm₁, locs, cells, slots⟩ argsL.toArray) :
    ∃ (v : Option Value) (vm₁ : Vm) (B : Pt), s.WarmedH vm₁ ∧ Stand p l e R s m args below meth c B.U B.locs B.cells B.slots ∧ Post ⟨T.setVm vm₁, locs, cells, slots⟩ argsL.toArray v B ∧
      ∀ target, Steps p.tables e below (B.U.setTop { g with pc := g.pc + 3, stack := v.toList ++ rest }) target → Steps p.tables e below (T.setTop g) target := by
  obtain ⟨mk, methM, cM, hnamed, hmethM, -, -, -, -, -, -, hsigM⟩ := Cond.codeWith_spec hcode
  have hstatic : methM.isStatic = true := Cond.static_spec hnamed hmethM hstat
  obtain ⟨kP, hkP, -⟩ := className_of_methodNamed hnamed
  have hinitP : kP.init = .initialized := Cond.initialized_spec (findClass_of_methodNamed hnamed) hkP hinit
  obtain ⟨vm₁, X₁, hstep₁⟩ := X.invokestatic hexec hown hlink hnamed hmethM hstatic hkP hinitP hy (g := g) hg (argsL := argsL) (rest := rest) (hlen _ hsigM) hstack hdg
  obtain ⟨v, B, X', hpost, hsteps⟩ := hK m meth c ⟨T.setVm vm₁, locs, cells, slots⟩ { g with stack := rest } (.invokestatic index) mk argsL.toArray X₁ hg hsize hdg hW (X₁.named hnamed) (hpre vm₁ X₁.warmed)
  exact ⟨v, vm₁, B, X₁.warmed, X', hpost, fun target h => hstep₁ _ fun acts => by rw [doInvoke_state]; exact hsteps.trans h⟩
theorem vx_runSW {y : MethodName} {bytes cc : ByteArray} {maxL nL mc ms n index : Nat} {ret : Option FieldType} {hh : List (Nat × Nat × Nat × Nat)} {ws : List Cond} {rm : Room} {Pc : Array Value → State → Prop} {Qc : Array Value → State → Outcome → State → Prop} {free : Addr → Prop} {Ts : List Cond} {own : String} {As rest : List Value} {g : JFrame}
    (S : CallFix p m c cc nL s args Ts own) (hM : Met l y ws rm Pc Qc mc ms free) (cw : vx_CSW R s args own index y bytes maxL ret hh ws rm mc ms n) (hp : PreS s H Pc As)
    (hg : g.method = m) (hn : As.length = n) (hsize : g.locals.size = nL) (hstack : g.stack = As.reverse ++ rest) (hW : 2 * g.monitorRoom + (rest.map fun v => v.category).sum ≤ 8) (hdg : decode cc g.pc = .ok (.invokestatic index, 3)) (hf : cells + mc ≤ R.cells ∧ slots + ms ≤ R.slots) :
    va_Run p l e R s m args below meth c H locs cells slots mc ms g rest (Qc As.toArray) (free) := by
  obtain ⟨⟨hrc, hrs, hfr, hlo, hws, hcw⟩, hcode, hini, hy, hlen, hl, hstt⟩ := cw
  have hK : Back l R p e below s args y 3 8 (PreOf R mc ms Pc) (PostOf Qc mc ms free) := va_backW (hh := hh) (bytes := bytes) (maxL := maxL) (ret := ret) hM hp.1 hrc hrs hfr hlo hws hcw (fun a' U hW => word_at hW (Or.inl (by first | rfl | simp [Cond.onTables, Cond.keeps, Cond.steady])) hini)
  obtain ⟨hx, hb, hml, ho, -⟩ := S
  intro T hT X
  obtain ⟨v, vm₁, ⟨U', l2, c2, s2⟩, hW₁, X', ⟨g', mk, t, L, e1, e2, hq, h1, hL, h2, h3⟩, st⟩ := vx_callSW X hx (hh := hh) (bytes := bytes) (maxL := maxL) (ret := ret) ho hl hstt hini hcode hy hK hg (hsize.trans hml.symm) (argsL := As) (rest := rest) (fun sig h => hn.trans (hlen sig h)) hstack hW (by rw [hb]; exact hdg)
    (fun vm₁ hW₁ => ⟨hf.1, hf.2, hp.2 (T.setVm vm₁) hT hW₁⟩)
  dsimp only [Pt.U, Pt.locs, Pt.cells, Pt.slots] at X' e1 e2 h1 h2 h3 st
  subst h1; subst h2; subst h3
  exact ⟨v, (T.setVm vm₁).calling g' mk As.toArray, t, U', L, hT, X', hL, e1, e2, hq, st⟩
/-- not caught here, past rows that name other classes: it goes on to the caller -/
theorem vx_outP {p : Program} {l : Launch} {e : Env} {R : Room} {s : State} {m : MethodId} {args : Array Value} {below : List Frame} {meth : Method} {c : Code} {H : Heap} {locs : List Loc} {cells slots : Nat} {free : Addr → Prop} {ls : Array Slot} {rest : List Value} {Qc : Array Value → State → Outcome → State → Prop} {XC : String → State → State → Prop}
    {pc : Nat} {own E : String} {ce : Cell} {q : Addr} {mc ms : Nat} (hown : s.vm.findClass own = some m.cls) (hlocks : meth.locks = false)
    (hpass : ∀ z ∈ c.exceptionTable.toList, covers z pc = false ∨ (z.catchType ≠ 0 ∧ ∃ nm : String, (Cond.classLink own z.catchType nm).before args s = true ∧ va_Nc E nm s)) (hcell : H[q]? = some ce) (hv : ce.vm = .none) (hcl : s.vm.findClass E = some ce.cls)
    (hx : ∀ t : State, t.heap = H → s.vm.Alike t.vm → XC E s t) (hf : ∀ z ∈ locs, free z.base) (hc : cells ≤ mc) (hs : slots ≤ ms) :
    vx_W p l e R s m args below meth c H locs cells slots (vx_MQ below Qc XC args s mc ms free) (F0 m pc ls rest) q := by
  intro T hT X
  have hpl : e.platform.magicAccessors = ({} : Platform).magicAccessors := by rw [X.admits.platform]
  obtain ⟨vm', hW', X', st⟩ := X.outThrough hlocks q (g := F0 m pc ls rest) rfl rfl rfl (cell := ce) (by rw [hT]; exact hcell) (by rw [hv]; rfl)
    (by obtain ⟨k9, h9, -⟩ := Vm.findClass_spec hcl; exact ⟨k9, h9⟩) (fun z hz => by
      rcases hpass z hz with h | ⟨hz0, nm, hl1, hn1⟩
      · exact Or.inl h
      · obtain ⟨c6, hc6, hcl6⟩ := Cond.classLink_spec hown hl1 e.platform hpl
        obtain ⟨a8, b8, h1, h2, h3⟩ := hn1
        cases Option.some.inj (h1.symm.trans hcl)
        cases Option.some.inj (h2.symm.trans hc6)
        exact Or.inr ⟨hz0, _, hcl6, h3⟩)
  obtain ⟨g₀, hfr⟩ := X'.frames_eq
  have hcell9 : ((T.setVm vm').setFrames (.throwing q :: below)).heap[q]? = some ce := by
    show T.heap[q]? = some ce
    rw [hT]; exact hcell
  have hend : Ended ((T.setVm vm').setFrames (.throwing q :: below)) below (.threw q) := State.frames_setFrames _ (State.cur_lt_of_frames hfr)
  refine ⟨(T.setVm vm').setFrames (.throwing q :: below), ?_, .threw q, X'.here.running, hend, Or.inr ⟨q, rfl, E, ce, locs, hx _ hT (X'.ends _).1.alike, hcell9, hv, hcl, (X'.ends _).1, (X'.ends _).2.mono hc hs, hf⟩⟩
  rw [X.pushThrowing_eq]
  exact st
/-- a thing of a world lies in the heap -/
theorem vx_lt {D : va_G} {cl : List vw_C} {ws : va_W} {H1 : Heap} (h : va_P D cl ws H1) {k : Nat} {q : Nat × va_E} (hk : ws[k]? = some q) : q.1 < H1.size := (h k q hk).lt
end VXS
/-! ===== END ===== -/
/-! ===== BEGIN methods with a table of their own: called by a name, returning or throwing ===== -/
section VXH
/-! vx_backW, vx_callVX, vx_callSX, vx_callVW, vx_runVW, vx_runVX, vx_runSX, vx_ofWH follow the same proofs as their sisters above (Free/Laws.lean, Shelf42/LK1.lean); vx_outP calls Shelf42/NT130.lean (outThrough). -/
section
variable {l : Launch} {R : Room} {p : Program} {e : Env} {below : List Frame} {s : State} {sargs : Array Value} {y : MethodName} {len W9 : Nat}
theorem vx_backW {ws : List Cond} {rm : Room} {Pc : Array Value → State → Prop} {Qc : Array Value → State → Outcome → State → Prop} {XC : String → State → State → Prop} {mc ms : Nat} {free : Addr → Prop} {bytes : ByteArray} {maxL : Nat} {ret : Option FieldType} {hh : List (Nat × Nat × Nat × Nat)}
    (hM : vx_Met l y ws rm Pc Qc XC mc ms free) (hblind : FrameBlind Pc) (hrc : rm.cells = mc) (hrs : rm.slots = ms)
    (hframes : rm.frames + 1 ≤ R.frames) (hlocals : W9 + (maxL + 11) + rm.locals ≤ R.locals)
    (hws : ∀ w ∈ ws, ∀ a' U, s.WarmedH U.vm → w.before a' U = true) (hcode : Cond.codeWith y bytes maxL ret hh ∈ ws) (hinit : ∀ a' U, s.WarmedH U.vm → (Cond.initialized y.cls).before a' U = true) :
    vx_Back l R p e below s sargs y len W9 (PreOf R mc ms Pc) (PostOf Qc mc ms free) (vx_Post XC mc ms free) := by
  intro m meth c A g ig mk a X hg hsize hdg hW hn hp
  have h1 : (headSpec ws rm).pre.before a A.U = true := atoms_intro fun w hw => hws w hw _ _ X.warmed
  have h2 : (Cond.codeWith y bytes maxL ret hh).before a A.U = true := hws _ hcode _ _ X.warmed
  have h3 : (Cond.initialized y.cls).before a A.U = true := hinit _ _ X.warmed
  have h4 : A.cells + (headSpec ws rm).room.cells ≤ R.cells := by rw [show (headSpec ws rm).room.cells = mc from hrc]; exact hp.1
  have h5 : A.slots + (headSpec ws rm).room.slots ≤ R.slots := by rw [show (headSpec ws rm).room.slots = ms from hrs]; exact hp.2.1
  have hPc : Pc a (A.U.calling g mk a) := hblind _ _ _ _ hp.2.2
  obtain ⟨U, Ls, c0, s0⟩ := A
  dsimp only [Pt.U, Pt.locs, Pt.cells, Pt.slots] at h1 h2 h3 h4 h5 X hn hPc ⊢
  obtain ⟨m9, methY, cY, hn9, hmY, hcY, -, hlY, -⟩ := Cond.codeWith_spec h2
  cases Option.some.inj (hn9.symm.trans hn)
  obtain ⟨kY, hkY, -⟩ := className_of_methodNamed hn
  have hinitY : kY.init = .initialized := Cond.initialized_spec (findClass_of_methodNamed hn) hkY h3
  have h : At U g.method c below := by rw [hg]; exact X.here
  have hlocals9 : W9 + (maxL + 11) + (headSpec ws rm).room.locals ≤ R.locals := hlocals
  have happ : (headSpec ws rm).appliesLoose y e.platform (U.calling g mk a) = true :=
    Spec.appliesLoose_calling (g := g) h hdg hn hkY hinitY
      (X.room_calling (g := g) (R' := (headSpec ws rm).room) hsize hmY hcY hframes (by rw [hlY]; omega) h4 h5) h1
  obtain ⟨mid, hmid⟩ := h.above
  have hfr : (U.setTop g).frames = (.java g :: mid) ++ below := by rw [State.frames_setTop' g h.top, hmid]; rfl
  obtain ⟨o, s₂, hsteps, -, hend, hq⟩ := Steps.callFree hM p X.admits X.cas X.clock (acts := []) hfr happ hPc trivial
  have hq' : vx_Q Qc XC mc ms free a (U.calling g mk a) o s₂ := hq
  rw [State.frames_setTop' g h.top] at hend
  obtain ⟨g₀, hg0⟩ := Option.isSome_iff_exists.mp h.top
  obtain ⟨r, hr⟩ := State.topJava?_eq_some.mp hg0
  have hr' : (({ U with heap := s₂.heap, slotsUsed := s₂.slotsUsed } : State).setVm s₂.vm).frames = .java g₀ :: r := hr
  rcases hq' with ⟨hqc, L, hfe, hL⟩ | ⟨q, rfl, E, ce, L, hx, hce, hcv, hcl, hW₂, hsm, hL⟩
  · obtain ⟨⟨v, rfl⟩, hW₂, e2, q2, q3, q4, q5, q6⟩ := id hfe
    have e3 : s₂ = ({ (U.calling g mk a).setFrames s₂.frames with heap := s₂.heap, slotsUsed := s₂.slotsUsed } : State).setVm s₂.vm := by
      have : s₂ = ({ s₂ with vm := (U.calling g mk a).vm } : State).setVm s₂.vm := rfl
      rw [e2] at this
      exact this
    obtain ⟨c₂, i₂, len₂, hc₂, hd₂, hf₂⟩ := hend
    have hW' : U.WarmedH s₂.vm := hW₂
    have hcc : c₂ = c := by
      have h1 : s₂.code? g.method = U.code? g.method := by
        rw [State.code?_eq, State.code?_eq, hW'.alike.method?]
      exact Option.some.inj (hc₂.symm.trans (h1.trans h.code))
    subst hcc
    have hlen : len₂ = len := by rw [hdg] at hd₂; cases hd₂; rfl
    subst hlen
    have hs₂ : s₂ = (({ U with heap := s₂.heap, slotsUsed := s₂.slotsUsed } : State).setVm s₂.vm).setTop { g with pc := g.pc + len₂, stack := v.toList ++ g.stack } := by
      refine e3.trans ?_
      rw [hf₂, State.calling_eq h.top, State.setFrames_setFrames, State.setTop_of_frames _ hr', hr]
      rfl
    have hsame : U.sameButNew ({ U with heap := s₂.heap, slotsUsed := s₂.slotsUsed } : State) L mc ms := by
      refine ⟨?_, q2, q3, q4, q5, q6⟩
      obtain ⟨t, ht, -⟩ := State.frames_cons hr
      show ({ U with heap := s₂.heap, slotsUsed := s₂.slotsUsed } : State) = { U.setFrames U.frames with heap := s₂.heap, slotsUsed := s₂.slotsUsed }
      rw [State.setFrames_self ht]
    subst hg
    refine Or.inl ⟨v, ⟨(({ U with heap := s₂.heap, slotsUsed := s₂.slotsUsed } : State).setVm s₂.vm), Ls ++ L, c0 + mc, s0 + ms⟩,
      ⟨X.admits, X.cas, X.clock, X.frames, X.room, X.hears, X.method, X.code, (X.here.setHeapUsed s₂.heap s₂.slotsUsed).setVm hW'.alike, X.tail, State.WarmedH.trans X.warmed hW', X.limits, X.bytes, X.same.trans (hsame.setVm s.vm)⟩,
      ⟨g, mk, s₂, L, rfl, rfl, hqc, rfl, hL, rfl, rfl⟩, ?_⟩
    show Steps p.tables e below _ ((({ U with heap := s₂.heap, slotsUsed := s₂.slotsUsed } : State).setVm s₂.vm).setTop { g with pc := g.pc + len₂, stack := v.toList ++ g.stack })
    rw [← hs₂]
    exact hsteps
  · obtain ⟨e2, q2, q3, q4, q5, q6⟩ := id hsm
    have e3 : s₂ = ({ (U.calling g mk a).setFrames s₂.frames with heap := s₂.heap, slotsUsed := s₂.slotsUsed } : State).setVm s₂.vm := by
      have : s₂ = ({ s₂ with vm := (U.calling g mk a).vm } : State).setVm s₂.vm := rfl
      rw [e2] at this
      exact this
    have hf₂ : s₂.frames = .throwing q :: .java g :: U.frames.tail := hend
    have hW' : U.WarmedH s₂.vm := hW₂
    have hs₂ : s₂ = ((({ U with heap := s₂.heap, slotsUsed := s₂.slotsUsed } : State).setVm s₂.vm).setTop g).pushFrame (.throwing q) := by
      refine e3.trans ?_
      rw [hf₂, State.calling_eq h.top, State.setFrames_setFrames, State.pushFrame, State.frames_setTop _ hr', State.setTop_of_frames _ hr', State.setFrames_setFrames, hr]
      rfl
    have hsame : U.sameButNew ({ U with heap := s₂.heap, slotsUsed := s₂.slotsUsed } : State) L mc ms := by
      refine ⟨?_, q2, q3, q4, q5, q6⟩
      obtain ⟨t, ht, -⟩ := State.frames_cons hr
      show ({ U with heap := s₂.heap, slotsUsed := s₂.slotsUsed } : State) = { U.setFrames U.frames with heap := s₂.heap, slotsUsed := s₂.slotsUsed }
      rw [State.setFrames_self ht]
    subst hg
    refine Or.inr ⟨q, ⟨(({ U with heap := s₂.heap, slotsUsed := s₂.slotsUsed } : State).setVm s₂.vm), Ls ++ L, c0 + mc, s0 + ms⟩,
      ⟨X.admits, X.cas, X.clock, X.frames, X.room, X.hears, X.method, X.code, (X.here.setHeapUsed s₂.heap s₂.slotsUsed).setVm hW'.alike, X.tail, State.WarmedH.trans X.warmed hW', X.limits, X.bytes, X.same.trans (hsame.setVm s.vm)⟩,
      ⟨g, mk, s₂, L, E, ce, rfl, rfl, hx, hce, hcv, hcl, rfl, hL, rfl, rfl⟩, ?_⟩
    show Steps p.tables e below _ (((({ U with heap := s₂.heap, slotsUsed := s₂.slotsUsed } : State).setVm s₂.vm).setTop g).pushFrame (.throwing q))
    rw [← hs₂]
    exact hsteps
end
variable {p : Program} {l : Launch} {e : Env} {R : Room} {s : State} {m : MethodId} {args : Array Value} {below : List Frame} {meth : Method} {c : Code} {T : State} {H : Heap} {locs : List Loc} {cells slots : Nat}
theorem vx_callVX (X : Stand p l e R s m args below meth c T locs cells slots) (hexec : p.tables.exec = Jvm.exec) {own C : String} {index : Nat} {y : MethodName} {bytes : ByteArray} {maxL : Nat} {ret : Option FieldType} {hh : List (Nat × Nat × Nat × Nat)}
    (hown : s.vm.findClass own = some m.cls) (hlink : (Cond.methodLink own index y).before args s = true) (hinst : (Cond.instanceMethod y).before args s = true) (hsel : (Cond.selects C y y).before args s = true)
    (hcode : (Cond.codeWith y bytes maxL ret hh).before args s = true) (hy : y.cls ≠ "java/lang/invoke/MethodHandle" ∧ y.cls ≠ "java/lang/invoke/VarHandle")
    {W9 : Nat} {Pre : Pt → Array Value → Prop} {Post : Pt → Array Value → Option Value → Pt → Prop} {PostX : Pt → Array Value → Addr → Pt → Prop} (hK : vx_Back l R p e below s args y 3 W9 Pre Post PostX)
    {b : Addr} {cellB : Cell} (hcell : T.heap[b]? = some cellB) (hobj : cellB.vm.isStatics = false) (hcls : s.vm.findClass C = some cellB.cls)
    {g : JFrame} (hg : g.method = m) (hsize : g.locals.size = c.maxLocals) {argsL rest : List Value} (hlen : ∀ sig, parseMethodDescriptor y.desc = some sig → argsL.length = sig.parameters.length)
    (hstack : g.stack = argsL.reverse ++ .ref b :: rest) (hW : 2 * g.monitorRoom + (rest.map fun v => v.category).sum ≤ W9) (hdg : decode c.code g.pc = .ok (.invokevirtual index, 3))
    (hpre : ∀ vm₁, s.WarmedH vm₁ → Pre ⟨T.setVm vm₁, locs, cells, slots⟩ (Value.ref b :: argsL).toArray) :
    (∃ (v : Option Value) (vm₁ : Vm) (B : Pt), s.WarmedH vm₁ ∧ Stand p l e R s m args below meth c B.U B.locs B.cells B.slots ∧ Post ⟨T.setVm vm₁, locs, cells, slots⟩ (Value.ref b :: argsL).toArray v B ∧
      ∀ target, Steps p.tables e below (B.U.setTop { g with pc := g.pc + 3, stack := v.toList ++ rest }) target → Steps p.tables e below (T.setTop g) target) ∨
    (∃ (q : Addr) (vm₁ : Vm) (B : Pt), s.WarmedH vm₁ ∧ Stand p l e R s m args below meth c B.U B.locs B.cells B.slots ∧ PostX ⟨T.setVm vm₁, locs, cells, slots⟩ (Value.ref b :: argsL).toArray q B ∧
      Steps p.tables e below (T.setTop g) ((B.U.setTop { g with stack := rest }).pushFrame (.throwing q))) := by
  obtain ⟨mk, methM, hnamed, hmethM, hstM, habM⟩ := Cond.instanceMethod_spec hinst
  obtain ⟨m8, methM', cM, hn8, hmethM', -, -, -, -, -, -, hsigM⟩ := Cond.codeWith_spec hcode
  cases Option.some.inj (hn8.symm.trans hnamed)
  cases hmethM.symm.trans hmethM'
  obtain ⟨c2, r2, m2, q1, q2, q3, q4, kP, hkP, hkPi⟩ := Cond.selects_spec hsel
  cases hcls.symm.trans q1
  cases (State.methodFound?_of_named hnamed hy).symm.trans q2
  cases hnamed.symm.trans q3
  have hselP : selectMethod e.platform s.vm cellB.cls mk = .method mk := by rw [Launch.admits_selectMethod X.admits]; exact q4
  obtain ⟨vm₁, X₁, hstep₁⟩ := X.invokevirtual hexec hown hlink hnamed hmethM hstM hkP hkPi hy (a := b) (cell := cellB) hcell
    (fun z h => by rw [h] at hobj; cases hobj) hselP hmethM habM hkP hkPi (g := g) hg (argsL := argsL) (rest := rest) (hlen _ hsigM) hstack hdg
  rcases hK m meth c ⟨T.setVm vm₁, locs, cells, slots⟩ { g with stack := rest } (.invokevirtual index) mk (Value.ref b :: argsL).toArray X₁ hg hsize hdg hW (X₁.named hnamed) (hpre vm₁ X₁.warmed) with ⟨v, B, X', hpost, hsteps⟩ | ⟨q, B, X', hpost, hsteps⟩
  · exact Or.inl ⟨v, vm₁, B, X₁.warmed, X', hpost, fun target h => hstep₁ _ fun acts => by rw [doInvoke_state]; exact hsteps.trans h⟩
  · exact Or.inr ⟨q, vm₁, B, X₁.warmed, X', hpost, hstep₁ _ fun acts => by rw [doInvoke_state]; exact hsteps⟩
theorem vx_callSX (X : Stand p l e R s m args below meth c T locs cells slots) (hexec : p.tables.exec = Jvm.exec) {own : String} {index : Nat} {y : MethodName} {bytes : ByteArray} {maxL : Nat} {ret : Option FieldType} {hh : List (Nat × Nat × Nat × Nat)}
    (hown : s.vm.findClass own = some m.cls) (hlink : (Cond.methodLink own index y).before args s = true) (hstat : (Cond.static y).before args s = true) (hinit : (Cond.initialized y.cls).before args s = true)
    (hcode : (Cond.codeWith y bytes maxL ret hh).before args s = true) (hy : y.cls ≠ "java/lang/invoke/MethodHandle" ∧ y.cls ≠ "java/lang/invoke/VarHandle")
    {W9 : Nat} {Pre : Pt → Array Value → Prop} {Post : Pt → Array Value → Option Value → Pt → Prop} {PostX : Pt → Array Value → Addr → Pt → Prop} (hK : vx_Back l R p e below s args y 3 W9 Pre Post PostX)
    {g : JFrame} (hg : g.method = m) (hsize : g.locals.size = c.maxLocals) {argsL rest : List Value} (hlen : ∀ sig, parseMethodDescriptor y.desc = some sig → argsL.length = sig.parameters.length)
    (hstack : g.stack = argsL.reverse ++ rest) (hW : 2 * g.monitorRoom + (rest.map fun v => v.category).sum ≤ W9) (hdg : decode c.code g.pc = .ok (.invokestatic index, 3))
    (hpre : ∀ vm₁, s.WarmedH vm₁ → Pre ⟨T.setVm vm₁, locs, cells, slots⟩ argsL.toArray) :
    (∃ (v : Option Value) (vm₁ : Vm) (B : Pt), s.WarmedH vm₁ ∧ Stand p l e R s m args below meth c B.U B.locs B.cells B.slots ∧ Post ⟨T.setVm vm₁, locs, cells, slots⟩ argsL.toArray v B ∧
      ∀ target, Steps p.tables e below (B.U.setTop { g with pc := g.pc + 3, stack := v.toList ++ rest }) target → Steps p.tables e below (T.setTop g) target) ∨
    (∃ (q : Addr) (vm₁ : Vm) (B : Pt), s.WarmedH vm₁ ∧ Stand p l e R s m args below meth c B.U B.locs B.cells B.slots ∧ PostX ⟨T.setVm vm₁, locs, cells, slots⟩ argsL.toArray q B ∧
      Steps p.tables e below (T.setTop g) ((B.U.setTop { g with stack := rest }).pushFrame (.throwing q))) := by
  obtain ⟨mk, methM, cM, hnamed, hmethM, -, -, -, -, -, -, hsigM⟩ := Cond.codeWith_spec hcode
  have hstatic : methM.isStatic = true := Cond.static_spec hnamed hmethM hstat
  obtain ⟨kP, hkP, -⟩ := className_of_methodNamed hnamed
  have hinitP : kP.init = .initialized := Cond.initialized_spec (findClass_of_methodNamed hnamed) hkP hinit
  obtain ⟨vm₁, X₁, hstep₁⟩ := X.invokestatic hexec hown hlink hnamed hmethM hstatic hkP hinitP hy (g := g) hg (argsL := argsL) (rest := rest) (hlen _ hsigM) hstack hdg
  rcases hK m meth c ⟨T.setVm vm₁, locs, cells, slots⟩ { g with stack := rest } (.invokestatic index) mk argsL.toArray X₁ hg hsize hdg hW (X₁.named hnamed) (hpre vm₁ X₁.warmed) with ⟨v, B, X', hpost, hsteps⟩ | ⟨q, B, X', hpost, hsteps⟩
  · exact Or.inl ⟨v, vm₁, B, X₁.warmed, X', hpost, fun target h => hstep₁ _ fun acts => by rw [doInvoke_state]; exact hsteps.trans h⟩
  · exact Or.inr ⟨q, vm₁, B, X₁.warmed, X', hpost, hstep₁ _ fun acts => by rw [doInvoke_state]; exact hsteps⟩
theorem vx_callVW (X : Stand p l e R s m args below meth c T locs cells slots) (hexec : p.tables.exec = Jvm.exec) {own C : String} {index : Nat} {y : MethodName} {bytes : ByteArray} {maxL : Nat} {ret : Option FieldType} {hh : List (Nat × Nat × Nat × Nat)}
    (hown : s.vm.findClass own = some m.cls) (hlink : (Cond.methodLink own index y).before args s = true) (hinst : (Cond.instanceMethod y).before args s = true) (hsel : (Cond.selects C y y).before args s = true)
    (hcode : (Cond.codeWith y bytes maxL ret hh).before args s = true) (hy : y.cls ≠ "java/lang/invoke/MethodHandle" ∧ y.cls ≠ "java/lang/invoke/VarHandle")
    {W9 : Nat} {Pre : Pt → Array Value → Prop} {Post : Pt → Array Value → Option Value → Pt → Prop} (hK : Back l R p e below s args y 3 W9 Pre Post)
    {b : Addr} {cellB : Cell} (hcell : T.heap[b]? = some cellB) (hobj : cellB.vm.isStatics = false) (hcls : s.vm.findClass C = some cellB.cls)
    {g : JFrame} (hg : g.method = m) (hsize : g.locals.size = c.maxLocals) {argsL rest : List Value} (hlen : ∀ sig, parseMethodDescriptor y.desc = some sig → argsL.length = sig.parameters.length)
    (hstack : g.stack = argsL.reverse ++ .ref b :: rest) (hW : 2 * g.monitorRoom + (rest.map fun v => v.category).sum ≤ W9) (hdg : decode c.code g.pc = .ok (.invokevirtual index, 3))
    (hpre : ∀ vm₁, s.WarmedH vm₁ → Pre ⟨T.setVm vm₁, locs, cells, slots⟩ (Value.ref b :: argsL).toArray) :
    ∃ (v : Option Value) (vm₁ : Vm) (B : Pt), s.WarmedH vm₁ ∧ Stand p l e R s m args below meth c B.U B.locs B.cells B.slots ∧ Post ⟨T.setVm vm₁, locs, cells, slots⟩ (Value.ref b :: argsL).toArray v B ∧
      ∀ target, Steps p.tables e below (B.U.setTop { g with pc := g.pc + 3, stack := v.toList ++ rest }) target → Steps p.tables e below (T.setTop g) target := by
  obtain ⟨mk, methM, hnamed, hmethM, hstM, habM⟩ := Cond.instanceMethod_spec hinst
  obtain ⟨m8, methM', cM, hn8, hmethM', -, -, -, -, -, -, hsigM⟩ := Cond.codeWith_spec hcode
  cases Option.some.inj (hn8.symm.trans hnamed)
  cases hmethM.symm.trans hmethM'
  obtain ⟨c2, r2, m2, q1, q2, q3, q4, kP, hkP, hkPi⟩ := Cond.selects_spec hsel
  cases hcls.symm.trans q1
  cases (State.methodFound?_of_named hnamed hy).symm.trans q2
  cases hnamed.symm.trans q3
  have hselP : selectMethod e.platform s.vm cellB.cls mk = .method mk := by rw [Launch.admits_selectMethod X.admits]; exact q4
  obtain ⟨vm₁, X₁, hstep₁⟩ := X.invokevirtual hexec hown hlink hnamed hmethM hstM hkP hkPi hy (a := b) (cell := cellB) hcell
    (fun z h => by rw [h] at hobj; cases hobj) hselP hmethM habM hkP hkPi (g := g) hg (argsL := argsL) (rest := rest) (hlen _ hsigM) hstack hdg
  obtain ⟨v, B, X', hpost, hsteps⟩ := hK m meth c ⟨T.setVm vm₁, locs, cells, slots⟩ { g with stack := rest } (.invokevirtual index) mk (Value.ref b :: argsL).toArray X₁ hg hsize hdg hW (X₁.named hnamed) (hpre vm₁ X₁.warmed)
  exact ⟨v, vm₁, B, X₁.warmed, X', hpost, fun target h => hstep₁ _ fun acts => by rw [doInvoke_state]; exact hsteps.trans h⟩
abbrev vx_CVW (R : Room) (s : State) (args : Array Value) (own C : String) (index : Nat) (y : MethodName) (bytes : ByteArray) (maxL : Nat) (ret : Option FieldType) (hh : List (Nat × Nat × Nat × Nat)) (ws : List Cond) (rm : Room) (mc ms n : Nat) : Prop :=
  (rm.cells = mc ∧ rm.slots = ms ∧ rm.frames + 1 ≤ R.frames ∧ 8 + (maxL + 11) + rm.locals ≤ R.locals ∧ (∀ w ∈ ws, ∀ (a' : Array Value) (U : State), s.WarmedH U.vm → w.before a' U = true) ∧ Cond.codeWith y bytes maxL ret hh ∈ ws) ∧
  (Cond.codeWith y bytes maxL ret hh).before args s = true ∧ (Cond.initialized y.cls).before args s = true ∧ (y.cls ≠ "java/lang/invoke/MethodHandle" ∧ y.cls ≠ "java/lang/invoke/VarHandle") ∧
  (∀ sig, parseMethodDescriptor y.desc = some sig → n = sig.parameters.length) ∧ (Cond.methodLink own index y).before args s = true ∧ (Cond.instanceMethod y).before args s = true ∧ (Cond.selects C y y).before args s = true
theorem vx_cwVW {own C : String} {index maxL mc ms : Nat} {y : MethodName} {bytes : ByteArray} {ret : Option FieldType} {hh : List (Nat × Nat × Nat × Nat)} {Ts ws ws' : List Cond} {rm : Room} (n : Nat) (ht : ∀ w ∈ Ts, w.before args s = true) (hT : GoodIn Ts (wsV own index C y ws)) (hw : ws = Cond.codeWith y bytes maxL ret hh :: ws') (hrc : rm.cells = mc) (hrs : rm.slots = ms)
    (hd : y.cls = C ∧ y.cls ≠ "java/lang/invoke/MethodHandle" ∧ y.cls ≠ "java/lang/invoke/VarHandle" ∧ (parseMethodDescriptor y.desc).map (fun d => d.parameters.length) = some n) (hR : rm.frames + 1 ≤ R.frames ∧ 8 + (maxL + 11) + rm.locals ≤ R.locals) :
    vx_CVW R s args own C index y bytes maxL ret hh ws rm mc ms n := by
  obtain ⟨hC, hd⟩ := hd
  subst hC
  have ok : ∀ w ∈ wsV own index y.cls y ws, w.before args s = true := fun w h => ht w (hT w h).1
  have hG : GoodIn Ts ws := fun w h => hT w (by unfold wsV; exact List.mem_append_right _ h)
  have hc : Cond.codeWith y bytes maxL ret hh ∈ ws := by rw [hw]; exact List.mem_cons_self
  refine ⟨⟨hrc, hrs, hR.1, hR.2, pay_in ht hG, hc⟩, ht _ (hG _ hc).1, ok _ (by simp [wsV]), ⟨hd.1, hd.2.1⟩, fun sig h => ?_, ok _ (by simp [wsV]), ok _ (by simp [wsV]), ok _ (by simp [wsV])⟩
  have h2 := hd.2.2
  rw [h] at h2
  exact (Option.some.inj h2).symm
theorem vx_runVW {y : MethodName} {bytes cc : ByteArray} {maxL nL mc ms n index : Nat} {ret : Option FieldType} {hh : List (Nat × Nat × Nat × Nat)} {ws : List Cond} {rm : Room} {Pc : Array Value → State → Prop} {Qc : Array Value → State → Outcome → State → Prop} {free : Addr → Prop} {Ts : List Cond} {own C : String} {b : Addr} {As rest : List Value} {g : JFrame}
    (S : CallFix p m c cc nL s args Ts own) (hM : Met l y ws rm Pc Qc mc ms free) (cw : vx_CVW R s args own C index y bytes maxL ret hh ws rm mc ms n) (hp : PreV s H C b Pc As)
    (hg : g.method = m) (hn : As.length = n) (hsize : g.locals.size = nL) (hstack : g.stack = As.reverse ++ .ref b :: rest) (hW : 2 * g.monitorRoom + (rest.map fun v => v.category).sum ≤ 8) (hdg : decode cc g.pc = .ok (.invokevirtual index, 3)) (hf : cells + mc ≤ R.cells ∧ slots + ms ≤ R.slots) :
    va_Run p l e R s m args below meth c H locs cells slots mc ms g rest (Qc (Value.ref b :: As).toArray) free := by
  obtain ⟨⟨hrc, hrs, hfr, hlo, hws, hcw⟩, hcode, hini, hy, hlen, hl, hin, hse⟩ := cw
  have hK : Back l R p e below s args y 3 8 (PreOf R mc ms Pc) (PostOf Qc mc ms free) := va_backW (hh := hh) (bytes := bytes) (maxL := maxL) (ret := ret) hM hp.1 hrc hrs hfr hlo hws hcw (fun a' U hW => word_at hW (Or.inl (by first | rfl | simp [Cond.onTables, Cond.keeps, Cond.steady])) hini)
  obtain ⟨hx, hb, hml, ho, -⟩ := S
  obtain ⟨-, ⟨cellB, hcB, hoB, hclB⟩, hPc⟩ := hp
  intro T hT X
  obtain ⟨v, vm₁, ⟨U', l2, c2, s2⟩, hW₁, X', ⟨g', mk, t, L, e1, e2, hq, h1, hL, h2, h3⟩, st⟩ := vx_callVW X hx (C := C) (hh := hh) (bytes := bytes) (maxL := maxL) (ret := ret) ho hl hin hse hcode hy hK (by rw [hT]; exact hcB) hoB hclB hg (hsize.trans hml.symm) (argsL := As) (rest := rest) (fun sig h => hn.trans (hlen sig h)) hstack hW (by rw [hb]; exact hdg)
    (fun vm₁ hW₁ => ⟨hf.1, hf.2, hPc (T.setVm vm₁) hT hW₁⟩)
  dsimp only [Pt.U, Pt.locs, Pt.cells, Pt.slots] at X' e1 e2 h1 h2 h3 st
  subst h1; subst h2; subst h3
  exact ⟨v, (T.setVm vm₁).calling g' mk (Value.ref b :: As).toArray, t, U', L, hT, X', hL, e1, e2, hq, st⟩
section
variable {y : MethodName} {bytes cc : ByteArray} {maxL nL mc ms n index : Nat} {ret : Option FieldType} {ws : List Cond} {rm : Room} {Pc : Array Value → State → Prop} {Qc : Array Value → State → Outcome → State → Prop} {XC : String → State → State → Prop} {free : Addr → Prop} {Ts : List Cond} {own C : String} {b : Addr} {As rest : List Value} {g : JFrame}
theorem vx_runVX {hh : List (Nat × Nat × Nat × Nat)} (S : CallFix p m c cc nL s args Ts own) (hM : vx_Met l y ws rm Pc Qc XC mc ms free) (cw : vx_CVW R s args own C index y bytes maxL ret hh ws rm mc ms n) (hp : PreV s H C b Pc As)
    (hg : g.method = m) (hn : As.length = n) (hsize : g.locals.size = nL) (hstack : g.stack = As.reverse ++ .ref b :: rest) (hW : 2 * g.monitorRoom + (rest.map fun v => v.category).sum ≤ 8) (hdg : decode cc g.pc = .ok (.invokevirtual index, 3)) (hf : cells + mc ≤ R.cells ∧ slots + ms ≤ R.slots) :
    vx_Run p l e R s m args below meth c H locs cells slots mc ms g rest (Qc (Value.ref b :: As).toArray) XC free := by
  obtain ⟨⟨hrc, hrs, hfr, hlo, hws, hcw⟩, hcode, hini, hy, hlen, hl, hin, hse⟩ := cw
  have hK : vx_Back l R p e below s args y 3 8 (PreOf R mc ms Pc) (PostOf Qc mc ms free) (vx_Post XC mc ms free) := vx_backW (hh := hh) (bytes := bytes) (maxL := maxL) (ret := ret) hM hp.1 hrc hrs hfr hlo hws hcw (fun a' U hW => word_at hW (Or.inl (by first | rfl | simp [Cond.onTables, Cond.keeps, Cond.steady])) hini)
  obtain ⟨hx, hb, hml, ho, -⟩ := S
  obtain ⟨-, ⟨cellB, hcB, hoB, hclB⟩, hPc⟩ := hp
  intro T hT X
  rcases vx_callVX X hx (C := C) (hh := hh) (bytes := bytes) (maxL := maxL) (ret := ret) ho hl hin hse hcode hy hK (by rw [hT]; exact hcB) hoB hclB hg (hsize.trans hml.symm) (argsL := As) (rest := rest) (fun sig h => hn.trans (hlen sig h)) hstack hW (by rw [hb]; exact hdg)
    (fun vm₁ hW₁ => ⟨hf.1, hf.2, hPc (T.setVm vm₁) hT hW₁⟩) with ⟨v, vm₁, ⟨U', l2, c2, s2⟩, hW₁, X', ⟨g', mk, t, L, e1, e2, hq, h1, hL, h2, h3⟩, st⟩ | ⟨q, vm₁, ⟨U', l2, c2, s2⟩, hW₁, X', ⟨g', mk, t, L, E, ce, e1, e2, hq, hce, hcv, hcl, h1, hL, h2, h3⟩, st⟩
  · dsimp only [Pt.U, Pt.locs, Pt.cells, Pt.slots] at X' e1 e2 h1 h2 h3 st
    subst h1; subst h2; subst h3
    exact Or.inl ⟨v, (T.setVm vm₁).calling g' mk (Value.ref b :: As).toArray, t, U', L, hT, X', hL, e1, e2, hq, st⟩
  · dsimp only [Pt.U, Pt.locs, Pt.cells, Pt.slots] at X' e1 e2 h1 h2 h3 st hcl
    subst h1; subst h2; subst h3
    exact Or.inr ⟨q, (T.setVm vm₁).calling g' mk (Value.ref b :: As).toArray, t, U', L, E, ce, hT, X', hL, e1, e2, hq, hce, hcv, vx_cls hW₁ hcl, st⟩
theorem vx_runSX {hh : List (Nat × Nat × Nat × Nat)} (S : CallFix p m c cc nL s args Ts own) (hM : vx_Met l y ws rm Pc Qc XC mc ms free) (cw : vx_CSW R s args own index y bytes maxL ret hh ws rm mc ms n) (hp : PreS s H Pc As)
    (hg : g.method = m) (hn : As.length = n) (hsize : g.locals.size = nL) (hstack : g.stack = As.reverse ++ rest) (hW : 2 * g.monitorRoom + (rest.map fun v => v.category).sum ≤ 8) (hdg : decode cc g.pc = .ok (.invokestatic index, 3)) (hf : cells + mc ≤ R.cells ∧ slots + ms ≤ R.slots) :
    vx_Run p l e R s m args below meth c H locs cells slots mc ms g rest (Qc As.toArray) XC free := by
  obtain ⟨⟨hrc, hrs, hfr, hlo, hws, hcw⟩, hcode, hini, hy, hlen, hl, hstt⟩ := cw
  have hK : vx_Back l R p e below s args y 3 8 (PreOf R mc ms Pc) (PostOf Qc mc ms free) (vx_Post XC mc ms free) := vx_backW (hh := hh) (bytes := bytes) (maxL := maxL) (ret := ret) hM hp.1 hrc hrs hfr hlo hws hcw (fun a' U hW => word_at hW (Or.inl (by first | rfl | simp [Cond.onTables, Cond.keeps, Cond.steady])) hini)
  obtain ⟨hx, hb, hml, ho, -⟩ := S
  intro T hT X
  rcases vx_callSX X hx (hh := hh) (bytes := bytes) (maxL := maxL) (ret := ret) ho hl hstt hini hcode hy hK hg (hsize.trans hml.symm) (argsL := As) (rest := rest) (fun sig h => hn.trans (hlen sig h)) hstack hW (by rw [hb]; exact hdg)
    (fun vm₁ hW₁ => ⟨hf.1, hf.2, hp.2 (T.setVm vm₁) hT hW₁⟩) with ⟨v, vm₁, ⟨U', l2, c2, s2⟩, hW₁, X', ⟨g', mk, t, L, e1, e2, hq, h1, hL, h2, h3⟩, st⟩ | ⟨q, vm₁, ⟨U', l2, c2, s2⟩, hW₁, X', ⟨g', mk, t, L, E, ce, e1, e2, hq, hce, hcv, hcl, h1, hL, h2, h3⟩, st⟩
  · dsimp only [Pt.U, Pt.locs, Pt.cells, Pt.slots] at X' e1 e2 h1 h2 h3 st
    subst h1; subst h2; subst h3
    exact Or.inl ⟨v, (T.setVm vm₁).calling g' mk As.toArray, t, U', L, hT, X', hL, e1, e2, hq, st⟩
  · dsimp only [Pt.U, Pt.locs, Pt.cells, Pt.slots] at X' e1 e2 h1 h2 h3 st hcl
    subst h1; subst h2; subst h3
    exact Or.inr ⟨q, (T.setVm vm₁).calling g' mk As.toArray, t, U', L, E, ce, hT, X', hL, e1, e2, hq, hce, hcv, vx_cls hW₁ hcl, st⟩
end
end VXH
theorem vx_ofWH {l : Launch} {y : MethodName} {ws ws' : List Cond} {rm : Room} {Pc : Array Value → State → Prop} {Qc : Array Value → State → Outcome → State → Prop} {XC : String → State → State → Prop} {mc ms : Nat} {free : Addr → Prop} {cc : ByteArray} {maxL : Nat} {ret : Option FieldType} {hh : List (Nat × Nat × Nat × Nat)}
    (hy : plainName y.cls = true) (hw : ws = Cond.codeWith y cc maxL ret hh :: ws')
    (body : ∀ p e s m args below meth c s₁, BodyLoose p l y (headSpec ws rm) cc maxL ret e s m args below meth c s₁ → c.maxLocals = maxL → Pc args s →
      W p l e (headSpec ws rm).room s m args below meth c s.heap [] 0 0 (vx_MQ below Qc XC args s mc ms free) (entryFrame m args maxL)) : vx_Met l y ws rm Pc Qc XC mc ms free := by
  refine MetFree.of_bodyS (code := cc) (maxLocals := maxL) (ret := ret) hy ?_ ?_
  · intro args s m h hn
    obtain ⟨m9, meth, c, hn9, h1, h2, h3, h4, -, h5, h6, -⟩ := Cond.codeWith_spec (atoms_spec (ws := ws) h _ (by rw [hw]; exact List.mem_cons_self))
    cases hn.symm.trans hn9
    exact ⟨meth, c, h1, h2, h3, h4, h5, h6⟩
  · intro p e s m args below meth c s₁ B hml hP _
    have hh0 : s₁.heap = s.heap := by rw [B.state]; rfl
    obtain ⟨t, a1, o, b1, b2, b3⟩ := body p e s m args below meth c s₁ B hml hP s₁ hh0 (Stand.of_body B)
    exact ⟨t, o, a1, b1, b2, b3⟩
/-! ===== END ===== -/

/-! ===== BEGIN printed: names, fields, word lists, decode rows ===== -/
end
section
/-! names of classes, methods; their words -/
/-- a word that stays true in every callee -/
def am_gw (w : Cond) : Bool := match w with
  | .arrayClass _ => true
  | w => w.onTables && w.keepsFace
def am_tbl : List Cond := lw_tbl.filter am_gw
theorem am_in {w : Cond} (i : Nat) (h : tables_1[i]? = some w) (hg : am_gw w = true) : w ∈ am_tbl := List.mem_filter.mpr ⟨List.mem_append_right _ (List.mem_of_getElem? h), hg⟩
theorem am_inS {w : Cond} (i : Nat) (h : (k2_sels lw_privs)[i]? = some w) (hg : am_gw w = true) : w ∈ am_tbl := List.mem_filter.mpr ⟨List.mem_append_left _ (List.mem_of_getElem? h), hg⟩
theorem am_word {args a2 : Array Value} {s U : State} (hW : s.WarmedH U.vm) {c : Cond} (hc : am_gw c = true) (h : c.before args s = true) : c.before a2 U = true := by
  by_cases ha : ∃ ty, c = .arrayClass ty
  · exact word_at hW (Or.inr ha) h
  · have hg : (c.onTables && c.keepsFace) = true := by
      cases c <;> first | exact hc | exact absurd ⟨_, rfl⟩ ha
    rw [Bool.and_eq_true] at hg
    have h1 : c.before args (s.setVm U.vm) = true := Cond.before_shiftedFace (State.Shifted.of_warmed hW) _ hg.2 h
    rw [Cond.onTables_vm (A' := a2) (U' := U) U.vm c hg.1, State.setVm_self] at h1
    exact h1
def am_RS : String := "StrideViews$Store"
def am_TS : u_T := fun k => match k with
  | 0 => ("StrideViews$Store", "number", "I", true)
  | 1 => ("StrideViews$Store", "lane", "I", true)
  | 2 => ("StrideViews$Store", "row", "[J", true)
  | _ => ("StrideViews$Store", "viewsOfIt", "I", false)
def am_tS : Nat → FieldType := fun k => match k with
  | 0 => .int
  | 1 => .int
  | 2 => (.array .long)
  | _ => .int
def am_RV : String := "StrideViews$View"
def am_TV : u_T := fun k => match k with
  | 0 => ("StrideViews$View", "store", "LStrideViews$Store;", true)
  | 1 => ("StrideViews$View", "start", "I", false)
  | 2 => ("StrideViews$View", "axes", "I", false)
  | 3 => ("StrideViews$View", "items", "I", false)
  | 4 => ("StrideViews$View", "extents", "[I", true)
  | _ => ("StrideViews$View", "steps", "[I", true)
def am_tV : Nat → FieldType := fun k => match k with
  | 0 => (.object "StrideViews$Store")
  | 1 => .int
  | 2 => .int
  | 3 => .int
  | 4 => (.array .int)
  | _ => (.array .int)
def am_RX : String := "StrideViews"
def am_TX : u_T := fun k => match k with
  | 0 => ("StrideViews", "stores", "[LStrideViews$Store;", true)
  | 1 => ("StrideViews", "views", "[LStrideViews$View;", true)
  | 2 => ("StrideViews", "storesMade", "I", false)
  | 3 => ("StrideViews", "viewsMade", "I", false)
  | 4 => ("StrideViews", "places", "[I", true)
  | 5 => ("StrideViews", "numbers", "[J", true)
  | _ => ("StrideViews", "marks", "[Z", true)
def am_tX : Nat → FieldType := fun k => match k with
  | 0 => (.array (.object "StrideViews$Store"))
  | 1 => (.array (.object "StrideViews$View"))
  | 2 => .int
  | 3 => .int
  | 4 => (.array .int)
  | 5 => (.array .long)
  | _ => (.array .boolean)
def am_RM : String := "StrideViewsModel"
def am_TM : u_T := fun k => match k with
  | 0 => ("StrideViewsModel", "thrown", "I", false)
  | 1 => ("StrideViewsModel", "stores", "I", false)
  | 2 => ("StrideViewsModel", "lanes", "[I", true)
  | 3 => ("StrideViewsModel", "sizes", "[I", true)
  | 4 => ("StrideViewsModel", "numbers", "[J", true)
  | 5 => ("StrideViewsModel", "views", "I", false)
  | 6 => ("StrideViewsModel", "storeOf", "[I", true)
  | 7 => ("StrideViewsModel", "starts", "[I", true)
  | 8 => ("StrideViewsModel", "axes", "[I", true)
  | 9 => ("StrideViewsModel", "extents", "[I", true)
  | 10 => ("StrideViewsModel", "steps", "[I", true)
  | 11 => ("StrideViewsModel", "newExtents", "[J", true)
  | 12 => ("StrideViewsModel", "newSteps", "[J", true)
  | 13 => ("StrideViewsModel", "newAxes", "I", false)
  | 14 => ("StrideViewsModel", "read", "[J", true)
  | _ => ("StrideViewsModel", "met", "[Z", true)
def am_tM : Nat → FieldType := fun k => match k with
  | 0 => .int
  | 1 => .int
  | 2 => (.array .int)
  | 3 => (.array .int)
  | 4 => (.array .long)
  | 5 => .int
  | 6 => (.array .int)
  | 7 => (.array .int)
  | 8 => (.array .int)
  | 9 => (.array .int)
  | 10 => (.array .int)
  | 11 => (.array .long)
  | 12 => (.array .long)
  | 13 => .int
  | 14 => (.array .long)
  | _ => (.array .boolean)
def am_T0 : u_T := fun _ => ("", "", "", false)
/-- the classes whose objects are cells: stores, views, the class, the reference, three exceptions -/
def am_cl : List vw_C := [("StrideViews$Store", am_TS, 4), ("StrideViews$View", am_TV, 6), ("StrideViews", am_TX, 7), ("StrideViewsModel", am_TM, 16), ("java/lang/IndexOutOfBoundsException", am_T0, 0), ("java/lang/IllegalArgumentException", am_T0, 0), ("java/lang/IllegalStateException", am_T0, 0)]
/-- the kinds of arrays -/
def am_tyl : List FieldType := [.int, .long, .boolean, .object "StrideViews$Store", .object "StrideViews$View"]
def am_ncl : List (String × String) := [("java/lang/IndexOutOfBoundsException", "java/lang/IllegalArgumentException"), ("java/lang/IndexOutOfBoundsException", "java/lang/IllegalStateException"), ("java/lang/IllegalArgumentException", "java/lang/IndexOutOfBoundsException"), ("java/lang/IllegalArgumentException", "java/lang/IllegalStateException"), ("java/lang/IllegalStateException", "java/lang/IndexOutOfBoundsException"), ("java/lang/IllegalStateException", "java/lang/IllegalArgumentException")]
def am_strs : List (String × Nat × String) := [("StrideViews", 250, "no such lane"), ("StrideViews", 46, "a store has 0 to 300 numbers"), ("StrideViews", 265, "too many stores or views"), ("StrideViews", 267, "too many views or items"), ("StrideViews", 244, "no such view"), ("StrideViews", 246, "no such axis"), ("StrideViews", 252, "an extent below 0, or a step of 0"), ("StrideViews", 254, "an index outside the axis"), ("StrideViews", 98, "no such index along the axis"), ("StrideViews", 107, "no such place for an axis"), ("StrideViews", 109, "an extent below 0"), ("StrideViews", 113, "the view has four axes"), ("StrideViews", 116, "the two axes are one"), ("StrideViews", 127, "an extent below NONE"), ("StrideViews", 142, "the extents make another number of items"), ("StrideViews", 156, "there are no such steps"), ("StrideViews", 263, "more than 300 items"), ("StrideViews", 248, "no such item"), ("StrideViews", 261, "the view is fixed"), ("StrideViews", 259, "a view does not go to the other one"), ("StrideViews", 193, "no such act"), ("StrideViews", 199, "no such act for a fold"), ("StrideViews", 228, "nothing of a view has this number"), ("StrideViews", 230, "nothing of an axis has this number"), ("StrideViews", 232, "no such store"), ("StrideViews", 240, "nothing of a store has this number"), ("StrideViews", 242, "nothing that is counted has this number")]
def am_aos : List String := ["StrideViews$Store", "StrideViews$View"]
theorem am_iS : ∀ w ∈ u_ws "StrideViews$Store" am_TS 4, w ∈ am_tbl := by decide +kernel
theorem am_nS : ∀ a, a < 4 → ∀ b, b < 4 → a ≠ b → (am_TS a).2.1 ≠ (am_TS b).2.1 := by decide +kernel
theorem am_qS : ∀ k, k < 4 → parseFieldDescriptor (am_TS k).2.2.1 = some (am_tS k) := by decide +kernel
theorem am_iV : ∀ w ∈ u_ws "StrideViews$View" am_TV 6, w ∈ am_tbl := by decide +kernel
theorem am_nV : ∀ a, a < 6 → ∀ b, b < 6 → a ≠ b → (am_TV a).2.1 ≠ (am_TV b).2.1 := by decide +kernel
theorem am_qV : ∀ k, k < 6 → parseFieldDescriptor (am_TV k).2.2.1 = some (am_tV k) := by decide +kernel
theorem am_iX : ∀ w ∈ u_ws "StrideViews" am_TX 7, w ∈ am_tbl := by decide +kernel
theorem am_nX : ∀ a, a < 7 → ∀ b, b < 7 → a ≠ b → (am_TX a).2.1 ≠ (am_TX b).2.1 := by decide +kernel
theorem am_qX : ∀ k, k < 7 → parseFieldDescriptor (am_TX k).2.2.1 = some (am_tX k) := by decide +kernel
theorem am_iM : ∀ w ∈ u_ws "StrideViewsModel" am_TM 16, w ∈ am_tbl := by decide +kernel
theorem am_nM : ∀ a, a < 16 → ∀ b, b < 16 → a ≠ b → (am_TM a).2.1 ≠ (am_TM b).2.1 := by decide +kernel
theorem am_qM : ∀ k, k < 16 → parseFieldDescriptor (am_TM k).2.2.1 = some (am_tM k) := by decide +kernel
end
section
/-! the abstract machine: the heap's own cells as a map; am_W: from this frame, with these cells, it ends with P -/
abbrev am_M : Type := Nat → Option va_E
/-- the cells, how many cells the heap has, the slots used -/
abbrev am_S : Type := am_M × Nat × Nat
abbrev am_F : Type := Nat × List (Option Value) × List Value
/-- returned, or threw -/
abbrev am_O : Type := Option Value ⊕ Nat
/-- a method: name, bytes, locals, what it returns, handlers -/
abbrev am_I : Type := MethodName × ByteArray × Nat × Option FieldType × List (Nat × Nat × Nat × Nat)
/-- D, the classes of arrays, the first own cell, the cells' and slots' ends, the script -/
abbrev am_G : Type := va_G × (Nat → ClassId) × Nat × Nat × Nat × Nat × Nat × (Nat → Int32)
abbrev am_A (g : am_G) : Nat → Prop := fun q : Nat => g.2.2.1 ≤ q
def am_tr (K : Nat → ClassId) (e : va_E) : va_E := match e with
  | .inl x => .inl (K x.1, x.2)
  | .inr o => .inr o
def am_tys (g : am_G) : List (ClassId × FieldType) := am_tyl.zipIdx.map (fun q => (g.2.1 q.2, q.1))
theorem am_tys_at {g : am_G} {t : Nat} {ty : FieldType} (h : am_tyl[t]? = some ty) : (am_tys g)[t]? = some (g.2.1 t, ty) := by
  simp [am_tys, List.getElem?_map, List.getElem?_zipIdx, h]
def am_up (M : am_M) (a : Nat) (e : va_E) : am_M := fun q => if q = a then some e else M q
theorem am_up_s {M : am_M} {a : Nat} {e : va_E} : am_up M a e a = some e := by simp [am_up]
theorem am_up_n {M : am_M} {a b : Nat} {e : va_E} (h : b ≠ a) : am_up M a e b = M b := by simp [am_up, h]
/-- what is known of the launch and of cells that nobody writes -/
def am_St (g : am_G) (l : Launch) (s : State) : Prop :=
  l.stackTraces = false ∧ vx_Zq Bundle.tN "UNASSIGNED_STACK" Bundle.steD (am_A g) s s.heap ∧ vx_Zq Bundle.tN "SUPPRESSED_SENTINEL" Bundle.listD (am_A g) s s.heap ∧ (∀ q ∈ am_ncl, va_Nc q.1 q.2 s) ∧ (∀ q ∈ am_strs, ∃ a : Nat, vk_R q.1 q.2.1 q.2.2 a s) ∧ ∀ C ∈ am_aos, va_AO C s
/-- what is known of the frame -/
def am_Fx (g : am_G) (d : Nat) (y : am_I) (p : Program) (l : Launch) (R : Room) (s : State) (m : MethodId) (args : Array Value) (meth : Method) (c : Code) : Prop :=
  p.tables.exec = Jvm.exec ∧ c.code = y.2.1 ∧ c.maxLocals = y.2.2.1 ∧ meth.sig.returnType = y.2.2.2.1 ∧ meth.name = y.1.name ∧ s.vm.findClass y.1.cls = some m.cls ∧ (∀ w ∈ am_tbl, w.before args s = true) ∧ meth.locks = false ∧
  c.exceptionTable.toList.map (fun h => (h.startPc, h.endPc, h.handlerPc, h.catchType)) = y.2.2.2.2 ∧ va_K g.1 am_cl (am_tys g) s ∧ d + 6 ≤ R.frames ∧ 60 * d + 100 ≤ R.locals ∧ am_St g l s
/-- the heap holds the cells -/
def am_Hp (g : am_G) (S : am_S) (R : Room) (s : State) (H : Heap) (locs : List Loc) (cells slots : Nat) : Prop :=
  (∀ (a : Nat) (e : va_E), S.1 a = some e → g.2.2.1 ≤ a ∧ va_at g.1 am_cl (a, am_tr g.2.1 e) H) ∧ (∀ q : Nat, g.2.2.1 ≤ q → q < S.2.1 → ∃ e, S.1 q = some e) ∧ H.size = S.2.1 ∧ va_S (am_A g) s.heap H locs ∧
  (∀ (q : Nat) (cell : Cell), g.2.2.1 ≤ q → s.heap[q]? = some cell → cell.vm.isStatics = false) ∧ S.2.1 + R.cells = g.2.2.2.1 + cells ∧ cells ≤ R.cells ∧ S.2.2 + R.slots = g.2.2.2.2.1 + slots ∧ slots ≤ R.slots ∧ g.2.2.1 ≤ s.heap.size ∧
  va_X g.2.2.2.2.2.1 g.2.2.2.2.2.2.1 g.2.2.2.2.2.2.2 s s.heap ∧ g.2.2.2.2.2.1 < g.2.2.1
/-- the frame holds the locals -/
def am_Ls (n : Nat) (ls : Array Slot) (L : List (Option Value)) : Prop := lv_has ls n [] ∧ ∀ (i : Nat) (v : Value), L[i]? = some (some v) → ls[i]? = some (.val v)
def am_out (o : am_O) : Outcome := match o with
  | .inl v => .returned v
  | .inr a => .threw a
/-- the end -/
def am_Q (g : am_G) (R : Room) (s : State) (below : List Frame) (P : am_O → am_S → Prop) (t : State) : Prop :=
  ∃ (o : am_O) (S : am_S) (L : List Loc) (k j : Nat), P o S ∧ t.status = .running ∧ Ended t below (am_out o) ∧ s.WarmedH t.vm ∧ s.sameButNew ({ t with vm := s.vm } : State) L k j ∧ am_Hp g S R s t.heap L k j
def am_W (g : am_G) (d : Nat) (y : am_I) (F : am_F) (S : am_S) (P : am_O → am_S → Prop) : Prop :=
  ∀ (p : Program) (l : Launch) (e : Env) (R : Room) (s : State) (m : MethodId) (args : Array Value) (below : List Frame) (meth : Method) (c : Code) (H : Heap) (locs : List Loc) (cells slots : Nat) (ls : Array Slot),
    am_Fx g d y p l R s m args meth c → am_Hp g S R s H locs cells slots → am_Ls y.2.2.1 ls F.2.1 → W p l e R s m args below meth c H locs cells slots (am_Q g R s below P) (F0 m F.1 ls F.2.2)
theorem am_mono {g : am_G} {d : Nat} {y : am_I} {F : am_F} {S : am_S} {P P' : am_O → am_S → Prop} (h : ∀ o S', P o S' → P' o S') (k : am_W g d y F S P) : am_W g d y F S P' := by
  intro p l e R s m args below meth c H locs cells slots ls hF hH hL T hT X
  obtain ⟨t, a, o, S', L, k1, j1, b1, b2⟩ := k p l e R s m args below meth c H locs cells slots ls hF hH hL T hT X
  exact ⟨t, a, o, S', L, k1, j1, h o S' b1, b2⟩
/-- the map changes at one cell -/
theorem am_Hp.put {g : am_G} {S : am_S} {R : Room} {s : State} {H H1 : Heap} {locs : List Loc} {cells slots a i : Nat} {e0 e1 : va_E} (h : am_Hp g S R s H locs cells slots) (h0 : S.1 a = some e0) (he : va_at g.1 am_cl (a, am_tr g.2.1 e1) H1) (z : H1.size = H.size) (oq : ∀ q : Nat, q ≠ a → H1[q]? = H[q]?) :
    am_Hp g (am_up S.1 a e1, S.2) R s H1 (locs ++ [⟨a, i⟩]) cells slots := by
  obtain ⟨h1, h2, h3, h4, h5⟩ := h
  refine ⟨fun b e hb => ?_, fun q q1 q2 => ?_, z.trans h3, h4.put z oq (h1 a e0 h0).1, h5⟩
  · by_cases hba : b = a
    · subst hba
      have hb : am_up S.1 b e1 b = some e := hb
      rw [am_up_s] at hb
      cases hb
      exact ⟨(h1 b e0 h0).1, he⟩
    · have hb : am_up S.1 a e1 b = some e := hb
      rw [am_up_n hba] at hb
      exact ⟨(h1 b e hb).1, (h1 b e hb).2.kept (oq b hba)⟩
  · by_cases hqa : q = a
    · exact ⟨e1, by rw [hqa]; exact am_up_s⟩
    · obtain ⟨e, he⟩ := h2 q q1 q2
      exact ⟨e, (am_up_n hqa).trans he⟩
/-- a cell comes -/
theorem am_Hp.new {g : am_G} {S : am_S} {R : Room} {s : State} {H H1 : Heap} {locs : List Loc} {cells slots N : Nat} {e1 : va_E} (h : am_Hp g S R s H locs cells slots) (he : va_at g.1 am_cl (S.2.1, am_tr g.2.1 e1) H1) (z : H1.size = H.size + 1) (oq : ∀ q : Nat, q < H.size → H1[q]? = H[q]?) (hc : S.2.1 + 1 ≤ g.2.2.2.1) (hz : S.2.2 + N ≤ g.2.2.2.2.1) :
    am_Hp g (am_up S.1 S.2.1 e1, S.2.1 + 1, S.2.2 + N) R s H1 locs (cells + 1) (slots + N) := by
  obtain ⟨h1, h2, h3, h4, h5, h6, h7, h8, h9, h10, h11⟩ := h
  have hb : g.2.2.1 ≤ H.size := Nat.le_trans h10 h4.1
  refine ⟨fun b e hbe => ?_, fun q q1 q2 => ?_, by rw [z, h3], ⟨Nat.le_trans h4.1 (by omega), fun q q1 q2 => (oq q (Nat.lt_of_lt_of_le q1 h4.1)).trans (h4.2.1 q q1 q2), h4.2.2⟩, h5, by show S.2.1 + 1 + R.cells = g.2.2.2.1 + (cells + 1); omega, by omega, by show S.2.2 + N + R.slots = g.2.2.2.2.1 + (slots + N); omega, by omega, h10, h11⟩
  · have hbe : am_up S.1 S.2.1 e1 b = some e := hbe
    by_cases hba : b = S.2.1
    · subst hba
      rw [am_up_s] at hbe
      cases hbe
      exact ⟨by rw [← h3]; exact hb, he⟩
    · rw [am_up_n hba] at hbe
      exact ⟨(h1 b e hbe).1, (h1 b e hbe).2.kept (oq b ((h1 b e hbe).2.lt))⟩
  · have q2 : q < S.2.1 + 1 := q2
    by_cases hqa : q = S.2.1
    · exact ⟨e1, by rw [hqa]; exact am_up_s⟩
    · obtain ⟨e, he⟩ := h2 q q1 (by omega)
      exact ⟨e, (am_up_n hqa).trans he⟩
theorem am_Hp.one {g : am_G} {S : am_S} {R : Room} {s : State} {H : Heap} {locs : List Loc} {cells slots a : Nat} {e0 : va_E} (h : am_Hp g S R s H locs cells slots) (h0 : S.1 a = some e0) : va_P g.1 am_cl [(a, am_tr g.2.1 e0)] H := by
  intro k q hk
  have hz : k < 1 := (List.getElem?_eq_some_iff.mp hk).1
  rw [show k = 0 by omega] at hk
  cases hk
  exact (h.1 a e0 h0).2
/-- locals -/
def am_gd (L : List (Option Value)) (i : Nat) : Bool := match i with
  | 0 => true
  | j + 1 => match L[j]? with
    | some (some v) => v.category == 1
    | _ => true
def am_ll (L : List (Option Value)) : List (Nat × Value) := L.zipIdx.filterMap (fun q => q.1.map (fun v => (q.2, v)))
theorem am_ll_mem {L : List (Option Value)} {i : Nat} {v : Value} : (i, v) ∈ am_ll L ↔ L[i]? = some (some v) := by
  simp only [am_ll, List.mem_filterMap, Option.map_eq_some_iff, Prod.mk.injEq, Prod.exists, List.mk_mem_zipIdx_iff_getElem?]
  constructor
  · rintro ⟨a, b, h1, w, h2, h3, h4⟩
    subst h2; subst h3; subst h4
    exact h1
  · intro h
    exact ⟨some v, i, h, v, rfl, rfl, rfl⟩
theorem am_Ls.ll {n : Nat} {ls : Array Slot} {L : List (Option Value)} (h : am_Ls n ls L) : lv_has ls n (am_ll L) := ⟨h.1.1, h.1.2.1, fun q hq => h.2 q.1 q.2 (am_ll_mem.mp hq)⟩
theorem am_Ls.of {n : Nat} {ls : Array Slot} {L : List (Option Value)} {l : List (Nat × Value)} (h : lv_has ls n l) (hl : ∀ (i : Nat) (v : Value), L[i]? = some (some v) → (i, v) ∈ l) : am_Ls n ls L := ⟨⟨h.1, h.2.1, fun q hq => absurd hq List.not_mem_nil⟩, fun i v hi => h.2.2 (i, v) (hl i v hi)⟩
theorem am_gd_spec {L : List (Option Value)} {i j : Nat} {v : Value} (h : am_gd L i = true) (hj : L[j]? = some (some v)) (e : j + 1 = i) : v.category = 1 := by
  subst e
  simpa [am_gd, hj] using h
theorem am_st1 {n : Nat} {ls : Array Slot} {L : List (Option Value)} {i : Nat} {v : Value} {ls' : Array Slot} (hg : am_gd L i = true) (h : lv_has ls' n ((i, v) :: (am_ll L).filter (fun q => !(q.1 == i) && !(q.1 + 1 == i && q.2.category == 2)))) : am_Ls n ls' (L.set i (some v)) := by
  refine am_Ls.of h (fun j w hj => ?_)
  by_cases hji : j = i
  · subst hji
    rw [List.getElem?_set_self' ] at hj
    cases hL : L[j]? with
    | none => rw [hL] at hj; cases hj
    | some z => rw [hL] at hj; cases hj; exact List.mem_cons_self
  · rw [List.getElem?_set_ne (Ne.symm hji)] at hj
    refine List.mem_cons_of_mem _ (List.mem_filter.mpr ⟨am_ll_mem.mpr hj, ?_⟩)
    have h1 : ¬ (j + 1 = i ∧ w.category = 2) := fun hq => by
      have := am_gd_spec hg hj hq.1
      omega
    simp [hji]
    omega
theorem am_st2 {n : Nat} {ls : Array Slot} {L : List (Option Value)} {i : Nat} {v : Value} {ls' : Array Slot} (hg : am_gd L i = true) (h : lv_has ls' n ((i, v) :: (am_ll L).filter (fun q => !(q.1 == i) && (!(q.1 == i + 1) && !(q.1 + 1 == i && q.2.category == 2))))) : am_Ls n ls' ((L.set i (some v)).set (i + 1) none) := by
  refine am_Ls.of h (fun j w hj => ?_)
  by_cases hj1 : j = i + 1
  · subst hj1
    rw [List.getElem?_set_self'] at hj
    cases hL : (L.set i (some v))[i + 1]? with
    | none => rw [hL] at hj; cases hj
    | some z => rw [hL] at hj; cases hj
  · rw [List.getElem?_set_ne (Ne.symm hj1)] at hj
    by_cases hji : j = i
    · subst hji
      rw [List.getElem?_set_self'] at hj
      cases hL : L[j]? with
      | none => rw [hL] at hj; cases hj
      | some z => rw [hL] at hj; cases hj; exact List.mem_cons_self
    · rw [List.getElem?_set_ne (Ne.symm hji)] at hj
      refine List.mem_cons_of_mem _ (List.mem_filter.mpr ⟨am_ll_mem.mpr hj, ?_⟩)
      have h1 : ¬ (j + 1 = i ∧ w.category = 2) := fun hq => by
        have := am_gd_spec hg hj hq.1
        omega
      simp [hji, hj1]
      omega
section AmRows
variable {g : am_G} {d : Nat} {y : am_I} {pc : Nat} {L : List (Option Value)} {st : List Value} {S : am_S} {P : am_O → am_S → Prop}

theorem am_iadd {x z : Int32} (hd : decode y.2.1 pc = .ok (.iadd, 1))  (k : am_W g d y (pc + 1, L, .int (x + z) :: st) S P) : am_W g d y (pc, L, .int z :: .int x :: st) S P := by
  intro p l e R s m args below meth c H locs cells slots ls hF hH hL
  exact lv_iadd hF.1 hF.2.1 hd  (k p l e R s m args below meth c H locs cells slots ls hF hH hL)
theorem am_isub {x z : Int32} (hd : decode y.2.1 pc = .ok (.isub, 1))  (k : am_W g d y (pc + 1, L, .int (x - z) :: st) S P) : am_W g d y (pc, L, .int z :: .int x :: st) S P := by
  intro p l e R s m args below meth c H locs cells slots ls hF hH hL
  exact lv_isub hF.1 hF.2.1 hd  (k p l e R s m args below meth c H locs cells slots ls hF hH hL)
theorem am_imul {x z : Int32} (hd : decode y.2.1 pc = .ok (.imul, 1))  (k : am_W g d y (pc + 1, L, .int (x * z) :: st) S P) : am_W g d y (pc, L, .int z :: .int x :: st) S P := by
  intro p l e R s m args below meth c H locs cells slots ls hF hH hL
  exact lv_imul hF.1 hF.2.1 hd  (k p l e R s m args below meth c H locs cells slots ls hF hH hL)
theorem am_iand {x z : Int32} (hd : decode y.2.1 pc = .ok (.iand, 1))  (k : am_W g d y (pc + 1, L, .int (x &&& z) :: st) S P) : am_W g d y (pc, L, .int z :: .int x :: st) S P := by
  intro p l e R s m args below meth c H locs cells slots ls hF hH hL
  exact lv_iand hF.1 hF.2.1 hd  (k p l e R s m args below meth c H locs cells slots ls hF hH hL)
theorem am_ior {x z : Int32} (hd : decode y.2.1 pc = .ok (.ior, 1))  (k : am_W g d y (pc + 1, L, .int (x ||| z) :: st) S P) : am_W g d y (pc, L, .int z :: .int x :: st) S P := by
  intro p l e R s m args below meth c H locs cells slots ls hF hH hL
  exact lv_ior hF.1 hF.2.1 hd  (k p l e R s m args below meth c H locs cells slots ls hF hH hL)
theorem am_ixor {x z : Int32} (hd : decode y.2.1 pc = .ok (.ixor, 1))  (k : am_W g d y (pc + 1, L, .int (x ^^^ z) :: st) S P) : am_W g d y (pc, L, .int z :: .int x :: st) S P := by
  intro p l e R s m args below meth c H locs cells slots ls hF hH hL
  exact lv_ixor hF.1 hF.2.1 hd  (k p l e R s m args below meth c H locs cells slots ls hF hH hL)
theorem am_idiv {x z : Int32} (hd : decode y.2.1 pc = .ok (.idiv, 1)) (hz : ¬ z = 0) (k : am_W g d y (pc + 1, L, .int (x / z) :: st) S P) : am_W g d y (pc, L, .int z :: .int x :: st) S P := by
  intro p l e R s m args below meth c H locs cells slots ls hF hH hL
  exact lv_idiv hF.1 hF.2.1 hd hz (k p l e R s m args below meth c H locs cells slots ls hF hH hL)
theorem am_irem {x z : Int32} (hd : decode y.2.1 pc = .ok (.irem, 1)) (hz : ¬ z = 0) (k : am_W g d y (pc + 1, L, .int (x - x / z * z) :: st) S P) : am_W g d y (pc, L, .int z :: .int x :: st) S P := by
  intro p l e R s m args below meth c H locs cells slots ls hF hH hL
  exact lv_irem hF.1 hF.2.1 hd hz (k p l e R s m args below meth c H locs cells slots ls hF hH hL)
theorem am_ishl {x z : Int32} (hd : decode y.2.1 pc = .ok (.ishl, 1))  (k : am_W g d y (pc + 1, L, .int (x <<< (z &&& 31)) :: st) S P) : am_W g d y (pc, L, .int z :: .int x :: st) S P := by
  intro p l e R s m args below meth c H locs cells slots ls hF hH hL
  exact lv_ishl hF.1 hF.2.1 hd  (k p l e R s m args below meth c H locs cells slots ls hF hH hL)
theorem am_ishr {x z : Int32} (hd : decode y.2.1 pc = .ok (.ishr, 1))  (k : am_W g d y (pc + 1, L, .int (x >>> (z &&& 31)) :: st) S P) : am_W g d y (pc, L, .int z :: .int x :: st) S P := by
  intro p l e R s m args below meth c H locs cells slots ls hF hH hL
  exact lv_ishr hF.1 hF.2.1 hd  (k p l e R s m args below meth c H locs cells slots ls hF hH hL)
theorem am_ineg {x : Int32} (hd : decode y.2.1 pc = .ok (.ineg, 1))  (k : am_W g d y (pc + 1, L, .int (-x) :: st) S P) : am_W g d y (pc, L, .int x :: st) S P := by
  intro p l e R s m args below meth c H locs cells slots ls hF hH hL
  exact lv_ineg hF.1 hF.2.1 hd (k p l e R s m args below meth c H locs cells slots ls hF hH hL)
theorem am_ladd {x z : Int64} (hd : decode y.2.1 pc = .ok (.ladd, 1))  (k : am_W g d y (pc + 1, L, .long (x + z) :: st) S P) : am_W g d y (pc, L, .long z :: .long x :: st) S P := by
  intro p l e R s m args below meth c H locs cells slots ls hF hH hL
  exact lv_ladd hF.1 hF.2.1 hd (k p l e R s m args below meth c H locs cells slots ls hF hH hL)
theorem am_lsub {x z : Int64} (hd : decode y.2.1 pc = .ok (.lsub, 1))  (k : am_W g d y (pc + 1, L, .long (x - z) :: st) S P) : am_W g d y (pc, L, .long z :: .long x :: st) S P := by
  intro p l e R s m args below meth c H locs cells slots ls hF hH hL
  exact lv_lsub hF.1 hF.2.1 hd (k p l e R s m args below meth c H locs cells slots ls hF hH hL)
theorem am_lmul {x z : Int64} (hd : decode y.2.1 pc = .ok (.lmul, 1))  (k : am_W g d y (pc + 1, L, .long (x * z) :: st) S P) : am_W g d y (pc, L, .long z :: .long x :: st) S P := by
  intro p l e R s m args below meth c H locs cells slots ls hF hH hL
  exact lv_lmul hF.1 hF.2.1 hd (k p l e R s m args below meth c H locs cells slots ls hF hH hL)
theorem am_land {x z : Int64} (hd : decode y.2.1 pc = .ok (.land, 1))  (k : am_W g d y (pc + 1, L, .long (x &&& z) :: st) S P) : am_W g d y (pc, L, .long z :: .long x :: st) S P := by
  intro p l e R s m args below meth c H locs cells slots ls hF hH hL
  exact lv_land hF.1 hF.2.1 hd (k p l e R s m args below meth c H locs cells slots ls hF hH hL)
theorem am_lor {x z : Int64} (hd : decode y.2.1 pc = .ok (.lor, 1))  (k : am_W g d y (pc + 1, L, .long (x ||| z) :: st) S P) : am_W g d y (pc, L, .long z :: .long x :: st) S P := by
  intro p l e R s m args below meth c H locs cells slots ls hF hH hL
  exact lv_lor hF.1 hF.2.1 hd (k p l e R s m args below meth c H locs cells slots ls hF hH hL)
theorem am_lxor {x z : Int64} (hd : decode y.2.1 pc = .ok (.lxor, 1))  (k : am_W g d y (pc + 1, L, .long (x ^^^ z) :: st) S P) : am_W g d y (pc, L, .long z :: .long x :: st) S P := by
  intro p l e R s m args below meth c H locs cells slots ls hF hH hL
  exact lv_lxor hF.1 hF.2.1 hd (k p l e R s m args below meth c H locs cells slots ls hF hH hL)
theorem am_lneg {x : Int64} (hd : decode y.2.1 pc = .ok (.lneg, 1))  (k : am_W g d y (pc + 1, L, .long (-x) :: st) S P) : am_W g d y (pc, L, .long x :: st) S P := by
  intro p l e R s m args below meth c H locs cells slots ls hF hH hL
  exact lv_lneg hF.1 hF.2.1 hd (k p l e R s m args below meth c H locs cells slots ls hF hH hL)
theorem am_lshl {x : Int64} {z : Int32} (hd : decode y.2.1 pc = .ok (.lshl, 1))  (k : am_W g d y (pc + 1, L, .long (x <<< (z.toInt64 &&& 63)) :: st) S P) : am_W g d y (pc, L, .int z :: .long x :: st) S P := by
  intro p l e R s m args below meth c H locs cells slots ls hF hH hL
  exact lv_lshl hF.1 hF.2.1 hd rfl (k p l e R s m args below meth c H locs cells slots ls hF hH hL)
theorem am_i2l {x : Int32} (hd : decode y.2.1 pc = .ok (.i2l, 1))  (k : am_W g d y (pc + 1, L, .long (x.toInt64) :: st) S P) : am_W g d y (pc, L, .int x :: st) S P := by
  intro p l e R s m args below meth c H locs cells slots ls hF hH hL
  exact lv_i2l hF.1 hF.2.1 hd rfl (k p l e R s m args below meth c H locs cells slots ls hF hH hL)
theorem am_l2i {x : Int64} (hd : decode y.2.1 pc = .ok (.l2i, 1))  (k : am_W g d y (pc + 1, L, .int (x.toInt32) :: st) S P) : am_W g d y (pc, L, .long x :: st) S P := by
  intro p l e R s m args below meth c H locs cells slots ls hF hH hL
  exact lv_l2i hF.1 hF.2.1 hd rfl (k p l e R s m args below meth c H locs cells slots ls hF hH hL)
theorem am_i2b {x : Int32} (hd : decode y.2.1 pc = .ok (.i2b, 1))  (k : am_W g d y (pc + 1, L, .int (x.toInt8.toInt32) :: st) S P) : am_W g d y (pc, L, .int x :: st) S P := by
  intro p l e R s m args below meth c H locs cells slots ls hF hH hL
  exact lv_i2b hF.1 hF.2.1 hd rfl (k p l e R s m args below meth c H locs cells slots ls hF hH hL)
theorem am_i2s {x : Int32} (hd : decode y.2.1 pc = .ok (.i2s, 1))  (k : am_W g d y (pc + 1, L, .int (x.toInt16.toInt32) :: st) S P) : am_W g d y (pc, L, .int x :: st) S P := by
  intro p l e R s m args below meth c H locs cells slots ls hF hH hL
  exact lv_i2s hF.1 hF.2.1 hd rfl (k p l e R s m args below meth c H locs cells slots ls hF hH hL)
theorem am_iconst {n : Int} (v : Int32) (hd : decode y.2.1 pc = .ok (.iconst n, 1)) (hv : Int32.ofInt n = v) (k : am_W g d y (pc + 1, L, .int v :: st) S P) : am_W g d y (pc, L, st) S P := by
  intro p l e R s m args below meth c H locs cells slots ls hF hH hL
  exact lv_iconst hF.1 hF.2.1 hd hv (k p l e R s m args below meth c H locs cells slots ls hF hH hL)
theorem am_bipush {n : Int} (v : Int32) (hd : decode y.2.1 pc = .ok (.bipush n, 2)) (hv : (Int8.ofInt n).toInt32 = v) (k : am_W g d y (pc + 2, L, .int v :: st) S P) : am_W g d y (pc, L, st) S P := by
  intro p l e R s m args below meth c H locs cells slots ls hF hH hL
  exact lv_bipush hF.1 hF.2.1 hd hv (k p l e R s m args below meth c H locs cells slots ls hF hH hL)
theorem am_sipush {n : Int} (v : Int32) (hd : decode y.2.1 pc = .ok (.sipush n, 3)) (hv : (Int16.ofInt n).toInt32 = v) (k : am_W g d y (pc + 3, L, .int v :: st) S P) : am_W g d y (pc, L, st) S P := by
  intro p l e R s m args below meth c H locs cells slots ls hF hH hL
  exact lv_sipush hF.1 hF.2.1 hd hv (k p l e R s m args below meth c H locs cells slots ls hF hH hL)
theorem am_lconst {n : Fin 2} (v : Int64) (hd : decode y.2.1 pc = .ok (.lconst n, 1)) (hv : Int64.ofNat (n : Nat) = v) (k : am_W g d y (pc + 1, L, .long v :: st) S P) : am_W g d y (pc, L, st) S P := by
  intro p l e R s m args below meth c H locs cells slots ls hF hH hL
  exact lv_lconst hF.1 hF.2.1 hd hv (k p l e R s m args below meth c H locs cells slots ls hF hH hL)
theorem am_ldc {ix : Nat} (v : Int32) (hd : decode y.2.1 pc = .ok (.ldc ix, 2)) (hc : Jvm.Cond.constant y.1.cls ix v ∈ am_tbl) (k : am_W g d y (pc + 2, L, .int v :: st) S P) : am_W g d y (pc, L, st) S P := by
  intro p l e R s m args below meth c H locs cells slots ls hF hH hL
  exact lv_ldc hF.1 hF.2.1 hF.2.2.2.2.2.1 (hF.2.2.2.2.2.2.1 _ hc) hd (k p l e R s m args below meth c H locs cells slots ls hF hH hL)
theorem am_ldcw {ix : Nat} (v : Int32) (hd : decode y.2.1 pc = .ok (.ldc_w ix, 3)) (hc : Jvm.Cond.constant y.1.cls ix v ∈ am_tbl) (k : am_W g d y (pc + 3, L, .int v :: st) S P) : am_W g d y (pc, L, st) S P := by
  intro p l e R s m args below meth c H locs cells slots ls hF hH hL
  exact lv_ldcw hF.1 hF.2.1 hF.2.2.2.2.2.1 (hF.2.2.2.2.2.2.1 _ hc) hd (k p l e R s m args below meth c H locs cells slots ls hF hH hL)
theorem am_ldc2 {ix : Nat} (v : Int64) (hd : decode y.2.1 pc = .ok (.ldc2_w ix, 3)) (hc : Jvm.Cond.constantLong y.1.cls ix v ∈ am_tbl) (k : am_W g d y (pc + 3, L, .long v :: st) S P) : am_W g d y (pc, L, st) S P := by
  intro p l e R s m args below meth c H locs cells slots ls hF hH hL
  exact lv_ldc2 hF.1 hF.2.1 hF.2.2.2.2.2.1 (hF.2.2.2.2.2.2.1 _ hc) hd (k p l e R s m args below meth c H locs cells slots ls hF hH hL)
theorem am_null  (hd : decode y.2.1 pc = .ok (.aconst_null, 1))  (k : am_W g d y (pc + 1, L, .null :: st) S P) : am_W g d y (pc, L, st) S P := by
  intro p l e R s m args below meth c H locs cells slots ls hF hH hL
  exact lv_null hF.1 hF.2.1 hd (k p l e R s m args below meth c H locs cells slots ls hF hH hL)
theorem am_dup {v : Value} (hd : decode y.2.1 pc = .ok (.dup, 1)) (h1 : v.category = 1) (k : am_W g d y (pc + 1, L, v :: v :: st) S P) : am_W g d y (pc, L, v :: st) S P := by
  intro p l e R s m args below meth c H locs cells slots ls hF hH hL
  exact lv_dup hF.1 hF.2.1 hd h1 (k p l e R s m args below meth c H locs cells slots ls hF hH hL)
theorem am_pop {v : Value} (hd : decode y.2.1 pc = .ok (.pop, 1)) (h1 : v.category = 1) (k : am_W g d y (pc + 1, L, st) S P) : am_W g d y (pc, L, v :: st) S P := by
  intro p l e R s m args below meth c H locs cells slots ls hF hH hL
  exact lv_pop hF.1 hF.2.1 hd h1 (k p l e R s m args below meth c H locs cells slots ls hF hH hL)
theorem am_dupx1 {v u : Value} (hd : decode y.2.1 pc = .ok (.dup_x1, 1)) (h1 : v.category = 1) (h2 : u.category = 1) (k : am_W g d y (pc + 1, L, v :: u :: v :: st) S P) : am_W g d y (pc, L, v :: u :: st) S P := by
  intro p l e R s m args below meth c H locs cells slots ls hF hH hL
  exact lv_dup_x1 hF.1 hF.2.1 hd h1 h2 (k p l e R s m args below meth c H locs cells slots ls hF hH hL)
theorem am_dup211 {v u : Value} (hd : decode y.2.1 pc = .ok (.dup2, 1)) (h1 : v.category = 1) (h2 : u.category = 1) (k : am_W g d y (pc + 1, L, v :: u :: v :: u :: st) S P) : am_W g d y (pc, L, v :: u :: st) S P := by
  intro p l e R s m args below meth c H locs cells slots ls hF hH hL
  exact lv_dup2_11 hF.1 hF.2.1 hd h1 h2 (k p l e R s m args below meth c H locs cells slots ls hF hH hL)
theorem am_dup22 {v : Value} (hd : decode y.2.1 pc = .ok (.dup2, 1)) (h1 : v.category = 2) (k : am_W g d y (pc + 1, L, v :: v :: st) S P) : am_W g d y (pc, L, v :: st) S P := by
  intro p l e R s m args below meth c H locs cells slots ls hF hH hL
  exact lv_dup2_2 hF.1 hF.2.1 hd h1 (k p l e R s m args below meth c H locs cells slots ls hF hH hL)
theorem am_iloadn {n : Fin 4} {x : Int32} (hd : decode y.2.1 pc = .ok (.iload_n n, 1)) (hl : L[(n : Nat)]? = some (some (.int x))) (k : am_W g d y (pc + 1, L, .int x :: st) S P) : am_W g d y (pc, L, st) S P := by
  intro p l e R s m args below meth c H locs cells slots ls hF hH hL
  exact lv_iload_n hF.1 hF.2.1 hd rfl (hL.2 _ _ hl) (k p l e R s m args below meth c H locs cells slots ls hF hH hL)
theorem am_iload {i : Nat} {x : Int32} (hd : decode y.2.1 pc = .ok (.iload i, 2)) (hl : L[i]? = some (some (.int x))) (k : am_W g d y (pc + 2, L, .int x :: st) S P) : am_W g d y (pc, L, st) S P := by
  intro p l e R s m args below meth c H locs cells slots ls hF hH hL
  exact lv_iload hF.1 hF.2.1 hd (hL.2 _ _ hl) (k p l e R s m args below meth c H locs cells slots ls hF hH hL)
theorem am_lloadn {n : Fin 4} {x : Int64} (hd : decode y.2.1 pc = .ok (.lload_n n, 1)) (hl : L[(n : Nat)]? = some (some (.long x))) (k : am_W g d y (pc + 1, L, .long x :: st) S P) : am_W g d y (pc, L, st) S P := by
  intro p l e R s m args below meth c H locs cells slots ls hF hH hL
  exact lv_lload_n hF.1 hF.2.1 hd rfl (hL.2 _ _ hl) (k p l e R s m args below meth c H locs cells slots ls hF hH hL)
theorem am_lload {i : Nat} {x : Int64} (hd : decode y.2.1 pc = .ok (.lload i, 2)) (hl : L[i]? = some (some (.long x))) (k : am_W g d y (pc + 2, L, .long x :: st) S P) : am_W g d y (pc, L, st) S P := by
  intro p l e R s m args below meth c H locs cells slots ls hF hH hL
  exact lv_lload hF.1 hF.2.1 hd (hL.2 _ _ hl) (k p l e R s m args below meth c H locs cells slots ls hF hH hL)
theorem am_aloadn {n : Fin 4} {x : Nat} (hd : decode y.2.1 pc = .ok (.aload_n n, 1)) (hl : L[(n : Nat)]? = some (some (.ref x))) (k : am_W g d y (pc + 1, L, .ref x :: st) S P) : am_W g d y (pc, L, st) S P := by
  intro p l e R s m args below meth c H locs cells slots ls hF hH hL
  exact lv_aload_n hF.1 hF.2.1 hd rfl (hL.2 _ _ hl) (k p l e R s m args below meth c H locs cells slots ls hF hH hL)
theorem am_aload {i : Nat} {x : Nat} (hd : decode y.2.1 pc = .ok (.aload i, 2)) (hl : L[i]? = some (some (.ref x))) (k : am_W g d y (pc + 2, L, .ref x :: st) S P) : am_W g d y (pc, L, st) S P := by
  intro p l e R s m args below meth c H locs cells slots ls hF hH hL
  exact lv_aload hF.1 hF.2.1 hd (hL.2 _ _ hl) (k p l e R s m args below meth c H locs cells slots ls hF hH hL)
theorem am_istoren {n : Fin 4} {x : Int32} {L' : List (Option Value)} (hd : decode y.2.1 pc = .ok (.istore_n n, 1)) (hn : (n : Nat) < y.2.2.1) (hg : am_gd L (n : Nat) = true) (hL' : (L.set (n : Nat) (some (.int x))) = L') (k : am_W g d y (pc + 1, L', st) S P) : am_W g d y (pc, L, .int x :: st) S P := by
  intro p l e R s m args below meth c H locs cells slots ls hF hH hL
  subst hL'
  exact lv_istore_n hF.1 hF.2.1 hd rfl hL.ll hn rfl (fun ls' h' => k p l e R s m args below meth c H locs cells slots ls' hF hH (am_st1 (ls := ls) hg h'))
theorem am_istore {i : Nat} {x : Int32} {L' : List (Option Value)} (hd : decode y.2.1 pc = .ok (.istore i, 2)) (hn : i < y.2.2.1) (hg : am_gd L i = true) (hL' : (L.set i (some (.int x))) = L') (k : am_W g d y (pc + 2, L', st) S P) : am_W g d y (pc, L, .int x :: st) S P := by
  intro p l e R s m args below meth c H locs cells slots ls hF hH hL
  subst hL'
  exact lv_istore hF.1 hF.2.1 hd  hL.ll hn rfl (fun ls' h' => k p l e R s m args below meth c H locs cells slots ls' hF hH (am_st1 (ls := ls) hg h'))
theorem am_astoren {n : Fin 4} {x : Nat} {L' : List (Option Value)} (hd : decode y.2.1 pc = .ok (.astore_n n, 1)) (hn : (n : Nat) < y.2.2.1) (hg : am_gd L (n : Nat) = true) (hL' : (L.set (n : Nat) (some (.ref x))) = L') (k : am_W g d y (pc + 1, L', st) S P) : am_W g d y (pc, L, .ref x :: st) S P := by
  intro p l e R s m args below meth c H locs cells slots ls hF hH hL
  subst hL'
  exact lv_astore_n hF.1 hF.2.1 hd rfl hL.ll hn rfl (fun ls' h' => k p l e R s m args below meth c H locs cells slots ls' hF hH (am_st1 (ls := ls) hg h'))
theorem am_astore {i : Nat} {x : Nat} {L' : List (Option Value)} (hd : decode y.2.1 pc = .ok (.astore i, 2)) (hn : i < y.2.2.1) (hg : am_gd L i = true) (hL' : (L.set i (some (.ref x))) = L') (k : am_W g d y (pc + 2, L', st) S P) : am_W g d y (pc, L, .ref x :: st) S P := by
  intro p l e R s m args below meth c H locs cells slots ls hF hH hL
  subst hL'
  exact lv_astore hF.1 hF.2.1 hd  hL.ll hn rfl (fun ls' h' => k p l e R s m args below meth c H locs cells slots ls' hF hH (am_st1 (ls := ls) hg h'))
theorem am_lstoren {n : Fin 4} {x : Int64} {L' : List (Option Value)} (hd : decode y.2.1 pc = .ok (.lstore_n n, 1)) (hn : (n : Nat) + 1 < y.2.2.1) (hg : am_gd L (n : Nat) = true) (hL' : ((L.set (n : Nat) (some (.long x))).set ((n : Nat) + 1) none) = L') (k : am_W g d y (pc + 1, L', st) S P) : am_W g d y (pc, L, .long x :: st) S P := by
  intro p l e R s m args below meth c H locs cells slots ls hF hH hL
  subst hL'
  exact lv_lstore_n hF.1 hF.2.1 hd rfl hL.ll hn rfl (fun ls' h' => k p l e R s m args below meth c H locs cells slots ls' hF hH (am_st2 (ls := ls) hg h'))
theorem am_lstore {i : Nat} {x : Int64} {L' : List (Option Value)} (hd : decode y.2.1 pc = .ok (.lstore i, 2)) (hn : i + 1 < y.2.2.1) (hg : am_gd L i = true) (hL' : ((L.set i (some (.long x))).set (i + 1) none) = L') (k : am_W g d y (pc + 2, L', st) S P) : am_W g d y (pc, L, .long x :: st) S P := by
  intro p l e R s m args below meth c H locs cells slots ls hF hH hL
  subst hL'
  exact lv_lstore hF.1 hF.2.1 hd  hL.ll hn rfl (fun ls' h' => k p l e R s m args below meth c H locs cells slots ls' hF hH (am_st2 (ls := ls) hg h'))
theorem am_iinc {i : Nat} {n : Int} {x v : Int32} {L' : List (Option Value)} (hd : decode y.2.1 pc = .ok (.iinc i n, 3)) (hl : L[i]? = some (some (.int x))) (hv : x + Int32.ofInt n = v) (hn : i < y.2.2.1) (hg : am_gd L i = true) (hL' : L.set i (some (.int v)) = L') (k : am_W g d y (pc + 3, L', st) S P) : am_W g d y (pc, L, st) S P := by
  intro p l e R s m args below meth c H locs cells slots ls hF hH hL
  subst hL'
  obtain ⟨q, hq⟩ := List.getElem?_of_mem (am_ll_mem.mpr hl)
  exact lv_iinc hF.1 hF.2.1 hd hL.ll hq hv hn rfl (fun ls' h' => k p l e R s m args below meth c H locs cells slots ls' hF hH (am_st1 (ls := ls) hg h'))
theorem am_ifeq {x : Int32} {off : Int} {tgt : Nat} (hd : decode y.2.1 pc = .ok (.ifCond .eq off, 3)) (ht : (pc : Int) + off = (tgt : Int)) (kt : x = 0 → am_W g d y (tgt, L, st) S P) (kf : ¬ x = 0 → am_W g d y (pc + 3, L, st) S P) : am_W g d y (pc, L, .int x :: st) S P := by
  intro p l e R s m args below meth c H locs cells slots ls hF hH hL
  exact lv_if_eq hF.1 hF.2.1 hd ht (fun h => kt h p l e R s m args below meth c H locs cells slots ls hF hH hL) (fun h => kf h p l e R s m args below meth c H locs cells slots ls hF hH hL)
theorem am_ifne {x : Int32} {off : Int} {tgt : Nat} (hd : decode y.2.1 pc = .ok (.ifCond .ne off, 3)) (ht : (pc : Int) + off = (tgt : Int)) (kt : ¬ x = 0 → am_W g d y (tgt, L, st) S P) (kf : x = 0 → am_W g d y (pc + 3, L, st) S P) : am_W g d y (pc, L, .int x :: st) S P := by
  intro p l e R s m args below meth c H locs cells slots ls hF hH hL
  exact lv_if_ne hF.1 hF.2.1 hd ht (fun h => kt h p l e R s m args below meth c H locs cells slots ls hF hH hL) (fun h => kf h p l e R s m args below meth c H locs cells slots ls hF hH hL)
theorem am_iflt {x : Int32} {off : Int} {tgt : Nat} (hd : decode y.2.1 pc = .ok (.ifCond .lt off, 3)) (ht : (pc : Int) + off = (tgt : Int)) (kt : x < 0 → am_W g d y (tgt, L, st) S P) (kf : ¬ x < 0 → am_W g d y (pc + 3, L, st) S P) : am_W g d y (pc, L, .int x :: st) S P := by
  intro p l e R s m args below meth c H locs cells slots ls hF hH hL
  exact lv_if_lt hF.1 hF.2.1 hd ht (fun h => kt h p l e R s m args below meth c H locs cells slots ls hF hH hL) (fun h => kf h p l e R s m args below meth c H locs cells slots ls hF hH hL)
theorem am_ifge {x : Int32} {off : Int} {tgt : Nat} (hd : decode y.2.1 pc = .ok (.ifCond .ge off, 3)) (ht : (pc : Int) + off = (tgt : Int)) (kt : 0 ≤ x → am_W g d y (tgt, L, st) S P) (kf : ¬ 0 ≤ x → am_W g d y (pc + 3, L, st) S P) : am_W g d y (pc, L, .int x :: st) S P := by
  intro p l e R s m args below meth c H locs cells slots ls hF hH hL
  exact lv_if_ge hF.1 hF.2.1 hd ht (fun h => kt h p l e R s m args below meth c H locs cells slots ls hF hH hL) (fun h => kf h p l e R s m args below meth c H locs cells slots ls hF hH hL)
theorem am_ifgt {x : Int32} {off : Int} {tgt : Nat} (hd : decode y.2.1 pc = .ok (.ifCond .gt off, 3)) (ht : (pc : Int) + off = (tgt : Int)) (kt : 0 < x → am_W g d y (tgt, L, st) S P) (kf : ¬ 0 < x → am_W g d y (pc + 3, L, st) S P) : am_W g d y (pc, L, .int x :: st) S P := by
  intro p l e R s m args below meth c H locs cells slots ls hF hH hL
  exact lv_if_gt hF.1 hF.2.1 hd ht (fun h => kt h p l e R s m args below meth c H locs cells slots ls hF hH hL) (fun h => kf h p l e R s m args below meth c H locs cells slots ls hF hH hL)
theorem am_ifle {x : Int32} {off : Int} {tgt : Nat} (hd : decode y.2.1 pc = .ok (.ifCond .le off, 3)) (ht : (pc : Int) + off = (tgt : Int)) (kt : x ≤ 0 → am_W g d y (tgt, L, st) S P) (kf : ¬ x ≤ 0 → am_W g d y (pc + 3, L, st) S P) : am_W g d y (pc, L, .int x :: st) S P := by
  intro p l e R s m args below meth c H locs cells slots ls hF hH hL
  exact lv_if_le hF.1 hF.2.1 hd ht (fun h => kt h p l e R s m args below meth c H locs cells slots ls hF hH hL) (fun h => kf h p l e R s m args below meth c H locs cells slots ls hF hH hL)
theorem am_iceq {x z : Int32} {off : Int} {tgt : Nat} (hd : decode y.2.1 pc = .ok (.if_icmp .eq off, 3)) (ht : (pc : Int) + off = (tgt : Int)) (kt : x = z → am_W g d y (tgt, L, st) S P) (kf : ¬ x = z → am_W g d y (pc + 3, L, st) S P) : am_W g d y (pc, L, .int z :: .int x :: st) S P := by
  intro p l e R s m args below meth c H locs cells slots ls hF hH hL
  exact lv_icmp_eq hF.1 hF.2.1 hd ht (fun h => kt h p l e R s m args below meth c H locs cells slots ls hF hH hL) (fun h => kf h p l e R s m args below meth c H locs cells slots ls hF hH hL)
theorem am_icne {x z : Int32} {off : Int} {tgt : Nat} (hd : decode y.2.1 pc = .ok (.if_icmp .ne off, 3)) (ht : (pc : Int) + off = (tgt : Int)) (kt : ¬ x = z → am_W g d y (tgt, L, st) S P) (kf : x = z → am_W g d y (pc + 3, L, st) S P) : am_W g d y (pc, L, .int z :: .int x :: st) S P := by
  intro p l e R s m args below meth c H locs cells slots ls hF hH hL
  exact lv_icmp_ne hF.1 hF.2.1 hd ht (fun h => kt h p l e R s m args below meth c H locs cells slots ls hF hH hL) (fun h => kf h p l e R s m args below meth c H locs cells slots ls hF hH hL)
theorem am_iclt {x z : Int32} {off : Int} {tgt : Nat} (hd : decode y.2.1 pc = .ok (.if_icmp .lt off, 3)) (ht : (pc : Int) + off = (tgt : Int)) (kt : x < z → am_W g d y (tgt, L, st) S P) (kf : ¬ x < z → am_W g d y (pc + 3, L, st) S P) : am_W g d y (pc, L, .int z :: .int x :: st) S P := by
  intro p l e R s m args below meth c H locs cells slots ls hF hH hL
  exact lv_icmp_lt hF.1 hF.2.1 hd ht (fun h => kt h p l e R s m args below meth c H locs cells slots ls hF hH hL) (fun h => kf h p l e R s m args below meth c H locs cells slots ls hF hH hL)
theorem am_icge {x z : Int32} {off : Int} {tgt : Nat} (hd : decode y.2.1 pc = .ok (.if_icmp .ge off, 3)) (ht : (pc : Int) + off = (tgt : Int)) (kt : z ≤ x → am_W g d y (tgt, L, st) S P) (kf : ¬ z ≤ x → am_W g d y (pc + 3, L, st) S P) : am_W g d y (pc, L, .int z :: .int x :: st) S P := by
  intro p l e R s m args below meth c H locs cells slots ls hF hH hL
  exact lv_icmp_ge hF.1 hF.2.1 hd ht (fun h => kt h p l e R s m args below meth c H locs cells slots ls hF hH hL) (fun h => kf h p l e R s m args below meth c H locs cells slots ls hF hH hL)
theorem am_icgt {x z : Int32} {off : Int} {tgt : Nat} (hd : decode y.2.1 pc = .ok (.if_icmp .gt off, 3)) (ht : (pc : Int) + off = (tgt : Int)) (kt : z < x → am_W g d y (tgt, L, st) S P) (kf : ¬ z < x → am_W g d y (pc + 3, L, st) S P) : am_W g d y (pc, L, .int z :: .int x :: st) S P := by
  intro p l e R s m args below meth c H locs cells slots ls hF hH hL
  exact lv_icmp_gt hF.1 hF.2.1 hd ht (fun h => kt h p l e R s m args below meth c H locs cells slots ls hF hH hL) (fun h => kf h p l e R s m args below meth c H locs cells slots ls hF hH hL)
theorem am_icle {x z : Int32} {off : Int} {tgt : Nat} (hd : decode y.2.1 pc = .ok (.if_icmp .le off, 3)) (ht : (pc : Int) + off = (tgt : Int)) (kt : x ≤ z → am_W g d y (tgt, L, st) S P) (kf : ¬ x ≤ z → am_W g d y (pc + 3, L, st) S P) : am_W g d y (pc, L, .int z :: .int x :: st) S P := by
  intro p l e R s m args below meth c H locs cells slots ls hF hH hL
  exact lv_icmp_le hF.1 hF.2.1 hd ht (fun h => kt h p l e R s m args below meth c H locs cells slots ls hF hH hL) (fun h => kf h p l e R s m args below meth c H locs cells slots ls hF hH hL)
theorem am_aceq {x z : Nat} {off : Int} {tgt : Nat} (hd : decode y.2.1 pc = .ok (.if_acmp .eq off, 3)) (ht : (pc : Int) + off = (tgt : Int)) (kt : x = z → am_W g d y (tgt, L, st) S P) (kf : ¬ x = z → am_W g d y (pc + 3, L, st) S P) : am_W g d y (pc, L, .ref z :: .ref x :: st) S P := by
  intro p l e R s m args below meth c H locs cells slots ls hF hH hL
  exact lv_acmp_eq (rx := some x) (ry := some z) hF.1 hF.2.1 hd ht (fun h => kt (by simpa using h) p l e R s m args below meth c H locs cells slots ls hF hH hL) (fun h => kf (by simpa using h) p l e R s m args below meth c H locs cells slots ls hF hH hL)
theorem am_acne {x z : Nat} {off : Int} {tgt : Nat} (hd : decode y.2.1 pc = .ok (.if_acmp .ne off, 3)) (ht : (pc : Int) + off = (tgt : Int)) (kt : ¬ x = z → am_W g d y (tgt, L, st) S P) (kf : x = z → am_W g d y (pc + 3, L, st) S P) : am_W g d y (pc, L, .ref z :: .ref x :: st) S P := by
  intro p l e R s m args below meth c H locs cells slots ls hF hH hL
  exact lv_acmp_ne (rx := some x) (ry := some z) hF.1 hF.2.1 hd ht (fun h => kt (by simpa using h) p l e R s m args below meth c H locs cells slots ls hF hH hL) (fun h => kf (by simpa using h) p l e R s m args below meth c H locs cells slots ls hF hH hL)
theorem am_lookup {dflt : Int} {ps : Array (Int × Int)} {len tgt : Nat} {x : Int32} {off : Int} (hd : decode y.2.1 pc = .ok (.lookupswitch dflt ps, len)) (hp : (ps.toList.zip (ps.toList.drop 1)).all (fun (a, next) => a.1 < next.1) = true) (ho : Op.lookupswitch.offset ps.toList dflt x.toInt = off) (ht : (pc : Int) + off = (tgt : Int)) (k : am_W g d y (tgt, L, st) S P) : am_W g d y (pc, L, .int x :: st) S P := by
  intro p l e R s m args below meth c H locs cells slots ls hF hH hL
  exact lv_lookup hF.1 hF.2.1 hd hp ho ht (k p l e R s m args below meth c H locs cells slots ls hF hH hL)
theorem am_tabOut {dflt lo hi : Int} {offs : Array Int} {len tgt : Nat} {x : Int32} (hd : decode y.2.1 pc = .ok (.tableswitch dflt lo hi offs, len)) (h : x.toInt < lo ∨ hi < x.toInt) (ht : (pc : Int) + dflt = (tgt : Int)) (k : am_W g d y (tgt, L, st) S P) : am_W g d y (pc, L, .int x :: st) S P := by
  intro p l e R s m args below meth c H locs cells slots ls hF hH hL
  exact lv_tableOut hF.1 hF.2.1 hd h ht (k p l e R s m args below meth c H locs cells slots ls hF hH hL)
theorem am_tabIn {dflt lo hi : Int} {offs : Array Int} {len tgt : Nat} {x : Int32} {off : Int} (hd : decode y.2.1 pc = .ok (.tableswitch dflt lo hi offs, len)) (h1 : ¬ x.toInt < lo) (h2 : ¬ hi < x.toInt) (ho : offs[(x.toInt - lo).toNat]? = some off) (ht : (pc : Int) + off = (tgt : Int)) (k : am_W g d y (tgt, L, st) S P) : am_W g d y (pc, L, .int x :: st) S P := by
  intro p l e R s m args below meth c H locs cells slots ls hF hH hL
  exact lv_tableIn hF.1 hF.2.1 hd h1 h2 ho ht (k p l e R s m args below meth c H locs cells slots ls hF hH hL)
theorem am_lcmp {x z : Int64} (hd : decode y.2.1 pc = .ok (.lcmp, 1)) (k : am_W g d y (pc + 1, L, .int (lg_cmp x z) :: st) S P) : am_W g d y (pc, L, .long z :: .long x :: st) S P := by
  intro p l e R s m args below meth c H locs cells slots ls hF hH hL
  exact W.lcmp hF.1 hF.2.1 hd (k p l e R s m args below meth c H locs cells slots ls hF hH hL)
theorem am_goto {off : Int} {tgt : Nat} (hd : decode y.2.1 pc = .ok (.goto off, 3)) (ht : (pc : Int) + off = (tgt : Int)) (k : am_W g d y (tgt, L, st) S P) : am_W g d y (pc, L, st) S P := by
  intro p l e R s m args below meth c H locs cells slots ls hF hH hL
  exact lv_goto hF.1 hF.2.1 hd ht (k p l e R s m args below meth c H locs cells slots ls hF hH hL)
def am_fl (own : String) (ix ci k : Nat) : Prop := ∃ (C : String) (T : u_T) (N : Nat), am_cl[ci]? = some (C, T, N) ∧ (∀ w ∈ u_ws C T N, w ∈ am_tbl) ∧ k < N ∧ Cond.fieldLink own ix (T k).1 (T k).2.1 (T k).2.2.1 ∈ am_tbl
def am_fp (own : String) (ix ci k : Nat) (ty : FieldType) (fin : Bool) : Prop := ∃ (C : String) (T : u_T) (N : Nat) (ty0 : Nat → FieldType), am_cl[ci]? = some (C, T, N) ∧ (∀ w ∈ u_ws C T N, w ∈ am_tbl) ∧ k < N ∧ Cond.fieldLink own ix (T k).1 (T k).2.1 (T k).2.2.1 ∈ am_tbl ∧
  (∀ k, k < N → parseFieldDescriptor (T k).2.2.1 = some (ty0 k)) ∧ ty0 k = ty ∧ (∀ a, a < N → ∀ b, b < N → a ≠ b → (T a).2.1 ≠ (T b).2.1) ∧ (T k).2.2.2 = fin ∧ (T k).1 = (if fin then own else (T k).1)
theorem am_get {a ix ci k : Nat} {fs : List Value} {v : Value} (hd : decode y.2.1 pc = .ok (.getfield ix, 3)) (hf : am_fl y.1.cls ix ci k) (hM : S.1 a = some (.inr (ci, fs))) (hv : fs[k]? = some v) (kk : am_W g d y (pc + 3, L, v :: st) S P) : am_W g d y (pc, L, .ref a :: st) S P := by
  intro p l e R s m args below meth c H locs cells slots ls hF hH hL
  obtain ⟨C, T, N, hc, hin, hk, hl⟩ := hf
  obtain ⟨hx, hb, -, -, -, hown, hts, -, -, hK, -⟩ := id hF
  exact va_get hx hb hts hin hown hK (hH.one hM) 0 rfl hc k hk (hts _ hl) (fun _ h9 => h9) hv hd (kk p l e R s m args below meth c H locs cells slots ls hF hH hL)
theorem am_put {a ix ci k : Nat} {ty : FieldType} {fs : List Value} {v : Value} (hd : decode y.2.1 pc = .ok (.putfield ix, 3)) (hf : am_fp y.1.cls ix ci k ty false) (hM : S.1 a = some (.inr (ci, fs))) (hn : narrow ty v = v) (hfit : fits ty v = true) (hl : k < fs.length) (kk : am_W g d y (pc + 3, L, st) (am_up S.1 a (.inr (ci, fs.set k v)), S.2) P) : am_W g d y (pc, L, v :: .ref a :: st) S P := by
  intro p l e R s m args below meth c H locs cells slots ls hF hH hL
  obtain ⟨C, T, N, ty0, hc, hin, hk, hlk, hty, hte, hnm, hfin, -⟩ := hf
  obtain ⟨hx, hb, -, -, -, hown, hts, -, -, hK, -⟩ := id hF
  have hap := va_apart (own := y.1.cls) hts hin ty0 hty hnm hK hc
  obtain ⟨r, h1, cell, q1, q2, q3, q4⟩ := (hH.1 a _ hM).2
  have hr : r = (C, T, N) := Option.some.inj (h1.symm.trans hc)
  subst hr
  obtain ⟨hS, hfc, kC, hkC, hkind⟩ := hK.1 ci _ hc
  obtain ⟨cf, kf, fi, f, hi, hsl⟩ := hS k hk
  have hlay := hts _ (hin _ (u_in_lay hk))
  unfold u_lay at hlay
  rw [if_neg (by rw [hfin]; decide)] at hlay
  have hst := (u_facts hfc hkC (u_lays hts hin hk) hi).1
  have h6 := u_store hfc hkC hkind hlay hi ((hty k hk).trans (congrArg some hte)) hn hfit
  refine W.putK hx hb (f := f) ⟨hown, hts _ hlk, ⟨_, _, _, hi⟩, hst⟩ (by rw [q2]; exact h6) q1 q3 (by rw [hsl]; exact k2_hasslot (q4 k hk)) rfl rfl hd fun H' e1 e2 e3 => ?_
  rw [hsl] at e1 ⊢
  exact kk p l e R s m args below meth c H' _ cells slots ls hF (hH.put hM ⟨_, hc, t_OB.to (V := updV (vp_V fs) k v) ⟨_, e1, q2, q3, t_set q4 hap hk v⟩ (fun j _ => vp_updV_set hl v j)⟩ e2 e3) hL
theorem am_putF {a ix ci k : Nat} {ty : FieldType} {fs : List Value} {v : Value} (hd : decode y.2.1 pc = .ok (.putfield ix, 3)) (hf : am_fp y.1.cls ix ci k ty true) (hin2 : y.1.name = "<init>") (hM : S.1 a = some (.inr (ci, fs))) (hn : narrow ty v = v) (hfit : fits ty v = true) (hl : k < fs.length) (kk : am_W g d y (pc + 3, L, st) (am_up S.1 a (.inr (ci, fs.set k v)), S.2) P) : am_W g d y (pc, L, v :: .ref a :: st) S P := by
  intro p l e R s m args below meth c H locs cells slots ls hF hH hL
  obtain ⟨C, T, N, ty0, hc, hin, hk, hlk, hty, hte, hnm, hfin, hdecl⟩ := hf
  rw [if_pos rfl] at hdecl
  obtain ⟨hx, hb, -, -, hmn, hown, hts, -, -, hK, -⟩ := id hF
  have hap := va_apart (own := y.1.cls) hts hin ty0 hty hnm hK hc
  obtain ⟨r, h1, cell, q1, q2, q3, q4⟩ := (hH.1 a _ hM).2
  have hr : r = (C, T, N) := Option.some.inj (h1.symm.trans hc)
  subst hr
  obtain ⟨hS, hfc, kC, hkC, hkind⟩ := hK.1 ci _ hc
  obtain ⟨cf, kf, fi, f, hi, hsl⟩ := hS k hk
  have hlay := hts _ (hin _ (u_in_lay hk))
  unfold u_lay at hlay
  rw [if_pos hfin] at hlay
  have hst := (u_facts hfc hkC (u_lays hts hin hk) hi).1
  have hcf : m.cls = cf := by
    obtain ⟨_, _, c', _, _, _, -, -, hf', -, -, -, hown2, -⟩ := Cond.laysFinal_spec hlay
    have e1 : c' = cf := by have := hi.symm.trans hf'; simp at this; exact this.1.symm
    rw [hdecl] at hown2
    rw [← e1]; exact Option.some.inj (hown.symm.trans hown2)
  have h6 := u_fits hfc hkC hkind (Or.inr hlay) hi ((hty k hk).trans (congrArg some hte)) hn hfit
  refine W.putFinK hx hb hown (hts _ hlk) hi hst hcf (hmn.trans hin2) (by rw [q2]; exact h6) q1 q3 (by rw [hsl]; exact k2_hasslot (q4 k hk)) rfl rfl hd fun H' e1 e2 e3 => ?_
  rw [hsl] at e1 ⊢
  exact kk p l e R s m args below meth c H' _ cells slots ls hF (hH.put hM ⟨_, hc, t_OB.to (V := updV (vp_V fs) k v) ⟨_, e1, q2, q3, t_set q4 hap hk v⟩ (fun j _ => vp_updV_set hl v j)⟩ e2 e3) hL
theorem am_iald {a t n : Nat} {f : Nat → Int32} {i : Int32} (hd : decode y.2.1 pc = .ok (.iaload, 1)) (ht : am_tyl[t]? = some .int) (hM : S.1 a = some (.inl (t, n, .inl f))) (hi : vp_in i n) (kk : am_W g d y (pc + 1, L, .int (f i.toNatClampNeg) :: st) S P) : am_W g d y (pc, L, .int i :: .ref a :: st) S P := by
  intro p l e R s m args below meth c H locs cells slots ls hF hH hL
  obtain ⟨hx, hb, -, -, -, hown, hts, -, -, hK, -⟩ := id hF
  exact va_iald hx hb hK (hH.one hM) 0 t rfl (am_tys_at ht) hi hd (kk p l e R s m args below meth c H locs cells slots ls hF hH hL)
theorem am_lald {a t n : Nat} {f : Nat → Int64} {i : Int32} (hd : decode y.2.1 pc = .ok (.laload, 1)) (ht : am_tyl[t]? = some .long) (hM : S.1 a = some (.inl (t, n, .inr (.inl f)))) (hi : vp_in i n) (kk : am_W g d y (pc + 1, L, .long (f i.toNatClampNeg) :: st) S P) : am_W g d y (pc, L, .int i :: .ref a :: st) S P := by
  intro p l e R s m args below meth c H locs cells slots ls hF hH hL
  obtain ⟨hx, hb, -, -, -, hown, hts, -, -, hK, -⟩ := id hF
  exact va_lald hx hb hK (hH.one hM) 0 t rfl (am_tys_at ht) hi hd (kk p l e R s m args below meth c H locs cells slots ls hF hH hL)
theorem am_zald {a t n : Nat} {f : Nat → Int32} {i : Int32} (hd : decode y.2.1 pc = .ok (.baload, 1)) (ht : am_tyl[t]? = some .boolean) (hM : S.1 a = some (.inl (t, n, .inl f))) (hi : vp_in i n) (kk : am_W g d y (pc + 1, L, .int (f i.toNatClampNeg) :: st) S P) : am_W g d y (pc, L, .int i :: .ref a :: st) S P := by
  intro p l e R s m args below meth c H locs cells slots ls hF hH hL
  obtain ⟨hx, hb, -, -, -, hown, hts, -, -, hK, -⟩ := id hF
  exact va_zald hx hb hK (hH.one hM) 0 t rfl (am_tys_at ht) hi hd (kk p l e R s m args below meth c H locs cells slots ls hF hH hL)
theorem am_aald {a t n : Nat} {C : String} {f : Nat → Option Nat} {i : Int32} {v : Nat} (hd : decode y.2.1 pc = .ok (.aaload, 1)) (ht : am_tyl[t]? = some (.object C)) (hM : S.1 a = some (.inl (t, n, .inr (.inr (.inr (.inr f)))))) (hi : vp_in i n) (hv : f i.toNatClampNeg = some v) (kk : am_W g d y (pc + 1, L, .ref v :: st) S P) : am_W g d y (pc, L, .int i :: .ref a :: st) S P := by
  intro p l e R s m args below meth c H locs cells slots ls hF hH hL
  obtain ⟨hx, hb, -, -, -, hown, hts, -, -, hK, -⟩ := id hF
  refine va_aldq hx hb hK (hH.one hM) 0 t rfl (am_tys_at ht) hi hd ?_
  rw [hv]
  exact kk p l e R s m args below meth c H locs cells slots ls hF hH hL
theorem am_alen {a t : Nat} {x : vp_A} {ty : FieldType} (hd : decode y.2.1 pc = .ok (.arraylength, 1)) (ht : am_tyl[t]? = some ty) (hM : S.1 a = some (.inl (t, x))) (kk : am_W g d y (pc + 1, L, .int (nI x.1) :: st) S P) : am_W g d y (pc, L, .ref a :: st) S P := by
  intro p l e R s m args below meth c H locs cells slots ls hF hH hL
  obtain ⟨hx, hb, -, -, -, hown, hts, -, -, hK, -⟩ := id hF
  exact va_alen hx hb hK (hH.one hM) 0 t rfl (am_tys_at ht) rfl hd (kk p l e R s m args below meth c H locs cells slots ls hF hH hL)
theorem am_sld {i : Int32} (hd : decode y.2.1 pc = .ok (.iaload, 1)) (hi : vp_in i g.2.2.2.2.2.2.1) (kk : am_W g d y (pc + 1, L, .int (g.2.2.2.2.2.2.2 i.toNatClampNeg) :: st) S P) : am_W g d y (pc, L, .int i :: .ref g.2.2.2.2.2.1 :: st) S P := by
  intro p l e R s m args below meth c H locs cells slots ls hF hH hL
  obtain ⟨hx, hb, -, -, -, hown, hts, -, -, hK, -⟩ := id hF
  obtain ⟨-, -, -, hS, -, -, -, -, -, hbs, hX, hbb⟩ := id hH
  exact va_sld hx hb hX (Nat.lt_of_lt_of_le hbb hbs) (A := am_A g) (Nat.not_le.mpr hbb) hS hi hd (kk p l e R s m args below meth c H locs cells slots ls hF hH hL)
theorem am_slen (hd : decode y.2.1 pc = .ok (.arraylength, 1)) (kk : am_W g d y (pc + 1, L, .int (nI g.2.2.2.2.2.2.1) :: st) S P) : am_W g d y (pc, L, .ref g.2.2.2.2.2.1 :: st) S P := by
  intro p l e R s m args below meth c H locs cells slots ls hF hH hL
  obtain ⟨hx, hb, -, -, -, hown, hts, -, -, hK, -⟩ := id hF
  obtain ⟨-, -, -, hS, -, -, -, -, -, hbs, hX, hbb⟩ := id hH
  exact va_slen hx hb hX (Nat.lt_of_lt_of_le hbb hbs) (A := am_A g) (Nat.not_le.mpr hbb) hS hd (kk p l e R s m args below meth c H locs cells slots ls hF hH hL)
theorem am_iast {a t n : Nat} {f : Nat → Int32} {i : Int32} {x : Int32} (hd : decode y.2.1 pc = .ok (.iastore, 1)) (ht : am_tyl[t]? = some .int) (hM : S.1 a = some (.inl (t, n, .inl f))) (hi : vp_in i n) (kk : am_W g d y (pc + 1, L, st) (am_up S.1 a (.inl (t, n, .inl (upd f i.toNatClampNeg x))), S.2) P) : am_W g d y (pc, L, .int x :: .int i :: .ref a :: st) S P := by
  intro p l e R s m args below meth c H locs cells slots ls hF hH hL
  obtain ⟨hx, hb, -, -, -, hown, hts, -, -, hK, -⟩ := id hF
  refine W.iast hx hb (hH.1 a _ hM).2 ((hK.2 t _ (am_tys_at ht)).1 n (fun j => .int (f j))) (fun q => by cases q) (by show ¬ (i < 0 ∨ (arrV _ _ _).slots.size ≤ _); rw [arrV_size]; exact hi) rfl rfl hd fun H1 e1 z oq => ?_
  refine kk p l e R s m args below meth c H1 _ cells slots ls hF (hH.put hM ?_ z oq) hL
  show H1[a]? = some (vp_cell _ _)
  rw [e1]
  show some (Cell.setSlot (vp_cell _ _) _ _) = _
  rw [vp_cell_i, vp_cell_i, arrV_store]
  congr 2
  funext q
  by_cases hq : q = i.toNatClampNeg
  · subst hq
    simp [updV, upd, vp_updL]
    try rfl
  · simp [updV, upd, vp_updL, hq]
theorem am_last {a t n : Nat} {f : Nat → Int64} {i : Int32} {x : Int64} (hd : decode y.2.1 pc = .ok (.lastore, 1)) (ht : am_tyl[t]? = some .long) (hM : S.1 a = some (.inl (t, n, .inr (.inl f)))) (hi : vp_in i n) (kk : am_W g d y (pc + 1, L, st) (am_up S.1 a (.inl (t, n, .inr (.inl (vp_updL f i.toNatClampNeg x)))), S.2) P) : am_W g d y (pc, L, .long x :: .int i :: .ref a :: st) S P := by
  intro p l e R s m args below meth c H locs cells slots ls hF hH hL
  obtain ⟨hx, hb, -, -, -, hown, hts, -, -, hK, -⟩ := id hF
  refine W.last hx hb (hH.1 a _ hM).2 ((hK.2 t _ (am_tys_at ht)).1 n (fun j => .long (f j))) (fun q => by cases q) (by show ¬ (i < 0 ∨ (arrV _ _ _).slots.size ≤ _); rw [arrV_size]; exact hi) rfl rfl hd fun H1 e1 z oq => ?_
  refine kk p l e R s m args below meth c H1 _ cells slots ls hF (hH.put hM ?_ z oq) hL
  show H1[a]? = some (vp_cell _ _)
  rw [e1]
  show some (Cell.setSlot (vp_cell _ _) _ _) = _
  rw [vp_cell_l, vp_cell_l, arrV_store]
  congr 2
  funext q
  by_cases hq : q = i.toNatClampNeg
  · subst hq
    simp [updV, upd, vp_updL]
    try rfl
  · simp [updV, upd, vp_updL, hq]
theorem am_zast {a t n : Nat} {f : Nat → Int32} {i : Int32} {x : Int32} (hd : decode y.2.1 pc = .ok (.bastore, 1)) (ht : am_tyl[t]? = some .boolean) (hM : S.1 a = some (.inl (t, n, .inl f))) (hi : vp_in i n) (kk : am_W g d y (pc + 1, L, st) (am_up S.1 a (.inl (t, n, .inl (upd f i.toNatClampNeg (vp_nar .boolean x)))), S.2) P) : am_W g d y (pc, L, .int x :: .int i :: .ref a :: st) S P := by
  intro p l e R s m args below meth c H locs cells slots ls hF hH hL
  obtain ⟨hx, hb, -, -, -, hown, hts, -, -, hK, -⟩ := id hF
  refine W.zast hx hb (hH.1 a _ hM).2 ((hK.2 t _ (am_tys_at ht)).1 n (fun j => .int (f j))) (fun q => by cases q) (by show ¬ (i < 0 ∨ (arrV _ _ _).slots.size ≤ _); rw [arrV_size]; exact hi) rfl rfl hd fun H1 e1 z oq => ?_
  refine kk p l e R s m args below meth c H1 _ cells slots ls hF (hH.put hM ?_ z oq) hL
  show H1[a]? = some (vp_cell _ _)
  rw [e1]
  show some (Cell.setSlot (vp_cell _ _) _ _) = _
  rw [vp_cell_i, vp_cell_i, arrV_store]
  congr 2
  funext q
  by_cases hq : q = i.toNatClampNeg
  · subst hq
    simp [updV, upd, vp_updL, vp_nar]
    try rfl
  · simp [updV, upd, vp_updL, hq]
theorem am_aast {a t n ci v : Nat} {r : vw_C} {vs : List Value} {f : Nat → Option Nat} {i : Int32} (hd : decode y.2.1 pc = .ok (.aastore, 1)) (ht : am_tyl[t]? = some (.object r.1)) (hM : S.1 a = some (.inl (t, n, .inr (.inr (.inr (.inr f)))))) (hv : S.1 v = some (.inr (ci, vs))) (hc : am_cl[ci]? = some r) (hi : vp_in i n) (kk : am_W g d y (pc + 1, L, st) (am_up S.1 a (.inl (t, n, .inr (.inr (.inr (.inr (va_up f i.toNatClampNeg (some v))))))), S.2) P) : am_W g d y (pc, L, .ref v :: .int i :: .ref a :: st) S P := by
  intro p l e R s m args below meth c H locs cells slots ls hF hH hL
  obtain ⟨hx, hb, -, -, -, hown, hts, -, -, hK, -⟩ := id hF
  have hlt : i.toNatClampNeg < n := Nat.not_le.mp fun q => hi (Or.inr q)
  have h0 : ¬ i < 0 := fun q => hi (Or.inl q)
  obtain ⟨r', hr', cellV, g1, g2, g3, -⟩ := (hH.1 v _ hv).2
  have hcls := (hK.1 ci r hc).2
  obtain ⟨kA, comp, k1, k2, k3, -⟩ := (hK.2 t _ (am_tys_at ht)).2
  have hcomp : comp = g.1.1 ci := Option.some.inj (k3.symm.trans hcls.1)
  subst hcomp
  obtain ⟨kC, hkC, -⟩ := hcls.2
  refine W.aast hx hb (hH.1 a _ hM).2 (fun q h => by cases h) (fun h => by cases h) k1 k2 rfl hkC ⟨h0, by show _ < (arrV _ _ _).slots.size; rw [arrV_size]; exact hlt⟩ g1 (fun q h => by rw [g3] at h; cases h) (by rw [g2]; exact hkC) (by rw [g2]; exact va_assign hcls) rfl rfl hd fun H1 e1 z oq => ?_
  refine kk p l e R s m args below meth c H1 _ cells slots ls hF (hH.put hM ?_ z oq) hL
  show H1[a]? = some (vp_cell _ _)
  rw [e1]
  show some (Cell.setSlot (vp_cell _ _) _ _) = _
  rw [vp_cell_q, vp_cell_q, arrV_store]
  congr 2
  funext q
  by_cases hq : q = i.toNatClampNeg
  · subst hq
    simp [updV, va_up, va_rf]
  · simp [updV, va_up, hq]
theorem am_newa {t N' : Nat} {atype : ArrayType} {ty : FieldType} {n : Int32} {a0 : vp_A} (hd : decode y.2.1 pc = .ok (.newarray atype, 2)) (hty : newarray.typeOf atype = ty) (hw : Cond.arrayClass (newarray.typeOf atype) ∈ am_tbl) (ht : am_tyl[t]? = some ty) (ha : ∀ cA : ClassId, vp_cell cA a0 = arrV cA N' (fun _ => defaultValue ty)) (hra : ∀ (U : State) (cA : ClassId), va_RA U cA ty → U.vm.findClass ("[" ++ ty.toString) = some cA) (hn : ¬ n < 0) (hN : n.toNatClampNeg = N') (hbytes : N' * componentBytes ty ≤ 536870912) (hc : S.2.1 + 1 ≤ g.2.2.2.1) (hz : S.2.2 + N' ≤ g.2.2.2.2.1)
    (kk : am_W g d y (pc + 2, L, .ref S.2.1 :: st) (am_up S.1 S.2.1 (.inl (t, a0)), S.2.1 + 1, S.2.2 + N') P) : am_W g d y (pc, L, .int n :: st) S P := by
  intro p l e R s m args below meth c H locs cells slots ls hF hH hL
  obtain ⟨hx, hb, -, -, -, hown, hts, -, -, hK, -⟩ := id hF
  obtain ⟨-, -, hsz, hS, -, hcs, hcs1, hss, hss1, -⟩ := id hH
  subst hty
  refine va_newaK hx hb (hts _ hw) rfl hd rfl hn hN hbytes (by omega) (by omega) hsz fun H1 cA e1 z1 o1 hAr hNm => ?_
  have hcA : cA = g.2.1 t := Option.some.inj (hNm.symm.trans (hra s _ (hK.2 t _ (am_tys_at ht)).2))
  subst hcA
  refine kk p l e R s m args below meth c H1 locs (cells + 1) (slots + N') ls hF (hH.new ?_ (by rw [z1, hsz]) (fun q hq => o1 q (by rw [← hsz]; exact hq)) hc hz) hL
  show H1[S.2.1]? = some (vp_cell _ _)
  rw [ha]
  exact e1
theorem am_newq {t N' ix : Nat} {C : String} {n : Int32} (hd : decode y.2.1 pc = .ok (.anewarray ix, 3)) (hw : Cond.classLink y.1.cls ix C ∈ am_tbl) (hw2 : C ∈ am_aos) (ht : am_tyl[t]? = some (.object C)) (hn : ¬ n < 0) (hN : n.toNatClampNeg = N') (hbytes : N' * 4 ≤ 536870912) (hc : S.2.1 + 1 ≤ g.2.2.2.1) (hz : S.2.2 + N' ≤ g.2.2.2.2.1)
    (kk : am_W g d y (pc + 3, L, .ref S.2.1 :: st) (am_up S.1 S.2.1 (.inl (t, N', .inr (.inr (.inr (.inr (fun _ => none)))))), S.2.1 + 1, S.2.2 + N') P) : am_W g d y (pc, L, .int n :: st) S P := by
  intro p l e R s m args below meth c H locs cells slots ls hF hH hL
  obtain ⟨hx, hb, -, -, -, hown, hts, -, -, hK, -⟩ := id hF
  obtain ⟨-, -, hsz, hS, -, hcs, hcs1, hss, hss1, -⟩ := id hH
  subst hN
  refine W.anew hx hb hown (hts _ hw) (va_AO.use (hF.2.2.2.2.2.2.2.2.2.2.2.2.2.2.2.2.2 C hw2)) rfl hd rfl hn hbytes (by omega) (by omega) fun cA kA comp f1 f2 f3 f4 => ?_
  obtain ⟨kA', comp', -, -, -, k4⟩ := (hK.2 t _ (am_tys_at ht)).2
  have hcA : cA = g.2.1 t := Option.some.inj (f1.symm.trans k4)
  subst hcA
  generalize hH1 : H.push ({ cls := g.2.1 t, slots := Array.replicate n.toNatClampNeg .null, vm := .none } : Cell) = H1
  have z1 : H1.size = H.size + 1 := by rw [← hH1, Array.size_push]
  have e1 : H1[H.size]? = some (arrV (g.2.1 t) n.toNatClampNeg (fun _ => .null)) := by rw [← hH1, Array.getElem?_push_size, ← arrV_new]
  have o1 : ∀ q : Nat, q < H.size → H1[q]? = H[q]? := fun q hq => by rw [← hH1, Array.getElem?_push, if_neg (Nat.ne_of_lt hq)]
  have e2 : F0 m (pc + 3) ls (.ref H.size :: st) = F0 m (pc + 3) ls (.ref S.2.1 :: st) := by rw [hsz]
  refine W.eq e2 (kk p l e R s m args below meth c H1 locs (cells + 1) (slots + n.toNatClampNeg) ls hF (hH.new ?_ z1 o1 hc hz) hL)
  show H1[S.2.1]? = some (vp_cell _ _)
  rw [← hsz, vp_cell_q]
  exact e1
/-- a class that can be made: its words -/
def am_nw (own : String) (ix ci : Nat) (fs : List Value) : Prop := ∃ (C : String) (T : u_T) (N : Nat) (ty : Nat → FieldType), am_cl[ci]? = some (C, T, N) ∧ (∀ w ∈ u_ws C T N, w ∈ am_tbl) ∧ (∀ k, k < N → parseFieldDescriptor (T k).2.2.1 = some (ty k)) ∧ Cond.classLink own ix C ∈ am_tbl ∧ Cond.instantiable C N ∈ am_tbl ∧ Cond.initialized C ∈ am_tbl ∧ (∀ j, j < N → defaultValue (ty j) = vp_V fs j) ∧ fs.length = N
theorem am_new {ix ci : Nat} {fs : List Value} (hd : decode y.2.1 pc = .ok (.new ix, 3)) (hw : am_nw y.1.cls ix ci fs) (hc : S.2.1 + 1 ≤ g.2.2.2.1) (hz : S.2.2 + fs.length ≤ g.2.2.2.2.1)
    (kk : am_W g d y (pc + 3, L, .ref S.2.1 :: st) (am_up S.1 S.2.1 (.inr (ci, fs)), S.2.1 + 1, S.2.2 + fs.length) P) : am_W g d y (pc, L, st) S P := by
  intro p l e R s m args below meth c H locs cells slots ls hF hH hL
  obtain ⟨hx, hb, -, -, -, hown, hts, -, -, hK, -⟩ := id hF
  obtain ⟨-, -, hsz, hS, -, hcs, hcs1, hss, hss1, -⟩ := id hH
  obtain ⟨C, T, N, ty, hcl, hin, hty, hl1, hl2, hl3, hdf, hlen⟩ := hw
  subst hlen
  have hKn := hK.1 ci _ hcl
  refine W.newcK hx hb hown (hts _ hl1) (hts _ hl2) (hts _ hl3) rfl hd (by omega) (by omega) hKn.2.1 hsz fun H1 kC hkC e1 z1 o1 => ?_
  exact kk p l e R s m args below meth c H1 locs (cells + 1) (slots + fs.length) ls hF (hH.new ⟨_, hcl, (u_born ty hts hin hKn hkC e1 hty).to hdf⟩ (by rw [z1, hsz]) (fun q hq => o1 q (by rw [← hsz]; exact hq)) hc hz) hL
/-- Object's constructor -/
theorem am_obj {ix a : Nat} (hd : decode y.2.1 pc = .ok (.invokespecial ix, 3)) (h1 : Cond.methodLink y.1.cls ix objectInit ∈ am_tbl) (h2 : Cond.instanceMethod objectInit ∈ am_tbl) (h3 : Cond.code objectInit ⟨#[0xb1]⟩ 1 none ∈ am_tbl) (hr : (st.map fun v => v.category).sum ≤ 8) (kk : am_W g d y (pc + 3, L, st) S P) : am_W g d y (pc, L, .ref a :: st) S P := by
  intro p l e R s m args below meth c H locs cells slots ls hF hH hL
  obtain ⟨hx, hb, -, -, -, hown, hts, -, -, hK, -⟩ := id hF
  have hfr : d + 6 ≤ R.frames := hF.2.2.2.2.2.2.2.2.2.2.1
  have hlo : 60 * d + 100 ≤ R.locals := hF.2.2.2.2.2.2.2.2.2.2.2.1
  refine W.objInit hx hb hown (hts _ h1) (hts _ h2) (hts _ h3) rfl (hL.1.1.trans hF.2.2.1.symm) rfl hd (by omega) ?_ (kk p l e R s m args below meth c H locs cells slots ls hF hH hL)
  show 2 * 0 + _ + 12 ≤ R.locals
  omega
theorem am_iret {v : Int32} (hd : decode y.2.1 pc = .ok (.ireturn, 1)) (hq : y.2.2.2.1 = some .int) (hP : P (.inl (some (.int v))) S) : am_W g d y (pc, L, [.int v]) S P := by
  intro p l e R s m args below meth c H locs cells slots ls hF hH hL
  obtain ⟨hx, hb, -, hr, -, -, -, hlocks, -⟩ := id hF
  intro T hT X
  obtain ⟨fs, hret, hrun, hended, hW, hframe⟩ := X.leave (v := (some (.int v))) (fun h => by rw [hr, hq] at h; cases h) hlocks
  have hmeth2 : T.vm.method? m = some meth := X.method'
  rw [hq] at hr
  refine ⟨T.setFrames fs, ?_, .inl (some (.int v)), S, locs, cells, slots, hP, hrun, hended, hW, hframe, by show am_Hp g S R s T.heap locs cells slots; rw [hT]; exact hH⟩
  jvm_step X.here [X.here.top, hx, hb, hd, hmeth2, hr, narrow]
  (try refine ⟨rfl, ?_⟩); (try refine ⟨rfl, ?_⟩)
  first | (intro acts; rw [hret _ acts rfl rfl rfl]) | rw [hret _ _ rfl rfl rfl]
  exact Steps.refl _
theorem am_zret {v : Int32} (hd : decode y.2.1 pc = .ok (.ireturn, 1)) (hq : y.2.2.2.1 = some .boolean) (hn : narrow .boolean (.int v) = .int v) (hP : P (.inl (some (.int v))) S) : am_W g d y (pc, L, [.int v]) S P := by
  intro p l e R s m args below meth c H locs cells slots ls hF hH hL
  obtain ⟨hx, hb, -, hr, -, -, -, hlocks, -⟩ := id hF
  intro T hT X
  obtain ⟨fs, hret, hrun, hended, hW, hframe⟩ := X.leave (v := (some (.int v))) (fun h => by rw [hr, hq] at h; cases h) hlocks
  have hmeth2 : T.vm.method? m = some meth := X.method'
  rw [hq] at hr
  refine ⟨T.setFrames fs, ?_, .inl (some (.int v)), S, locs, cells, slots, hP, hrun, hended, hW, hframe, by show am_Hp g S R s T.heap locs cells slots; rw [hT]; exact hH⟩
  jvm_step X.here [X.here.top, hx, hb, hd, hmeth2, hr, hn]
  (try refine ⟨rfl, ?_⟩); (try refine ⟨rfl, ?_⟩)
  first | (intro acts; rw [hret _ acts rfl rfl rfl]) | rw [hret _ _ rfl rfl rfl]
  exact Steps.refl _
theorem am_lret {v : Int64} (hd : decode y.2.1 pc = .ok (.lreturn, 1)) (hq : y.2.2.2.1 = some .long) (hP : P (.inl (some (.long v))) S) : am_W g d y (pc, L, [.long v]) S P := by
  intro p l e R s m args below meth c H locs cells slots ls hF hH hL
  obtain ⟨hx, hb, -, hr, -, -, -, hlocks, -⟩ := id hF
  intro T hT X
  obtain ⟨fs, hret, hrun, hended, hW, hframe⟩ := X.leave (v := (some (.long v))) (fun h => by rw [hr, hq] at h; cases h) hlocks
  have hmeth2 : T.vm.method? m = some meth := X.method'
  rw [hq] at hr
  refine ⟨T.setFrames fs, ?_, .inl (some (.long v)), S, locs, cells, slots, hP, hrun, hended, hW, hframe, by show am_Hp g S R s T.heap locs cells slots; rw [hT]; exact hH⟩
  jvm_step X.here [X.here.top, hx, hb, hd, hmeth2, hr, narrow]
  (try refine ⟨rfl, ?_⟩); (try refine ⟨rfl, ?_⟩)
  first | (intro acts; rw [hret _ acts rfl rfl rfl]) | rw [hret _ _ rfl rfl rfl]
  exact Steps.refl _
theorem am_vret  (hd : decode y.2.1 pc = .ok (.return_, 1)) (hq : y.2.2.2.1 = none) (hP : P (.inl none) S) : am_W g d y (pc, L, []) S P := by
  intro p l e R s m args below meth c H locs cells slots ls hF hH hL
  obtain ⟨hx, hb, -, hr, -, -, -, hlocks, -⟩ := id hF
  intro T hT X
  obtain ⟨fs, hret, hrun, hended, hW, hframe⟩ := X.leave (v := none) (fun h => rfl) hlocks
  have hmeth2 : T.vm.method? m = some meth := X.method'
  rw [hq] at hr
  refine ⟨T.setFrames fs, ?_, .inl none, S, locs, cells, slots, hP, hrun, hended, hW, hframe, by show am_Hp g S R s T.heap locs cells slots; rw [hT]; exact hH⟩
  jvm_step X.here [X.here.top, hx, hb, hd, hmeth2, hr]
  (try refine ⟨rfl, ?_⟩); (try refine ⟨rfl, ?_⟩)
  first | (intro acts; rw [hret _ acts rfl rfl rfl]) | rw [hret _ _ rfl rfl rfl]
  exact Steps.refl _
theorem am_aret {v : Nat} {C : String} (hd : decode y.2.1 pc = .ok (.areturn, 1)) (hq : y.2.2.2.1 = some (.object C)) (hP : P (.inl (some (.ref v))) S) : am_W g d y (pc, L, [.ref v]) S P := by
  intro p l e R s m args below meth c H locs cells slots ls hF hH hL
  obtain ⟨hx, hb, -, hr, -, -, -, hlocks, -⟩ := id hF
  intro T hT X
  obtain ⟨fs, hret, hrun, hended, hW, hframe⟩ := X.leave (v := (some (.ref v))) (fun h => by rw [hr, hq] at h; cases h) hlocks
  have hmeth2 : T.vm.method? m = some meth := X.method'
  rw [hq] at hr
  refine ⟨T.setFrames fs, ?_, .inl (some (.ref v)), S, locs, cells, slots, hP, hrun, hended, hW, hframe, by show am_Hp g S R s T.heap locs cells slots; rw [hT]; exact hH⟩
  jvm_step X.here [X.here.top, hx, hb, hd, hmeth2, hr]
  (try refine ⟨rfl, ?_⟩); (try refine ⟨rfl, ?_⟩)
  first | (intro acts; rw [hret _ acts rfl rfl rfl]) | rw [hret _ _ rfl rfl rfl]
  exact Steps.refl _
end AmRows
end
section
/-! calls: the callee's own judgement, whatever it is, is walked into and out of -/
/-- a method that may be called: its words -/
def am_ok (y : am_I) : Prop := plainFor y.1 = true ∧ y.2.2.1 ≤ 41 ∧ ((y.2.2.2.2 = [] ∧ Cond.code y.1 y.2.1 y.2.2.1 y.2.2.2.1 ∈ am_tbl) ∨ Cond.codeWith y.1 y.2.1 y.2.2.1 y.2.2.2.1 y.2.2.2.2 ∈ am_tbl)
/-- the locals at a method's entry -/
def am_ent (as : List Value) (n : Nat) : List (Option Value) := let l := as.flatMap (fun v => if v.category = 2 then [some v, none] else [some v]); l ++ List.replicate (n - l.length) none
theorem am_ent_at (as : List Value) : ∀ (i : Nat) (v : Value), (as.flatMap (fun v => if v.category = 2 then [some v, none] else [some v]))[i]? = some (some v) → (lg_sl as)[i]? = some (.val v) := by
  induction as with
  | nil => intro i v h; simp at h
  | cons a t ih =>
    intro i v h
    by_cases ha : a.category = 2
    · simp only [List.flatMap_cons, if_pos ha, lg_sl] at h ⊢
      match i, h with
      | 0, h => simp at h ⊢; exact h
      | 1, h => simp at h
      | i + 2, h =>
        simp only [List.cons_append, List.nil_append, List.getElem?_cons_succ] at h ⊢
        exact ih i v h
    · simp only [List.flatMap_cons, if_neg ha, lg_sl] at h ⊢
      match i, h with
      | 0, h => simp at h ⊢; exact h
      | i + 1, h =>
        simp only [List.cons_append, List.nil_append, List.getElem?_cons_succ] at h ⊢
        exact ih i v h
theorem am_ent_len (as : List Value) : (as.flatMap (fun v => if v.category = 2 then [some v, none] else [some v])).length = (lg_sl as).length := by
  induction as with
  | nil => rfl
  | cons a t ih =>
    simp only [List.flatMap_cons, lg_sl, List.length_append] at ih ⊢
    rw [ih]
    by_cases ha : a.category = 2 <;> simp [ha]
theorem am_ent_ls {as : List Value} {n : Nat} (h : (lg_sl as).length ≤ n) : am_Ls n (lg_sl as ++ List.replicate (n - (lg_sl as).length) Slot.unset).toArray (am_ent as n) := by
  have h1 := lv_entry as (n := n) h
  refine ⟨⟨h1.1, h1.2.1, fun q hq => absurd hq List.not_mem_nil⟩, fun i v hi => ?_⟩
  simp only [am_ent] at hi
  rcases Nat.lt_or_ge i (as.flatMap (fun (v : Value) => if v.category = 2 then [some v, none] else [some v])).length with hl | hl
  · rw [List.getElem?_append_left hl] at hi
    have h2 := am_ent_at as i v hi
    have hl2 : i < (lg_sl as).length := by rw [← am_ent_len]; exact hl
    simp only [List.getElem?_toArray]
    rw [List.getElem?_append_left hl2]
    exact h2
  · rw [List.getElem?_append_right hl] at hi
    have := List.mem_of_getElem? hi
    rw [List.mem_replicate] at this
    cases this.2
theorem am_ns {g : am_G} {S : am_S} {R : Room} {s : State} {H : Heap} {locs : List Loc} {cells slots : Nat} (h : am_Hp g S R s H locs cells slots) {q : Nat} {cell : Cell} (hq : g.2.2.1 ≤ q) (hc : H[q]? = some cell) : cell.vm.isStatics = false := by
  have hlt : q < S.2.1 := by rw [← h.2.2.1]; exact (Array.getElem?_eq_some_iff.mp hc).1
  obtain ⟨e, he⟩ := h.2.1 q hq hlt
  have h1 := (h.1 q e he).2
  cases e with
  | inl x =>
    have h1 : H[q]? = some (vp_cell (g.2.1 x.1) x.2) := h1
    rw [hc] at h1
    cases h1
    obtain ⟨t, n, f | f | f | f | f⟩ := x <;> rfl
  | inr o =>
    obtain ⟨r, -, cell', g1, -, g3, -⟩ := h1
    rw [hc] at g1
    cases g1
    rw [g3]; rfl
theorem am_St.into {p : Program} {l : Launch} {e : Env} {R : Room} {s : State} {m : MethodId} {args : Array Value} {below : List Frame} {meth : Method} {c : Code} {T : State} {locs : List Loc} {cells slots : Nat} {g : am_G} {S : am_S} {gg : JFrame} {mk : MethodId} {a : Array Value}
    (h : am_St g l s) (hH : am_Hp g S R s T.heap locs cells slots) (X : Stand p l e R s m args below meth c T locs cells slots) : am_St g l (T.calling gg mk a) := by
  obtain ⟨h1, h2, h3, h4, h5, h6⟩ := h
  have hal : s.vm.Alike (T.calling gg mk a).vm := X.warmed.alike
  have hk : ∀ q : Nat, q < s.heap.size → ¬ (am_A g) q → (T.calling gg mk a).heap[q]? = s.heap[q]? := hH.2.2.2.1.2.1
  exact ⟨h1, vx_Zq.moved hal (h2.kept hk), vx_Zq.moved hal (h3.kept hk), fun q hq => (h4 q hq).moved hal, fun q hq => by
    obtain ⟨a, ha⟩ := h5 q hq
    exact ⟨a, vk_R.warm (U := T.calling gg mk _) X.warmed ha⟩, fun C hC => (h6 C hC).moved hal⟩
section AmCalls
variable {p : Program} {l : Launch} {e : Env} {R : Room} {s : State} {m : MethodId} {args : Array Value} {below : List Frame} {meth : Method} {c : Code} {T : State} {locs : List Loc} {cells slots : Nat}
variable {g : am_G} {d : Nat} {y y' : am_I} {S : am_S} {P P' : am_O → am_S → Prop}
/-- the callee's frame, from the caller's -/
theorem am_Fx.into (hF : am_Fx g (d + 1) y p l R s m args meth c) (hH : am_Hp g S R s T.heap locs cells slots) (X : Stand p l e R s m args below meth c T locs cells slots) (hy : am_ok y') {mk : MethodId} (hn : s.methodNamed? y'.1 = some mk) (gg : JFrame) (a : Array Value) :
    ∃ (methk : Method) (ck : Code), T.vm.method? mk = some methk ∧ methk.code = some ck ∧ methk.locks = false ∧ T.plainMethod mk ∧ ck.maxLocals = y'.2.2.1 ∧ am_Fx g d y' p l { frames := R.frames - 1, cells := R.cells - cells, slots := R.slots - slots, locals := R.locals - 60 } (T.calling gg mk a) mk a methk ck := by
  obtain ⟨hx, -, -, -, -, -, hts, -, -, hK, hfr, hlo, hSt⟩ := hF
  obtain ⟨hp, hm45, hw⟩ := hy
  have hal : s.vm.Alike T.vm := X.warmed.alike
  have hts2 : ∀ w ∈ am_tbl, w.before a (T.calling gg mk a) = true := fun w hw => am_word (U := T.calling gg mk a) X.warmed (List.mem_filter.mp hw).2 (hts w hw)
  have hn2 : (T.calling gg mk a).methodNamed? y'.1 = some mk := X.named hn
  have key : ∃ (methk : Method) (ck : Code), (T.calling gg mk a).vm.method? mk = some methk ∧ methk.code = some ck ∧ ck.code = y'.2.1 ∧ ck.maxLocals = y'.2.2.1 ∧ methk.sig.returnType = y'.2.2.2.1 ∧ methk.locks = false ∧ ck.exceptionTable.toList.map (fun h => (h.startPc, h.endPc, h.handlerPc, h.catchType)) = y'.2.2.2.2 := by
    rcases hw with ⟨h1, h2⟩ | h2
    · obtain ⟨methk, ck, q1, q2, q3, q4, q5, q6, q7, -⟩ := Cond.code_spec hn2 (hts2 _ h2)
      refine ⟨methk, ck, q1, q2, q3, q4, q5, q6, ?_⟩
      have : ck.exceptionTable = #[] := by simpa using q7
      rw [this, h1]; rfl
    · obtain ⟨mk', methk, ck, q0, q1, q2, q3, q4, q5, q6, q7, -⟩ := Cond.codeWith_spec (hts2 _ h2)
      cases hn2.symm.trans q0
      exact ⟨methk, ck, q1, q2, q3, q4, q6, q7, q5⟩
  obtain ⟨methk, ck, q1, q2, q3, q4, q5, q6, q7⟩ := key
  have hpl : (T.calling gg mk a).plainMethod mk := State.plainMethod.of_named hp hn2 q1
  refine ⟨methk, ck, q1, q2, q6, hpl, q4, hx, q3, q4, q5, (name_of_methodNamed hn2 q1).1, findClass_of_methodNamed hn2, hts2, q6, q7, va_K.moved hal hK, by show d + 6 ≤ R.frames - 1; omega, by show 60 * d + 100 ≤ R.locals - 60; omega, am_St.into hSt hH X⟩
theorem am_Hp.into (hH : am_Hp g S R s T.heap locs cells slots) (X : Stand p l e R s m args below meth c T locs cells slots) (gg : JFrame) (mk : MethodId) (a : Array Value) (f lo : Nat) :
    am_Hp g S { frames := f, cells := R.cells - cells, slots := R.slots - slots, locals := lo } (T.calling gg mk a) T.heap [] 0 0 := by
  obtain ⟨h1, h2, h3, h4, h5, h6, h7, h8, h9, h10, h11, h12⟩ := id hH
  refine ⟨h1, h2, h3, va_S.rf, fun q cell hq hc => am_ns hH hq hc, by show S.2.1 + (R.cells - cells) = g.2.2.2.1 + 0; omega, Nat.zero_le _, by show S.2.2 + (R.slots - slots) = g.2.2.2.2.1 + 0; omega, Nat.zero_le _, Nat.le_trans h10 h4.1, ?_, h12⟩
  exact (va_X.moved (U := T.calling gg mk a) X.warmed.alike h11).kept (h4.2.1 _ (Nat.lt_of_lt_of_le h12 h10) (Nat.not_le.mpr h12))
theorem am_Hp.outOf {T2 : State} {S1 : am_S} {L : List Loc} {k j f lo : Nat} {gg : JFrame} {mk : MethodId} {a : Array Value} (hH : am_Hp g S R s T.heap locs cells slots) (h : am_Hp g S1 { frames := f, cells := R.cells - cells, slots := R.slots - slots, locals := lo } (T.calling gg mk a) T2.heap L k j) : am_Hp g S1 R s T2.heap (locs ++ L) (cells + k) (slots + j) := by
  obtain ⟨h1, h2, h3, h4, h5, h6, h7, h8, h9, h10, h11, h12⟩ := hH
  obtain ⟨i1, i2, i3, i4, i5, i6, i7, i8, i9, -⟩ := h
  have i6 : S1.2.1 + (R.cells - cells) = g.2.2.2.1 + k := i6
  have i7 : k ≤ R.cells - cells := i7
  have i8 : S1.2.2 + (R.slots - slots) = g.2.2.2.2.1 + j := i8
  have i9 : j ≤ R.slots - slots := i9
  have i4 : va_S (am_A g) T.heap T2.heap L := i4
  refine ⟨i1, i2, i3, ⟨Nat.le_trans h4.1 i4.1, fun q q1 q2 => (i4.2.1 q (Nat.lt_of_lt_of_le q1 h4.1) q2).trans (h4.2.1 q q1 q2), fun q hq => ?_⟩, h5, by omega, by omega, by omega, by omega, h10, h11, h12⟩
  rcases List.mem_append.mp hq with hq | hq
  · exact h4.2.2 q hq
  · exact i4.2.2 q hq
/-- into a callee, and out of it -/
theorem am_run (X : Stand p l e R s m args below meth c T locs cells slots) (hF : am_Fx g (d + 1) y p l R s m args meth c) (hH : am_Hp g S R s T.heap locs cells slots) (hy : am_ok y') {mk : MethodId} (hn : s.methodNamed? y'.1 = some mk) {gg : JFrame} (hg : gg.method = m) (hsize : gg.locals.size = c.maxLocals) (hmr : gg.monitorRoom = 0) {ig : Instr} {len : Nat} (hdg : decode c.code gg.pc = .ok (ig, len)) {as : List Value} (hlen : (lg_sl as).length ≤ y'.2.2.1) (hw : (gg.stack.map fun v => v.category).sum ≤ 8)
    (hc : am_W g d y' (0, am_ent as y'.2.2.1, []) S P') (acts : List Action) :
    ∃ (t : State), Steps p.tables e below (doInvoke e (T.setTop gg) acts mk as.toArray).1 t ∧
      ((∃ (v : Option Value) (S1 : am_S) (T2 : State) (L : List Loc) (k j : Nat), P' (.inl v) S1 ∧ Stand p l e R s m args below meth c T2 (locs ++ L) (cells + k) (slots + j) ∧ am_Hp g S1 R s T2.heap (locs ++ L) (cells + k) (slots + j) ∧ t = T2.setTop { gg with pc := gg.pc + len, stack := v.toList ++ gg.stack }) ∨
       (∃ (x : Nat) (S1 : am_S) (T2 : State) (L : List Loc) (k j : Nat), P' (.inr x) S1 ∧ Stand p l e R s m args below meth c T2 (locs ++ L) (cells + k) (slots + j) ∧ am_Hp g S1 R s T2.heap (locs ++ L) (cells + k) (slots + j) ∧ t = (T2.setTop gg).pushFrame (.throwing x))) := by
  obtain ⟨methk, ck, hmk, hck, hlk, hpk, hml, hFk⟩ := hF.into hH X hy hn gg as.toArray
  have hfr : d + 1 + 6 ≤ R.frames := hF.2.2.2.2.2.2.2.2.2.2.1
  have hlo : 60 * (d + 1) + 100 ≤ R.locals := hF.2.2.2.2.2.2.2.2.2.2.2.1
  have h45 := hy.2.1
  have hcl : cells ≤ R.cells := hH.2.2.2.2.2.2.1
  have hsl : slots ≤ R.slots := hH.2.2.2.2.2.2.2.2.1
  obtain ⟨Y0, hin⟩ := X.into hg hsize hdg as.toArray (R' := { frames := R.frames - 1, cells := R.cells - cells, slots := R.slots - slots, locals := R.locals - 60 }) hmk hck hlk hpk (by show R.frames - 1 + 1 ≤ R.frames; omega) (by rw [hmr, hml]; show 2 * 0 + _ + _ + (R.locals - 60) ≤ R.locals; omega) (by show cells + (R.cells - cells) ≤ R.cells; omega) (by show slots + (R.slots - slots) ≤ R.slots; omega)
  have hent : entryFrame mk as.toArray ck.maxLocals = F0 mk 0 ((lg_sl as ++ List.replicate (ck.maxLocals - (lg_sl as).length) Slot.unset).toArray) [] := lg_entry_eq mk as ck.maxLocals
  have hheap : ((T.setTop gg).pushFrame (.java (entryFrame mk as.toArray ck.maxLocals))).heap = T.heap := by simp [State.pushFrame, State.setFrames, State.setTop, State.modifyTopJava]
  obtain ⟨t, hst, o, S1, L, k, j, hP, hrun, hend, hW, hsame, hH1⟩ := hc p l e _ _ mk as.toArray (.java gg :: below) methk ck T.heap [] 0 0 _ hFk (hH.into X gg mk as.toArray _ _) (am_ent_ls hlen) _ hheap Y0
  refine ⟨t, ?_, ?_⟩
  · have h9 := Steps.weaken (mid := [.java gg]) hst
    rw [hml] at hent
    rw [hin acts]
    generalize (T.setTop gg).pushFrame (.java (entryFrame mk as.toArray ck.maxLocals)) = U9 at h9 ⊢
    rw [hml, hent]
    exact h9
  · cases o with
    | inl v =>
      obtain ⟨T2, X2, hW2, -, ht⟩ := X.outOf hg hdg hend hW hsame
      have hh : t.heap = T2.heap := by rw [ht]; simp [State.setTop, State.modifyTopJava]
      rw [hh] at hH1
      exact Or.inl ⟨v, S1, T2, L, k, j, hP, X2, hH.outOf hH1, ht⟩
    | inr x =>
      obtain ⟨T2, X2, hW2, -, ht⟩ := X.outOfThrown hg hend hW hsame
      have hh : t.heap = T2.heap := by rw [ht]; simp [State.pushFrame, State.setFrames, State.setTop, State.modifyTopJava]
      rw [hh] at hH1
      exact Or.inr ⟨x, S1, T2, L, k, j, hP, X2, hH.outOf hH1, ht⟩
end AmCalls
section AmCallRows
variable {g : am_G} {d : Nat} {y y' : am_I} {pc : Nat} {L : List (Option Value)} {st rest as : List Value} {S : am_S} {P P' : am_O → am_S → Prop}
/-- what happens to a throw that comes out of the call at pc: no handler there (nh), or one -/
def am_Cat (g : am_G) (d : Nat) (y : am_I) (pc : Nat) (L : List (Option Value)) (x : Nat) (S : am_S) (P : am_O → am_S → Prop) : Prop :=
  ∀ (p : Program) (l : Launch) (e : Env) (R : Room) (s : State) (m : MethodId) (args : Array Value) (below : List Frame) (meth : Method) (c : Code) (T : State) (locs : List Loc) (cells slots : Nat) (ls : Array Slot) (rest : List Value),
    am_Fx g d y p l R s m args meth c → am_Hp g S R s T.heap locs cells slots → am_Ls y.2.2.1 ls L → Stand p l e R s m args below meth c T locs cells slots →
    ∃ t, Steps p.tables e below ((T.setTop (F0 m pc ls rest)).pushFrame (.throwing x)) t ∧ am_Q g R s below P t
theorem am_catNo {x : Nat} (hh : y.2.2.2.2 = []) (hP : P (.inr x) S) : am_Cat g d y pc L x S P := by
  intro p l e R s m args below meth c T locs cells slots ls rest hF hH hL X
  have he : c.exceptionTable.toList.map (fun h => (h.startPc, h.endPc, h.handlerPc, h.catchType)) = [] := hF.2.2.2.2.2.2.2.2.1.trans hh
  have he2 : c.exceptionTable.toList = [] := List.map_eq_nil_iff.mp he
  obtain ⟨a1, a2, a3, a4, a5⟩ := X.leaveThrown x (g := F0 m pc ls rest) rfl rfl rfl (fun q hq => by rw [he2] at hq; cases hq) hF.2.2.2.2.2.2.2.1
  exact ⟨_, a1, .inr x, S, locs, cells, slots, hP, a2, a3, a4, a5, hH⟩
def am_cS (own : String) (ix : Nat) (y' : am_I) (n : Nat) : Prop := am_ok y' ∧ Cond.methodLink own ix y'.1 ∈ am_tbl ∧ Cond.static y'.1 ∈ am_tbl ∧ Cond.initialized y'.1.cls ∈ am_tbl ∧ (y'.1.cls ≠ "java/lang/invoke/MethodHandle" ∧ y'.1.cls ≠ "java/lang/invoke/VarHandle") ∧ ∃ sig, parseMethodDescriptor y'.1.desc = some sig ∧ sig.parameters.length = n
def am_cV (own : String) (ix : Nat) (y' : am_I) (ci n : Nat) : Prop := am_ok y' ∧ Cond.methodLink own ix y'.1 ∈ am_tbl ∧ Cond.instanceMethod y'.1 ∈ am_tbl ∧ Cond.selects y'.1.cls y'.1 y'.1 ∈ am_tbl ∧ (∃ (T : u_T) (N : Nat), am_cl[ci]? = some (y'.1.cls, T, N)) ∧ (y'.1.cls ≠ "java/lang/invoke/MethodHandle" ∧ y'.1.cls ≠ "java/lang/invoke/VarHandle") ∧ ∃ sig, parseMethodDescriptor y'.1.desc = some sig ∧ sig.parameters.length = n
def am_cI (own : String) (ix : Nat) (y' : am_I) (n : Nat) : Prop := am_ok y' ∧ y'.1.name = "<init>" ∧ y'.2.2.2.1 = none ∧ y'.2.2.2.2 = [] ∧ Cond.methodLink own ix y'.1 ∈ am_tbl ∧ Cond.instanceMethod y'.1 ∈ am_tbl ∧ Cond.code y'.1 y'.2.1 y'.2.2.1 none ∈ am_tbl ∧ (y'.1.cls ≠ "java/lang/invoke/MethodHandle" ∧ y'.1.cls ≠ "java/lang/invoke/VarHandle") ∧ ∃ sig, parseMethodDescriptor y'.1.desc = some sig ∧ sig.parameters.length = n
theorem am_callS {ix n : Nat} (as rest : List Value) (hd : decode y.2.1 pc = .ok (.invokestatic ix, 3)) (hc : am_cS y.1.cls ix y' n) (hn : as.length = n) (hst : st = as.reverse ++ rest) (hl : (lg_sl as).length ≤ y'.2.2.1) (hw : (rest.map fun v => v.category).sum ≤ 8)
    (hm : am_W g d y' (0, am_ent as y'.2.2.1, []) S P') (k : ∀ v S1, P' (.inl v) S1 → am_W g (d + 1) y (pc + 3, L, v.toList ++ rest) S1 P) (kt : ∀ x S1, P' (.inr x) S1 → am_Cat g (d + 1) y pc L x S1 P) : am_W g (d + 1) y (pc, L, st) S P := by
  intro p l e R s m args below meth c H locs cells slots ls hF hH hL T hT X
  obtain ⟨hx, hb, hml, -, -, hown, hts, -⟩ := id hF
  obtain ⟨hok, h1, h2, h3, h4, sig, h5, h6⟩ := hc
  subst hT
  subst hst
  have hnamed : ∃ mk, s.methodNamed? y'.1 = some mk := by
    rcases hok.2.2 with ⟨-, q⟩ | q
    · exact Cond.code_named (hts _ q)
    · obtain ⟨mk, _, _, q0, -⟩ := Cond.codeWith_spec (hts _ q); exact ⟨mk, q0⟩
  obtain ⟨mk, hnamed⟩ := hnamed
  obtain ⟨methM, hmethM, hsigM⟩ : ∃ methM, s.vm.method? mk = some methM ∧ parseMethodDescriptor y'.1.desc = some methM.sig := by
    rcases hok.2.2 with ⟨-, q⟩ | q
    · obtain ⟨methM, _, q1, -, -, -, -, -, -, q2⟩ := Cond.code_spec hnamed (hts _ q); exact ⟨methM, q1, q2⟩
    · obtain ⟨mk', methM, _, q0, q1, -, -, -, -, -, -, q2⟩ := Cond.codeWith_spec (hts _ q)
      cases hnamed.symm.trans q0
      exact ⟨methM, q1, q2⟩
  have hstatic : methM.isStatic = true := Cond.static_spec hnamed hmethM (hts _ h2)
  obtain ⟨kP, hkP, -⟩ := className_of_methodNamed hnamed
  have hinitP : kP.init = .initialized := Cond.initialized_spec (findClass_of_methodNamed hnamed) hkP (hts _ h3)
  have hlen : as.length = methM.sig.parameters.length := by
    rw [h5] at hsigM
    rw [← Option.some.inj hsigM, h6, hn]
  obtain ⟨vm1, X1, hstep⟩ := X.invokestatic hx hown (hts _ h1) hnamed hmethM hstatic hkP hinitP h4 (g := F0 m pc ls (as.reverse ++ rest)) rfl (argsL := as) (rest := rest) hlen rfl (by rw [hb]; exact hd)
  obtain ⟨t, hsteps, hr⟩ := am_run (T := T.setVm vm1) X1 hF hH hok hnamed (gg := F0 m pc ls rest) rfl (hL.1.1.trans hml.symm) rfl (ig := .invokestatic ix) (len := 3) (by rw [hb]; exact hd) hl hw hm []
  rcases hr with ⟨v, S1, T2, L2, k2, j2, hP1, X2, hH2, ht⟩ | ⟨x, S1, T2, L2, k2, j2, hP1, X2, hH2, ht⟩
  · obtain ⟨t2, a1, b1⟩ := k v S1 hP1 p l e R s m args below meth c T2.heap _ _ _ ls hF hH2 hL T2 rfl X2
    exact ⟨t2, hstep _ (fun acts => by rw [doInvoke_state]; exact hsteps.trans (by rw [ht]; exact a1)), b1⟩
  · obtain ⟨t2, a1, b1⟩ := kt x S1 hP1 p l e R s m args below meth c T2 _ _ _ ls rest hF hH2 hL X2
    exact ⟨t2, hstep _ (fun acts => by rw [doInvoke_state]; exact hsteps.trans (by rw [ht]; exact a1)), b1⟩
theorem am_callV {ix ci n b : Nat} {fs : List Value} (as rest : List Value) (hd : decode y.2.1 pc = .ok (.invokevirtual ix, 3)) (hc : am_cV y.1.cls ix y' ci n) (hM : S.1 b = some (.inr (ci, fs))) (hn : as.length = n) (hst : st = as.reverse ++ .ref b :: rest) (hl : (lg_sl (.ref b :: as)).length ≤ y'.2.2.1) (hw : (rest.map fun v => v.category).sum ≤ 8)
    (hm : am_W g d y' (0, am_ent (.ref b :: as) y'.2.2.1, []) S P') (k : ∀ v S1, P' (.inl v) S1 → am_W g (d + 1) y (pc + 3, L, v.toList ++ rest) S1 P) (kt : ∀ x S1, P' (.inr x) S1 → am_Cat g (d + 1) y pc L x S1 P) : am_W g (d + 1) y (pc, L, st) S P := by
  intro p l e R s m args below meth c H locs cells slots ls hF hH hL T hT X
  obtain ⟨hx, hb, hml, -, -, hown, hts, -, -, hK, -⟩ := id hF
  obtain ⟨hok, h1, h2, h3, ⟨TC, NC, hcl⟩, h4, sig, h5, h6⟩ := hc
  subst hT
  subst hst
  obtain ⟨mk, methM, hnamed, hmethM, hstM, habM⟩ := Cond.instanceMethod_spec (hts _ h2)
  obtain ⟨methM', hmethM', hsigM⟩ : ∃ methM, s.vm.method? mk = some methM ∧ parseMethodDescriptor y'.1.desc = some methM.sig := by
    rcases hok.2.2 with ⟨-, q⟩ | q
    · obtain ⟨methM, _, q1, -, -, -, -, -, -, q2⟩ := Cond.code_spec hnamed (hts _ q); exact ⟨methM, q1, q2⟩
    · obtain ⟨mk', methM, _, q0, q1, -, -, -, -, -, -, q2⟩ := Cond.codeWith_spec (hts _ q)
      cases hnamed.symm.trans q0
      exact ⟨methM, q1, q2⟩
  cases hmethM.symm.trans hmethM'
  obtain ⟨cellB, hcB, hoB, hclB⟩ := va_recv (q0 := 0) hK (hH.one hM) hcl rfl
  have hclB : s.vm.findClass y'.1.cls = some cellB.cls := hclB
  obtain ⟨c2, r2, m2, q1, q2, q3, q4, kP, hkP, hkPi⟩ := Cond.selects_spec (hts _ h3)
  cases hclB.symm.trans q1
  cases (State.methodFound?_of_named hnamed h4).symm.trans q2
  cases hnamed.symm.trans q3
  have hselP : selectMethod e.platform s.vm cellB.cls mk = .method mk := by rw [Launch.admits_selectMethod X.admits]; exact q4
  have hlen : as.length = methM.sig.parameters.length := by
    rw [h5] at hsigM
    rw [← Option.some.inj hsigM, h6, hn]
  obtain ⟨vm1, X1, hstep⟩ := X.invokevirtual hx hown (hts _ h1) hnamed hmethM hstM hkP hkPi h4 (a := b) (cell := cellB) hcB (fun z h => by rw [h] at hoB; cases hoB) hselP hmethM habM hkP hkPi (g := F0 m pc ls (as.reverse ++ .ref b :: rest)) rfl (argsL := as) (rest := rest) hlen rfl (by rw [hb]; exact hd)
  obtain ⟨t, hsteps, hr⟩ := am_run (T := T.setVm vm1) X1 hF hH hok hnamed (gg := F0 m pc ls rest) rfl (hL.1.1.trans hml.symm) rfl (ig := .invokevirtual ix) (len := 3) (by rw [hb]; exact hd) (as := .ref b :: as) hl hw hm []
  rcases hr with ⟨v, S1, T2, L2, k2, j2, hP1, X2, hH2, ht⟩ | ⟨x, S1, T2, L2, k2, j2, hP1, X2, hH2, ht⟩
  · obtain ⟨t2, a1, b1⟩ := k v S1 hP1 p l e R s m args below meth c T2.heap _ _ _ ls hF hH2 hL T2 rfl X2
    exact ⟨t2, hstep _ (fun acts => by rw [doInvoke_state]; exact hsteps.trans (by rw [ht]; exact a1)), b1⟩
  · obtain ⟨t2, a1, b1⟩ := kt x S1 hP1 p l e R s m args below meth c T2 _ _ _ ls rest hF hH2 hL X2
    exact ⟨t2, hstep _ (fun acts => by rw [doInvoke_state]; exact hsteps.trans (by rw [ht]; exact a1)), b1⟩
theorem am_callI {ix n b : Nat} (as rest : List Value) (hd : decode y.2.1 pc = .ok (.invokespecial ix, 3)) (hc : am_cI y.1.cls ix y' n) (hn : as.length = n) (hst : st = as.reverse ++ .ref b :: rest) (hl : (lg_sl (.ref b :: as)).length ≤ y'.2.2.1) (hw : (rest.map fun v => v.category).sum ≤ 8)
    (hm : am_W g d y' (0, am_ent (.ref b :: as) y'.2.2.1, []) S P') (k : ∀ v S1, P' (.inl v) S1 → am_W g (d + 1) y (pc + 3, L, v.toList ++ rest) S1 P) (kt : ∀ x S1, P' (.inr x) S1 → am_Cat g (d + 1) y pc L x S1 P) : am_W g (d + 1) y (pc, L, st) S P := by
  intro p l e R s m args below meth c H locs cells slots ls hF hH hL T hT X
  obtain ⟨hx, hb, hml, -, -, hown, hts, -, -, hK, -⟩ := id hF
  obtain ⟨hok, hin1, hrt, hhs, h1, h2, h3, h4, sig, h5, h6⟩ := hc
  subst hT
  subst hst
  have hpl : e.platform.magicAccessors = ({} : Platform).magicAccessors := by rw [X.admits.platform]
  obtain ⟨mk, methM, cM, kP, vm1, hnamed, hmethM, hcodeM, -, hlocalsM, -, hkP, -, hW1, hstep⟩ := Steps.initColdArgs (e := e) X.here hx X.warmed hpl hown hin1 h4 (hts _ h1) (hts _ h2) (hts _ h3) (f := F0 m pc ls (as.reverse ++ .ref b :: rest)) rfl (argsL := as) (rest := rest) (fun sg hs => by rw [h5] at hs; rw [← Option.some.inj hs, h6, hn]) rfl (by rw [hb]; exact hd)
  have X1 := X.noted hW1
  obtain ⟨t, hsteps, hr⟩ := am_run (T := T.setVm vm1) X1 hF hH hok hnamed (gg := F0 m pc ls rest) rfl (hL.1.1.trans hml.symm) rfl (ig := .invokespecial ix) (len := 3) (by rw [hb]; exact hd) (as := .ref b :: as) hl hw hm []
  rcases hr with ⟨v, S1, T2, L2, k2, j2, hP1, X2, hH2, ht⟩ | ⟨x, S1, T2, L2, k2, j2, hP1, X2, hH2, ht⟩
  · obtain ⟨t2, a1, b1⟩ := k v S1 hP1 p l e R s m args below meth c T2.heap _ _ _ ls hF hH2 hL T2 rfl X2
    exact ⟨t2, hstep _ (fun acts => by rw [doInvoke_state]; exact hsteps.trans (by rw [ht]; exact a1)), b1⟩
  · obtain ⟨t2, a1, b1⟩ := kt x S1 hP1 p l e R s m args below meth c T2 _ _ _ ls rest hF hH2 hL X2
    exact ⟨t2, hstep _ (fun acts => by rw [doInvoke_state]; exact hsteps.trans (by rw [ht]; exact a1)), b1⟩
end AmCallRows
end
section
/-! throws: 'throw new E("..")' leaves the method; a handler of the caller takes it -/
section AmThrow
variable {g : am_G} {d : Nat} {y : am_I} {pc : Nat} {L : List (Option Value)} {st : List Value} {S : am_S} {P : am_O → am_S → Prop}
/-- the words of a throw at the pool's places ik (class), is (text), ic (constructor) -/
def am_tw (own : String) (ik is ic : Nat) (cls text : String) (names : List String) (ci : Nat) : Prop :=
  Bundle.fit cls = true ∧ (∀ n ∈ names, Bundle.fit n = true) ∧ names.length ≤ 2 ∧ Cond.classLink own ik cls ∈ am_tbl ∧ Cond.initialized cls ∈ am_tbl ∧ (own, is, text) ∈ am_strs ∧ (∀ w ∈ vx_atS own ic cls names, w ∈ am_tbl) ∧ (∀ w ∈ Cond.classLink own ik cls :: Cond.initialized cls :: vx_atS own ic cls names, vx_ot w = true) ∧ ∃ T : u_T, am_cl[ci]? = some (cls, T, 0)
theorem am_thr {ik is ic ci : Nat} {cls text : String} {names : List String} (d0 : decode y.2.1 pc = .ok (.new ik, 3)) (d3 : decode y.2.1 (pc + 3) = .ok (.dup, 1)) (d4 : decode y.2.1 (pc + 4) = .ok (.ldc is, 2)) (d6 : decode y.2.1 (pc + 6) = .ok (.invokespecial ic, 3)) (d9 : decode y.2.1 (pc + 9) = .ok (.athrow, 1)) (hw : am_tw y.1.cls ik is ic cls text names ci) (hh : y.2.2.2.2 = []) (hst : (st.map fun v => v.category).sum ≤ 8) (hc : S.2.1 + 1 ≤ g.2.2.2.1) (hz : S.2.2 + 6 ≤ g.2.2.2.2.1)
    (hP : P (.inr S.2.1) (am_up S.1 S.2.1 (.inr (ci, [])), S.2.1 + 1, S.2.2 + 6)) : am_W g d y (pc, L, st) S P := by
  intro p l e R s m args below meth c H locs cells slots ls hF hH hL T hT X
  obtain ⟨hx, hb, hml, -, -, hown, hts, hlocks, hex, hK, hfr, hlo, hl, hU, hN, -, hstrs, -⟩ := id hF
  obtain ⟨hM, htot, hsz, hS, hns, hcs, hcs1, hss, hss1, hbs, hX, hbb⟩ := id hH
  obtain ⟨hcls, hnames, hn3, w1, w2, w3, w4, hgood, TC, hcl⟩ := hw
  obtain ⟨sa, hstr⟩ := hstrs _ w3
  have hstr : vk_R y.1.cls is text sa s := hstr
  have hno : c.exceptionTable.toList = [] := List.map_eq_nil_iff.mp (hex.trans hh)
  have hsize : ls.size = c.maxLocals := hL.1.1.trans hml.symm
  have htr : e.platform.stackTraces = false := (show e.platform.stackTraces = l.stackTraces by rw [X.admits.platform]).trans hl
  have Y := vx_rebase X (R' := { frames := R.frames, locals := R.locals, cells := 1, slots := 6 }) (Nat.le_refl _) (Nat.le_refl _) (by show cells + 1 ≤ R.cells; omega) (by show slots + 6 ≤ R.slots; omega)
  obtain ⟨u, hA⟩ : ∃ z, z = (T.setVm s.vm).setFrames (.invoking m args :: below) := ⟨_, rfl⟩
  rw [← hA] at Y
  have hvm : u.vm = s.vm := by rw [hA]; rfl
  have hhp : u.heap = H := by rw [hA]; exact hT
  have hW0 : s.WarmedH u.vm := by rw [hvm]; exact State.WarmedH.refl s
  have wd : ∀ w ∈ Cond.classLink y.1.cls ik cls :: Cond.initialized cls :: vx_atS y.1.cls ic cls names, w.before args s = true → w.before args u = true := fun w hw => vx_ot_at hW0 hvm.symm (hgood w hw)
  have hU2 : vx_Zq Bundle.tN "UNASSIGNED_STACK" Bundle.steD (am_A g) u u.heap := by rw [hhp]; exact vx_Zq.moved hW0.alike (hU.kept hS.2.1)
  have hN2 : vx_Zq Bundle.tN "SUPPRESSED_SENTINEL" Bundle.listD (am_A g) u u.heap := by rw [hhp]; exact vx_Zq.moved hW0.alike (hN.kept hS.2.1)
  have hall : ∀ w ∈ Bundle.ownAtoms y.1.cls ic cls names, w.before args u = true := vx_own (fun w hw => wd w (List.mem_cons_of_mem _ (List.mem_cons_of_mem _ hw)) (hts w (w4 w hw))) (vx_isRefq hU2.1) (vx_isRefq hN2.1) hU2.2.word hN2.2.word
  have hown2 : u.vm.findClass y.1.cls = some m.cls := by rw [hvm]; exact hown
  obtain ⟨vm1, cX, kX, hfX, hkX, -, -, X1, st1⟩ := Y.newCold hx (own := y.1.cls) (C := cls) (index := ik) (n := 6) hown2 (wd _ List.mem_cons_self (hts _ w1)) (hall _ (by simp [Bundle.ownAtoms])) (wd _ (List.mem_cons_of_mem _ List.mem_cons_self) (hts _ w2)) (g := F0 m pc ls st) rfl (by rw [hb]; exact d0) (Nat.le_refl _) (Nat.le_refl _)
  generalize hT1 : (T.setVm vm1).pushCell { cls := cX, slots := kX.instanceTypes.map defaultValue, vm := .none } = T1 at X1 st1
  have hTs : T.heap.size = S.2.1 := by rw [hT]; exact hsz
  have hcat : (Value.ref T.heap.size).category = 1 := rfl
  have hcellA : T1.heap[T.heap.size]? = some (freshCell cX kX) := by rw [← hT1]; exact State.heap_pushCell_size _ _
  have d3c : decode c.code (pc + 3) = .ok (.dup, 1) := by rw [hb]; exact d3
  have d4c : decode c.code (pc + 4) = .ok (.ldc is, 2) := by rw [hb]; exact d4
  have hstr2 : vk_R y.1.cls is text sa u := vk_R.warm hW0 hstr
  obtain ⟨U, hsteps, hrun, hend, hWu, hsame, ce, hce, hO⟩ := X1.ctorThrowS hx htr (own := y.1.cls) (cls := cls) (names := names) (ic := ic) hown2 hcls hnames hall (fun x hx => nomatch hx) hfX hkX hcellA (by rw [hhp, hT]; exact Nat.le_refl _) (msg := .ref sa) rfl
    (g := { method := m, pc := pc + 6, locals := ls, stack := .ref sa :: .ref T.heap.size :: .ref T.heap.size :: st, locked := none }) rfl hsize rfl rfl (rest := st) rfl (by rw [hb]; exact d6) (by rw [hb]; exact d9) (fun x hx => by rw [hno] at hx; cases hx) (by show names.length + 3 < R.frames; omega)
    (by simp only [List.map_cons, List.sum_cons, hcat]; show 2 * 0 + _ + _ ≤ R.locals; omega) hlocks
  obtain ⟨f1, f2⟩ := vx_frame hsame
  rw [hhp] at f1 f2
  have hWs : s.WarmedH U.vm := State.WarmedH.trans hW0 hWu
  have hcc : s.vm.findClass cls = some ce.cls := by
    have h9 := hO.cls
    rw [hvm] at h9
    exact h9
  have hUs : U.heap.size = H.size + 1 := by
    have h1 : U.heap.size ≤ u.heap.size + 1 := hsame.2.2.1
    have h2 : T.heap.size < U.heap.size := (Array.getElem?_eq_some_iff.mp hce).1
    rw [hhp] at h1
    rw [hT] at h2
    omega
  have hsn : s.sameButNew ({ U with vm := s.vm } : State) locs (cells + 1) (slots + 6) := by
    subst hA
    obtain ⟨e1, e2⟩ := hsame
    rw [State.setFrames_setFrames] at e1
    have h2 : (T.setVm s.vm).sameButNew ({ U with vm := s.vm } : State) [] (0 + 1) (0 + 6) := ⟨e1, e2⟩
    have h3 := X.same.trans h2
    rw [List.append_nil] at h3
    exact h3.mono (by omega) (by omega)
  refine ⟨U, ?_, .inr S.2.1, _, locs, cells + 1, slots + 6, hP, hrun, by rw [← hTs]; exact hend, hWs, hsn, ?_⟩
  · refine st1 _ ?_
    show Steps p.tables e below (T1.setTop { method := m, pc := pc + 3, locals := ls, stack := .ref T.heap.size :: st, locked := none }) _
    jvm_step X1.here [X1.here.top, hx, d3c, Value.category]
    exact X1.ldcString hx (own := y.1.cls) (text := text) (index := is) (a := sa) hown2 hstr2.1 hstr2.2 (g := { method := m, pc := pc + 4, locals := ls, stack := .ref T.heap.size :: .ref T.heap.size :: st, locked := none }) rfl d4c _ hsteps
  · refine hH.new ⟨_, hcl, ce, ?_, ?_, hO.vm, fun k hk => absurd hk (Nat.not_lt_zero k)⟩ hUs (fun q hq => f2 q hq (fun z hz => nomatch hz)) hc hz
    · show U.heap[S.2.1]? = some ce
      rw [← hTs]; exact hce
    · exact Option.some.inj (hcc.symm.trans (hK.1 ci _ hcl).2.1)
/-- taken by a handler -/
theorem am_catYes {x ci h0 e0 hp ct : Nat} {fs : List Value} {E name : String} {pre suf : List (Nat × Nat × Nat × Nat)} (hh : y.2.2.2.2 = pre ++ (h0, e0, hp, ct) :: suf) (hpre : ∀ z ∈ pre, (z.2.2.2 ≠ 0 ∧ ∃ nm : String, Cond.classLink y.1.cls z.2.2.2 nm ∈ am_tbl ∧ (E, nm) ∈ am_ncl)) (hc : h0 ≤ pc ∧ pc < e0) (hct : ct ≠ 0) (hl : Cond.classLink y.1.cls ct name ∈ am_tbl) (hca : Cond.castable E name ∈ am_tbl) (hM : S.1 x = some (.inr (ci, fs))) (hcl : ∃ (T : u_T) (N : Nat), am_cl[ci]? = some (E, T, N)) (k : am_W g d y (hp, L, [.ref x]) S P) : am_Cat g d y pc L x S P := by
  intro p l e R s m args below meth c T locs cells slots ls rest hF hH hL X
  obtain ⟨hx, hb, hml, -, -, hown, hts, hlocks, hex, hK, hfr, hlo, -, -, -, hnc, -⟩ := id hF
  obtain ⟨TC, NC, hcl⟩ := hcl
  have hsp : c.exceptionTable.toList = (pre.map (fun q => (⟨q.1, q.2.1, q.2.2.1, q.2.2.2⟩ : ExceptionTableEntry))) ++ ⟨h0, e0, hp, ct⟩ :: suf.map (fun q => (⟨q.1, q.2.1, q.2.2.1, q.2.2.2⟩ : ExceptionTableEntry)) := by
    have h1 : (c.exceptionTable.toList.map (fun h => (h.startPc, h.endPc, h.handlerPc, h.catchType))).map (fun q => (⟨q.1, q.2.1, q.2.2.1, q.2.2.2⟩ : ExceptionTableEntry)) = c.exceptionTable.toList := by
      rw [List.map_map]
      exact List.map_id _
    rw [← h1, hex, hh]
    simp
  obtain ⟨r, h1, cell, q1, q2, q3, -⟩ := (hH.1 x _ hM).2
  have hr : r = (E, TC, NC) := Option.some.inj (h1.symm.trans hcl)
  subst hr
  have hcc : s.vm.findClass E = some cell.cls := by rw [q2]; exact (hK.1 ci _ hcl).2.1
  have key := vx_catch (Q := am_Q g R s below P) (locs := locs) (cells := cells) (slots := slots) (ls := ls) (rest := rest) (H := T.heap) (l := l) (R := R) (p := p) (e := e) (below := below) (meth := meth) (pc := pc) hown _ _ _ hsp (fun z hz => by
      obtain ⟨z0, hz0, rfl⟩ := List.mem_map.mp hz
      obtain ⟨hz1, nm, hz2, hz3⟩ := hpre z0 hz0
      exact Or.inr ⟨hz1, nm, hts _ hz2, hnc _ hz3⟩) (by simp [covers, hc.1, hc.2]) hct (hts _ hl) (hts _ hca) q1 q3 hcc (k p l e R s m args below meth c T.heap locs cells slots ls hF hH hL)
  exact key T rfl X
end AmThrow
end
section
/-! methods; the words of fields, calls, throws -/
def mm_X_init : am_I := (⟨"StrideViews", "<init>", "()V"⟩, prog_1_method_1_code, 1, none, [])
def mm_L_store : am_I := (⟨"StrideViewsLaw", "store", "(LStrideViews;II[J)I"⟩, method_3_code, 5, (some .int), [(0, 10, 13, 13), (0, 10, 17, 15)])
def mm_X_store : am_I := (⟨"StrideViews", "store", "(II)I"⟩, prog_1_method_2_code, 5, (some .int), [])
def mm_X_needLane : am_I := (⟨"StrideViews", "needLane", "(I)V"⟩, prog_1_method_25_code, 1, none, [])
def mm_X_needRoomForStore : am_I := (⟨"StrideViews", "needRoomForStore", "()V"⟩, prog_1_method_30_code, 1, none, [])
def mm_S_init : am_I := (⟨"StrideViews$Store", "<init>", "(III)V"⟩, prog_2_method_1_code, 4, none, [])
def mm_V_init : am_I := (⟨"StrideViews$View", "<init>", "(LStrideViews$Store;I)V"⟩, prog_3_method_1_code, 3, none, [])
def mm_V_insert : am_I := (⟨"StrideViews$View", "insert", "(III)V"⟩, prog_3_method_3_code, 5, none, [])
def mm_X_keepStore : am_I := (⟨"StrideViews", "keepStore", "(LStrideViews$Store;)V"⟩, prog_1_method_31_code, 2, none, [])
def mm_X_keepView : am_I := (⟨"StrideViews", "keepView", "(LStrideViews$View;)I"⟩, prog_1_method_32_code, 2, (some .int), [])
def mm_V_settle : am_I := (⟨"StrideViews$View", "settle", "()V"⟩, prog_3_method_8_code, 2, none, [])
def mm_V_itemsBut : am_I := (⟨"StrideViews$View", "itemsBut", "(I)I"⟩, prog_3_method_9_code, 5, (some .int), [])
def mm_L_slice : am_I := (⟨"StrideViewsLaw", "slice", "(LStrideViews;IIIII[J)I"⟩, method_4_code, 8, (some .int), [(0, 16, 19, 21), (0, 16, 23, 13), (0, 16, 27, 15)])
def mm_X_slice : am_I := (⟨"StrideViews", "slice", "(IIIII)I"⟩, prog_1_method_3_code, 8, (some .int), [])
def mm_X_viewAt : am_I := (⟨"StrideViews", "viewAt", "(I)LStrideViews$View;"⟩, prog_1_method_22_code, 2, (some (.object "StrideViews$View")), [])
def mm_X_needAxis : am_I := (⟨"StrideViews", "needAxis", "(LStrideViews$View;I)V"⟩, prog_1_method_23_code, 2, none, [])
def mm_X_needPart : am_I := (⟨"StrideViews", "needPart", "(IIII)V"⟩, prog_1_method_26_code, 6, none, [])
def mm_V_twin : am_I := (⟨"StrideViews$View", "twin", "()LStrideViews$View;"⟩, prog_3_method_2_code, 3, (some (.object "StrideViews$View")), [])
def mm_L_pick : am_I := (⟨"StrideViewsLaw", "pick", "(LStrideViews;III[J)I"⟩, method_5_code, 6, (some .int), [(0, 12, 15, 21), (0, 12, 19, 15)])
def mm_X_pick : am_I := (⟨"StrideViews", "pick", "(III)I"⟩, prog_1_method_4_code, 6, (some .int), [])
def mm_V_remove : am_I := (⟨"StrideViews$View", "remove", "(I)V"⟩, prog_3_method_4_code, 3, none, [])
def mm_L_turn : am_I := (⟨"StrideViewsLaw", "turn", "(LStrideViews;III[J)I"⟩, method_6_code, 6, (some .int), [(0, 12, 15, 21), (0, 12, 19, 15)])
def mm_X_turn : am_I := (⟨"StrideViews", "turn", "(III)I"⟩, prog_1_method_5_code, 6, (some .int), [])
def mm_L_spread : am_I := (⟨"StrideViewsLaw", "spread", "(LStrideViews;III[J)I"⟩, method_7_code, 6, (some .int), [(0, 12, 15, 21), (0, 12, 19, 13), (0, 12, 23, 15)])
def mm_X_spread : am_I := (⟨"StrideViews", "spread", "(III)I"⟩, prog_1_method_6_code, 6, (some .int), [])
def mm_L_diagonal : am_I := (⟨"StrideViewsLaw", "diagonal", "(LStrideViews;III[J)I"⟩, method_8_code, 6, (some .int), [(0, 12, 15, 21), (0, 12, 19, 13), (0, 12, 23, 15)])
def mm_X_diagonal : am_I := (⟨"StrideViews", "diagonal", "(III)I"⟩, prog_1_method_7_code, 6, (some .int), [])
def mm_L_shape : am_I := (⟨"StrideViewsLaw", "shape", "(LStrideViews;IIII[J)I"⟩, method_9_code, 7, (some .int), [(0, 14, 17, 21), (0, 14, 21, 13), (0, 14, 25, 15)])
def mm_X_shape : am_I := (⟨"StrideViews", "shape", "(IIII)I"⟩, prog_1_method_8_code, 7, (some .int), [])
def mm_V_addUnlessNone : am_I := (⟨"StrideViews$View", "addUnlessNone", "(I)V"⟩, prog_3_method_5_code, 2, none, [])
def mm_X_layOut : am_I := (⟨"StrideViews", "layOut", "(LStrideViews$View;LStrideViews$View;)V"⟩, prog_1_method_33_code, 9, none, [])
def mm_X_guessSteps : am_I := (⟨"StrideViews", "guessSteps", "(LStrideViews$View;)V"⟩, prog_1_method_36_code, 4, none, [])
def mm_X_liesAsLaidOut : am_I := (⟨"StrideViews", "liesAsLaidOut", "(LStrideViews$View;)Z"⟩, prog_1_method_37_code, 3, (some .boolean), [])
def mm_V_placeOf : am_I := (⟨"StrideViews$View", "placeOf", "(I)I"⟩, prog_3_method_13_code, 6, (some .int), [])
def mm_L_compact : am_I := (⟨"StrideViewsLaw", "compact", "(LStrideViews;II[J)I"⟩, method_10_code, 5, (some .int), [(0, 10, 13, 21), (0, 10, 17, 13), (0, 10, 21, 15)])
def mm_X_compact : am_I := (⟨"StrideViews", "compact", "(II)I"⟩, prog_1_method_9_code, 7, (some .int), [])
def mm_X_needFewNumbers : am_I := (⟨"StrideViews", "needFewNumbers", "(I)V"⟩, prog_1_method_29_code, 1, none, [])
def mm_V_addExtentsBut : am_I := (⟨"StrideViews$View", "addExtentsBut", "(LStrideViews$View;I)V"⟩, prog_3_method_6_code, 4, none, [])
def mm_V_lieInOrder : am_I := (⟨"StrideViews$View", "lieInOrder", "()V"⟩, prog_3_method_7_code, 3, none, [])
def mm_X_readItems : am_I := (⟨"StrideViews", "readItems", "(LStrideViews$View;LStrideViews$View;)V"⟩, prog_1_method_34_code, 4, none, [])
def mm_X_writeItems : am_I := (⟨"StrideViews", "writeItems", "(LStrideViews$View;)I"⟩, prog_1_method_35_code, 6, (some .int), [])
def mm_S_lowestBits : am_I := (⟨"StrideViews$Store", "lowestBits", "(J)J"⟩, prog_2_method_2_code, 3, (some .long), [])
def mm_L_at : am_I := (⟨"StrideViewsLaw", "at", "(LStrideViews;II[J)I"⟩, method_11_code, 5, (some .int), [(0, 9, 12, 21)])
def mm_X_at : am_I := (⟨"StrideViews", "at", "(II)J"⟩, prog_1_method_10_code, 4, (some .long), [])
def mm_X_needItem : am_I := (⟨"StrideViews", "needItem", "(LStrideViews$View;I)V"⟩, prog_1_method_24_code, 2, none, [])
def mm_L_put : am_I := (⟨"StrideViewsLaw", "put", "(LStrideViews;IIJ[J)I"⟩, method_12_code, 7, (some .int), [(0, 11, 14, 21), (0, 11, 18, 15)])
def mm_X_put : am_I := (⟨"StrideViews", "put", "(IIJ)J"⟩, prog_1_method_11_code, 9, (some .long), [])
def mm_X_needFree : am_I := (⟨"StrideViews", "needFree", "(LStrideViews$View;)V"⟩, prog_1_method_28_code, 1, none, [])
def mm_V_isFixed : am_I := (⟨"StrideViews$View", "isFixed", "()Z"⟩, prog_3_method_10_code, 2, (some .boolean), [])
def mm_L_copy : am_I := (⟨"StrideViewsLaw", "copy", "(LStrideViews;II[J)I"⟩, method_13_code, 5, (some .int), [(0, 10, 13, 21), (0, 10, 17, 13), (0, 10, 21, 15)])
def mm_X_copy : am_I := (⟨"StrideViews", "copy", "(II)I"⟩, prog_1_method_12_code, 5, (some .int), [])
def mm_X_needGoing : am_I := (⟨"StrideViews", "needGoing", "(LStrideViews$View;LStrideViews$View;)V"⟩, prog_1_method_27_code, 2, none, [])
def mm_V_goesTo : am_I := (⟨"StrideViews$View", "goesTo", "(LStrideViews$View;)Z"⟩, prog_3_method_11_code, 4, (some .boolean), [])
def mm_L_act : am_I := (⟨"StrideViewsLaw", "act", "(LStrideViews;IIII[J)I"⟩, method_14_code, 7, (some .int), [(0, 14, 17, 21), (0, 14, 21, 13), (0, 14, 25, 15)])
def mm_X_act : am_I := (⟨"StrideViews", "act", "(IIII)I"⟩, prog_1_method_13_code, 9, (some .int), [])
def mm_X_reckon : am_I := (⟨"StrideViews", "reckon", "(IJJ)J"⟩, prog_1_method_40_code, 5, (some .long), [])
def mm_L_fold : am_I := (⟨"StrideViewsLaw", "fold", "(LStrideViews;III[J)I"⟩, method_15_code, 6, (some .int), [(0, 12, 15, 21), (0, 12, 19, 13), (0, 12, 23, 15)])
def mm_X_fold : am_I := (⟨"StrideViews", "fold", "(III)I"⟩, prog_1_method_14_code, 8, (some .int), [])
def mm_X_foldInto : am_I := (⟨"StrideViews", "foldInto", "(LStrideViews$Store;ILStrideViews$View;LStrideViews$View;I)V"⟩, prog_1_method_38_code, 8, none, [])
def mm_X_neutral : am_I := (⟨"StrideViews", "neutral", "(I)J"⟩, prog_1_method_41_code, 1, (some .long), [])
def mm_L_shared : am_I := (⟨"StrideViewsLaw", "shared", "(LStrideViews;II[J)I"⟩, method_16_code, 5, (some .int), [(0, 10, 13, 21)])
def mm_X_shared : am_I := (⟨"StrideViews", "shared", "(II)I"⟩, prog_1_method_15_code, 7, (some .int), [])
def mm_X_clearMarks : am_I := (⟨"StrideViews", "clearMarks", "()V"⟩, prog_1_method_39_code, 2, none, [])
def mm_L_same : am_I := (⟨"StrideViewsLaw", "same", "(LStrideViews;II[J)I"⟩, method_17_code, 5, (some .int), [(0, 17, 20, 21)])
def mm_X_same : am_I := (⟨"StrideViews", "same", "(II)Z"⟩, prog_1_method_16_code, 6, (some .boolean), [])
def mm_V_hasExtentsOf : am_I := (⟨"StrideViews$View", "hasExtentsOf", "(LStrideViews$View;)Z"⟩, prog_3_method_12_code, 3, (some .boolean), [])
def mm_L_runs : am_I := (⟨"StrideViewsLaw", "runs", "(LStrideViews;I[J)I"⟩, method_18_code, 4, (some .int), [(0, 9, 12, 21)])
def mm_X_runs : am_I := (⟨"StrideViews", "runs", "(I)I"⟩, prog_1_method_17_code, 5, (some .int), [])
def mm_L_told : am_I := (⟨"StrideViewsLaw", "told", "(LStrideViews;II[J)I"⟩, method_19_code, 5, (some .int), [(0, 10, 13, 21), (0, 10, 17, 13)])
def mm_X_told : am_I := (⟨"StrideViews", "told", "(II)I"⟩, prog_1_method_18_code, 4, (some .int), [])
def mm_V_leastPlace : am_I := (⟨"StrideViews$View", "leastPlace", "()I"⟩, prog_3_method_14_code, 3, (some .int), [])
def mm_V_greatestPlace : am_I := (⟨"StrideViews$View", "greatestPlace", "()I"⟩, prog_3_method_15_code, 3, (some .int), [])
def mm_L_axis : am_I := (⟨"StrideViewsLaw", "axis", "(LStrideViews;III[J)I"⟩, method_20_code, 6, (some .int), [(0, 12, 15, 21), (0, 12, 19, 13)])
def mm_X_axis : am_I := (⟨"StrideViews", "axis", "(III)I"⟩, prog_1_method_19_code, 5, (some .int), [])
def mm_L_stored : am_I := (⟨"StrideViewsLaw", "stored", "(LStrideViews;II[J)I"⟩, method_21_code, 5, (some .int), [(0, 10, 13, 21), (0, 10, 17, 13)])
def mm_X_stored : am_I := (⟨"StrideViews", "stored", "(II)I"⟩, prog_1_method_20_code, 3, (some .int), [])
def mm_L_count : am_I := (⟨"StrideViewsLaw", "count", "(LStrideViews;I[J)I"⟩, method_22_code, 4, (some .int), [(0, 9, 12, 13)])
def mm_X_count : am_I := (⟨"StrideViews", "count", "(I)I"⟩, prog_1_method_21_code, 2, (some .int), [])
def mm_M_init : am_I := (⟨"StrideViewsModel", "<init>", "()V"⟩, prog_5_method_1_code, 1, none, [])
def mm_M_thrown : am_I := (⟨"StrideViewsModel", "thrown", "()I"⟩, prog_5_method_2_code, 1, (some .int), [])
def mm_M_store : am_I := (⟨"StrideViewsModel", "store", "(II)I"⟩, prog_5_method_21_code, 3, (some .int), [])
def mm_M_isLane : am_I := (⟨"StrideViewsModel", "isLane", "(I)Z"⟩, prog_5_method_20_code, 1, (some .boolean), [])
def mm_M_goesOf : am_I := (⟨"StrideViewsModel", "goesOf", "(ZZ)Z"⟩, prog_5_method_6_code, 3, (some .boolean), [])
def mm_M_more : am_I := (⟨"StrideViewsModel", "more", "(JJ)V"⟩, prog_5_method_16_code, 5, none, [])
def mm_M_addStore : am_I := (⟨"StrideViewsModel", "addStore", "(II)I"⟩, prog_5_method_19_code, 3, (some .int), [])
def mm_M_add : am_I := (⟨"StrideViewsModel", "add", "(IJ)I"⟩, prog_5_method_17_code, 7, (some .int), [])
def mm_M_product : am_I := (⟨"StrideViewsModel", "product", "()J"⟩, prog_5_method_7_code, 4, (some .long), [])
def mm_M_slice : am_I := (⟨"StrideViewsModel", "slice", "(IIIII)I"⟩, prog_5_method_22_code, 12, (some .int), [])
def mm_M_isAxis : am_I := (⟨"StrideViewsModel", "isAxis", "(II)Z"⟩, prog_5_method_4_code, 3, (some .boolean), [])
def mm_M_isView : am_I := (⟨"StrideViewsModel", "isView", "(I)Z"⟩, prog_5_method_3_code, 2, (some .boolean), [])
def mm_M_goes : am_I := (⟨"StrideViewsModel", "goes", "(ZZZ)Z"⟩, prog_5_method_5_code, 4, (some .boolean), [])
def mm_M_take : am_I := (⟨"StrideViewsModel", "take", "(III)V"⟩, prog_5_method_15_code, 5, none, [])
def mm_M_pick : am_I := (⟨"StrideViewsModel", "pick", "(III)I"⟩, prog_5_method_23_code, 5, (some .int), [])
def mm_M_turn : am_I := (⟨"StrideViewsModel", "turn", "(III)I"⟩, prog_5_method_24_code, 4, (some .int), [])
def mm_M_spread : am_I := (⟨"StrideViewsModel", "spread", "(III)I"⟩, prog_5_method_25_code, 7, (some .int), [])
def mm_M_diagonal : am_I := (⟨"StrideViewsModel", "diagonal", "(III)I"⟩, prog_5_method_26_code, 6, (some .int), [])
def mm_M_shape : am_I := (⟨"StrideViewsModel", "shape", "(IIII)I"⟩, prog_5_method_29_code, 7, (some .int), [])
def mm_M_tells : am_I := (⟨"StrideViewsModel", "tells", "(III)Z"⟩, prog_5_method_27_code, 4, (some .boolean), [])
def mm_M_items : am_I := (⟨"StrideViewsModel", "items", "(I)I"⟩, prog_5_method_8_code, 4, (some .int), [])
def mm_M_findSteps : am_I := (⟨"StrideViewsModel", "findSteps", "(I)Z"⟩, prog_5_method_28_code, 10, (some .boolean), [])
def mm_M_place : am_I := (⟨"StrideViewsModel", "place", "(II)I"⟩, prog_5_method_10_code, 5, (some .int), [])
def mm_M_indexOf : am_I := (⟨"StrideViewsModel", "indexOf", "(III)I"⟩, prog_5_method_9_code, 6, (some .int), [])
def mm_M_compact : am_I := (⟨"StrideViewsModel", "compact", "(II)I"⟩, prog_5_method_30_code, 8, (some .int), [])
def mm_M_item : am_I := (⟨"StrideViewsModel", "item", "(II)J"⟩, prog_5_method_11_code, 3, (some .long), [])
def mm_M_kept : am_I := (⟨"StrideViewsModel", "kept", "(IJ)J"⟩, prog_5_method_12_code, 4, (some .long), [])
def mm_M_inOrder : am_I := (⟨"StrideViewsModel", "inOrder", "()V"⟩, prog_5_method_18_code, 4, none, [])
def mm_M_at : am_I := (⟨"StrideViewsModel", "at", "(II)J"⟩, prog_5_method_31_code, 3, (some .long), [])
def mm_M_put : am_I := (⟨"StrideViewsModel", "put", "(IIJ)J"⟩, prog_5_method_32_code, 8, (some .long), [])
def mm_M_isFixed : am_I := (⟨"StrideViewsModel", "isFixed", "(I)Z"⟩, prog_5_method_14_code, 4, (some .boolean), [])
def mm_M_setItem : am_I := (⟨"StrideViewsModel", "setItem", "(IIJ)V"⟩, prog_5_method_13_code, 5, none, [])
def mm_M_copy : am_I := (⟨"StrideViewsModel", "copy", "(II)I"⟩, prog_5_method_36_code, 6, (some .int), [])
def mm_M_goesTo : am_I := (⟨"StrideViewsModel", "goesTo", "(II)Z"⟩, prog_5_method_33_code, 6, (some .boolean), [])
def mm_M_gone : am_I := (⟨"StrideViewsModel", "gone", "(III)J"⟩, prog_5_method_34_code, 8, (some .long), [])
def mm_M_putAll : am_I := (⟨"StrideViewsModel", "putAll", "(I)I"⟩, prog_5_method_35_code, 7, (some .int), [])
def mm_M_act : am_I := (⟨"StrideViewsModel", "act", "(IIII)I"⟩, prog_5_method_38_code, 9, (some .int), [])
def mm_M_acted : am_I := (⟨"StrideViewsModel", "acted", "(IJJ)J"⟩, prog_5_method_37_code, 5, (some .long), [])
def mm_M_fold : am_I := (⟨"StrideViewsModel", "fold", "(III)I"⟩, prog_5_method_39_code, 13, (some .int), [])
def mm_M_shared : am_I := (⟨"StrideViewsModel", "shared", "(II)I"⟩, prog_5_method_40_code, 7, (some .int), [])
def mm_M_same : am_I := (⟨"StrideViewsModel", "same", "(II)Z"⟩, prog_5_method_41_code, 5, (some .boolean), [])
def mm_M_runs : am_I := (⟨"StrideViewsModel", "runs", "(I)I"⟩, prog_5_method_42_code, 5, (some .int), [])
def mm_M_told : am_I := (⟨"StrideViewsModel", "told", "(II)I"⟩, prog_5_method_44_code, 3, (some .int), [])
def mm_M_end : am_I := (⟨"StrideViewsModel", "end", "(IZ)I"⟩, prog_5_method_43_code, 7, (some .int), [])
def mm_M_axis : am_I := (⟨"StrideViewsModel", "axis", "(III)I"⟩, prog_5_method_45_code, 4, (some .int), [])
def mm_M_stored : am_I := (⟨"StrideViewsModel", "stored", "(II)I"⟩, prog_5_method_46_code, 5, (some .int), [])
def mm_M_count : am_I := (⟨"StrideViewsModel", "count", "(I)I"⟩, prog_5_method_47_code, 2, (some .int), [])
def mm_L_law : am_I := (⟨"StrideViewsLaw", "law", "([I)Z"⟩, code, 8, (some .boolean), [])
theorem ok_X_init : am_ok mm_X_init := ⟨by decide +kernel, by decide, Or.inl ⟨rfl, (am_in 16 (by decide +kernel) rfl)⟩⟩
theorem ok_L_store : am_ok mm_L_store := ⟨by decide +kernel, by decide, Or.inr (am_in 51 (by decide +kernel) rfl)⟩
theorem ok_X_store : am_ok mm_X_store := ⟨by decide +kernel, by decide, Or.inl ⟨rfl, (am_in 57 (by decide +kernel) rfl)⟩⟩
theorem ok_X_needLane : am_ok mm_X_needLane := ⟨by decide +kernel, by decide, Or.inl ⟨rfl, (am_in 60 (by decide +kernel) rfl)⟩⟩
theorem ok_X_needRoomForStore : am_ok mm_X_needRoomForStore := ⟨by decide +kernel, by decide, Or.inl ⟨rfl, (am_in 133 (by decide +kernel) rfl)⟩⟩
theorem ok_S_init : am_ok mm_S_init := ⟨by decide +kernel, by decide, Or.inl ⟨rfl, (am_in 153 (by decide +kernel) rfl)⟩⟩
theorem ok_V_init : am_ok mm_V_init := ⟨by decide +kernel, by decide, Or.inl ⟨rfl, (am_in 175 (by decide +kernel) rfl)⟩⟩
theorem ok_V_insert : am_ok mm_V_insert := ⟨by decide +kernel, by decide, Or.inl ⟨rfl, (am_in 205 (by decide +kernel) rfl)⟩⟩
theorem ok_X_keepStore : am_ok mm_X_keepStore := ⟨by decide +kernel, by decide, Or.inl ⟨rfl, (am_in 209 (by decide +kernel) rfl)⟩⟩
theorem ok_X_keepView : am_ok mm_X_keepView := ⟨by decide +kernel, by decide, Or.inl ⟨rfl, (am_in 213 (by decide +kernel) rfl)⟩⟩
theorem ok_V_settle : am_ok mm_V_settle := ⟨by decide +kernel, by decide, Or.inl ⟨rfl, (am_in 217 (by decide +kernel) rfl)⟩⟩
theorem ok_V_itemsBut : am_ok mm_V_itemsBut := ⟨by decide +kernel, by decide, Or.inl ⟨rfl, (am_in 221 (by decide +kernel) rfl)⟩⟩
theorem ok_L_slice : am_ok mm_L_slice := ⟨by decide +kernel, by decide, Or.inr (am_in 229 (by decide +kernel) rfl)⟩
theorem ok_X_slice : am_ok mm_X_slice := ⟨by decide +kernel, by decide, Or.inl ⟨rfl, (am_in 234 (by decide +kernel) rfl)⟩⟩
theorem ok_X_viewAt : am_ok mm_X_viewAt := ⟨by decide +kernel, by decide, Or.inl ⟨rfl, (am_in 238 (by decide +kernel) rfl)⟩⟩
theorem ok_X_needAxis : am_ok mm_X_needAxis := ⟨by decide +kernel, by decide, Or.inl ⟨rfl, (am_in 257 (by decide +kernel) rfl)⟩⟩
theorem ok_X_needPart : am_ok mm_X_needPart := ⟨by decide +kernel, by decide, Or.inl ⟨rfl, (am_in 261 (by decide +kernel) rfl)⟩⟩
theorem ok_V_twin : am_ok mm_V_twin := ⟨by decide +kernel, by decide, Or.inl ⟨rfl, (am_in 267 (by decide +kernel) rfl)⟩⟩
theorem ok_L_pick : am_ok mm_L_pick := ⟨by decide +kernel, by decide, Or.inr (am_in 273 (by decide +kernel) rfl)⟩
theorem ok_X_pick : am_ok mm_X_pick := ⟨by decide +kernel, by decide, Or.inl ⟨rfl, (am_in 277 (by decide +kernel) rfl)⟩⟩
theorem ok_V_remove : am_ok mm_V_remove := ⟨by decide +kernel, by decide, Or.inl ⟨rfl, (am_in 282 (by decide +kernel) rfl)⟩⟩
theorem ok_L_turn : am_ok mm_L_turn := ⟨by decide +kernel, by decide, Or.inr (am_in 285 (by decide +kernel) rfl)⟩
theorem ok_X_turn : am_ok mm_X_turn := ⟨by decide +kernel, by decide, Or.inl ⟨rfl, (am_in 289 (by decide +kernel) rfl)⟩⟩
theorem ok_L_spread : am_ok mm_L_spread := ⟨by decide +kernel, by decide, Or.inr (am_in 292 (by decide +kernel) rfl)⟩
theorem ok_X_spread : am_ok mm_X_spread := ⟨by decide +kernel, by decide, Or.inl ⟨rfl, (am_in 296 (by decide +kernel) rfl)⟩⟩
theorem ok_L_diagonal : am_ok mm_L_diagonal := ⟨by decide +kernel, by decide, Or.inr (am_in 302 (by decide +kernel) rfl)⟩
theorem ok_X_diagonal : am_ok mm_X_diagonal := ⟨by decide +kernel, by decide, Or.inl ⟨rfl, (am_in 306 (by decide +kernel) rfl)⟩⟩
theorem ok_L_shape : am_ok mm_L_shape := ⟨by decide +kernel, by decide, Or.inr (am_in 316 (by decide +kernel) rfl)⟩
theorem ok_X_shape : am_ok mm_X_shape := ⟨by decide +kernel, by decide, Or.inl ⟨rfl, (am_in 320 (by decide +kernel) rfl)⟩⟩
theorem ok_V_addUnlessNone : am_ok mm_V_addUnlessNone := ⟨by decide +kernel, by decide, Or.inl ⟨rfl, (am_in 325 (by decide +kernel) rfl)⟩⟩
theorem ok_X_layOut : am_ok mm_X_layOut := ⟨by decide +kernel, by decide, Or.inl ⟨rfl, (am_in 330 (by decide +kernel) rfl)⟩⟩
theorem ok_X_guessSteps : am_ok mm_X_guessSteps := ⟨by decide +kernel, by decide, Or.inl ⟨rfl, (am_in 334 (by decide +kernel) rfl)⟩⟩
theorem ok_X_liesAsLaidOut : am_ok mm_X_liesAsLaidOut := ⟨by decide +kernel, by decide, Or.inl ⟨rfl, (am_in 338 (by decide +kernel) rfl)⟩⟩
theorem ok_V_placeOf : am_ok mm_V_placeOf := ⟨by decide +kernel, by decide, Or.inl ⟨rfl, (am_in 342 (by decide +kernel) rfl)⟩⟩
theorem ok_L_compact : am_ok mm_L_compact := ⟨by decide +kernel, by decide, Or.inr (am_in 346 (by decide +kernel) rfl)⟩
theorem ok_X_compact : am_ok mm_X_compact := ⟨by decide +kernel, by decide, Or.inl ⟨rfl, (am_in 350 (by decide +kernel) rfl)⟩⟩
theorem ok_X_needFewNumbers : am_ok mm_X_needFewNumbers := ⟨by decide +kernel, by decide, Or.inl ⟨rfl, (am_in 353 (by decide +kernel) rfl)⟩⟩
theorem ok_V_addExtentsBut : am_ok mm_V_addExtentsBut := ⟨by decide +kernel, by decide, Or.inl ⟨rfl, (am_in 358 (by decide +kernel) rfl)⟩⟩
theorem ok_V_lieInOrder : am_ok mm_V_lieInOrder := ⟨by decide +kernel, by decide, Or.inl ⟨rfl, (am_in 362 (by decide +kernel) rfl)⟩⟩
theorem ok_X_readItems : am_ok mm_X_readItems := ⟨by decide +kernel, by decide, Or.inl ⟨rfl, (am_in 366 (by decide +kernel) rfl)⟩⟩
theorem ok_X_writeItems : am_ok mm_X_writeItems := ⟨by decide +kernel, by decide, Or.inl ⟨rfl, (am_in 370 (by decide +kernel) rfl)⟩⟩
theorem ok_S_lowestBits : am_ok mm_S_lowestBits := ⟨by decide +kernel, by decide, Or.inl ⟨rfl, (am_in 374 (by decide +kernel) rfl)⟩⟩
theorem ok_L_at : am_ok mm_L_at := ⟨by decide +kernel, by decide, Or.inr (am_in 377 (by decide +kernel) rfl)⟩
theorem ok_X_at : am_ok mm_X_at := ⟨by decide +kernel, by decide, Or.inl ⟨rfl, (am_in 381 (by decide +kernel) rfl)⟩⟩
theorem ok_X_needItem : am_ok mm_X_needItem := ⟨by decide +kernel, by decide, Or.inl ⟨rfl, (am_in 384 (by decide +kernel) rfl)⟩⟩
theorem ok_L_put : am_ok mm_L_put := ⟨by decide +kernel, by decide, Or.inr (am_in 388 (by decide +kernel) rfl)⟩
theorem ok_X_put : am_ok mm_X_put := ⟨by decide +kernel, by decide, Or.inl ⟨rfl, (am_in 392 (by decide +kernel) rfl)⟩⟩
theorem ok_X_needFree : am_ok mm_X_needFree := ⟨by decide +kernel, by decide, Or.inl ⟨rfl, (am_in 395 (by decide +kernel) rfl)⟩⟩
theorem ok_V_isFixed : am_ok mm_V_isFixed := ⟨by decide +kernel, by decide, Or.inl ⟨rfl, (am_in 399 (by decide +kernel) rfl)⟩⟩
theorem ok_L_copy : am_ok mm_L_copy := ⟨by decide +kernel, by decide, Or.inr (am_in 403 (by decide +kernel) rfl)⟩
theorem ok_X_copy : am_ok mm_X_copy := ⟨by decide +kernel, by decide, Or.inl ⟨rfl, (am_in 407 (by decide +kernel) rfl)⟩⟩
theorem ok_X_needGoing : am_ok mm_X_needGoing := ⟨by decide +kernel, by decide, Or.inl ⟨rfl, (am_in 410 (by decide +kernel) rfl)⟩⟩
theorem ok_V_goesTo : am_ok mm_V_goesTo := ⟨by decide +kernel, by decide, Or.inl ⟨rfl, (am_in 414 (by decide +kernel) rfl)⟩⟩
theorem ok_L_act : am_ok mm_L_act := ⟨by decide +kernel, by decide, Or.inr (am_in 418 (by decide +kernel) rfl)⟩
theorem ok_X_act : am_ok mm_X_act := ⟨by decide +kernel, by decide, Or.inl ⟨rfl, (am_in 422 (by decide +kernel) rfl)⟩⟩
theorem ok_X_reckon : am_ok mm_X_reckon := ⟨by decide +kernel, by decide, Or.inl ⟨rfl, (am_in 426 (by decide +kernel) rfl)⟩⟩
theorem ok_L_fold : am_ok mm_L_fold := ⟨by decide +kernel, by decide, Or.inr (am_in 433 (by decide +kernel) rfl)⟩
theorem ok_X_fold : am_ok mm_X_fold := ⟨by decide +kernel, by decide, Or.inl ⟨rfl, (am_in 437 (by decide +kernel) rfl)⟩⟩
theorem ok_X_foldInto : am_ok mm_X_foldInto := ⟨by decide +kernel, by decide, Or.inl ⟨rfl, (am_in 443 (by decide +kernel) rfl)⟩⟩
theorem ok_X_neutral : am_ok mm_X_neutral := ⟨by decide +kernel, by decide, Or.inl ⟨rfl, (am_in 446 (by decide +kernel) rfl)⟩⟩
theorem ok_L_shared : am_ok mm_L_shared := ⟨by decide +kernel, by decide, Or.inr (am_in 451 (by decide +kernel) rfl)⟩
theorem ok_X_shared : am_ok mm_X_shared := ⟨by decide +kernel, by decide, Or.inl ⟨rfl, (am_in 455 (by decide +kernel) rfl)⟩⟩
theorem ok_X_clearMarks : am_ok mm_X_clearMarks := ⟨by decide +kernel, by decide, Or.inl ⟨rfl, (am_in 459 (by decide +kernel) rfl)⟩⟩
theorem ok_L_same : am_ok mm_L_same := ⟨by decide +kernel, by decide, Or.inr (am_in 462 (by decide +kernel) rfl)⟩
theorem ok_X_same : am_ok mm_X_same := ⟨by decide +kernel, by decide, Or.inl ⟨rfl, (am_in 466 (by decide +kernel) rfl)⟩⟩
theorem ok_V_hasExtentsOf : am_ok mm_V_hasExtentsOf := ⟨by decide +kernel, by decide, Or.inl ⟨rfl, (am_in 470 (by decide +kernel) rfl)⟩⟩
theorem ok_L_runs : am_ok mm_L_runs := ⟨by decide +kernel, by decide, Or.inr (am_in 473 (by decide +kernel) rfl)⟩
theorem ok_X_runs : am_ok mm_X_runs := ⟨by decide +kernel, by decide, Or.inl ⟨rfl, (am_in 477 (by decide +kernel) rfl)⟩⟩
theorem ok_L_told : am_ok mm_L_told := ⟨by decide +kernel, by decide, Or.inr (am_in 480 (by decide +kernel) rfl)⟩
theorem ok_X_told : am_ok mm_X_told := ⟨by decide +kernel, by decide, Or.inl ⟨rfl, (am_in 484 (by decide +kernel) rfl)⟩⟩
theorem ok_V_leastPlace : am_ok mm_V_leastPlace := ⟨by decide +kernel, by decide, Or.inl ⟨rfl, (am_in 488 (by decide +kernel) rfl)⟩⟩
theorem ok_V_greatestPlace : am_ok mm_V_greatestPlace := ⟨by decide +kernel, by decide, Or.inl ⟨rfl, (am_in 493 (by decide +kernel) rfl)⟩⟩
theorem ok_L_axis : am_ok mm_L_axis := ⟨by decide +kernel, by decide, Or.inr (am_in 498 (by decide +kernel) rfl)⟩
theorem ok_X_axis : am_ok mm_X_axis := ⟨by decide +kernel, by decide, Or.inl ⟨rfl, (am_in 502 (by decide +kernel) rfl)⟩⟩
theorem ok_L_stored : am_ok mm_L_stored := ⟨by decide +kernel, by decide, Or.inr (am_in 506 (by decide +kernel) rfl)⟩
theorem ok_X_stored : am_ok mm_X_stored := ⟨by decide +kernel, by decide, Or.inl ⟨rfl, (am_in 510 (by decide +kernel) rfl)⟩⟩
theorem ok_L_count : am_ok mm_L_count := ⟨by decide +kernel, by decide, Or.inr (am_in 515 (by decide +kernel) rfl)⟩
theorem ok_X_count : am_ok mm_X_count := ⟨by decide +kernel, by decide, Or.inl ⟨rfl, (am_in 519 (by decide +kernel) rfl)⟩⟩
theorem ok_M_init : am_ok mm_M_init := ⟨by decide +kernel, by decide, Or.inl ⟨rfl, (am_in 525 (by decide +kernel) rfl)⟩⟩
theorem ok_M_thrown : am_ok mm_M_thrown := ⟨by decide +kernel, by decide, Or.inl ⟨rfl, (am_in 579 (by decide +kernel) rfl)⟩⟩
theorem ok_M_store : am_ok mm_M_store := ⟨by decide +kernel, by decide, Or.inl ⟨rfl, (am_in 583 (by decide +kernel) rfl)⟩⟩
theorem ok_M_isLane : am_ok mm_M_isLane := ⟨by decide +kernel, by decide, Or.inl ⟨rfl, (am_in 586 (by decide +kernel) rfl)⟩⟩
theorem ok_M_goesOf : am_ok mm_M_goesOf := ⟨by decide +kernel, by decide, Or.inl ⟨rfl, (am_in 590 (by decide +kernel) rfl)⟩⟩
theorem ok_M_more : am_ok mm_M_more := ⟨by decide +kernel, by decide, Or.inl ⟨rfl, (am_in 594 (by decide +kernel) rfl)⟩⟩
theorem ok_M_addStore : am_ok mm_M_addStore := ⟨by decide +kernel, by decide, Or.inl ⟨rfl, (am_in 598 (by decide +kernel) rfl)⟩⟩
theorem ok_M_add : am_ok mm_M_add := ⟨by decide +kernel, by decide, Or.inl ⟨rfl, (am_in 602 (by decide +kernel) rfl)⟩⟩
theorem ok_M_product : am_ok mm_M_product := ⟨by decide +kernel, by decide, Or.inl ⟨rfl, (am_in 606 (by decide +kernel) rfl)⟩⟩
theorem ok_M_slice : am_ok mm_M_slice := ⟨by decide +kernel, by decide, Or.inl ⟨rfl, (am_in 613 (by decide +kernel) rfl)⟩⟩
theorem ok_M_isAxis : am_ok mm_M_isAxis := ⟨by decide +kernel, by decide, Or.inl ⟨rfl, (am_in 617 (by decide +kernel) rfl)⟩⟩
theorem ok_M_isView : am_ok mm_M_isView := ⟨by decide +kernel, by decide, Or.inl ⟨rfl, (am_in 621 (by decide +kernel) rfl)⟩⟩
theorem ok_M_goes : am_ok mm_M_goes := ⟨by decide +kernel, by decide, Or.inl ⟨rfl, (am_in 625 (by decide +kernel) rfl)⟩⟩
theorem ok_M_take : am_ok mm_M_take := ⟨by decide +kernel, by decide, Or.inl ⟨rfl, (am_in 629 (by decide +kernel) rfl)⟩⟩
theorem ok_M_pick : am_ok mm_M_pick := ⟨by decide +kernel, by decide, Or.inl ⟨rfl, (am_in 633 (by decide +kernel) rfl)⟩⟩
theorem ok_M_turn : am_ok mm_M_turn := ⟨by decide +kernel, by decide, Or.inl ⟨rfl, (am_in 637 (by decide +kernel) rfl)⟩⟩
theorem ok_M_spread : am_ok mm_M_spread := ⟨by decide +kernel, by decide, Or.inl ⟨rfl, (am_in 641 (by decide +kernel) rfl)⟩⟩
theorem ok_M_diagonal : am_ok mm_M_diagonal := ⟨by decide +kernel, by decide, Or.inl ⟨rfl, (am_in 645 (by decide +kernel) rfl)⟩⟩
theorem ok_M_shape : am_ok mm_M_shape := ⟨by decide +kernel, by decide, Or.inl ⟨rfl, (am_in 649 (by decide +kernel) rfl)⟩⟩
theorem ok_M_tells : am_ok mm_M_tells := ⟨by decide +kernel, by decide, Or.inl ⟨rfl, (am_in 653 (by decide +kernel) rfl)⟩⟩
theorem ok_M_items : am_ok mm_M_items := ⟨by decide +kernel, by decide, Or.inl ⟨rfl, (am_in 657 (by decide +kernel) rfl)⟩⟩
theorem ok_M_findSteps : am_ok mm_M_findSteps := ⟨by decide +kernel, by decide, Or.inl ⟨rfl, (am_in 661 (by decide +kernel) rfl)⟩⟩
theorem ok_M_place : am_ok mm_M_place := ⟨by decide +kernel, by decide, Or.inl ⟨rfl, (am_in 665 (by decide +kernel) rfl)⟩⟩
theorem ok_M_indexOf : am_ok mm_M_indexOf := ⟨by decide +kernel, by decide, Or.inl ⟨rfl, (am_in 669 (by decide +kernel) rfl)⟩⟩
theorem ok_M_compact : am_ok mm_M_compact := ⟨by decide +kernel, by decide, Or.inl ⟨rfl, (am_in 673 (by decide +kernel) rfl)⟩⟩
theorem ok_M_item : am_ok mm_M_item := ⟨by decide +kernel, by decide, Or.inl ⟨rfl, (am_in 677 (by decide +kernel) rfl)⟩⟩
theorem ok_M_kept : am_ok mm_M_kept := ⟨by decide +kernel, by decide, Or.inl ⟨rfl, (am_in 680 (by decide +kernel) rfl)⟩⟩
theorem ok_M_inOrder : am_ok mm_M_inOrder := ⟨by decide +kernel, by decide, Or.inl ⟨rfl, (am_in 684 (by decide +kernel) rfl)⟩⟩
theorem ok_M_at : am_ok mm_M_at := ⟨by decide +kernel, by decide, Or.inl ⟨rfl, (am_in 688 (by decide +kernel) rfl)⟩⟩
theorem ok_M_put : am_ok mm_M_put := ⟨by decide +kernel, by decide, Or.inl ⟨rfl, (am_in 692 (by decide +kernel) rfl)⟩⟩
theorem ok_M_isFixed : am_ok mm_M_isFixed := ⟨by decide +kernel, by decide, Or.inl ⟨rfl, (am_in 696 (by decide +kernel) rfl)⟩⟩
theorem ok_M_setItem : am_ok mm_M_setItem := ⟨by decide +kernel, by decide, Or.inl ⟨rfl, (am_in 700 (by decide +kernel) rfl)⟩⟩
theorem ok_M_copy : am_ok mm_M_copy := ⟨by decide +kernel, by decide, Or.inl ⟨rfl, (am_in 704 (by decide +kernel) rfl)⟩⟩
theorem ok_M_goesTo : am_ok mm_M_goesTo := ⟨by decide +kernel, by decide, Or.inl ⟨rfl, (am_in 708 (by decide +kernel) rfl)⟩⟩
theorem ok_M_gone : am_ok mm_M_gone := ⟨by decide +kernel, by decide, Or.inl ⟨rfl, (am_in 712 (by decide +kernel) rfl)⟩⟩
theorem ok_M_putAll : am_ok mm_M_putAll := ⟨by decide +kernel, by decide, Or.inl ⟨rfl, (am_in 716 (by decide +kernel) rfl)⟩⟩
theorem ok_M_act : am_ok mm_M_act := ⟨by decide +kernel, by decide, Or.inl ⟨rfl, (am_in 720 (by decide +kernel) rfl)⟩⟩
theorem ok_M_acted : am_ok mm_M_acted := ⟨by decide +kernel, by decide, Or.inl ⟨rfl, (am_in 723 (by decide +kernel) rfl)⟩⟩
theorem ok_M_fold : am_ok mm_M_fold := ⟨by decide +kernel, by decide, Or.inl ⟨rfl, (am_in 727 (by decide +kernel) rfl)⟩⟩
theorem ok_M_shared : am_ok mm_M_shared := ⟨by decide +kernel, by decide, Or.inl ⟨rfl, (am_in 734 (by decide +kernel) rfl)⟩⟩
theorem ok_M_same : am_ok mm_M_same := ⟨by decide +kernel, by decide, Or.inl ⟨rfl, (am_in 738 (by decide +kernel) rfl)⟩⟩
theorem ok_M_runs : am_ok mm_M_runs := ⟨by decide +kernel, by decide, Or.inl ⟨rfl, (am_in 742 (by decide +kernel) rfl)⟩⟩
theorem ok_M_told : am_ok mm_M_told := ⟨by decide +kernel, by decide, Or.inl ⟨rfl, (am_in 746 (by decide +kernel) rfl)⟩⟩
theorem ok_M_end : am_ok mm_M_end := ⟨by decide +kernel, by decide, Or.inl ⟨rfl, (am_in 750 (by decide +kernel) rfl)⟩⟩
theorem ok_M_axis : am_ok mm_M_axis := ⟨by decide +kernel, by decide, Or.inl ⟨rfl, (am_in 754 (by decide +kernel) rfl)⟩⟩
theorem ok_M_stored : am_ok mm_M_stored := ⟨by decide +kernel, by decide, Or.inl ⟨rfl, (am_in 758 (by decide +kernel) rfl)⟩⟩
theorem ok_M_count : am_ok mm_M_count := ⟨by decide +kernel, by decide, Or.inl ⟨rfl, (am_in 762 (by decide +kernel) rfl)⟩⟩
theorem am_sg {d : String} {n : Nat} (h : (parseMethodDescriptor d).map (fun q => q.parameters.length) = some n) : ∃ sig, parseMethodDescriptor d = some sig ∧ sig.parameters.length = n := by
  cases hp : parseMethodDescriptor d with
  | none => rw [hp] at h; cases h
  | some sig => rw [hp] at h; exact ⟨sig, rfl, Option.some.inj h⟩
theorem fl_X_11 : am_fl "StrideViews" 11 2 0 := ⟨_, am_TX, 7, rfl, am_iX, by decide, (am_in 24 (by decide +kernel) rfl)⟩
theorem fp_X_11 : am_fp "StrideViews" 11 2 0 (.array (.object "StrideViews$Store")) true := ⟨_, am_TX, 7, am_tX, rfl, am_iX, by decide, (am_in 24 (by decide +kernel) rfl), am_qX, rfl, am_nX, rfl, rfl⟩
theorem fl_X_17 : am_fl "StrideViews" 17 2 1 := ⟨_, am_TX, 7, rfl, am_iX, by decide, (am_in 25 (by decide +kernel) rfl)⟩
theorem fp_X_17 : am_fp "StrideViews" 17 2 1 (.array (.object "StrideViews$View")) true := ⟨_, am_TX, 7, am_tX, rfl, am_iX, by decide, (am_in 25 (by decide +kernel) rfl), am_qX, rfl, am_nX, rfl, rfl⟩
theorem fl_X_33 : am_fl "StrideViews" 33 2 2 := ⟨_, am_TX, 7, rfl, am_iX, by decide, (am_in 26 (by decide +kernel) rfl)⟩
theorem fp_X_33 : am_fp "StrideViews" 33 2 2 .int false := ⟨_, am_TX, 7, am_tX, rfl, am_iX, by decide, (am_in 26 (by decide +kernel) rfl), am_qX, rfl, am_nX, rfl, rfl⟩
theorem fl_X_37 : am_fl "StrideViews" 37 2 3 := ⟨_, am_TX, 7, rfl, am_iX, by decide, (am_in 27 (by decide +kernel) rfl)⟩
theorem fp_X_37 : am_fp "StrideViews" 37 2 3 .int false := ⟨_, am_TX, 7, am_tX, rfl, am_iX, by decide, (am_in 27 (by decide +kernel) rfl), am_qX, rfl, am_nX, rfl, rfl⟩
theorem fl_X_21 : am_fl "StrideViews" 21 2 4 := ⟨_, am_TX, 7, rfl, am_iX, by decide, (am_in 28 (by decide +kernel) rfl)⟩
theorem fp_X_21 : am_fp "StrideViews" 21 2 4 (.array .int) true := ⟨_, am_TX, 7, am_tX, rfl, am_iX, by decide, (am_in 28 (by decide +kernel) rfl), am_qX, rfl, am_nX, rfl, rfl⟩
theorem fl_X_25 : am_fl "StrideViews" 25 2 5 := ⟨_, am_TX, 7, rfl, am_iX, by decide, (am_in 29 (by decide +kernel) rfl)⟩
theorem fp_X_25 : am_fp "StrideViews" 25 2 5 (.array .long) true := ⟨_, am_TX, 7, am_tX, rfl, am_iX, by decide, (am_in 29 (by decide +kernel) rfl), am_qX, rfl, am_nX, rfl, rfl⟩
theorem fl_X_29 : am_fl "StrideViews" 29 2 6 := ⟨_, am_TX, 7, rfl, am_iX, by decide, (am_in 30 (by decide +kernel) rfl)⟩
theorem fp_X_29 : am_fp "StrideViews" 29 2 6 (.array .boolean) true := ⟨_, am_TX, 7, am_tX, rfl, am_iX, by decide, (am_in 30 (by decide +kernel) rfl), am_qX, rfl, am_nX, rfl, rfl⟩
theorem fp_S_9 : am_fp "StrideViews$Store" 9 0 0 .int true := ⟨_, am_TS, 4, am_tS, rfl, am_iS, by decide, (am_in 155 (by decide +kernel) rfl), am_qS, rfl, am_nS, rfl, rfl⟩
theorem fl_X_214 : am_fl "StrideViews" 214 0 0 := ⟨_, am_TS, 4, rfl, am_iS, by decide, (am_in 156 (by decide +kernel) rfl)⟩
theorem fl_S_15 : am_fl "StrideViews$Store" 15 0 1 := ⟨_, am_TS, 4, rfl, am_iS, by decide, (am_in 157 (by decide +kernel) rfl)⟩
theorem fp_S_15 : am_fp "StrideViews$Store" 15 0 1 .int true := ⟨_, am_TS, 4, am_tS, rfl, am_iS, by decide, (am_in 157 (by decide +kernel) rfl), am_qS, rfl, am_nS, rfl, rfl⟩
theorem fl_X_234 : am_fl "StrideViews" 234 0 1 := ⟨_, am_TS, 4, rfl, am_iS, by decide, (am_in 158 (by decide +kernel) rfl)⟩
theorem fp_S_18 : am_fp "StrideViews$Store" 18 0 2 (.array .long) true := ⟨_, am_TS, 4, am_tS, rfl, am_iS, by decide, (am_in 159 (by decide +kernel) rfl), am_qS, rfl, am_nS, rfl, rfl⟩
theorem fl_X_176 : am_fl "StrideViews" 176 0 2 := ⟨_, am_TS, 4, rfl, am_iS, by decide, (am_in 160 (by decide +kernel) rfl)⟩
theorem fp_S_22 : am_fp "StrideViews$Store" 22 0 3 .int false := ⟨_, am_TS, 4, am_tS, rfl, am_iS, by decide, (am_in 161 (by decide +kernel) rfl), am_qS, rfl, am_nS, rfl, rfl⟩
theorem fl_X_237 : am_fl "StrideViews" 237 0 3 := ⟨_, am_TS, 4, rfl, am_iS, by decide, (am_in 162 (by decide +kernel) rfl)⟩
theorem fp_X_237 : am_fp "StrideViews" 237 0 3 .int false := ⟨_, am_TS, 4, am_tS, rfl, am_iS, by decide, (am_in 162 (by decide +kernel) rfl), am_qS, rfl, am_nS, rfl, rfl⟩
theorem fl_V_18 : am_fl "StrideViews$View" 18 1 0 := ⟨_, am_TV, 6, rfl, am_iV, by decide, (am_in 177 (by decide +kernel) rfl)⟩
theorem fp_V_18 : am_fp "StrideViews$View" 18 1 0 (.object "StrideViews$Store") true := ⟨_, am_TV, 6, am_tV, rfl, am_iV, by decide, (am_in 177 (by decide +kernel) rfl), am_qV, rfl, am_nV, rfl, rfl⟩
theorem fl_X_129 : am_fl "StrideViews" 129 1 0 := ⟨_, am_TV, 6, rfl, am_iV, by decide, (am_in 178 (by decide +kernel) rfl)⟩
theorem fl_V_22 : am_fl "StrideViews$View" 22 1 1 := ⟨_, am_TV, 6, rfl, am_iV, by decide, (am_in 179 (by decide +kernel) rfl)⟩
theorem fp_V_22 : am_fp "StrideViews$View" 22 1 1 .int false := ⟨_, am_TV, 6, am_tV, rfl, am_iV, by decide, (am_in 179 (by decide +kernel) rfl), am_qV, rfl, am_nV, rfl, rfl⟩
theorem fl_X_90 : am_fl "StrideViews" 90 1 1 := ⟨_, am_TV, 6, rfl, am_iV, by decide, (am_in 180 (by decide +kernel) rfl)⟩
theorem fp_X_90 : am_fp "StrideViews" 90 1 1 .int false := ⟨_, am_TV, 6, am_tV, rfl, am_iV, by decide, (am_in 180 (by decide +kernel) rfl), am_qV, rfl, am_nV, rfl, rfl⟩
theorem fl_V_26 : am_fl "StrideViews$View" 26 1 2 := ⟨_, am_TV, 6, rfl, am_iV, by decide, (am_in 181 (by decide +kernel) rfl)⟩
theorem fp_V_26 : am_fp "StrideViews$View" 26 1 2 .int false := ⟨_, am_TV, 6, am_tV, rfl, am_iV, by decide, (am_in 181 (by decide +kernel) rfl), am_qV, rfl, am_nV, rfl, rfl⟩
theorem fl_X_104 : am_fl "StrideViews" 104 1 2 := ⟨_, am_TV, 6, rfl, am_iV, by decide, (am_in 182 (by decide +kernel) rfl)⟩
theorem fl_V_29 : am_fl "StrideViews$View" 29 1 3 := ⟨_, am_TV, 6, rfl, am_iV, by decide, (am_in 183 (by decide +kernel) rfl)⟩
theorem fp_V_29 : am_fp "StrideViews$View" 29 1 3 .int false := ⟨_, am_TV, 6, am_tV, rfl, am_iV, by decide, (am_in 183 (by decide +kernel) rfl), am_qV, rfl, am_nV, rfl, rfl⟩
theorem fl_X_139 : am_fl "StrideViews" 139 1 3 := ⟨_, am_TV, 6, rfl, am_iV, by decide, (am_in 184 (by decide +kernel) rfl)⟩
theorem fl_V_9 : am_fl "StrideViews$View" 9 1 4 := ⟨_, am_TV, 6, rfl, am_iV, by decide, (am_in 185 (by decide +kernel) rfl)⟩
theorem fp_V_9 : am_fp "StrideViews$View" 9 1 4 (.array .int) true := ⟨_, am_TV, 6, am_tV, rfl, am_iV, by decide, (am_in 185 (by decide +kernel) rfl), am_qV, rfl, am_nV, rfl, rfl⟩
theorem fl_X_79 : am_fl "StrideViews" 79 1 4 := ⟨_, am_TV, 6, rfl, am_iV, by decide, (am_in 186 (by decide +kernel) rfl)⟩
theorem fl_V_15 : am_fl "StrideViews$View" 15 1 5 := ⟨_, am_TV, 6, rfl, am_iV, by decide, (am_in 187 (by decide +kernel) rfl)⟩
theorem fp_V_15 : am_fp "StrideViews$View" 15 1 5 (.array .int) true := ⟨_, am_TV, 6, am_tV, rfl, am_iV, by decide, (am_in 187 (by decide +kernel) rfl), am_qV, rfl, am_nV, rfl, rfl⟩
theorem fl_X_93 : am_fl "StrideViews" 93 1 5 := ⟨_, am_TV, 6, rfl, am_iV, by decide, (am_in 188 (by decide +kernel) rfl)⟩
theorem fl_M_48 : am_fl "StrideViewsModel" 48 3 0 := ⟨_, am_TM, 16, rfl, am_iM, by decide, (am_in 527 (by decide +kernel) rfl)⟩
theorem fp_M_48 : am_fp "StrideViewsModel" 48 3 0 .int false := ⟨_, am_TM, 16, am_tM, rfl, am_iM, by decide, (am_in 527 (by decide +kernel) rfl), am_qM, rfl, am_nM, rfl, rfl⟩
theorem fl_M_84 : am_fl "StrideViewsModel" 84 3 1 := ⟨_, am_TM, 16, rfl, am_iM, by decide, (am_in 528 (by decide +kernel) rfl)⟩
theorem fp_M_84 : am_fp "StrideViewsModel" 84 3 1 .int false := ⟨_, am_TM, 16, am_tM, rfl, am_iM, by decide, (am_in 528 (by decide +kernel) rfl), am_qM, rfl, am_nM, rfl, rfl⟩
theorem fl_M_7 : am_fl "StrideViewsModel" 7 3 2 := ⟨_, am_TM, 16, rfl, am_iM, by decide, (am_in 529 (by decide +kernel) rfl)⟩
theorem fp_M_7 : am_fp "StrideViewsModel" 7 3 2 (.array .int) true := ⟨_, am_TM, 16, am_tM, rfl, am_iM, by decide, (am_in 529 (by decide +kernel) rfl), am_qM, rfl, am_nM, rfl, rfl⟩
theorem fl_M_13 : am_fl "StrideViewsModel" 13 3 3 := ⟨_, am_TM, 16, rfl, am_iM, by decide, (am_in 530 (by decide +kernel) rfl)⟩
theorem fp_M_13 : am_fp "StrideViewsModel" 13 3 3 (.array .int) true := ⟨_, am_TM, 16, am_tM, rfl, am_iM, by decide, (am_in 530 (by decide +kernel) rfl), am_qM, rfl, am_nM, rfl, rfl⟩
theorem fl_M_16 : am_fl "StrideViewsModel" 16 3 4 := ⟨_, am_TM, 16, rfl, am_iM, by decide, (am_in 531 (by decide +kernel) rfl)⟩
theorem fp_M_16 : am_fp "StrideViewsModel" 16 3 4 (.array .long) true := ⟨_, am_TM, 16, am_tM, rfl, am_iM, by decide, (am_in 531 (by decide +kernel) rfl), am_qM, rfl, am_nM, rfl, rfl⟩
theorem fl_M_52 : am_fl "StrideViewsModel" 52 3 5 := ⟨_, am_TM, 16, rfl, am_iM, by decide, (am_in 532 (by decide +kernel) rfl)⟩
theorem fp_M_52 : am_fp "StrideViewsModel" 52 3 5 .int false := ⟨_, am_TM, 16, am_tM, rfl, am_iM, by decide, (am_in 532 (by decide +kernel) rfl), am_qM, rfl, am_nM, rfl, rfl⟩
theorem fl_M_20 : am_fl "StrideViewsModel" 20 3 6 := ⟨_, am_TM, 16, rfl, am_iM, by decide, (am_in 533 (by decide +kernel) rfl)⟩
theorem fp_M_20 : am_fp "StrideViewsModel" 20 3 6 (.array .int) true := ⟨_, am_TM, 16, am_tM, rfl, am_iM, by decide, (am_in 533 (by decide +kernel) rfl), am_qM, rfl, am_nM, rfl, rfl⟩
theorem fl_M_23 : am_fl "StrideViewsModel" 23 3 7 := ⟨_, am_TM, 16, rfl, am_iM, by decide, (am_in 534 (by decide +kernel) rfl)⟩
theorem fp_M_23 : am_fp "StrideViewsModel" 23 3 7 (.array .int) true := ⟨_, am_TM, 16, am_tM, rfl, am_iM, by decide, (am_in 534 (by decide +kernel) rfl), am_qM, rfl, am_nM, rfl, rfl⟩
theorem fl_M_26 : am_fl "StrideViewsModel" 26 3 8 := ⟨_, am_TM, 16, rfl, am_iM, by decide, (am_in 535 (by decide +kernel) rfl)⟩
theorem fp_M_26 : am_fp "StrideViewsModel" 26 3 8 (.array .int) true := ⟨_, am_TM, 16, am_tM, rfl, am_iM, by decide, (am_in 535 (by decide +kernel) rfl), am_qM, rfl, am_nM, rfl, rfl⟩
theorem fl_M_29 : am_fl "StrideViewsModel" 29 3 9 := ⟨_, am_TM, 16, rfl, am_iM, by decide, (am_in 536 (by decide +kernel) rfl)⟩
theorem fp_M_29 : am_fp "StrideViewsModel" 29 3 9 (.array .int) true := ⟨_, am_TM, 16, am_tM, rfl, am_iM, by decide, (am_in 536 (by decide +kernel) rfl), am_qM, rfl, am_nM, rfl, rfl⟩
theorem fl_M_32 : am_fl "StrideViewsModel" 32 3 10 := ⟨_, am_TM, 16, rfl, am_iM, by decide, (am_in 537 (by decide +kernel) rfl)⟩
theorem fp_M_32 : am_fp "StrideViewsModel" 32 3 10 (.array .int) true := ⟨_, am_TM, 16, am_tM, rfl, am_iM, by decide, (am_in 537 (by decide +kernel) rfl), am_qM, rfl, am_nM, rfl, rfl⟩
theorem fl_M_35 : am_fl "StrideViewsModel" 35 3 11 := ⟨_, am_TM, 16, rfl, am_iM, by decide, (am_in 538 (by decide +kernel) rfl)⟩
theorem fp_M_35 : am_fp "StrideViewsModel" 35 3 11 (.array .long) true := ⟨_, am_TM, 16, am_tM, rfl, am_iM, by decide, (am_in 538 (by decide +kernel) rfl), am_qM, rfl, am_nM, rfl, rfl⟩
theorem fl_M_38 : am_fl "StrideViewsModel" 38 3 12 := ⟨_, am_TM, 16, rfl, am_iM, by decide, (am_in 539 (by decide +kernel) rfl)⟩
theorem fp_M_38 : am_fp "StrideViewsModel" 38 3 12 (.array .long) true := ⟨_, am_TM, 16, am_tM, rfl, am_iM, by decide, (am_in 539 (by decide +kernel) rfl), am_qM, rfl, am_nM, rfl, rfl⟩
theorem fl_M_59 : am_fl "StrideViewsModel" 59 3 13 := ⟨_, am_TM, 16, rfl, am_iM, by decide, (am_in 540 (by decide +kernel) rfl)⟩
theorem fp_M_59 : am_fp "StrideViewsModel" 59 3 13 .int false := ⟨_, am_TM, 16, am_tM, rfl, am_iM, by decide, (am_in 540 (by decide +kernel) rfl), am_qM, rfl, am_nM, rfl, rfl⟩
theorem fl_M_41 : am_fl "StrideViewsModel" 41 3 14 := ⟨_, am_TM, 16, rfl, am_iM, by decide, (am_in 541 (by decide +kernel) rfl)⟩
theorem fp_M_41 : am_fp "StrideViewsModel" 41 3 14 (.array .long) true := ⟨_, am_TM, 16, am_tM, rfl, am_iM, by decide, (am_in 541 (by decide +kernel) rfl), am_qM, rfl, am_nM, rfl, rfl⟩
theorem fl_M_44 : am_fl "StrideViewsModel" 44 3 15 := ⟨_, am_TM, 16, rfl, am_iM, by decide, (am_in 542 (by decide +kernel) rfl)⟩
theorem fp_M_44 : am_fp "StrideViewsModel" 44 3 15 (.array .boolean) true := ⟨_, am_TM, 16, am_tM, rfl, am_iM, by decide, (am_in 542 (by decide +kernel) rfl), am_qM, rfl, am_nM, rfl, rfl⟩
theorem cI_L_83 : am_cI "StrideViewsLaw" 83 mm_X_init 0 := ⟨ok_X_init, rfl, rfl, rfl, (am_in 14 (by decide +kernel) rfl), (am_in 15 (by decide +kernel) rfl), (am_in 16 (by decide +kernel) rfl), ⟨by decide, by decide⟩, am_sg (by decide +kernel)⟩
theorem cS_L_87 : am_cS "StrideViewsLaw" 87 mm_L_store 4 := ⟨ok_L_store, (am_in 49 (by decide +kernel) rfl), (am_in 50 (by decide +kernel) rfl), (am_in 0 (by decide +kernel) rfl), ⟨by decide, by decide⟩, am_sg (by decide +kernel)⟩
theorem cV_L_7 : am_cV "StrideViewsLaw" 7 mm_X_store 2 2 := ⟨ok_X_store, (am_in 54 (by decide +kernel) rfl), (am_in 55 (by decide +kernel) rfl), (am_in 56 (by decide +kernel) rfl), ⟨_, _, rfl⟩, ⟨by decide, by decide⟩, am_sg (by decide +kernel)⟩
theorem cS_X_40 : am_cS "StrideViews" 40 mm_X_needLane 1 := ⟨ok_X_needLane, (am_in 58 (by decide +kernel) rfl), (am_in 59 (by decide +kernel) rfl), (am_in 1 (by decide +kernel) rfl), ⟨by decide, by decide⟩, am_sg (by decide +kernel)⟩
theorem cV_X_51 : am_cV "StrideViews" 51 mm_X_needRoomForStore 2 0 := ⟨ok_X_needRoomForStore, (am_in 130 (by decide +kernel) rfl), (am_in 132 (by decide +kernel) rfl), (am_inS 1 (by decide +kernel) rfl), ⟨_, _, rfl⟩, ⟨by decide, by decide⟩, am_sg (by decide +kernel)⟩
theorem cI_X_54 : am_cI "StrideViews" 54 mm_S_init 3 := ⟨ok_S_init, rfl, rfl, rfl, (am_in 151 (by decide +kernel) rfl), (am_in 152 (by decide +kernel) rfl), (am_in 153 (by decide +kernel) rfl), ⟨by decide, by decide⟩, am_sg (by decide +kernel)⟩
theorem cI_X_57 : am_cI "StrideViews" 57 mm_V_init 2 := ⟨ok_V_init, rfl, rfl, rfl, (am_in 173 (by decide +kernel) rfl), (am_in 174 (by decide +kernel) rfl), (am_in 175 (by decide +kernel) rfl), ⟨by decide, by decide⟩, am_sg (by decide +kernel)⟩
theorem cV_X_60 : am_cV "StrideViews" 60 mm_V_insert 1 3 := ⟨ok_V_insert, (am_in 202 (by decide +kernel) rfl), (am_in 203 (by decide +kernel) rfl), (am_in 204 (by decide +kernel) rfl), ⟨_, _, rfl⟩, ⟨by decide, by decide⟩, am_sg (by decide +kernel)⟩
theorem cV_X_63 : am_cV "StrideViews" 63 mm_X_keepStore 2 1 := ⟨ok_X_keepStore, (am_in 206 (by decide +kernel) rfl), (am_in 208 (by decide +kernel) rfl), (am_inS 2 (by decide +kernel) rfl), ⟨_, _, rfl⟩, ⟨by decide, by decide⟩, am_sg (by decide +kernel)⟩
theorem cV_X_67 : am_cV "StrideViews" 67 mm_X_keepView 2 1 := ⟨ok_X_keepView, (am_in 210 (by decide +kernel) rfl), (am_in 212 (by decide +kernel) rfl), (am_inS 3 (by decide +kernel) rfl), ⟨_, _, rfl⟩, ⟨by decide, by decide⟩, am_sg (by decide +kernel)⟩
theorem cV_X_136 : am_cV "StrideViews" 136 mm_V_settle 1 0 := ⟨ok_V_settle, (am_in 214 (by decide +kernel) rfl), (am_in 215 (by decide +kernel) rfl), (am_in 216 (by decide +kernel) rfl), ⟨_, _, rfl⟩, ⟨by decide, by decide⟩, am_sg (by decide +kernel)⟩
theorem cV_V_39 : am_cV "StrideViews$View" 39 mm_V_itemsBut 1 1 := ⟨ok_V_itemsBut, (am_in 218 (by decide +kernel) rfl), (am_in 219 (by decide +kernel) rfl), (am_in 220 (by decide +kernel) rfl), ⟨_, _, rfl⟩, ⟨by decide, by decide⟩, am_sg (by decide +kernel)⟩
theorem cS_L_97 : am_cS "StrideViewsLaw" 97 mm_L_slice 7 := ⟨ok_L_slice, (am_in 227 (by decide +kernel) rfl), (am_in 228 (by decide +kernel) rfl), (am_in 0 (by decide +kernel) rfl), ⟨by decide, by decide⟩, am_sg (by decide +kernel)⟩
theorem cV_L_17 : am_cV "StrideViewsLaw" 17 mm_X_slice 2 5 := ⟨ok_X_slice, (am_in 231 (by decide +kernel) rfl), (am_in 232 (by decide +kernel) rfl), (am_in 233 (by decide +kernel) rfl), ⟨_, _, rfl⟩, ⟨by decide, by decide⟩, am_sg (by decide +kernel)⟩
theorem cV_X_71 : am_cV "StrideViews" 71 mm_X_viewAt 2 1 := ⟨ok_X_viewAt, (am_in 235 (by decide +kernel) rfl), (am_in 237 (by decide +kernel) rfl), (am_inS 4 (by decide +kernel) rfl), ⟨_, _, rfl⟩, ⟨by decide, by decide⟩, am_sg (by decide +kernel)⟩
theorem cS_X_75 : am_cS "StrideViews" 75 mm_X_needAxis 2 := ⟨ok_X_needAxis, (am_in 255 (by decide +kernel) rfl), (am_in 256 (by decide +kernel) rfl), (am_in 1 (by decide +kernel) rfl), ⟨by decide, by decide⟩, am_sg (by decide +kernel)⟩
theorem cS_X_82 : am_cS "StrideViews" 82 mm_X_needPart 4 := ⟨ok_X_needPart, (am_in 259 (by decide +kernel) rfl), (am_in 260 (by decide +kernel) rfl), (am_in 1 (by decide +kernel) rfl), ⟨by decide, by decide⟩, am_sg (by decide +kernel)⟩
theorem cV_X_86 : am_cV "StrideViews" 86 mm_V_twin 1 0 := ⟨ok_V_twin, (am_in 264 (by decide +kernel) rfl), (am_in 265 (by decide +kernel) rfl), (am_in 266 (by decide +kernel) rfl), ⟨_, _, rfl⟩, ⟨by decide, by decide⟩, am_sg (by decide +kernel)⟩
theorem cI_V_32 : am_cI "StrideViews$View" 32 mm_V_init 2 := ⟨ok_V_init, rfl, rfl, rfl, (am_in 269 (by decide +kernel) rfl), (am_in 174 (by decide +kernel) rfl), (am_in 175 (by decide +kernel) rfl), ⟨by decide, by decide⟩, am_sg (by decide +kernel)⟩
theorem cV_V_35 : am_cV "StrideViews$View" 35 mm_V_insert 1 3 := ⟨ok_V_insert, (am_in 270 (by decide +kernel) rfl), (am_in 203 (by decide +kernel) rfl), (am_in 204 (by decide +kernel) rfl), ⟨_, _, rfl⟩, ⟨by decide, by decide⟩, am_sg (by decide +kernel)⟩
theorem cS_L_101 : am_cS "StrideViewsLaw" 101 mm_L_pick 5 := ⟨ok_L_pick, (am_in 271 (by decide +kernel) rfl), (am_in 272 (by decide +kernel) rfl), (am_in 0 (by decide +kernel) rfl), ⟨by decide, by decide⟩, am_sg (by decide +kernel)⟩
theorem cV_L_23 : am_cV "StrideViewsLaw" 23 mm_X_pick 2 3 := ⟨ok_X_pick, (am_in 274 (by decide +kernel) rfl), (am_in 275 (by decide +kernel) rfl), (am_in 276 (by decide +kernel) rfl), ⟨_, _, rfl⟩, ⟨by decide, by decide⟩, am_sg (by decide +kernel)⟩
theorem cV_X_101 : am_cV "StrideViews" 101 mm_V_remove 1 1 := ⟨ok_V_remove, (am_in 279 (by decide +kernel) rfl), (am_in 280 (by decide +kernel) rfl), (am_in 281 (by decide +kernel) rfl), ⟨_, _, rfl⟩, ⟨by decide, by decide⟩, am_sg (by decide +kernel)⟩
theorem cS_L_105 : am_cS "StrideViewsLaw" 105 mm_L_turn 5 := ⟨ok_L_turn, (am_in 283 (by decide +kernel) rfl), (am_in 284 (by decide +kernel) rfl), (am_in 0 (by decide +kernel) rfl), ⟨by decide, by decide⟩, am_sg (by decide +kernel)⟩
theorem cV_L_27 : am_cV "StrideViewsLaw" 27 mm_X_turn 2 3 := ⟨ok_X_turn, (am_in 286 (by decide +kernel) rfl), (am_in 287 (by decide +kernel) rfl), (am_in 288 (by decide +kernel) rfl), ⟨_, _, rfl⟩, ⟨by decide, by decide⟩, am_sg (by decide +kernel)⟩
theorem cS_L_108 : am_cS "StrideViewsLaw" 108 mm_L_spread 5 := ⟨ok_L_spread, (am_in 290 (by decide +kernel) rfl), (am_in 291 (by decide +kernel) rfl), (am_in 0 (by decide +kernel) rfl), ⟨by decide, by decide⟩, am_sg (by decide +kernel)⟩
theorem cV_L_30 : am_cV "StrideViewsLaw" 30 mm_X_spread 2 3 := ⟨ok_X_spread, (am_in 293 (by decide +kernel) rfl), (am_in 294 (by decide +kernel) rfl), (am_in 295 (by decide +kernel) rfl), ⟨_, _, rfl⟩, ⟨by decide, by decide⟩, am_sg (by decide +kernel)⟩
theorem cS_L_111 : am_cS "StrideViewsLaw" 111 mm_L_diagonal 5 := ⟨ok_L_diagonal, (am_in 300 (by decide +kernel) rfl), (am_in 301 (by decide +kernel) rfl), (am_in 0 (by decide +kernel) rfl), ⟨by decide, by decide⟩, am_sg (by decide +kernel)⟩
theorem cV_L_33 : am_cV "StrideViewsLaw" 33 mm_X_diagonal 2 3 := ⟨ok_X_diagonal, (am_in 303 (by decide +kernel) rfl), (am_in 304 (by decide +kernel) rfl), (am_in 305 (by decide +kernel) rfl), ⟨_, _, rfl⟩, ⟨by decide, by decide⟩, am_sg (by decide +kernel)⟩
theorem cS_L_114 : am_cS "StrideViewsLaw" 114 mm_L_shape 6 := ⟨ok_L_shape, (am_in 314 (by decide +kernel) rfl), (am_in 315 (by decide +kernel) rfl), (am_in 0 (by decide +kernel) rfl), ⟨by decide, by decide⟩, am_sg (by decide +kernel)⟩
theorem cV_L_36 : am_cV "StrideViewsLaw" 36 mm_X_shape 2 4 := ⟨ok_X_shape, (am_in 317 (by decide +kernel) rfl), (am_in 318 (by decide +kernel) rfl), (am_in 319 (by decide +kernel) rfl), ⟨_, _, rfl⟩, ⟨by decide, by decide⟩, am_sg (by decide +kernel)⟩
theorem cV_X_133 : am_cV "StrideViews" 133 mm_V_addUnlessNone 1 1 := ⟨ok_V_addUnlessNone, (am_in 322 (by decide +kernel) rfl), (am_in 323 (by decide +kernel) rfl), (am_in 324 (by decide +kernel) rfl), ⟨_, _, rfl⟩, ⟨by decide, by decide⟩, am_sg (by decide +kernel)⟩
theorem cV_X_144 : am_cV "StrideViews" 144 mm_X_layOut 2 2 := ⟨ok_X_layOut, (am_in 327 (by decide +kernel) rfl), (am_in 329 (by decide +kernel) rfl), (am_inS 5 (by decide +kernel) rfl), ⟨_, _, rfl⟩, ⟨by decide, by decide⟩, am_sg (by decide +kernel)⟩
theorem cV_X_148 : am_cV "StrideViews" 148 mm_X_guessSteps 2 1 := ⟨ok_X_guessSteps, (am_in 331 (by decide +kernel) rfl), (am_in 333 (by decide +kernel) rfl), (am_inS 6 (by decide +kernel) rfl), ⟨_, _, rfl⟩, ⟨by decide, by decide⟩, am_sg (by decide +kernel)⟩
theorem cV_X_152 : am_cV "StrideViews" 152 mm_X_liesAsLaidOut 2 1 := ⟨ok_X_liesAsLaidOut, (am_in 335 (by decide +kernel) rfl), (am_in 337 (by decide +kernel) rfl), (am_inS 7 (by decide +kernel) rfl), ⟨_, _, rfl⟩, ⟨by decide, by decide⟩, am_sg (by decide +kernel)⟩
theorem cV_X_179 : am_cV "StrideViews" 179 mm_V_placeOf 1 1 := ⟨ok_V_placeOf, (am_in 339 (by decide +kernel) rfl), (am_in 340 (by decide +kernel) rfl), (am_in 341 (by decide +kernel) rfl), ⟨_, _, rfl⟩, ⟨by decide, by decide⟩, am_sg (by decide +kernel)⟩
theorem cS_L_118 : am_cS "StrideViewsLaw" 118 mm_L_compact 4 := ⟨ok_L_compact, (am_in 344 (by decide +kernel) rfl), (am_in 345 (by decide +kernel) rfl), (am_in 0 (by decide +kernel) rfl), ⟨by decide, by decide⟩, am_sg (by decide +kernel)⟩
theorem cV_L_40 : am_cV "StrideViewsLaw" 40 mm_X_compact 2 2 := ⟨ok_X_compact, (am_in 347 (by decide +kernel) rfl), (am_in 348 (by decide +kernel) rfl), (am_in 349 (by decide +kernel) rfl), ⟨_, _, rfl⟩, ⟨by decide, by decide⟩, am_sg (by decide +kernel)⟩
theorem cS_X_158 : am_cS "StrideViews" 158 mm_X_needFewNumbers 1 := ⟨ok_X_needFewNumbers, (am_in 351 (by decide +kernel) rfl), (am_in 352 (by decide +kernel) rfl), (am_in 1 (by decide +kernel) rfl), ⟨by decide, by decide⟩, am_sg (by decide +kernel)⟩
theorem cV_X_161 : am_cV "StrideViews" 161 mm_V_addExtentsBut 1 2 := ⟨ok_V_addExtentsBut, (am_in 355 (by decide +kernel) rfl), (am_in 356 (by decide +kernel) rfl), (am_in 357 (by decide +kernel) rfl), ⟨_, _, rfl⟩, ⟨by decide, by decide⟩, am_sg (by decide +kernel)⟩
theorem cV_X_164 : am_cV "StrideViews" 164 mm_V_lieInOrder 1 0 := ⟨ok_V_lieInOrder, (am_in 359 (by decide +kernel) rfl), (am_in 360 (by decide +kernel) rfl), (am_in 361 (by decide +kernel) rfl), ⟨_, _, rfl⟩, ⟨by decide, by decide⟩, am_sg (by decide +kernel)⟩
theorem cV_X_167 : am_cV "StrideViews" 167 mm_X_readItems 2 2 := ⟨ok_X_readItems, (am_in 363 (by decide +kernel) rfl), (am_in 365 (by decide +kernel) rfl), (am_inS 8 (by decide +kernel) rfl), ⟨_, _, rfl⟩, ⟨by decide, by decide⟩, am_sg (by decide +kernel)⟩
theorem cV_X_170 : am_cV "StrideViews" 170 mm_X_writeItems 2 1 := ⟨ok_X_writeItems, (am_in 367 (by decide +kernel) rfl), (am_in 369 (by decide +kernel) rfl), (am_inS 9 (by decide +kernel) rfl), ⟨_, _, rfl⟩, ⟨by decide, by decide⟩, am_sg (by decide +kernel)⟩
theorem cV_X_186 : am_cV "StrideViews" 186 mm_S_lowestBits 0 1 := ⟨ok_S_lowestBits, (am_in 371 (by decide +kernel) rfl), (am_in 372 (by decide +kernel) rfl), (am_in 373 (by decide +kernel) rfl), ⟨_, _, rfl⟩, ⟨by decide, by decide⟩, am_sg (by decide +kernel)⟩
theorem cS_L_121 : am_cS "StrideViewsLaw" 121 mm_L_at 4 := ⟨ok_L_at, (am_in 375 (by decide +kernel) rfl), (am_in 376 (by decide +kernel) rfl), (am_in 0 (by decide +kernel) rfl), ⟨by decide, by decide⟩, am_sg (by decide +kernel)⟩
theorem cV_L_43 : am_cV "StrideViewsLaw" 43 mm_X_at 2 2 := ⟨ok_X_at, (am_in 378 (by decide +kernel) rfl), (am_in 379 (by decide +kernel) rfl), (am_in 380 (by decide +kernel) rfl), ⟨_, _, rfl⟩, ⟨by decide, by decide⟩, am_sg (by decide +kernel)⟩
theorem cS_X_173 : am_cS "StrideViews" 173 mm_X_needItem 2 := ⟨ok_X_needItem, (am_in 382 (by decide +kernel) rfl), (am_in 383 (by decide +kernel) rfl), (am_in 1 (by decide +kernel) rfl), ⟨by decide, by decide⟩, am_sg (by decide +kernel)⟩
theorem cS_L_126 : am_cS "StrideViewsLaw" 126 mm_L_put 5 := ⟨ok_L_put, (am_in 386 (by decide +kernel) rfl), (am_in 387 (by decide +kernel) rfl), (am_in 0 (by decide +kernel) rfl), ⟨by decide, by decide⟩, am_sg (by decide +kernel)⟩
theorem cV_L_47 : am_cV "StrideViewsLaw" 47 mm_X_put 2 3 := ⟨ok_X_put, (am_in 389 (by decide +kernel) rfl), (am_in 390 (by decide +kernel) rfl), (am_in 391 (by decide +kernel) rfl), ⟨_, _, rfl⟩, ⟨by decide, by decide⟩, am_sg (by decide +kernel)⟩
theorem cS_X_183 : am_cS "StrideViews" 183 mm_X_needFree 1 := ⟨ok_X_needFree, (am_in 393 (by decide +kernel) rfl), (am_in 394 (by decide +kernel) rfl), (am_in 1 (by decide +kernel) rfl), ⟨by decide, by decide⟩, am_sg (by decide +kernel)⟩
theorem cV_X_217 : am_cV "StrideViews" 217 mm_V_isFixed 1 0 := ⟨ok_V_isFixed, (am_in 396 (by decide +kernel) rfl), (am_in 397 (by decide +kernel) rfl), (am_in 398 (by decide +kernel) rfl), ⟨_, _, rfl⟩, ⟨by decide, by decide⟩, am_sg (by decide +kernel)⟩
theorem cS_L_130 : am_cS "StrideViewsLaw" 130 mm_L_copy 4 := ⟨ok_L_copy, (am_in 401 (by decide +kernel) rfl), (am_in 402 (by decide +kernel) rfl), (am_in 0 (by decide +kernel) rfl), ⟨by decide, by decide⟩, am_sg (by decide +kernel)⟩
theorem cV_L_51 : am_cV "StrideViewsLaw" 51 mm_X_copy 2 2 := ⟨ok_X_copy, (am_in 404 (by decide +kernel) rfl), (am_in 405 (by decide +kernel) rfl), (am_in 406 (by decide +kernel) rfl), ⟨_, _, rfl⟩, ⟨by decide, by decide⟩, am_sg (by decide +kernel)⟩
theorem cS_X_190 : am_cS "StrideViews" 190 mm_X_needGoing 2 := ⟨ok_X_needGoing, (am_in 408 (by decide +kernel) rfl), (am_in 409 (by decide +kernel) rfl), (am_in 1 (by decide +kernel) rfl), ⟨by decide, by decide⟩, am_sg (by decide +kernel)⟩
theorem cV_X_256 : am_cV "StrideViews" 256 mm_V_goesTo 1 1 := ⟨ok_V_goesTo, (am_in 411 (by decide +kernel) rfl), (am_in 412 (by decide +kernel) rfl), (am_in 413 (by decide +kernel) rfl), ⟨_, _, rfl⟩, ⟨by decide, by decide⟩, am_sg (by decide +kernel)⟩
theorem cS_L_133 : am_cS "StrideViewsLaw" 133 mm_L_act 6 := ⟨ok_L_act, (am_in 416 (by decide +kernel) rfl), (am_in 417 (by decide +kernel) rfl), (am_in 0 (by decide +kernel) rfl), ⟨by decide, by decide⟩, am_sg (by decide +kernel)⟩
theorem cV_L_54 : am_cV "StrideViewsLaw" 54 mm_X_act 2 4 := ⟨ok_X_act, (am_in 419 (by decide +kernel) rfl), (am_in 420 (by decide +kernel) rfl), (am_in 421 (by decide +kernel) rfl), ⟨_, _, rfl⟩, ⟨by decide, by decide⟩, am_sg (by decide +kernel)⟩
theorem cS_X_195 : am_cS "StrideViews" 195 mm_X_reckon 3 := ⟨ok_X_reckon, (am_in 424 (by decide +kernel) rfl), (am_in 425 (by decide +kernel) rfl), (am_in 1 (by decide +kernel) rfl), ⟨by decide, by decide⟩, am_sg (by decide +kernel)⟩
theorem cS_L_136 : am_cS "StrideViewsLaw" 136 mm_L_fold 5 := ⟨ok_L_fold, (am_in 431 (by decide +kernel) rfl), (am_in 432 (by decide +kernel) rfl), (am_in 0 (by decide +kernel) rfl), ⟨by decide, by decide⟩, am_sg (by decide +kernel)⟩
theorem cV_L_57 : am_cV "StrideViewsLaw" 57 mm_X_fold 2 3 := ⟨ok_X_fold, (am_in 434 (by decide +kernel) rfl), (am_in 435 (by decide +kernel) rfl), (am_in 436 (by decide +kernel) rfl), ⟨_, _, rfl⟩, ⟨by decide, by decide⟩, am_sg (by decide +kernel)⟩
theorem cV_X_201 : am_cV "StrideViews" 201 mm_V_itemsBut 1 1 := ⟨ok_V_itemsBut, (am_in 439 (by decide +kernel) rfl), (am_in 219 (by decide +kernel) rfl), (am_in 220 (by decide +kernel) rfl), ⟨_, _, rfl⟩, ⟨by decide, by decide⟩, am_sg (by decide +kernel)⟩
theorem cV_X_204 : am_cV "StrideViews" 204 mm_X_foldInto 2 5 := ⟨ok_X_foldInto, (am_in 440 (by decide +kernel) rfl), (am_in 442 (by decide +kernel) rfl), (am_inS 10 (by decide +kernel) rfl), ⟨_, _, rfl⟩, ⟨by decide, by decide⟩, am_sg (by decide +kernel)⟩
theorem cS_X_269 : am_cS "StrideViews" 269 mm_X_neutral 1 := ⟨ok_X_neutral, (am_in 444 (by decide +kernel) rfl), (am_in 445 (by decide +kernel) rfl), (am_in 1 (by decide +kernel) rfl), ⟨by decide, by decide⟩, am_sg (by decide +kernel)⟩
theorem cS_L_139 : am_cS "StrideViewsLaw" 139 mm_L_shared 4 := ⟨ok_L_shared, (am_in 449 (by decide +kernel) rfl), (am_in 450 (by decide +kernel) rfl), (am_in 0 (by decide +kernel) rfl), ⟨by decide, by decide⟩, am_sg (by decide +kernel)⟩
theorem cV_L_60 : am_cV "StrideViewsLaw" 60 mm_X_shared 2 2 := ⟨ok_X_shared, (am_in 452 (by decide +kernel) rfl), (am_in 453 (by decide +kernel) rfl), (am_in 454 (by decide +kernel) rfl), ⟨_, _, rfl⟩, ⟨by decide, by decide⟩, am_sg (by decide +kernel)⟩
theorem cV_X_208 : am_cV "StrideViews" 208 mm_X_clearMarks 2 0 := ⟨ok_X_clearMarks, (am_in 456 (by decide +kernel) rfl), (am_in 458 (by decide +kernel) rfl), (am_inS 11 (by decide +kernel) rfl), ⟨_, _, rfl⟩, ⟨by decide, by decide⟩, am_sg (by decide +kernel)⟩
theorem cS_L_142 : am_cS "StrideViewsLaw" 142 mm_L_same 4 := ⟨ok_L_same, (am_in 460 (by decide +kernel) rfl), (am_in 461 (by decide +kernel) rfl), (am_in 0 (by decide +kernel) rfl), ⟨by decide, by decide⟩, am_sg (by decide +kernel)⟩
theorem cV_L_63 : am_cV "StrideViewsLaw" 63 mm_X_same 2 2 := ⟨ok_X_same, (am_in 463 (by decide +kernel) rfl), (am_in 464 (by decide +kernel) rfl), (am_in 465 (by decide +kernel) rfl), ⟨_, _, rfl⟩, ⟨by decide, by decide⟩, am_sg (by decide +kernel)⟩
theorem cV_X_211 : am_cV "StrideViews" 211 mm_V_hasExtentsOf 1 1 := ⟨ok_V_hasExtentsOf, (am_in 467 (by decide +kernel) rfl), (am_in 468 (by decide +kernel) rfl), (am_in 469 (by decide +kernel) rfl), ⟨_, _, rfl⟩, ⟨by decide, by decide⟩, am_sg (by decide +kernel)⟩
theorem cS_L_145 : am_cS "StrideViewsLaw" 145 mm_L_runs 3 := ⟨ok_L_runs, (am_in 471 (by decide +kernel) rfl), (am_in 472 (by decide +kernel) rfl), (am_in 0 (by decide +kernel) rfl), ⟨by decide, by decide⟩, am_sg (by decide +kernel)⟩
theorem cV_L_67 : am_cV "StrideViewsLaw" 67 mm_X_runs 2 1 := ⟨ok_X_runs, (am_in 474 (by decide +kernel) rfl), (am_in 475 (by decide +kernel) rfl), (am_in 476 (by decide +kernel) rfl), ⟨_, _, rfl⟩, ⟨by decide, by decide⟩, am_sg (by decide +kernel)⟩
theorem cS_L_149 : am_cS "StrideViewsLaw" 149 mm_L_told 4 := ⟨ok_L_told, (am_in 478 (by decide +kernel) rfl), (am_in 479 (by decide +kernel) rfl), (am_in 0 (by decide +kernel) rfl), ⟨by decide, by decide⟩, am_sg (by decide +kernel)⟩
theorem cV_L_71 : am_cV "StrideViewsLaw" 71 mm_X_told 2 2 := ⟨ok_X_told, (am_in 481 (by decide +kernel) rfl), (am_in 482 (by decide +kernel) rfl), (am_in 483 (by decide +kernel) rfl), ⟨_, _, rfl⟩, ⟨by decide, by decide⟩, am_sg (by decide +kernel)⟩
theorem cV_X_221 : am_cV "StrideViews" 221 mm_V_leastPlace 1 0 := ⟨ok_V_leastPlace, (am_in 485 (by decide +kernel) rfl), (am_in 486 (by decide +kernel) rfl), (am_in 487 (by decide +kernel) rfl), ⟨_, _, rfl⟩, ⟨by decide, by decide⟩, am_sg (by decide +kernel)⟩
theorem cV_X_225 : am_cV "StrideViews" 225 mm_V_greatestPlace 1 0 := ⟨ok_V_greatestPlace, (am_in 490 (by decide +kernel) rfl), (am_in 491 (by decide +kernel) rfl), (am_in 492 (by decide +kernel) rfl), ⟨_, _, rfl⟩, ⟨by decide, by decide⟩, am_sg (by decide +kernel)⟩
theorem cS_L_152 : am_cS "StrideViewsLaw" 152 mm_L_axis 5 := ⟨ok_L_axis, (am_in 496 (by decide +kernel) rfl), (am_in 497 (by decide +kernel) rfl), (am_in 0 (by decide +kernel) rfl), ⟨by decide, by decide⟩, am_sg (by decide +kernel)⟩
theorem cV_L_74 : am_cV "StrideViewsLaw" 74 mm_X_axis 2 3 := ⟨ok_X_axis, (am_in 499 (by decide +kernel) rfl), (am_in 500 (by decide +kernel) rfl), (am_in 501 (by decide +kernel) rfl), ⟨_, _, rfl⟩, ⟨by decide, by decide⟩, am_sg (by decide +kernel)⟩
theorem cS_L_155 : am_cS "StrideViewsLaw" 155 mm_L_stored 4 := ⟨ok_L_stored, (am_in 504 (by decide +kernel) rfl), (am_in 505 (by decide +kernel) rfl), (am_in 0 (by decide +kernel) rfl), ⟨by decide, by decide⟩, am_sg (by decide +kernel)⟩
theorem cV_L_77 : am_cV "StrideViewsLaw" 77 mm_X_stored 2 2 := ⟨ok_X_stored, (am_in 507 (by decide +kernel) rfl), (am_in 508 (by decide +kernel) rfl), (am_in 509 (by decide +kernel) rfl), ⟨_, _, rfl⟩, ⟨by decide, by decide⟩, am_sg (by decide +kernel)⟩
theorem cS_L_158 : am_cS "StrideViewsLaw" 158 mm_L_count 3 := ⟨ok_L_count, (am_in 513 (by decide +kernel) rfl), (am_in 514 (by decide +kernel) rfl), (am_in 0 (by decide +kernel) rfl), ⟨by decide, by decide⟩, am_sg (by decide +kernel)⟩
theorem cV_L_80 : am_cV "StrideViewsLaw" 80 mm_X_count 2 1 := ⟨ok_X_count, (am_in 516 (by decide +kernel) rfl), (am_in 517 (by decide +kernel) rfl), (am_in 518 (by decide +kernel) rfl), ⟨_, _, rfl⟩, ⟨by decide, by decide⟩, am_sg (by decide +kernel)⟩
theorem cI_L_86 : am_cI "StrideViewsLaw" 86 mm_M_init 0 := ⟨ok_M_init, rfl, rfl, rfl, (am_in 523 (by decide +kernel) rfl), (am_in 524 (by decide +kernel) rfl), (am_in 525 (by decide +kernel) rfl), ⟨by decide, by decide⟩, am_sg (by decide +kernel)⟩
theorem cV_L_93 : am_cV "StrideViewsLaw" 93 mm_M_thrown 3 0 := ⟨ok_M_thrown, (am_in 576 (by decide +kernel) rfl), (am_in 577 (by decide +kernel) rfl), (am_in 578 (by decide +kernel) rfl), ⟨_, _, rfl⟩, ⟨by decide, by decide⟩, am_sg (by decide +kernel)⟩
theorem cV_L_92 : am_cV "StrideViewsLaw" 92 mm_M_store 3 2 := ⟨ok_M_store, (am_in 580 (by decide +kernel) rfl), (am_in 581 (by decide +kernel) rfl), (am_in 582 (by decide +kernel) rfl), ⟨_, _, rfl⟩, ⟨by decide, by decide⟩, am_sg (by decide +kernel)⟩
theorem cS_M_87 : am_cS "StrideViewsModel" 87 mm_M_isLane 1 := ⟨ok_M_isLane, (am_in 584 (by decide +kernel) rfl), (am_in 585 (by decide +kernel) rfl), (am_in 2 (by decide +kernel) rfl), ⟨by decide, by decide⟩, am_sg (by decide +kernel)⟩
theorem cV_M_90 : am_cV "StrideViewsModel" 90 mm_M_goesOf 3 2 := ⟨ok_M_goesOf, (am_in 587 (by decide +kernel) rfl), (am_in 589 (by decide +kernel) rfl), (am_inS 12 (by decide +kernel) rfl), ⟨_, _, rfl⟩, ⟨by decide, by decide⟩, am_sg (by decide +kernel)⟩
theorem cV_M_94 : am_cV "StrideViewsModel" 94 mm_M_more 3 2 := ⟨ok_M_more, (am_in 591 (by decide +kernel) rfl), (am_in 593 (by decide +kernel) rfl), (am_inS 13 (by decide +kernel) rfl), ⟨_, _, rfl⟩, ⟨by decide, by decide⟩, am_sg (by decide +kernel)⟩
theorem cV_M_98 : am_cV "StrideViewsModel" 98 mm_M_addStore 3 2 := ⟨ok_M_addStore, (am_in 595 (by decide +kernel) rfl), (am_in 597 (by decide +kernel) rfl), (am_inS 14 (by decide +kernel) rfl), ⟨_, _, rfl⟩, ⟨by decide, by decide⟩, am_sg (by decide +kernel)⟩
theorem cV_M_101 : am_cV "StrideViewsModel" 101 mm_M_add 3 2 := ⟨ok_M_add, (am_in 599 (by decide +kernel) rfl), (am_in 601 (by decide +kernel) rfl), (am_inS 15 (by decide +kernel) rfl), ⟨_, _, rfl⟩, ⟨by decide, by decide⟩, am_sg (by decide +kernel)⟩
theorem cV_M_78 : am_cV "StrideViewsModel" 78 mm_M_product 3 0 := ⟨ok_M_product, (am_in 603 (by decide +kernel) rfl), (am_in 605 (by decide +kernel) rfl), (am_inS 16 (by decide +kernel) rfl), ⟨_, _, rfl⟩, ⟨by decide, by decide⟩, am_sg (by decide +kernel)⟩
theorem cV_L_100 : am_cV "StrideViewsLaw" 100 mm_M_slice 3 5 := ⟨ok_M_slice, (am_in 610 (by decide +kernel) rfl), (am_in 611 (by decide +kernel) rfl), (am_in 612 (by decide +kernel) rfl), ⟨_, _, rfl⟩, ⟨by decide, by decide⟩, am_sg (by decide +kernel)⟩
theorem cV_M_105 : am_cV "StrideViewsModel" 105 mm_M_isAxis 3 2 := ⟨ok_M_isAxis, (am_in 614 (by decide +kernel) rfl), (am_in 616 (by decide +kernel) rfl), (am_inS 17 (by decide +kernel) rfl), ⟨_, _, rfl⟩, ⟨by decide, by decide⟩, am_sg (by decide +kernel)⟩
theorem cV_M_55 : am_cV "StrideViewsModel" 55 mm_M_isView 3 1 := ⟨ok_M_isView, (am_in 618 (by decide +kernel) rfl), (am_in 620 (by decide +kernel) rfl), (am_inS 18 (by decide +kernel) rfl), ⟨_, _, rfl⟩, ⟨by decide, by decide⟩, am_sg (by decide +kernel)⟩
theorem cV_M_109 : am_cV "StrideViewsModel" 109 mm_M_goes 3 3 := ⟨ok_M_goes, (am_in 622 (by decide +kernel) rfl), (am_in 624 (by decide +kernel) rfl), (am_inS 19 (by decide +kernel) rfl), ⟨_, _, rfl⟩, ⟨by decide, by decide⟩, am_sg (by decide +kernel)⟩
theorem cV_M_113 : am_cV "StrideViewsModel" 113 mm_M_take 3 3 := ⟨ok_M_take, (am_in 626 (by decide +kernel) rfl), (am_in 628 (by decide +kernel) rfl), (am_inS 20 (by decide +kernel) rfl), ⟨_, _, rfl⟩, ⟨by decide, by decide⟩, am_sg (by decide +kernel)⟩
theorem cV_L_104 : am_cV "StrideViewsLaw" 104 mm_M_pick 3 3 := ⟨ok_M_pick, (am_in 630 (by decide +kernel) rfl), (am_in 631 (by decide +kernel) rfl), (am_in 632 (by decide +kernel) rfl), ⟨_, _, rfl⟩, ⟨by decide, by decide⟩, am_sg (by decide +kernel)⟩
theorem cV_L_107 : am_cV "StrideViewsLaw" 107 mm_M_turn 3 3 := ⟨ok_M_turn, (am_in 634 (by decide +kernel) rfl), (am_in 635 (by decide +kernel) rfl), (am_in 636 (by decide +kernel) rfl), ⟨_, _, rfl⟩, ⟨by decide, by decide⟩, am_sg (by decide +kernel)⟩
theorem cV_L_110 : am_cV "StrideViewsLaw" 110 mm_M_spread 3 3 := ⟨ok_M_spread, (am_in 638 (by decide +kernel) rfl), (am_in 639 (by decide +kernel) rfl), (am_in 640 (by decide +kernel) rfl), ⟨_, _, rfl⟩, ⟨by decide, by decide⟩, am_sg (by decide +kernel)⟩
theorem cV_L_113 : am_cV "StrideViewsLaw" 113 mm_M_diagonal 3 3 := ⟨ok_M_diagonal, (am_in 642 (by decide +kernel) rfl), (am_in 643 (by decide +kernel) rfl), (am_in 644 (by decide +kernel) rfl), ⟨_, _, rfl⟩, ⟨by decide, by decide⟩, am_sg (by decide +kernel)⟩
theorem cV_L_117 : am_cV "StrideViewsLaw" 117 mm_M_shape 3 4 := ⟨ok_M_shape, (am_in 646 (by decide +kernel) rfl), (am_in 647 (by decide +kernel) rfl), (am_in 648 (by decide +kernel) rfl), ⟨_, _, rfl⟩, ⟨by decide, by decide⟩, am_sg (by decide +kernel)⟩
theorem cV_M_121 : am_cV "StrideViewsModel" 121 mm_M_tells 3 3 := ⟨ok_M_tells, (am_in 650 (by decide +kernel) rfl), (am_in 652 (by decide +kernel) rfl), (am_inS 21 (by decide +kernel) rfl), ⟨_, _, rfl⟩, ⟨by decide, by decide⟩, am_sg (by decide +kernel)⟩
theorem cV_M_117 : am_cV "StrideViewsModel" 117 mm_M_items 3 1 := ⟨ok_M_items, (am_in 654 (by decide +kernel) rfl), (am_in 656 (by decide +kernel) rfl), (am_inS 22 (by decide +kernel) rfl), ⟨_, _, rfl⟩, ⟨by decide, by decide⟩, am_sg (by decide +kernel)⟩
theorem cV_M_125 : am_cV "StrideViewsModel" 125 mm_M_findSteps 3 1 := ⟨ok_M_findSteps, (am_in 658 (by decide +kernel) rfl), (am_in 660 (by decide +kernel) rfl), (am_inS 23 (by decide +kernel) rfl), ⟨_, _, rfl⟩, ⟨by decide, by decide⟩, am_sg (by decide +kernel)⟩
theorem cV_M_70 : am_cV "StrideViewsModel" 70 mm_M_place 3 2 := ⟨ok_M_place, (am_in 662 (by decide +kernel) rfl), (am_in 664 (by decide +kernel) rfl), (am_inS 24 (by decide +kernel) rfl), ⟨_, _, rfl⟩, ⟨by decide, by decide⟩, am_sg (by decide +kernel)⟩
theorem cV_M_66 : am_cV "StrideViewsModel" 66 mm_M_indexOf 3 3 := ⟨ok_M_indexOf, (am_in 666 (by decide +kernel) rfl), (am_in 668 (by decide +kernel) rfl), (am_inS 25 (by decide +kernel) rfl), ⟨_, _, rfl⟩, ⟨by decide, by decide⟩, am_sg (by decide +kernel)⟩
theorem cV_L_120 : am_cV "StrideViewsLaw" 120 mm_M_compact 3 2 := ⟨ok_M_compact, (am_in 670 (by decide +kernel) rfl), (am_in 671 (by decide +kernel) rfl), (am_in 672 (by decide +kernel) rfl), ⟨_, _, rfl⟩, ⟨by decide, by decide⟩, am_sg (by decide +kernel)⟩
theorem cV_M_128 : am_cV "StrideViewsModel" 128 mm_M_item 3 2 := ⟨ok_M_item, (am_in 674 (by decide +kernel) rfl), (am_in 676 (by decide +kernel) rfl), (am_inS 26 (by decide +kernel) rfl), ⟨_, _, rfl⟩, ⟨by decide, by decide⟩, am_sg (by decide +kernel)⟩
theorem cS_M_74 : am_cS "StrideViewsModel" 74 mm_M_kept 2 := ⟨ok_M_kept, (am_in 678 (by decide +kernel) rfl), (am_in 679 (by decide +kernel) rfl), (am_in 2 (by decide +kernel) rfl), ⟨by decide, by decide⟩, am_sg (by decide +kernel)⟩
theorem cV_M_132 : am_cV "StrideViewsModel" 132 mm_M_inOrder 3 0 := ⟨ok_M_inOrder, (am_in 681 (by decide +kernel) rfl), (am_in 683 (by decide +kernel) rfl), (am_inS 27 (by decide +kernel) rfl), ⟨_, _, rfl⟩, ⟨by decide, by decide⟩, am_sg (by decide +kernel)⟩
theorem cV_L_123 : am_cV "StrideViewsLaw" 123 mm_M_at 3 2 := ⟨ok_M_at, (am_in 685 (by decide +kernel) rfl), (am_in 686 (by decide +kernel) rfl), (am_in 687 (by decide +kernel) rfl), ⟨_, _, rfl⟩, ⟨by decide, by decide⟩, am_sg (by decide +kernel)⟩
theorem cV_L_129 : am_cV "StrideViewsLaw" 129 mm_M_put 3 3 := ⟨ok_M_put, (am_in 689 (by decide +kernel) rfl), (am_in 690 (by decide +kernel) rfl), (am_in 691 (by decide +kernel) rfl), ⟨_, _, rfl⟩, ⟨by decide, by decide⟩, am_sg (by decide +kernel)⟩
theorem cV_M_135 : am_cV "StrideViewsModel" 135 mm_M_isFixed 3 1 := ⟨ok_M_isFixed, (am_in 693 (by decide +kernel) rfl), (am_in 695 (by decide +kernel) rfl), (am_inS 28 (by decide +kernel) rfl), ⟨_, _, rfl⟩, ⟨by decide, by decide⟩, am_sg (by decide +kernel)⟩
theorem cV_M_138 : am_cV "StrideViewsModel" 138 mm_M_setItem 3 3 := ⟨ok_M_setItem, (am_in 697 (by decide +kernel) rfl), (am_in 699 (by decide +kernel) rfl), (am_inS 29 (by decide +kernel) rfl), ⟨_, _, rfl⟩, ⟨by decide, by decide⟩, am_sg (by decide +kernel)⟩
theorem cV_L_132 : am_cV "StrideViewsLaw" 132 mm_M_copy 3 2 := ⟨ok_M_copy, (am_in 701 (by decide +kernel) rfl), (am_in 702 (by decide +kernel) rfl), (am_in 703 (by decide +kernel) rfl), ⟨_, _, rfl⟩, ⟨by decide, by decide⟩, am_sg (by decide +kernel)⟩
theorem cV_M_142 : am_cV "StrideViewsModel" 142 mm_M_goesTo 3 2 := ⟨ok_M_goesTo, (am_in 705 (by decide +kernel) rfl), (am_in 707 (by decide +kernel) rfl), (am_inS 30 (by decide +kernel) rfl), ⟨_, _, rfl⟩, ⟨by decide, by decide⟩, am_sg (by decide +kernel)⟩
theorem cV_M_145 : am_cV "StrideViewsModel" 145 mm_M_gone 3 3 := ⟨ok_M_gone, (am_in 709 (by decide +kernel) rfl), (am_in 711 (by decide +kernel) rfl), (am_inS 31 (by decide +kernel) rfl), ⟨_, _, rfl⟩, ⟨by decide, by decide⟩, am_sg (by decide +kernel)⟩
theorem cV_M_149 : am_cV "StrideViewsModel" 149 mm_M_putAll 3 1 := ⟨ok_M_putAll, (am_in 713 (by decide +kernel) rfl), (am_in 715 (by decide +kernel) rfl), (am_inS 32 (by decide +kernel) rfl), ⟨_, _, rfl⟩, ⟨by decide, by decide⟩, am_sg (by decide +kernel)⟩
theorem cV_L_135 : am_cV "StrideViewsLaw" 135 mm_M_act 3 4 := ⟨ok_M_act, (am_in 717 (by decide +kernel) rfl), (am_in 718 (by decide +kernel) rfl), (am_in 719 (by decide +kernel) rfl), ⟨_, _, rfl⟩, ⟨by decide, by decide⟩, am_sg (by decide +kernel)⟩
theorem cS_M_152 : am_cS "StrideViewsModel" 152 mm_M_acted 3 := ⟨ok_M_acted, (am_in 721 (by decide +kernel) rfl), (am_in 722 (by decide +kernel) rfl), (am_in 2 (by decide +kernel) rfl), ⟨by decide, by decide⟩, am_sg (by decide +kernel)⟩
theorem cV_L_138 : am_cV "StrideViewsLaw" 138 mm_M_fold 3 3 := ⟨ok_M_fold, (am_in 724 (by decide +kernel) rfl), (am_in 725 (by decide +kernel) rfl), (am_in 726 (by decide +kernel) rfl), ⟨_, _, rfl⟩, ⟨by decide, by decide⟩, am_sg (by decide +kernel)⟩
theorem cV_L_141 : am_cV "StrideViewsLaw" 141 mm_M_shared 3 2 := ⟨ok_M_shared, (am_in 731 (by decide +kernel) rfl), (am_in 732 (by decide +kernel) rfl), (am_in 733 (by decide +kernel) rfl), ⟨_, _, rfl⟩, ⟨by decide, by decide⟩, am_sg (by decide +kernel)⟩
theorem cV_L_144 : am_cV "StrideViewsLaw" 144 mm_M_same 3 2 := ⟨ok_M_same, (am_in 735 (by decide +kernel) rfl), (am_in 736 (by decide +kernel) rfl), (am_in 737 (by decide +kernel) rfl), ⟨_, _, rfl⟩, ⟨by decide, by decide⟩, am_sg (by decide +kernel)⟩
theorem cV_L_148 : am_cV "StrideViewsLaw" 148 mm_M_runs 3 1 := ⟨ok_M_runs, (am_in 739 (by decide +kernel) rfl), (am_in 740 (by decide +kernel) rfl), (am_in 741 (by decide +kernel) rfl), ⟨_, _, rfl⟩, ⟨by decide, by decide⟩, am_sg (by decide +kernel)⟩
theorem cV_L_151 : am_cV "StrideViewsLaw" 151 mm_M_told 3 2 := ⟨ok_M_told, (am_in 743 (by decide +kernel) rfl), (am_in 744 (by decide +kernel) rfl), (am_in 745 (by decide +kernel) rfl), ⟨_, _, rfl⟩, ⟨by decide, by decide⟩, am_sg (by decide +kernel)⟩
theorem cV_M_162 : am_cV "StrideViewsModel" 162 mm_M_end 3 2 := ⟨ok_M_end, (am_in 747 (by decide +kernel) rfl), (am_in 749 (by decide +kernel) rfl), (am_inS 33 (by decide +kernel) rfl), ⟨_, _, rfl⟩, ⟨by decide, by decide⟩, am_sg (by decide +kernel)⟩
theorem cV_L_154 : am_cV "StrideViewsLaw" 154 mm_M_axis 3 3 := ⟨ok_M_axis, (am_in 751 (by decide +kernel) rfl), (am_in 752 (by decide +kernel) rfl), (am_in 753 (by decide +kernel) rfl), ⟨_, _, rfl⟩, ⟨by decide, by decide⟩, am_sg (by decide +kernel)⟩
theorem cV_L_157 : am_cV "StrideViewsLaw" 157 mm_M_stored 3 2 := ⟨ok_M_stored, (am_in 755 (by decide +kernel) rfl), (am_in 756 (by decide +kernel) rfl), (am_in 757 (by decide +kernel) rfl), ⟨_, _, rfl⟩, ⟨by decide, by decide⟩, am_sg (by decide +kernel)⟩
theorem cV_L_160 : am_cV "StrideViewsLaw" 160 mm_M_count 3 1 := ⟨ok_M_count, (am_in 759 (by decide +kernel) rfl), (am_in 760 (by decide +kernel) rfl), (am_in 761 (by decide +kernel) rfl), ⟨_, _, rfl⟩, ⟨by decide, by decide⟩, am_sg (by decide +kernel)⟩
theorem nw_L_8 : am_nw "StrideViewsLaw" 8 2 [.null, .null, .int 0, .int 0, .null, .null, .null] := ⟨_, am_TX, 7, am_tX, rfl, am_iX, am_qX, (am_in 12 (by decide +kernel) rfl), (am_in 13 (by decide +kernel) rfl), (am_in 1 (by decide +kernel) rfl), by decide +kernel, rfl⟩
theorem nw_X_9 : am_nw "StrideViews" 9 0 [.int 0, .int 0, .null, .int 0] := ⟨_, am_TS, 4, am_tS, rfl, am_iS, am_qS, (am_in 20 (by decide +kernel) rfl), (am_in 150 (by decide +kernel) rfl), (am_in 8 (by decide +kernel) rfl), by decide +kernel, rfl⟩
theorem nw_X_15 : am_nw "StrideViews" 15 1 [.null, .int 0, .int 0, .int 0, .null, .null] := ⟨_, am_TV, 6, am_tV, rfl, am_iV, am_qV, (am_in 22 (by decide +kernel) rfl), (am_in 172 (by decide +kernel) rfl), (am_in 9 (by decide +kernel) rfl), by decide +kernel, rfl⟩
theorem nw_V_10 : am_nw "StrideViews$View" 10 1 [.null, .int 0, .int 0, .int 0, .null, .null] := ⟨_, am_TV, 6, am_tV, rfl, am_iV, am_qV, (am_in 268 (by decide +kernel) rfl), (am_in 172 (by decide +kernel) rfl), (am_in 9 (by decide +kernel) rfl), by decide +kernel, rfl⟩
theorem nw_L_84 : am_nw "StrideViewsLaw" 84 3 [.int 0, .int 0, .null, .null, .null, .int 0, .null, .null, .null, .null, .null, .null, .null, .int 0, .null, .null] := ⟨_, am_TM, 16, am_tM, rfl, am_iM, am_qM, (am_in 521 (by decide +kernel) rfl), (am_in 522 (by decide +kernel) rfl), (am_in 2 (by decide +kernel) rfl), by decide +kernel, rfl⟩
theorem am_eat {own : String} {ic : Nat} {X : String} {names : List String} (h : (vx_atS own ic X names).all (fun w => decide (w ∈ am_tbl)) = true) : ∀ w ∈ vx_atS own ic X names, w ∈ am_tbl := fun w hw => of_decide_eq_true (List.all_eq_true.mp h w hw)
theorem te_X_48 : ∀ w ∈ vx_atS "StrideViews" 48 "java/lang/IllegalArgumentException" ["java/lang/RuntimeException", "java/lang/Exception"], w ∈ am_tbl := am_eat (by decide +kernel)
theorem tg_X_44_48 : ∀ w ∈ Cond.classLink "StrideViews" 44 "java/lang/IllegalArgumentException" :: Cond.initialized "java/lang/IllegalArgumentException" :: vx_atS "StrideViews" 48 "java/lang/IllegalArgumentException" ["java/lang/RuntimeException", "java/lang/Exception"], vx_ot w = true := by decide +kernel
theorem tw_X_44_46_48 : am_tw "StrideViews" 44 46 48 "java/lang/IllegalArgumentException" "a store has 0 to 300 numbers" ["java/lang/RuntimeException", "java/lang/Exception"] 5 := ⟨by decide +kernel, by decide +kernel, by decide, (am_in 61 (by decide +kernel) rfl), (am_in 6 (by decide +kernel) rfl), by decide +kernel, te_X_48, tg_X_44_48, _, rfl⟩
theorem tw_X_44_250_48 : am_tw "StrideViews" 44 250 48 "java/lang/IllegalArgumentException" "no such lane" ["java/lang/RuntimeException", "java/lang/Exception"] 5 := ⟨by decide +kernel, by decide +kernel, by decide, (am_in 61 (by decide +kernel) rfl), (am_in 6 (by decide +kernel) rfl), by decide +kernel, te_X_48, tg_X_44_48, _, rfl⟩
theorem te_X_115 : ∀ w ∈ vx_atS "StrideViews" 115 "java/lang/IllegalStateException" ["java/lang/RuntimeException", "java/lang/Exception"], w ∈ am_tbl := am_eat (by decide +kernel)
theorem tg_X_111_115 : ∀ w ∈ Cond.classLink "StrideViews" 111 "java/lang/IllegalStateException" :: Cond.initialized "java/lang/IllegalStateException" :: vx_atS "StrideViews" 115 "java/lang/IllegalStateException" ["java/lang/RuntimeException", "java/lang/Exception"], vx_ot w = true := by decide +kernel
theorem tw_X_111_265_115 : am_tw "StrideViews" 111 265 115 "java/lang/IllegalStateException" "too many stores or views" ["java/lang/RuntimeException", "java/lang/Exception"] 6 := ⟨by decide +kernel, by decide +kernel, by decide, (am_in 134 (by decide +kernel) rfl), (am_in 7 (by decide +kernel) rfl), by decide +kernel, te_X_115, tg_X_111_115, _, rfl⟩
theorem tw_X_111_267_115 : am_tw "StrideViews" 111 267 115 "java/lang/IllegalStateException" "too many views or items" ["java/lang/RuntimeException", "java/lang/Exception"] 6 := ⟨by decide +kernel, by decide +kernel, by decide, (am_in 134 (by decide +kernel) rfl), (am_in 7 (by decide +kernel) rfl), by decide +kernel, te_X_115, tg_X_111_115, _, rfl⟩
theorem te_X_100 : ∀ w ∈ vx_atS "StrideViews" 100 "java/lang/IndexOutOfBoundsException" ["java/lang/RuntimeException", "java/lang/Exception"], w ∈ am_tbl := am_eat (by decide +kernel)
theorem tg_X_96_100 : ∀ w ∈ Cond.classLink "StrideViews" 96 "java/lang/IndexOutOfBoundsException" :: Cond.initialized "java/lang/IndexOutOfBoundsException" :: vx_atS "StrideViews" 100 "java/lang/IndexOutOfBoundsException" ["java/lang/RuntimeException", "java/lang/Exception"], vx_ot w = true := by decide +kernel
theorem tw_X_96_244_100 : am_tw "StrideViews" 96 244 100 "java/lang/IndexOutOfBoundsException" "no such view" ["java/lang/RuntimeException", "java/lang/Exception"] 4 := ⟨by decide +kernel, by decide +kernel, by decide, (am_in 239 (by decide +kernel) rfl), (am_in 11 (by decide +kernel) rfl), by decide +kernel, te_X_100, tg_X_96_100, _, rfl⟩
theorem tw_X_96_246_100 : am_tw "StrideViews" 96 246 100 "java/lang/IndexOutOfBoundsException" "no such axis" ["java/lang/RuntimeException", "java/lang/Exception"] 4 := ⟨by decide +kernel, by decide +kernel, by decide, (am_in 239 (by decide +kernel) rfl), (am_in 11 (by decide +kernel) rfl), by decide +kernel, te_X_100, tg_X_96_100, _, rfl⟩
theorem tw_X_44_252_48 : am_tw "StrideViews" 44 252 48 "java/lang/IllegalArgumentException" "an extent below 0, or a step of 0" ["java/lang/RuntimeException", "java/lang/Exception"] 5 := ⟨by decide +kernel, by decide +kernel, by decide, (am_in 61 (by decide +kernel) rfl), (am_in 6 (by decide +kernel) rfl), by decide +kernel, te_X_48, tg_X_44_48, _, rfl⟩
theorem tw_X_44_254_48 : am_tw "StrideViews" 44 254 48 "java/lang/IllegalArgumentException" "an index outside the axis" ["java/lang/RuntimeException", "java/lang/Exception"] 5 := ⟨by decide +kernel, by decide +kernel, by decide, (am_in 61 (by decide +kernel) rfl), (am_in 6 (by decide +kernel) rfl), by decide +kernel, te_X_48, tg_X_44_48, _, rfl⟩
theorem tw_X_96_98_100 : am_tw "StrideViews" 96 98 100 "java/lang/IndexOutOfBoundsException" "no such index along the axis" ["java/lang/RuntimeException", "java/lang/Exception"] 4 := ⟨by decide +kernel, by decide +kernel, by decide, (am_in 239 (by decide +kernel) rfl), (am_in 11 (by decide +kernel) rfl), by decide +kernel, te_X_100, tg_X_96_100, _, rfl⟩
theorem tw_X_96_107_100 : am_tw "StrideViews" 96 107 100 "java/lang/IndexOutOfBoundsException" "no such place for an axis" ["java/lang/RuntimeException", "java/lang/Exception"] 4 := ⟨by decide +kernel, by decide +kernel, by decide, (am_in 239 (by decide +kernel) rfl), (am_in 11 (by decide +kernel) rfl), by decide +kernel, te_X_100, tg_X_96_100, _, rfl⟩
theorem tw_X_44_109_48 : am_tw "StrideViews" 44 109 48 "java/lang/IllegalArgumentException" "an extent below 0" ["java/lang/RuntimeException", "java/lang/Exception"] 5 := ⟨by decide +kernel, by decide +kernel, by decide, (am_in 61 (by decide +kernel) rfl), (am_in 6 (by decide +kernel) rfl), by decide +kernel, te_X_48, tg_X_44_48, _, rfl⟩
theorem tw_X_111_113_115 : am_tw "StrideViews" 111 113 115 "java/lang/IllegalStateException" "the view has four axes" ["java/lang/RuntimeException", "java/lang/Exception"] 6 := ⟨by decide +kernel, by decide +kernel, by decide, (am_in 134 (by decide +kernel) rfl), (am_in 7 (by decide +kernel) rfl), by decide +kernel, te_X_115, tg_X_111_115, _, rfl⟩
theorem tw_X_44_116_48 : am_tw "StrideViews" 44 116 48 "java/lang/IllegalArgumentException" "the two axes are one" ["java/lang/RuntimeException", "java/lang/Exception"] 5 := ⟨by decide +kernel, by decide +kernel, by decide, (am_in 61 (by decide +kernel) rfl), (am_in 6 (by decide +kernel) rfl), by decide +kernel, te_X_48, tg_X_44_48, _, rfl⟩
theorem tw_X_44_127_48 : am_tw "StrideViews" 44 127 48 "java/lang/IllegalArgumentException" "an extent below NONE" ["java/lang/RuntimeException", "java/lang/Exception"] 5 := ⟨by decide +kernel, by decide +kernel, by decide, (am_in 61 (by decide +kernel) rfl), (am_in 6 (by decide +kernel) rfl), by decide +kernel, te_X_48, tg_X_44_48, _, rfl⟩
theorem tw_X_44_142_48 : am_tw "StrideViews" 44 142 48 "java/lang/IllegalArgumentException" "the extents make another number of items" ["java/lang/RuntimeException", "java/lang/Exception"] 5 := ⟨by decide +kernel, by decide +kernel, by decide, (am_in 61 (by decide +kernel) rfl), (am_in 6 (by decide +kernel) rfl), by decide +kernel, te_X_48, tg_X_44_48, _, rfl⟩
theorem tw_X_111_156_115 : am_tw "StrideViews" 111 156 115 "java/lang/IllegalStateException" "there are no such steps" ["java/lang/RuntimeException", "java/lang/Exception"] 6 := ⟨by decide +kernel, by decide +kernel, by decide, (am_in 134 (by decide +kernel) rfl), (am_in 7 (by decide +kernel) rfl), by decide +kernel, te_X_115, tg_X_111_115, _, rfl⟩
theorem tw_X_111_263_115 : am_tw "StrideViews" 111 263 115 "java/lang/IllegalStateException" "more than 300 items" ["java/lang/RuntimeException", "java/lang/Exception"] 6 := ⟨by decide +kernel, by decide +kernel, by decide, (am_in 134 (by decide +kernel) rfl), (am_in 7 (by decide +kernel) rfl), by decide +kernel, te_X_115, tg_X_111_115, _, rfl⟩
theorem tw_X_96_248_100 : am_tw "StrideViews" 96 248 100 "java/lang/IndexOutOfBoundsException" "no such item" ["java/lang/RuntimeException", "java/lang/Exception"] 4 := ⟨by decide +kernel, by decide +kernel, by decide, (am_in 239 (by decide +kernel) rfl), (am_in 11 (by decide +kernel) rfl), by decide +kernel, te_X_100, tg_X_96_100, _, rfl⟩
theorem tw_X_111_261_115 : am_tw "StrideViews" 111 261 115 "java/lang/IllegalStateException" "the view is fixed" ["java/lang/RuntimeException", "java/lang/Exception"] 6 := ⟨by decide +kernel, by decide +kernel, by decide, (am_in 134 (by decide +kernel) rfl), (am_in 7 (by decide +kernel) rfl), by decide +kernel, te_X_115, tg_X_111_115, _, rfl⟩
theorem tw_X_44_259_48 : am_tw "StrideViews" 44 259 48 "java/lang/IllegalArgumentException" "a view does not go to the other one" ["java/lang/RuntimeException", "java/lang/Exception"] 5 := ⟨by decide +kernel, by decide +kernel, by decide, (am_in 61 (by decide +kernel) rfl), (am_in 6 (by decide +kernel) rfl), by decide +kernel, te_X_48, tg_X_44_48, _, rfl⟩
theorem tw_X_44_193_48 : am_tw "StrideViews" 44 193 48 "java/lang/IllegalArgumentException" "no such act" ["java/lang/RuntimeException", "java/lang/Exception"] 5 := ⟨by decide +kernel, by decide +kernel, by decide, (am_in 61 (by decide +kernel) rfl), (am_in 6 (by decide +kernel) rfl), by decide +kernel, te_X_48, tg_X_44_48, _, rfl⟩
theorem tw_X_44_199_48 : am_tw "StrideViews" 44 199 48 "java/lang/IllegalArgumentException" "no such act for a fold" ["java/lang/RuntimeException", "java/lang/Exception"] 5 := ⟨by decide +kernel, by decide +kernel, by decide, (am_in 61 (by decide +kernel) rfl), (am_in 6 (by decide +kernel) rfl), by decide +kernel, te_X_48, tg_X_44_48, _, rfl⟩
theorem tw_X_44_228_48 : am_tw "StrideViews" 44 228 48 "java/lang/IllegalArgumentException" "nothing of a view has this number" ["java/lang/RuntimeException", "java/lang/Exception"] 5 := ⟨by decide +kernel, by decide +kernel, by decide, (am_in 61 (by decide +kernel) rfl), (am_in 6 (by decide +kernel) rfl), by decide +kernel, te_X_48, tg_X_44_48, _, rfl⟩
theorem tw_X_44_230_48 : am_tw "StrideViews" 44 230 48 "java/lang/IllegalArgumentException" "nothing of an axis has this number" ["java/lang/RuntimeException", "java/lang/Exception"] 5 := ⟨by decide +kernel, by decide +kernel, by decide, (am_in 61 (by decide +kernel) rfl), (am_in 6 (by decide +kernel) rfl), by decide +kernel, te_X_48, tg_X_44_48, _, rfl⟩
theorem tw_X_96_232_100 : am_tw "StrideViews" 96 232 100 "java/lang/IndexOutOfBoundsException" "no such store" ["java/lang/RuntimeException", "java/lang/Exception"] 4 := ⟨by decide +kernel, by decide +kernel, by decide, (am_in 239 (by decide +kernel) rfl), (am_in 11 (by decide +kernel) rfl), by decide +kernel, te_X_100, tg_X_96_100, _, rfl⟩
theorem tw_X_44_240_48 : am_tw "StrideViews" 44 240 48 "java/lang/IllegalArgumentException" "nothing of a store has this number" ["java/lang/RuntimeException", "java/lang/Exception"] 5 := ⟨by decide +kernel, by decide +kernel, by decide, (am_in 61 (by decide +kernel) rfl), (am_in 6 (by decide +kernel) rfl), by decide +kernel, te_X_48, tg_X_44_48, _, rfl⟩
theorem tw_X_44_242_48 : am_tw "StrideViews" 44 242 48 "java/lang/IllegalArgumentException" "nothing that is counted has this number" ["java/lang/RuntimeException", "java/lang/Exception"] 5 := ⟨by decide +kernel, by decide +kernel, by decide, (am_in 61 (by decide +kernel) rfl), (am_in 6 (by decide +kernel) rfl), by decide +kernel, te_X_48, tg_X_44_48, _, rfl⟩
end
section
/-! decode rows -/
theorem d_S_init_0 : decode prog_2_method_1_code 0 = .ok (.aload_n 0, 1) := by decide +kernel
theorem d_S_init_1 : decode prog_2_method_1_code 1 = .ok (.invokespecial 3, 3) := by decide +kernel
theorem d_S_init_4 : decode prog_2_method_1_code 4 = .ok (.aload_n 0, 1) := by decide +kernel
theorem d_S_init_5 : decode prog_2_method_1_code 5 = .ok (.iload_n 1, 1) := by decide +kernel
theorem d_S_init_6 : decode prog_2_method_1_code 6 = .ok (.putfield 9, 3) := by decide +kernel
theorem d_S_init_9 : decode prog_2_method_1_code 9 = .ok (.aload_n 0, 1) := by decide +kernel
theorem d_S_init_10 : decode prog_2_method_1_code 10 = .ok (.iload_n 2, 1) := by decide +kernel
theorem d_S_init_11 : decode prog_2_method_1_code 11 = .ok (.putfield 15, 3) := by decide +kernel
theorem d_S_init_14 : decode prog_2_method_1_code 14 = .ok (.aload_n 0, 1) := by decide +kernel
theorem d_S_init_15 : decode prog_2_method_1_code 15 = .ok (.iload_n 3, 1) := by decide +kernel
theorem d_S_init_16 : decode prog_2_method_1_code 16 = .ok (.newarray .long, 2) := by decide +kernel
theorem d_S_init_18 : decode prog_2_method_1_code 18 = .ok (.putfield 18, 3) := by decide +kernel
theorem d_S_init_21 : decode prog_2_method_1_code 21 = .ok (.aload_n 0, 1) := by decide +kernel
theorem d_S_init_22 : decode prog_2_method_1_code 22 = .ok (.iconst 0, 1) := by decide +kernel
theorem d_S_init_23 : decode prog_2_method_1_code 23 = .ok (.putfield 22, 3) := by decide +kernel
theorem d_S_init_26 : decode prog_2_method_1_code 26 = .ok (.return_, 1) := by decide +kernel
theorem d_V_init_0 : decode prog_3_method_1_code 0 = .ok (.aload_n 0, 1) := by decide +kernel
theorem d_V_init_1 : decode prog_3_method_1_code 1 = .ok (.invokespecial 3, 3) := by decide +kernel
theorem d_V_init_4 : decode prog_3_method_1_code 4 = .ok (.aload_n 0, 1) := by decide +kernel
theorem d_V_init_5 : decode prog_3_method_1_code 5 = .ok (.iconst 4, 1) := by decide +kernel
theorem d_V_init_6 : decode prog_3_method_1_code 6 = .ok (.newarray .int, 2) := by decide +kernel
theorem d_V_init_8 : decode prog_3_method_1_code 8 = .ok (.putfield 9, 3) := by decide +kernel
theorem d_V_init_11 : decode prog_3_method_1_code 11 = .ok (.aload_n 0, 1) := by decide +kernel
theorem d_V_init_12 : decode prog_3_method_1_code 12 = .ok (.iconst 4, 1) := by decide +kernel
theorem d_V_init_13 : decode prog_3_method_1_code 13 = .ok (.newarray .int, 2) := by decide +kernel
theorem d_V_init_15 : decode prog_3_method_1_code 15 = .ok (.putfield 15, 3) := by decide +kernel
theorem d_V_init_18 : decode prog_3_method_1_code 18 = .ok (.aload_n 0, 1) := by decide +kernel
theorem d_V_init_19 : decode prog_3_method_1_code 19 = .ok (.aload_n 1, 1) := by decide +kernel
theorem d_V_init_20 : decode prog_3_method_1_code 20 = .ok (.putfield 18, 3) := by decide +kernel
theorem d_V_init_23 : decode prog_3_method_1_code 23 = .ok (.aload_n 0, 1) := by decide +kernel
theorem d_V_init_24 : decode prog_3_method_1_code 24 = .ok (.iload_n 2, 1) := by decide +kernel
theorem d_V_init_25 : decode prog_3_method_1_code 25 = .ok (.putfield 22, 3) := by decide +kernel
theorem d_V_init_28 : decode prog_3_method_1_code 28 = .ok (.aload_n 0, 1) := by decide +kernel
theorem d_V_init_29 : decode prog_3_method_1_code 29 = .ok (.iconst 0, 1) := by decide +kernel
theorem d_V_init_30 : decode prog_3_method_1_code 30 = .ok (.putfield 26, 3) := by decide +kernel
theorem d_V_init_33 : decode prog_3_method_1_code 33 = .ok (.aload_n 0, 1) := by decide +kernel
theorem d_V_init_34 : decode prog_3_method_1_code 34 = .ok (.iconst 0, 1) := by decide +kernel
theorem d_V_init_35 : decode prog_3_method_1_code 35 = .ok (.putfield 29, 3) := by decide +kernel
theorem d_V_init_38 : decode prog_3_method_1_code 38 = .ok (.return_, 1) := by decide +kernel
theorem d_V_insert_0 : decode prog_3_method_3_code 0 = .ok (.aload_n 0, 1) := by decide +kernel
theorem d_V_insert_1 : decode prog_3_method_3_code 1 = .ok (.getfield 26, 3) := by decide +kernel
theorem d_V_insert_4 : decode prog_3_method_3_code 4 = .ok (.istore 4, 2) := by decide +kernel
theorem d_V_insert_6 : decode prog_3_method_3_code 6 = .ok (.iload 4, 2) := by decide +kernel
theorem d_V_insert_8 : decode prog_3_method_3_code 8 = .ok (.iload_n 1, 1) := by decide +kernel
theorem d_V_insert_9 : decode prog_3_method_3_code 9 = .ok (.if_icmp .le 41, 3) := by decide +kernel
theorem d_V_insert_12 : decode prog_3_method_3_code 12 = .ok (.aload_n 0, 1) := by decide +kernel
theorem d_V_insert_13 : decode prog_3_method_3_code 13 = .ok (.getfield 9, 3) := by decide +kernel
theorem d_V_insert_16 : decode prog_3_method_3_code 16 = .ok (.iload 4, 2) := by decide +kernel
theorem d_V_insert_18 : decode prog_3_method_3_code 18 = .ok (.aload_n 0, 1) := by decide +kernel
theorem d_V_insert_19 : decode prog_3_method_3_code 19 = .ok (.getfield 9, 3) := by decide +kernel
theorem d_V_insert_22 : decode prog_3_method_3_code 22 = .ok (.iload 4, 2) := by decide +kernel
theorem d_V_insert_24 : decode prog_3_method_3_code 24 = .ok (.iconst 1, 1) := by decide +kernel
theorem d_V_insert_25 : decode prog_3_method_3_code 25 = .ok (.isub, 1) := by decide +kernel
theorem d_V_insert_26 : decode prog_3_method_3_code 26 = .ok (.iaload, 1) := by decide +kernel
theorem d_V_insert_27 : decode prog_3_method_3_code 27 = .ok (.iastore, 1) := by decide +kernel
theorem d_V_insert_28 : decode prog_3_method_3_code 28 = .ok (.aload_n 0, 1) := by decide +kernel
theorem d_V_insert_29 : decode prog_3_method_3_code 29 = .ok (.getfield 15, 3) := by decide +kernel
theorem d_V_insert_32 : decode prog_3_method_3_code 32 = .ok (.iload 4, 2) := by decide +kernel
theorem d_V_insert_34 : decode prog_3_method_3_code 34 = .ok (.aload_n 0, 1) := by decide +kernel
theorem d_V_insert_35 : decode prog_3_method_3_code 35 = .ok (.getfield 15, 3) := by decide +kernel
theorem d_V_insert_38 : decode prog_3_method_3_code 38 = .ok (.iload 4, 2) := by decide +kernel
theorem d_V_insert_40 : decode prog_3_method_3_code 40 = .ok (.iconst 1, 1) := by decide +kernel
theorem d_V_insert_41 : decode prog_3_method_3_code 41 = .ok (.isub, 1) := by decide +kernel
theorem d_V_insert_42 : decode prog_3_method_3_code 42 = .ok (.iaload, 1) := by decide +kernel
theorem d_V_insert_43 : decode prog_3_method_3_code 43 = .ok (.iastore, 1) := by decide +kernel
theorem d_V_insert_44 : decode prog_3_method_3_code 44 = .ok (.iinc 4 (-1), 3) := by decide +kernel
theorem d_V_insert_47 : decode prog_3_method_3_code 47 = .ok (.goto (-41), 3) := by decide +kernel
theorem d_V_insert_50 : decode prog_3_method_3_code 50 = .ok (.aload_n 0, 1) := by decide +kernel
theorem d_V_insert_51 : decode prog_3_method_3_code 51 = .ok (.getfield 9, 3) := by decide +kernel
theorem d_V_insert_54 : decode prog_3_method_3_code 54 = .ok (.iload_n 1, 1) := by decide +kernel
theorem d_V_insert_55 : decode prog_3_method_3_code 55 = .ok (.iload_n 2, 1) := by decide +kernel
theorem d_V_insert_56 : decode prog_3_method_3_code 56 = .ok (.iastore, 1) := by decide +kernel
theorem d_V_insert_57 : decode prog_3_method_3_code 57 = .ok (.aload_n 0, 1) := by decide +kernel
theorem d_V_insert_58 : decode prog_3_method_3_code 58 = .ok (.getfield 15, 3) := by decide +kernel
theorem d_V_insert_61 : decode prog_3_method_3_code 61 = .ok (.iload_n 1, 1) := by decide +kernel
theorem d_V_insert_62 : decode prog_3_method_3_code 62 = .ok (.iload_n 3, 1) := by decide +kernel
theorem d_V_insert_63 : decode prog_3_method_3_code 63 = .ok (.iastore, 1) := by decide +kernel
theorem d_V_insert_64 : decode prog_3_method_3_code 64 = .ok (.aload_n 0, 1) := by decide +kernel
theorem d_V_insert_65 : decode prog_3_method_3_code 65 = .ok (.dup, 1) := by decide +kernel
theorem d_V_insert_66 : decode prog_3_method_3_code 66 = .ok (.getfield 26, 3) := by decide +kernel
theorem d_V_insert_69 : decode prog_3_method_3_code 69 = .ok (.iconst 1, 1) := by decide +kernel
theorem d_V_insert_70 : decode prog_3_method_3_code 70 = .ok (.iadd, 1) := by decide +kernel
theorem d_V_insert_71 : decode prog_3_method_3_code 71 = .ok (.putfield 26, 3) := by decide +kernel
theorem d_V_insert_74 : decode prog_3_method_3_code 74 = .ok (.return_, 1) := by decide +kernel
theorem d_V_settle_0 : decode prog_3_method_8_code 0 = .ok (.aload_n 0, 1) := by decide +kernel
theorem d_V_settle_1 : decode prog_3_method_8_code 1 = .ok (.aload_n 0, 1) := by decide +kernel
theorem d_V_settle_2 : decode prog_3_method_8_code 2 = .ok (.iconst (-1), 1) := by decide +kernel
theorem d_V_settle_3 : decode prog_3_method_8_code 3 = .ok (.invokevirtual 39, 3) := by decide +kernel
theorem d_V_settle_6 : decode prog_3_method_8_code 6 = .ok (.putfield 29, 3) := by decide +kernel
theorem d_V_settle_9 : decode prog_3_method_8_code 9 = .ok (.iconst 0, 1) := by decide +kernel
theorem d_V_settle_10 : decode prog_3_method_8_code 10 = .ok (.istore_n 1, 1) := by decide +kernel
theorem d_V_settle_11 : decode prog_3_method_8_code 11 = .ok (.iload_n 1, 1) := by decide +kernel
theorem d_V_settle_12 : decode prog_3_method_8_code 12 = .ok (.aload_n 0, 1) := by decide +kernel
theorem d_V_settle_13 : decode prog_3_method_8_code 13 = .ok (.getfield 26, 3) := by decide +kernel
theorem d_V_settle_16 : decode prog_3_method_8_code 16 = .ok (.if_icmp .ge 33, 3) := by decide +kernel
theorem d_V_settle_19 : decode prog_3_method_8_code 19 = .ok (.aload_n 0, 1) := by decide +kernel
theorem d_V_settle_20 : decode prog_3_method_8_code 20 = .ok (.getfield 29, 3) := by decide +kernel
theorem d_V_settle_23 : decode prog_3_method_8_code 23 = .ok (.ifCond .eq 13, 3) := by decide +kernel
theorem d_V_settle_26 : decode prog_3_method_8_code 26 = .ok (.aload_n 0, 1) := by decide +kernel
theorem d_V_settle_27 : decode prog_3_method_8_code 27 = .ok (.getfield 9, 3) := by decide +kernel
theorem d_V_settle_30 : decode prog_3_method_8_code 30 = .ok (.iload_n 1, 1) := by decide +kernel
theorem d_V_settle_31 : decode prog_3_method_8_code 31 = .ok (.iaload, 1) := by decide +kernel
theorem d_V_settle_32 : decode prog_3_method_8_code 32 = .ok (.iconst 2, 1) := by decide +kernel
theorem d_V_settle_33 : decode prog_3_method_8_code 33 = .ok (.if_icmp .ge 10, 3) := by decide +kernel
theorem d_V_settle_36 : decode prog_3_method_8_code 36 = .ok (.aload_n 0, 1) := by decide +kernel
theorem d_V_settle_37 : decode prog_3_method_8_code 37 = .ok (.getfield 15, 3) := by decide +kernel
theorem d_V_settle_40 : decode prog_3_method_8_code 40 = .ok (.iload_n 1, 1) := by decide +kernel
theorem d_V_settle_41 : decode prog_3_method_8_code 41 = .ok (.iconst 0, 1) := by decide +kernel
theorem d_V_settle_42 : decode prog_3_method_8_code 42 = .ok (.iastore, 1) := by decide +kernel
theorem d_V_settle_43 : decode prog_3_method_8_code 43 = .ok (.iinc 1 1, 3) := by decide +kernel
theorem d_V_settle_46 : decode prog_3_method_8_code 46 = .ok (.goto (-35), 3) := by decide +kernel
theorem d_V_settle_49 : decode prog_3_method_8_code 49 = .ok (.aload_n 0, 1) := by decide +kernel
theorem d_V_settle_50 : decode prog_3_method_8_code 50 = .ok (.getfield 29, 3) := by decide +kernel
theorem d_V_settle_53 : decode prog_3_method_8_code 53 = .ok (.ifCond .ne 8, 3) := by decide +kernel
theorem d_V_settle_56 : decode prog_3_method_8_code 56 = .ok (.aload_n 0, 1) := by decide +kernel
theorem d_V_settle_57 : decode prog_3_method_8_code 57 = .ok (.iconst 0, 1) := by decide +kernel
theorem d_V_settle_58 : decode prog_3_method_8_code 58 = .ok (.putfield 22, 3) := by decide +kernel
theorem d_V_settle_61 : decode prog_3_method_8_code 61 = .ok (.return_, 1) := by decide +kernel
theorem d_V_itemsBut_0 : decode prog_3_method_9_code 0 = .ok (.lconst 1, 1) := by decide +kernel
theorem d_V_itemsBut_1 : decode prog_3_method_9_code 1 = .ok (.lstore_n 2, 1) := by decide +kernel
theorem d_V_itemsBut_2 : decode prog_3_method_9_code 2 = .ok (.iconst 0, 1) := by decide +kernel
theorem d_V_itemsBut_3 : decode prog_3_method_9_code 3 = .ok (.istore 4, 2) := by decide +kernel
theorem d_V_itemsBut_5 : decode prog_3_method_9_code 5 = .ok (.iload 4, 2) := by decide +kernel
theorem d_V_itemsBut_7 : decode prog_3_method_9_code 7 = .ok (.aload_n 0, 1) := by decide +kernel
theorem d_V_itemsBut_8 : decode prog_3_method_9_code 8 = .ok (.getfield 26, 3) := by decide +kernel
theorem d_V_itemsBut_11 : decode prog_3_method_9_code 11 = .ok (.if_icmp .ge 32, 3) := by decide +kernel
theorem d_V_itemsBut_14 : decode prog_3_method_9_code 14 = .ok (.iload 4, 2) := by decide +kernel
theorem d_V_itemsBut_16 : decode prog_3_method_9_code 16 = .ok (.iload_n 1, 1) := by decide +kernel
theorem d_V_itemsBut_17 : decode prog_3_method_9_code 17 = .ok (.if_icmp .eq 20, 3) := by decide +kernel
theorem d_V_itemsBut_20 : decode prog_3_method_9_code 20 = .ok (.lload_n 2, 1) := by decide +kernel
theorem d_V_itemsBut_21 : decode prog_3_method_9_code 21 = .ok (.aload_n 0, 1) := by decide +kernel
theorem d_V_itemsBut_22 : decode prog_3_method_9_code 22 = .ok (.getfield 9, 3) := by decide +kernel
theorem d_V_itemsBut_25 : decode prog_3_method_9_code 25 = .ok (.iload 4, 2) := by decide +kernel
theorem d_V_itemsBut_27 : decode prog_3_method_9_code 27 = .ok (.iaload, 1) := by decide +kernel
theorem d_V_itemsBut_28 : decode prog_3_method_9_code 28 = .ok (.i2l, 1) := by decide +kernel
theorem d_V_itemsBut_29 : decode prog_3_method_9_code 29 = .ok (.lmul, 1) := by decide +kernel
theorem d_V_itemsBut_30 : decode prog_3_method_9_code 30 = .ok (.ldc2_w 45, 3) := by decide +kernel
theorem d_V_itemsBut_33 : decode prog_3_method_9_code 33 = .ok (.invokestatic 47, 3) := by decide +kernel
theorem d_V_itemsBut_36 : decode prog_3_method_9_code 36 = .ok (.lstore_n 2, 1) := by decide +kernel
theorem d_V_itemsBut_37 : decode prog_3_method_9_code 37 = .ok (.iinc 4 1, 3) := by decide +kernel
theorem d_V_itemsBut_40 : decode prog_3_method_9_code 40 = .ok (.goto (-35), 3) := by decide +kernel
theorem d_V_itemsBut_43 : decode prog_3_method_9_code 43 = .ok (.lload_n 2, 1) := by decide +kernel
theorem d_V_itemsBut_44 : decode prog_3_method_9_code 44 = .ok (.l2i, 1) := by decide +kernel
theorem d_V_itemsBut_45 : decode prog_3_method_9_code 45 = .ok (.ireturn, 1) := by decide +kernel
theorem d_V_twin_0 : decode prog_3_method_2_code 0 = .ok (.new 10, 3) := by decide +kernel
theorem d_V_twin_3 : decode prog_3_method_2_code 3 = .ok (.dup, 1) := by decide +kernel
theorem d_V_twin_4 : decode prog_3_method_2_code 4 = .ok (.aload_n 0, 1) := by decide +kernel
theorem d_V_twin_5 : decode prog_3_method_2_code 5 = .ok (.getfield 18, 3) := by decide +kernel
theorem d_V_twin_8 : decode prog_3_method_2_code 8 = .ok (.aload_n 0, 1) := by decide +kernel
theorem d_V_twin_9 : decode prog_3_method_2_code 9 = .ok (.getfield 22, 3) := by decide +kernel
theorem d_V_twin_12 : decode prog_3_method_2_code 12 = .ok (.invokespecial 32, 3) := by decide +kernel
theorem d_V_twin_15 : decode prog_3_method_2_code 15 = .ok (.astore_n 1, 1) := by decide +kernel
theorem d_V_twin_16 : decode prog_3_method_2_code 16 = .ok (.iconst 0, 1) := by decide +kernel
theorem d_V_twin_17 : decode prog_3_method_2_code 17 = .ok (.istore_n 2, 1) := by decide +kernel
theorem d_V_twin_18 : decode prog_3_method_2_code 18 = .ok (.iload_n 2, 1) := by decide +kernel
theorem d_V_twin_19 : decode prog_3_method_2_code 19 = .ok (.aload_n 0, 1) := by decide +kernel
theorem d_V_twin_20 : decode prog_3_method_2_code 20 = .ok (.getfield 26, 3) := by decide +kernel
theorem d_V_twin_23 : decode prog_3_method_2_code 23 = .ok (.if_icmp .ge 26, 3) := by decide +kernel
theorem d_V_twin_26 : decode prog_3_method_2_code 26 = .ok (.aload_n 1, 1) := by decide +kernel
theorem d_V_twin_27 : decode prog_3_method_2_code 27 = .ok (.iload_n 2, 1) := by decide +kernel
theorem d_V_twin_28 : decode prog_3_method_2_code 28 = .ok (.aload_n 0, 1) := by decide +kernel
theorem d_V_twin_29 : decode prog_3_method_2_code 29 = .ok (.getfield 9, 3) := by decide +kernel
theorem d_V_twin_32 : decode prog_3_method_2_code 32 = .ok (.iload_n 2, 1) := by decide +kernel
theorem d_V_twin_33 : decode prog_3_method_2_code 33 = .ok (.iaload, 1) := by decide +kernel
theorem d_V_twin_34 : decode prog_3_method_2_code 34 = .ok (.aload_n 0, 1) := by decide +kernel
theorem d_V_twin_35 : decode prog_3_method_2_code 35 = .ok (.getfield 15, 3) := by decide +kernel
theorem d_V_twin_38 : decode prog_3_method_2_code 38 = .ok (.iload_n 2, 1) := by decide +kernel
theorem d_V_twin_39 : decode prog_3_method_2_code 39 = .ok (.iaload, 1) := by decide +kernel
theorem d_V_twin_40 : decode prog_3_method_2_code 40 = .ok (.invokevirtual 35, 3) := by decide +kernel
theorem d_V_twin_43 : decode prog_3_method_2_code 43 = .ok (.iinc 2 1, 3) := by decide +kernel
theorem d_V_twin_46 : decode prog_3_method_2_code 46 = .ok (.goto (-28), 3) := by decide +kernel
theorem d_V_twin_49 : decode prog_3_method_2_code 49 = .ok (.aload_n 1, 1) := by decide +kernel
theorem d_V_twin_50 : decode prog_3_method_2_code 50 = .ok (.areturn, 1) := by decide +kernel
theorem d_V_remove_0 : decode prog_3_method_4_code 0 = .ok (.aload_n 0, 1) := by decide +kernel
theorem d_V_remove_1 : decode prog_3_method_4_code 1 = .ok (.dup, 1) := by decide +kernel
theorem d_V_remove_2 : decode prog_3_method_4_code 2 = .ok (.getfield 26, 3) := by decide +kernel
theorem d_V_remove_5 : decode prog_3_method_4_code 5 = .ok (.iconst 1, 1) := by decide +kernel
theorem d_V_remove_6 : decode prog_3_method_4_code 6 = .ok (.isub, 1) := by decide +kernel
theorem d_V_remove_7 : decode prog_3_method_4_code 7 = .ok (.putfield 26, 3) := by decide +kernel
theorem d_V_remove_10 : decode prog_3_method_4_code 10 = .ok (.iload_n 1, 1) := by decide +kernel
theorem d_V_remove_11 : decode prog_3_method_4_code 11 = .ok (.istore_n 2, 1) := by decide +kernel
theorem d_V_remove_12 : decode prog_3_method_4_code 12 = .ok (.iload_n 2, 1) := by decide +kernel
theorem d_V_remove_13 : decode prog_3_method_4_code 13 = .ok (.aload_n 0, 1) := by decide +kernel
theorem d_V_remove_14 : decode prog_3_method_4_code 14 = .ok (.getfield 26, 3) := by decide +kernel
theorem d_V_remove_17 : decode prog_3_method_4_code 17 = .ok (.if_icmp .ge 37, 3) := by decide +kernel
theorem d_V_remove_20 : decode prog_3_method_4_code 20 = .ok (.aload_n 0, 1) := by decide +kernel
theorem d_V_remove_21 : decode prog_3_method_4_code 21 = .ok (.getfield 9, 3) := by decide +kernel
theorem d_V_remove_24 : decode prog_3_method_4_code 24 = .ok (.iload_n 2, 1) := by decide +kernel
theorem d_V_remove_25 : decode prog_3_method_4_code 25 = .ok (.aload_n 0, 1) := by decide +kernel
theorem d_V_remove_26 : decode prog_3_method_4_code 26 = .ok (.getfield 9, 3) := by decide +kernel
theorem d_V_remove_29 : decode prog_3_method_4_code 29 = .ok (.iload_n 2, 1) := by decide +kernel
theorem d_V_remove_30 : decode prog_3_method_4_code 30 = .ok (.iconst 1, 1) := by decide +kernel
theorem d_V_remove_31 : decode prog_3_method_4_code 31 = .ok (.iadd, 1) := by decide +kernel
theorem d_V_remove_32 : decode prog_3_method_4_code 32 = .ok (.iaload, 1) := by decide +kernel
theorem d_V_remove_33 : decode prog_3_method_4_code 33 = .ok (.iastore, 1) := by decide +kernel
theorem d_V_remove_34 : decode prog_3_method_4_code 34 = .ok (.aload_n 0, 1) := by decide +kernel
theorem d_V_remove_35 : decode prog_3_method_4_code 35 = .ok (.getfield 15, 3) := by decide +kernel
theorem d_V_remove_38 : decode prog_3_method_4_code 38 = .ok (.iload_n 2, 1) := by decide +kernel
theorem d_V_remove_39 : decode prog_3_method_4_code 39 = .ok (.aload_n 0, 1) := by decide +kernel
theorem d_V_remove_40 : decode prog_3_method_4_code 40 = .ok (.getfield 15, 3) := by decide +kernel
theorem d_V_remove_43 : decode prog_3_method_4_code 43 = .ok (.iload_n 2, 1) := by decide +kernel
theorem d_V_remove_44 : decode prog_3_method_4_code 44 = .ok (.iconst 1, 1) := by decide +kernel
theorem d_V_remove_45 : decode prog_3_method_4_code 45 = .ok (.iadd, 1) := by decide +kernel
theorem d_V_remove_46 : decode prog_3_method_4_code 46 = .ok (.iaload, 1) := by decide +kernel
theorem d_V_remove_47 : decode prog_3_method_4_code 47 = .ok (.iastore, 1) := by decide +kernel
theorem d_V_remove_48 : decode prog_3_method_4_code 48 = .ok (.iinc 2 1, 3) := by decide +kernel
theorem d_V_remove_51 : decode prog_3_method_4_code 51 = .ok (.goto (-39), 3) := by decide +kernel
theorem d_V_remove_54 : decode prog_3_method_4_code 54 = .ok (.return_, 1) := by decide +kernel
theorem d_V_addUnlessNone_0 : decode prog_3_method_5_code 0 = .ok (.iload_n 1, 1) := by decide +kernel
theorem d_V_addUnlessNone_1 : decode prog_3_method_5_code 1 = .ok (.iconst (-1), 1) := by decide +kernel
theorem d_V_addUnlessNone_2 : decode prog_3_method_5_code 2 = .ok (.if_icmp .eq 13, 3) := by decide +kernel
theorem d_V_addUnlessNone_5 : decode prog_3_method_5_code 5 = .ok (.aload_n 0, 1) := by decide +kernel
theorem d_V_addUnlessNone_6 : decode prog_3_method_5_code 6 = .ok (.aload_n 0, 1) := by decide +kernel
theorem d_V_addUnlessNone_7 : decode prog_3_method_5_code 7 = .ok (.getfield 26, 3) := by decide +kernel
theorem d_V_addUnlessNone_10 : decode prog_3_method_5_code 10 = .ok (.iload_n 1, 1) := by decide +kernel
theorem d_V_addUnlessNone_11 : decode prog_3_method_5_code 11 = .ok (.iconst 0, 1) := by decide +kernel
theorem d_V_addUnlessNone_12 : decode prog_3_method_5_code 12 = .ok (.invokevirtual 35, 3) := by decide +kernel
theorem d_V_addUnlessNone_15 : decode prog_3_method_5_code 15 = .ok (.return_, 1) := by decide +kernel
theorem d_V_placeOf_0 : decode prog_3_method_13_code 0 = .ok (.aload_n 0, 1) := by decide +kernel
theorem d_V_placeOf_1 : decode prog_3_method_13_code 1 = .ok (.getfield 22, 3) := by decide +kernel
theorem d_V_placeOf_4 : decode prog_3_method_13_code 4 = .ok (.istore_n 2, 1) := by decide +kernel
theorem d_V_placeOf_5 : decode prog_3_method_13_code 5 = .ok (.iload_n 1, 1) := by decide +kernel
theorem d_V_placeOf_6 : decode prog_3_method_13_code 6 = .ok (.istore_n 3, 1) := by decide +kernel
theorem d_V_placeOf_7 : decode prog_3_method_13_code 7 = .ok (.aload_n 0, 1) := by decide +kernel
theorem d_V_placeOf_8 : decode prog_3_method_13_code 8 = .ok (.getfield 26, 3) := by decide +kernel
theorem d_V_placeOf_11 : decode prog_3_method_13_code 11 = .ok (.iconst 1, 1) := by decide +kernel
theorem d_V_placeOf_12 : decode prog_3_method_13_code 12 = .ok (.isub, 1) := by decide +kernel
theorem d_V_placeOf_13 : decode prog_3_method_13_code 13 = .ok (.istore 4, 2) := by decide +kernel
theorem d_V_placeOf_15 : decode prog_3_method_13_code 15 = .ok (.iload 4, 2) := by decide +kernel
theorem d_V_placeOf_17 : decode prog_3_method_13_code 17 = .ok (.ifCond .lt 44, 3) := by decide +kernel
theorem d_V_placeOf_20 : decode prog_3_method_13_code 20 = .ok (.aload_n 0, 1) := by decide +kernel
theorem d_V_placeOf_21 : decode prog_3_method_13_code 21 = .ok (.getfield 9, 3) := by decide +kernel
theorem d_V_placeOf_24 : decode prog_3_method_13_code 24 = .ok (.iload 4, 2) := by decide +kernel
theorem d_V_placeOf_26 : decode prog_3_method_13_code 26 = .ok (.iaload, 1) := by decide +kernel
theorem d_V_placeOf_27 : decode prog_3_method_13_code 27 = .ok (.istore 5, 2) := by decide +kernel
theorem d_V_placeOf_29 : decode prog_3_method_13_code 29 = .ok (.iload 5, 2) := by decide +kernel
theorem d_V_placeOf_31 : decode prog_3_method_13_code 31 = .ok (.iconst 1, 1) := by decide +kernel
theorem d_V_placeOf_32 : decode prog_3_method_13_code 32 = .ok (.if_icmp .le 23, 3) := by decide +kernel
theorem d_V_placeOf_35 : decode prog_3_method_13_code 35 = .ok (.iload_n 2, 1) := by decide +kernel
theorem d_V_placeOf_36 : decode prog_3_method_13_code 36 = .ok (.iload_n 3, 1) := by decide +kernel
theorem d_V_placeOf_37 : decode prog_3_method_13_code 37 = .ok (.iload 5, 2) := by decide +kernel
theorem d_V_placeOf_39 : decode prog_3_method_13_code 39 = .ok (.irem, 1) := by decide +kernel
theorem d_V_placeOf_40 : decode prog_3_method_13_code 40 = .ok (.aload_n 0, 1) := by decide +kernel
theorem d_V_placeOf_41 : decode prog_3_method_13_code 41 = .ok (.getfield 15, 3) := by decide +kernel
theorem d_V_placeOf_44 : decode prog_3_method_13_code 44 = .ok (.iload 4, 2) := by decide +kernel
theorem d_V_placeOf_46 : decode prog_3_method_13_code 46 = .ok (.iaload, 1) := by decide +kernel
theorem d_V_placeOf_47 : decode prog_3_method_13_code 47 = .ok (.imul, 1) := by decide +kernel
theorem d_V_placeOf_48 : decode prog_3_method_13_code 48 = .ok (.iadd, 1) := by decide +kernel
theorem d_V_placeOf_49 : decode prog_3_method_13_code 49 = .ok (.istore_n 2, 1) := by decide +kernel
theorem d_V_placeOf_50 : decode prog_3_method_13_code 50 = .ok (.iload_n 3, 1) := by decide +kernel
theorem d_V_placeOf_51 : decode prog_3_method_13_code 51 = .ok (.iload 5, 2) := by decide +kernel
theorem d_V_placeOf_53 : decode prog_3_method_13_code 53 = .ok (.idiv, 1) := by decide +kernel
theorem d_V_placeOf_54 : decode prog_3_method_13_code 54 = .ok (.istore_n 3, 1) := by decide +kernel
theorem d_V_placeOf_55 : decode prog_3_method_13_code 55 = .ok (.iinc 4 (-1), 3) := by decide +kernel
theorem d_V_placeOf_58 : decode prog_3_method_13_code 58 = .ok (.goto (-43), 3) := by decide +kernel
theorem d_V_placeOf_61 : decode prog_3_method_13_code 61 = .ok (.iload_n 2, 1) := by decide +kernel
theorem d_V_placeOf_62 : decode prog_3_method_13_code 62 = .ok (.ireturn, 1) := by decide +kernel
theorem d_V_addExtentsBut_0 : decode prog_3_method_6_code 0 = .ok (.iconst 0, 1) := by decide +kernel
theorem d_V_addExtentsBut_1 : decode prog_3_method_6_code 1 = .ok (.istore_n 3, 1) := by decide +kernel
theorem d_V_addExtentsBut_2 : decode prog_3_method_6_code 2 = .ok (.iload_n 3, 1) := by decide +kernel
theorem d_V_addExtentsBut_3 : decode prog_3_method_6_code 3 = .ok (.aload_n 1, 1) := by decide +kernel
theorem d_V_addExtentsBut_4 : decode prog_3_method_6_code 4 = .ok (.getfield 26, 3) := by decide +kernel
theorem d_V_addExtentsBut_7 : decode prog_3_method_6_code 7 = .ok (.if_icmp .ge 29, 3) := by decide +kernel
theorem d_V_addExtentsBut_10 : decode prog_3_method_6_code 10 = .ok (.iload_n 3, 1) := by decide +kernel
theorem d_V_addExtentsBut_11 : decode prog_3_method_6_code 11 = .ok (.iload_n 2, 1) := by decide +kernel
theorem d_V_addExtentsBut_12 : decode prog_3_method_6_code 12 = .ok (.if_icmp .eq 18, 3) := by decide +kernel
theorem d_V_addExtentsBut_15 : decode prog_3_method_6_code 15 = .ok (.aload_n 0, 1) := by decide +kernel
theorem d_V_addExtentsBut_16 : decode prog_3_method_6_code 16 = .ok (.aload_n 0, 1) := by decide +kernel
theorem d_V_addExtentsBut_17 : decode prog_3_method_6_code 17 = .ok (.getfield 26, 3) := by decide +kernel
theorem d_V_addExtentsBut_20 : decode prog_3_method_6_code 20 = .ok (.aload_n 1, 1) := by decide +kernel
theorem d_V_addExtentsBut_21 : decode prog_3_method_6_code 21 = .ok (.getfield 9, 3) := by decide +kernel
theorem d_V_addExtentsBut_24 : decode prog_3_method_6_code 24 = .ok (.iload_n 3, 1) := by decide +kernel
theorem d_V_addExtentsBut_25 : decode prog_3_method_6_code 25 = .ok (.iaload, 1) := by decide +kernel
theorem d_V_addExtentsBut_26 : decode prog_3_method_6_code 26 = .ok (.iconst 0, 1) := by decide +kernel
theorem d_V_addExtentsBut_27 : decode prog_3_method_6_code 27 = .ok (.invokevirtual 35, 3) := by decide +kernel
theorem d_V_addExtentsBut_30 : decode prog_3_method_6_code 30 = .ok (.iinc 3 1, 3) := by decide +kernel
theorem d_V_addExtentsBut_33 : decode prog_3_method_6_code 33 = .ok (.goto (-31), 3) := by decide +kernel
theorem d_V_addExtentsBut_36 : decode prog_3_method_6_code 36 = .ok (.return_, 1) := by decide +kernel
theorem d_V_lieInOrder_0 : decode prog_3_method_7_code 0 = .ok (.iconst 1, 1) := by decide +kernel
theorem d_V_lieInOrder_1 : decode prog_3_method_7_code 1 = .ok (.istore_n 1, 1) := by decide +kernel
theorem d_V_lieInOrder_2 : decode prog_3_method_7_code 2 = .ok (.aload_n 0, 1) := by decide +kernel
theorem d_V_lieInOrder_3 : decode prog_3_method_7_code 3 = .ok (.getfield 26, 3) := by decide +kernel
theorem d_V_lieInOrder_6 : decode prog_3_method_7_code 6 = .ok (.iconst 1, 1) := by decide +kernel
theorem d_V_lieInOrder_7 : decode prog_3_method_7_code 7 = .ok (.isub, 1) := by decide +kernel
theorem d_V_lieInOrder_8 : decode prog_3_method_7_code 8 = .ok (.istore_n 2, 1) := by decide +kernel
theorem d_V_lieInOrder_9 : decode prog_3_method_7_code 9 = .ok (.iload_n 2, 1) := by decide +kernel
theorem d_V_lieInOrder_10 : decode prog_3_method_7_code 10 = .ok (.ifCond .lt 25, 3) := by decide +kernel
theorem d_V_lieInOrder_13 : decode prog_3_method_7_code 13 = .ok (.aload_n 0, 1) := by decide +kernel
theorem d_V_lieInOrder_14 : decode prog_3_method_7_code 14 = .ok (.getfield 15, 3) := by decide +kernel
theorem d_V_lieInOrder_17 : decode prog_3_method_7_code 17 = .ok (.iload_n 2, 1) := by decide +kernel
theorem d_V_lieInOrder_18 : decode prog_3_method_7_code 18 = .ok (.iload_n 1, 1) := by decide +kernel
theorem d_V_lieInOrder_19 : decode prog_3_method_7_code 19 = .ok (.iastore, 1) := by decide +kernel
theorem d_V_lieInOrder_20 : decode prog_3_method_7_code 20 = .ok (.iload_n 1, 1) := by decide +kernel
theorem d_V_lieInOrder_21 : decode prog_3_method_7_code 21 = .ok (.aload_n 0, 1) := by decide +kernel
theorem d_V_lieInOrder_22 : decode prog_3_method_7_code 22 = .ok (.getfield 9, 3) := by decide +kernel
theorem d_V_lieInOrder_25 : decode prog_3_method_7_code 25 = .ok (.iload_n 2, 1) := by decide +kernel
theorem d_V_lieInOrder_26 : decode prog_3_method_7_code 26 = .ok (.iaload, 1) := by decide +kernel
theorem d_V_lieInOrder_27 : decode prog_3_method_7_code 27 = .ok (.imul, 1) := by decide +kernel
theorem d_V_lieInOrder_28 : decode prog_3_method_7_code 28 = .ok (.istore_n 1, 1) := by decide +kernel
theorem d_V_lieInOrder_29 : decode prog_3_method_7_code 29 = .ok (.iinc 2 (-1), 3) := by decide +kernel
theorem d_V_lieInOrder_32 : decode prog_3_method_7_code 32 = .ok (.goto (-23), 3) := by decide +kernel
theorem d_V_lieInOrder_35 : decode prog_3_method_7_code 35 = .ok (.return_, 1) := by decide +kernel
theorem d_S_lowestBits_0 : decode prog_2_method_2_code 0 = .ok (.aload_n 0, 1) := by decide +kernel
theorem d_S_lowestBits_1 : decode prog_2_method_2_code 1 = .ok (.getfield 15, 3) := by decide +kernel
theorem d_S_lowestBits_4 : decode prog_2_method_2_code 4 = .ok (.tableswitch 42 0 2 #[28, 33, 38], 28) := by decide +kernel
theorem d_S_lowestBits_32 : decode prog_2_method_2_code 32 = .ok (.lload_n 1, 1) := by decide +kernel
theorem d_S_lowestBits_33 : decode prog_2_method_2_code 33 = .ok (.l2i, 1) := by decide +kernel
theorem d_S_lowestBits_34 : decode prog_2_method_2_code 34 = .ok (.i2b, 1) := by decide +kernel
theorem d_S_lowestBits_35 : decode prog_2_method_2_code 35 = .ok (.i2l, 1) := by decide +kernel
theorem d_S_lowestBits_36 : decode prog_2_method_2_code 36 = .ok (.lreturn, 1) := by decide +kernel
theorem d_S_lowestBits_37 : decode prog_2_method_2_code 37 = .ok (.lload_n 1, 1) := by decide +kernel
theorem d_S_lowestBits_38 : decode prog_2_method_2_code 38 = .ok (.l2i, 1) := by decide +kernel
theorem d_S_lowestBits_39 : decode prog_2_method_2_code 39 = .ok (.i2s, 1) := by decide +kernel
theorem d_S_lowestBits_40 : decode prog_2_method_2_code 40 = .ok (.i2l, 1) := by decide +kernel
theorem d_S_lowestBits_41 : decode prog_2_method_2_code 41 = .ok (.lreturn, 1) := by decide +kernel
theorem d_S_lowestBits_42 : decode prog_2_method_2_code 42 = .ok (.lload_n 1, 1) := by decide +kernel
theorem d_S_lowestBits_43 : decode prog_2_method_2_code 43 = .ok (.l2i, 1) := by decide +kernel
theorem d_S_lowestBits_44 : decode prog_2_method_2_code 44 = .ok (.i2l, 1) := by decide +kernel
theorem d_S_lowestBits_45 : decode prog_2_method_2_code 45 = .ok (.lreturn, 1) := by decide +kernel
theorem d_S_lowestBits_46 : decode prog_2_method_2_code 46 = .ok (.lload_n 1, 1) := by decide +kernel
theorem d_S_lowestBits_47 : decode prog_2_method_2_code 47 = .ok (.lreturn, 1) := by decide +kernel
theorem d_V_isFixed_0 : decode prog_3_method_10_code 0 = .ok (.iconst 0, 1) := by decide +kernel
theorem d_V_isFixed_1 : decode prog_3_method_10_code 1 = .ok (.istore_n 1, 1) := by decide +kernel
theorem d_V_isFixed_2 : decode prog_3_method_10_code 2 = .ok (.iload_n 1, 1) := by decide +kernel
theorem d_V_isFixed_3 : decode prog_3_method_10_code 3 = .ok (.aload_n 0, 1) := by decide +kernel
theorem d_V_isFixed_4 : decode prog_3_method_10_code 4 = .ok (.getfield 26, 3) := by decide +kernel
theorem d_V_isFixed_7 : decode prog_3_method_10_code 7 = .ok (.if_icmp .ge 30, 3) := by decide +kernel
theorem d_V_isFixed_10 : decode prog_3_method_10_code 10 = .ok (.aload_n 0, 1) := by decide +kernel
theorem d_V_isFixed_11 : decode prog_3_method_10_code 11 = .ok (.getfield 15, 3) := by decide +kernel
theorem d_V_isFixed_14 : decode prog_3_method_10_code 14 = .ok (.iload_n 1, 1) := by decide +kernel
theorem d_V_isFixed_15 : decode prog_3_method_10_code 15 = .ok (.iaload, 1) := by decide +kernel
theorem d_V_isFixed_16 : decode prog_3_method_10_code 16 = .ok (.ifCond .ne 15, 3) := by decide +kernel
theorem d_V_isFixed_19 : decode prog_3_method_10_code 19 = .ok (.aload_n 0, 1) := by decide +kernel
theorem d_V_isFixed_20 : decode prog_3_method_10_code 20 = .ok (.getfield 9, 3) := by decide +kernel
theorem d_V_isFixed_23 : decode prog_3_method_10_code 23 = .ok (.iload_n 1, 1) := by decide +kernel
theorem d_V_isFixed_24 : decode prog_3_method_10_code 24 = .ok (.iaload, 1) := by decide +kernel
theorem d_V_isFixed_25 : decode prog_3_method_10_code 25 = .ok (.iconst 2, 1) := by decide +kernel
theorem d_V_isFixed_26 : decode prog_3_method_10_code 26 = .ok (.if_icmp .lt 5, 3) := by decide +kernel
theorem d_V_isFixed_29 : decode prog_3_method_10_code 29 = .ok (.iconst 1, 1) := by decide +kernel
theorem d_V_isFixed_30 : decode prog_3_method_10_code 30 = .ok (.ireturn, 1) := by decide +kernel
theorem d_V_isFixed_31 : decode prog_3_method_10_code 31 = .ok (.iinc 1 1, 3) := by decide +kernel
theorem d_V_isFixed_34 : decode prog_3_method_10_code 34 = .ok (.goto (-32), 3) := by decide +kernel
theorem d_V_isFixed_37 : decode prog_3_method_10_code 37 = .ok (.iconst 0, 1) := by decide +kernel
theorem d_V_isFixed_38 : decode prog_3_method_10_code 38 = .ok (.ireturn, 1) := by decide +kernel
theorem d_V_goesTo_0 : decode prog_3_method_11_code 0 = .ok (.aload_n 1, 1) := by decide +kernel
theorem d_V_goesTo_1 : decode prog_3_method_11_code 1 = .ok (.getfield 26, 3) := by decide +kernel
theorem d_V_goesTo_4 : decode prog_3_method_11_code 4 = .ok (.aload_n 0, 1) := by decide +kernel
theorem d_V_goesTo_5 : decode prog_3_method_11_code 5 = .ok (.getfield 26, 3) := by decide +kernel
theorem d_V_goesTo_8 : decode prog_3_method_11_code 8 = .ok (.isub, 1) := by decide +kernel
theorem d_V_goesTo_9 : decode prog_3_method_11_code 9 = .ok (.istore_n 2, 1) := by decide +kernel
theorem d_V_goesTo_10 : decode prog_3_method_11_code 10 = .ok (.iload_n 2, 1) := by decide +kernel
theorem d_V_goesTo_11 : decode prog_3_method_11_code 11 = .ok (.ifCond .ge 5, 3) := by decide +kernel
theorem d_V_goesTo_14 : decode prog_3_method_11_code 14 = .ok (.iconst 0, 1) := by decide +kernel
theorem d_V_goesTo_15 : decode prog_3_method_11_code 15 = .ok (.ireturn, 1) := by decide +kernel
theorem d_V_goesTo_16 : decode prog_3_method_11_code 16 = .ok (.iconst 0, 1) := by decide +kernel
theorem d_V_goesTo_17 : decode prog_3_method_11_code 17 = .ok (.istore_n 3, 1) := by decide +kernel
theorem d_V_goesTo_18 : decode prog_3_method_11_code 18 = .ok (.iload_n 3, 1) := by decide +kernel
theorem d_V_goesTo_19 : decode prog_3_method_11_code 19 = .ok (.aload_n 0, 1) := by decide +kernel
theorem d_V_goesTo_20 : decode prog_3_method_11_code 20 = .ok (.getfield 26, 3) := by decide +kernel
theorem d_V_goesTo_23 : decode prog_3_method_11_code 23 = .ok (.if_icmp .ge 38, 3) := by decide +kernel
theorem d_V_goesTo_26 : decode prog_3_method_11_code 26 = .ok (.aload_n 0, 1) := by decide +kernel
theorem d_V_goesTo_27 : decode prog_3_method_11_code 27 = .ok (.getfield 9, 3) := by decide +kernel
theorem d_V_goesTo_30 : decode prog_3_method_11_code 30 = .ok (.iload_n 3, 1) := by decide +kernel
theorem d_V_goesTo_31 : decode prog_3_method_11_code 31 = .ok (.iaload, 1) := by decide +kernel
theorem d_V_goesTo_32 : decode prog_3_method_11_code 32 = .ok (.iconst 1, 1) := by decide +kernel
theorem d_V_goesTo_33 : decode prog_3_method_11_code 33 = .ok (.if_icmp .eq 22, 3) := by decide +kernel
theorem d_V_goesTo_36 : decode prog_3_method_11_code 36 = .ok (.aload_n 0, 1) := by decide +kernel
theorem d_V_goesTo_37 : decode prog_3_method_11_code 37 = .ok (.getfield 9, 3) := by decide +kernel
theorem d_V_goesTo_40 : decode prog_3_method_11_code 40 = .ok (.iload_n 3, 1) := by decide +kernel
theorem d_V_goesTo_41 : decode prog_3_method_11_code 41 = .ok (.iaload, 1) := by decide +kernel
theorem d_V_goesTo_42 : decode prog_3_method_11_code 42 = .ok (.aload_n 1, 1) := by decide +kernel
theorem d_V_goesTo_43 : decode prog_3_method_11_code 43 = .ok (.getfield 9, 3) := by decide +kernel
theorem d_V_goesTo_46 : decode prog_3_method_11_code 46 = .ok (.iload_n 3, 1) := by decide +kernel
theorem d_V_goesTo_47 : decode prog_3_method_11_code 47 = .ok (.iload_n 2, 1) := by decide +kernel
theorem d_V_goesTo_48 : decode prog_3_method_11_code 48 = .ok (.iadd, 1) := by decide +kernel
theorem d_V_goesTo_49 : decode prog_3_method_11_code 49 = .ok (.iaload, 1) := by decide +kernel
theorem d_V_goesTo_50 : decode prog_3_method_11_code 50 = .ok (.if_icmp .eq 5, 3) := by decide +kernel
theorem d_V_goesTo_53 : decode prog_3_method_11_code 53 = .ok (.iconst 0, 1) := by decide +kernel
theorem d_V_goesTo_54 : decode prog_3_method_11_code 54 = .ok (.ireturn, 1) := by decide +kernel
theorem d_V_goesTo_55 : decode prog_3_method_11_code 55 = .ok (.iinc 3 1, 3) := by decide +kernel
theorem d_V_goesTo_58 : decode prog_3_method_11_code 58 = .ok (.goto (-40), 3) := by decide +kernel
theorem d_V_goesTo_61 : decode prog_3_method_11_code 61 = .ok (.iconst 1, 1) := by decide +kernel
theorem d_V_goesTo_62 : decode prog_3_method_11_code 62 = .ok (.ireturn, 1) := by decide +kernel
theorem d_V_hasExtentsOf_0 : decode prog_3_method_12_code 0 = .ok (.aload_n 0, 1) := by decide +kernel
theorem d_V_hasExtentsOf_1 : decode prog_3_method_12_code 1 = .ok (.getfield 26, 3) := by decide +kernel
theorem d_V_hasExtentsOf_4 : decode prog_3_method_12_code 4 = .ok (.aload_n 1, 1) := by decide +kernel
theorem d_V_hasExtentsOf_5 : decode prog_3_method_12_code 5 = .ok (.getfield 26, 3) := by decide +kernel
theorem d_V_hasExtentsOf_8 : decode prog_3_method_12_code 8 = .ok (.if_icmp .eq 5, 3) := by decide +kernel
theorem d_V_hasExtentsOf_11 : decode prog_3_method_12_code 11 = .ok (.iconst 0, 1) := by decide +kernel
theorem d_V_hasExtentsOf_12 : decode prog_3_method_12_code 12 = .ok (.ireturn, 1) := by decide +kernel
theorem d_V_hasExtentsOf_13 : decode prog_3_method_12_code 13 = .ok (.iconst 0, 1) := by decide +kernel
theorem d_V_hasExtentsOf_14 : decode prog_3_method_12_code 14 = .ok (.istore_n 2, 1) := by decide +kernel
theorem d_V_hasExtentsOf_15 : decode prog_3_method_12_code 15 = .ok (.iload_n 2, 1) := by decide +kernel
theorem d_V_hasExtentsOf_16 : decode prog_3_method_12_code 16 = .ok (.aload_n 0, 1) := by decide +kernel
theorem d_V_hasExtentsOf_17 : decode prog_3_method_12_code 17 = .ok (.getfield 26, 3) := by decide +kernel
theorem d_V_hasExtentsOf_20 : decode prog_3_method_12_code 20 = .ok (.if_icmp .ge 26, 3) := by decide +kernel
theorem d_V_hasExtentsOf_23 : decode prog_3_method_12_code 23 = .ok (.aload_n 0, 1) := by decide +kernel
theorem d_V_hasExtentsOf_24 : decode prog_3_method_12_code 24 = .ok (.getfield 9, 3) := by decide +kernel
theorem d_V_hasExtentsOf_27 : decode prog_3_method_12_code 27 = .ok (.iload_n 2, 1) := by decide +kernel
theorem d_V_hasExtentsOf_28 : decode prog_3_method_12_code 28 = .ok (.iaload, 1) := by decide +kernel
theorem d_V_hasExtentsOf_29 : decode prog_3_method_12_code 29 = .ok (.aload_n 1, 1) := by decide +kernel
theorem d_V_hasExtentsOf_30 : decode prog_3_method_12_code 30 = .ok (.getfield 9, 3) := by decide +kernel
theorem d_V_hasExtentsOf_33 : decode prog_3_method_12_code 33 = .ok (.iload_n 2, 1) := by decide +kernel
theorem d_V_hasExtentsOf_34 : decode prog_3_method_12_code 34 = .ok (.iaload, 1) := by decide +kernel
theorem d_V_hasExtentsOf_35 : decode prog_3_method_12_code 35 = .ok (.if_icmp .eq 5, 3) := by decide +kernel
theorem d_V_hasExtentsOf_38 : decode prog_3_method_12_code 38 = .ok (.iconst 0, 1) := by decide +kernel
theorem d_V_hasExtentsOf_39 : decode prog_3_method_12_code 39 = .ok (.ireturn, 1) := by decide +kernel
theorem d_V_hasExtentsOf_40 : decode prog_3_method_12_code 40 = .ok (.iinc 2 1, 3) := by decide +kernel
theorem d_V_hasExtentsOf_43 : decode prog_3_method_12_code 43 = .ok (.goto (-28), 3) := by decide +kernel
theorem d_V_hasExtentsOf_46 : decode prog_3_method_12_code 46 = .ok (.iconst 1, 1) := by decide +kernel
theorem d_V_hasExtentsOf_47 : decode prog_3_method_12_code 47 = .ok (.ireturn, 1) := by decide +kernel
theorem d_V_leastPlace_0 : decode prog_3_method_14_code 0 = .ok (.aload_n 0, 1) := by decide +kernel
theorem d_V_leastPlace_1 : decode prog_3_method_14_code 1 = .ok (.getfield 29, 3) := by decide +kernel
theorem d_V_leastPlace_4 : decode prog_3_method_14_code 4 = .ok (.ifCond .ne 5, 3) := by decide +kernel
theorem d_V_leastPlace_7 : decode prog_3_method_14_code 7 = .ok (.iconst (-1), 1) := by decide +kernel
theorem d_V_leastPlace_8 : decode prog_3_method_14_code 8 = .ok (.ireturn, 1) := by decide +kernel
theorem d_V_leastPlace_9 : decode prog_3_method_14_code 9 = .ok (.aload_n 0, 1) := by decide +kernel
theorem d_V_leastPlace_10 : decode prog_3_method_14_code 10 = .ok (.getfield 22, 3) := by decide +kernel
theorem d_V_leastPlace_13 : decode prog_3_method_14_code 13 = .ok (.istore_n 1, 1) := by decide +kernel
theorem d_V_leastPlace_14 : decode prog_3_method_14_code 14 = .ok (.iconst 0, 1) := by decide +kernel
theorem d_V_leastPlace_15 : decode prog_3_method_14_code 15 = .ok (.istore_n 2, 1) := by decide +kernel
theorem d_V_leastPlace_16 : decode prog_3_method_14_code 16 = .ok (.iload_n 2, 1) := by decide +kernel
theorem d_V_leastPlace_17 : decode prog_3_method_14_code 17 = .ok (.aload_n 0, 1) := by decide +kernel
theorem d_V_leastPlace_18 : decode prog_3_method_14_code 18 = .ok (.getfield 26, 3) := by decide +kernel
theorem d_V_leastPlace_21 : decode prog_3_method_14_code 21 = .ok (.if_icmp .ge 31, 3) := by decide +kernel
theorem d_V_leastPlace_24 : decode prog_3_method_14_code 24 = .ok (.iload_n 1, 1) := by decide +kernel
theorem d_V_leastPlace_25 : decode prog_3_method_14_code 25 = .ok (.iconst 0, 1) := by decide +kernel
theorem d_V_leastPlace_26 : decode prog_3_method_14_code 26 = .ok (.aload_n 0, 1) := by decide +kernel
theorem d_V_leastPlace_27 : decode prog_3_method_14_code 27 = .ok (.getfield 9, 3) := by decide +kernel
theorem d_V_leastPlace_30 : decode prog_3_method_14_code 30 = .ok (.iload_n 2, 1) := by decide +kernel
theorem d_V_leastPlace_31 : decode prog_3_method_14_code 31 = .ok (.iaload, 1) := by decide +kernel
theorem d_V_leastPlace_32 : decode prog_3_method_14_code 32 = .ok (.iconst 1, 1) := by decide +kernel
theorem d_V_leastPlace_33 : decode prog_3_method_14_code 33 = .ok (.isub, 1) := by decide +kernel
theorem d_V_leastPlace_34 : decode prog_3_method_14_code 34 = .ok (.aload_n 0, 1) := by decide +kernel
theorem d_V_leastPlace_35 : decode prog_3_method_14_code 35 = .ok (.getfield 15, 3) := by decide +kernel
theorem d_V_leastPlace_38 : decode prog_3_method_14_code 38 = .ok (.iload_n 2, 1) := by decide +kernel
theorem d_V_leastPlace_39 : decode prog_3_method_14_code 39 = .ok (.iaload, 1) := by decide +kernel
theorem d_V_leastPlace_40 : decode prog_3_method_14_code 40 = .ok (.imul, 1) := by decide +kernel
theorem d_V_leastPlace_41 : decode prog_3_method_14_code 41 = .ok (.invokestatic 53, 3) := by decide +kernel
theorem d_V_leastPlace_44 : decode prog_3_method_14_code 44 = .ok (.iadd, 1) := by decide +kernel
theorem d_V_leastPlace_45 : decode prog_3_method_14_code 45 = .ok (.istore_n 1, 1) := by decide +kernel
theorem d_V_leastPlace_46 : decode prog_3_method_14_code 46 = .ok (.iinc 2 1, 3) := by decide +kernel
theorem d_V_leastPlace_49 : decode prog_3_method_14_code 49 = .ok (.goto (-33), 3) := by decide +kernel
theorem d_V_leastPlace_52 : decode prog_3_method_14_code 52 = .ok (.iload_n 1, 1) := by decide +kernel
theorem d_V_leastPlace_53 : decode prog_3_method_14_code 53 = .ok (.ireturn, 1) := by decide +kernel
theorem d_V_greatestPlace_0 : decode prog_3_method_15_code 0 = .ok (.aload_n 0, 1) := by decide +kernel
theorem d_V_greatestPlace_1 : decode prog_3_method_15_code 1 = .ok (.getfield 29, 3) := by decide +kernel
theorem d_V_greatestPlace_4 : decode prog_3_method_15_code 4 = .ok (.ifCond .ne 5, 3) := by decide +kernel
theorem d_V_greatestPlace_7 : decode prog_3_method_15_code 7 = .ok (.iconst (-1), 1) := by decide +kernel
theorem d_V_greatestPlace_8 : decode prog_3_method_15_code 8 = .ok (.ireturn, 1) := by decide +kernel
theorem d_V_greatestPlace_9 : decode prog_3_method_15_code 9 = .ok (.aload_n 0, 1) := by decide +kernel
theorem d_V_greatestPlace_10 : decode prog_3_method_15_code 10 = .ok (.getfield 22, 3) := by decide +kernel
theorem d_V_greatestPlace_13 : decode prog_3_method_15_code 13 = .ok (.istore_n 1, 1) := by decide +kernel
theorem d_V_greatestPlace_14 : decode prog_3_method_15_code 14 = .ok (.iconst 0, 1) := by decide +kernel
theorem d_V_greatestPlace_15 : decode prog_3_method_15_code 15 = .ok (.istore_n 2, 1) := by decide +kernel
theorem d_V_greatestPlace_16 : decode prog_3_method_15_code 16 = .ok (.iload_n 2, 1) := by decide +kernel
theorem d_V_greatestPlace_17 : decode prog_3_method_15_code 17 = .ok (.aload_n 0, 1) := by decide +kernel
theorem d_V_greatestPlace_18 : decode prog_3_method_15_code 18 = .ok (.getfield 26, 3) := by decide +kernel
theorem d_V_greatestPlace_21 : decode prog_3_method_15_code 21 = .ok (.if_icmp .ge 31, 3) := by decide +kernel
theorem d_V_greatestPlace_24 : decode prog_3_method_15_code 24 = .ok (.iload_n 1, 1) := by decide +kernel
theorem d_V_greatestPlace_25 : decode prog_3_method_15_code 25 = .ok (.iconst 0, 1) := by decide +kernel
theorem d_V_greatestPlace_26 : decode prog_3_method_15_code 26 = .ok (.aload_n 0, 1) := by decide +kernel
theorem d_V_greatestPlace_27 : decode prog_3_method_15_code 27 = .ok (.getfield 9, 3) := by decide +kernel
theorem d_V_greatestPlace_30 : decode prog_3_method_15_code 30 = .ok (.iload_n 2, 1) := by decide +kernel
theorem d_V_greatestPlace_31 : decode prog_3_method_15_code 31 = .ok (.iaload, 1) := by decide +kernel
theorem d_V_greatestPlace_32 : decode prog_3_method_15_code 32 = .ok (.iconst 1, 1) := by decide +kernel
theorem d_V_greatestPlace_33 : decode prog_3_method_15_code 33 = .ok (.isub, 1) := by decide +kernel
theorem d_V_greatestPlace_34 : decode prog_3_method_15_code 34 = .ok (.aload_n 0, 1) := by decide +kernel
theorem d_V_greatestPlace_35 : decode prog_3_method_15_code 35 = .ok (.getfield 15, 3) := by decide +kernel
theorem d_V_greatestPlace_38 : decode prog_3_method_15_code 38 = .ok (.iload_n 2, 1) := by decide +kernel
theorem d_V_greatestPlace_39 : decode prog_3_method_15_code 39 = .ok (.iaload, 1) := by decide +kernel
theorem d_V_greatestPlace_40 : decode prog_3_method_15_code 40 = .ok (.imul, 1) := by decide +kernel
theorem d_V_greatestPlace_41 : decode prog_3_method_15_code 41 = .ok (.invokestatic 56, 3) := by decide +kernel
theorem d_V_greatestPlace_44 : decode prog_3_method_15_code 44 = .ok (.iadd, 1) := by decide +kernel
theorem d_V_greatestPlace_45 : decode prog_3_method_15_code 45 = .ok (.istore_n 1, 1) := by decide +kernel
theorem d_V_greatestPlace_46 : decode prog_3_method_15_code 46 = .ok (.iinc 2 1, 3) := by decide +kernel
theorem d_V_greatestPlace_49 : decode prog_3_method_15_code 49 = .ok (.goto (-33), 3) := by decide +kernel
theorem d_V_greatestPlace_52 : decode prog_3_method_15_code 52 = .ok (.iload_n 1, 1) := by decide +kernel
theorem d_V_greatestPlace_53 : decode prog_3_method_15_code 53 = .ok (.ireturn, 1) := by decide +kernel
end
section
/-! decode rows -/
theorem d_X_init_0 : decode prog_1_method_1_code 0 = .ok (.aload_n 0, 1) := by decide +kernel
theorem d_X_init_1 : decode prog_1_method_1_code 1 = .ok (.invokespecial 1, 3) := by decide +kernel
theorem d_X_init_4 : decode prog_1_method_1_code 4 = .ok (.aload_n 0, 1) := by decide +kernel
theorem d_X_init_5 : decode prog_1_method_1_code 5 = .ok (.bipush 12, 2) := by decide +kernel
theorem d_X_init_7 : decode prog_1_method_1_code 7 = .ok (.anewarray 9, 3) := by decide +kernel
theorem d_X_init_10 : decode prog_1_method_1_code 10 = .ok (.putfield 11, 3) := by decide +kernel
theorem d_X_init_13 : decode prog_1_method_1_code 13 = .ok (.aload_n 0, 1) := by decide +kernel
theorem d_X_init_14 : decode prog_1_method_1_code 14 = .ok (.bipush 80, 2) := by decide +kernel
theorem d_X_init_16 : decode prog_1_method_1_code 16 = .ok (.anewarray 15, 3) := by decide +kernel
theorem d_X_init_19 : decode prog_1_method_1_code 19 = .ok (.putfield 17, 3) := by decide +kernel
theorem d_X_init_22 : decode prog_1_method_1_code 22 = .ok (.aload_n 0, 1) := by decide +kernel
theorem d_X_init_23 : decode prog_1_method_1_code 23 = .ok (.sipush 3000, 3) := by decide +kernel
theorem d_X_init_26 : decode prog_1_method_1_code 26 = .ok (.newarray .int, 2) := by decide +kernel
theorem d_X_init_28 : decode prog_1_method_1_code 28 = .ok (.putfield 21, 3) := by decide +kernel
theorem d_X_init_31 : decode prog_1_method_1_code 31 = .ok (.aload_n 0, 1) := by decide +kernel
theorem d_X_init_32 : decode prog_1_method_1_code 32 = .ok (.sipush 3000, 3) := by decide +kernel
theorem d_X_init_35 : decode prog_1_method_1_code 35 = .ok (.newarray .long, 2) := by decide +kernel
theorem d_X_init_37 : decode prog_1_method_1_code 37 = .ok (.putfield 25, 3) := by decide +kernel
theorem d_X_init_40 : decode prog_1_method_1_code 40 = .ok (.aload_n 0, 1) := by decide +kernel
theorem d_X_init_41 : decode prog_1_method_1_code 41 = .ok (.sipush 300, 3) := by decide +kernel
theorem d_X_init_44 : decode prog_1_method_1_code 44 = .ok (.newarray .boolean, 2) := by decide +kernel
theorem d_X_init_46 : decode prog_1_method_1_code 46 = .ok (.putfield 29, 3) := by decide +kernel
theorem d_X_init_49 : decode prog_1_method_1_code 49 = .ok (.aload_n 0, 1) := by decide +kernel
theorem d_X_init_50 : decode prog_1_method_1_code 50 = .ok (.iconst 0, 1) := by decide +kernel
theorem d_X_init_51 : decode prog_1_method_1_code 51 = .ok (.putfield 33, 3) := by decide +kernel
theorem d_X_init_54 : decode prog_1_method_1_code 54 = .ok (.aload_n 0, 1) := by decide +kernel
theorem d_X_init_55 : decode prog_1_method_1_code 55 = .ok (.iconst 0, 1) := by decide +kernel
theorem d_X_init_56 : decode prog_1_method_1_code 56 = .ok (.putfield 37, 3) := by decide +kernel
theorem d_X_init_59 : decode prog_1_method_1_code 59 = .ok (.return_, 1) := by decide +kernel
theorem d_X_store_0 : decode prog_1_method_2_code 0 = .ok (.iload_n 1, 1) := by decide +kernel
theorem d_X_store_1 : decode prog_1_method_2_code 1 = .ok (.invokestatic 40, 3) := by decide +kernel
theorem d_X_store_4 : decode prog_1_method_2_code 4 = .ok (.iload_n 2, 1) := by decide +kernel
theorem d_X_store_5 : decode prog_1_method_2_code 5 = .ok (.ifCond .lt 10, 3) := by decide +kernel
theorem d_X_store_8 : decode prog_1_method_2_code 8 = .ok (.iload_n 2, 1) := by decide +kernel
theorem d_X_store_9 : decode prog_1_method_2_code 9 = .ok (.sipush 300, 3) := by decide +kernel
theorem d_X_store_12 : decode prog_1_method_2_code 12 = .ok (.if_icmp .le 13, 3) := by decide +kernel
theorem d_X_store_15 : decode prog_1_method_2_code 15 = .ok (.new 44, 3) := by decide +kernel
theorem d_X_store_18 : decode prog_1_method_2_code 18 = .ok (.dup, 1) := by decide +kernel
theorem d_X_store_19 : decode prog_1_method_2_code 19 = .ok (.ldc 46, 2) := by decide +kernel
theorem d_X_store_21 : decode prog_1_method_2_code 21 = .ok (.invokespecial 48, 3) := by decide +kernel
theorem d_X_store_24 : decode prog_1_method_2_code 24 = .ok (.athrow, 1) := by decide +kernel
theorem d_X_store_25 : decode prog_1_method_2_code 25 = .ok (.aload_n 0, 1) := by decide +kernel
theorem d_X_store_26 : decode prog_1_method_2_code 26 = .ok (.invokevirtual 51, 3) := by decide +kernel
theorem d_X_store_29 : decode prog_1_method_2_code 29 = .ok (.new 9, 3) := by decide +kernel
theorem d_X_store_32 : decode prog_1_method_2_code 32 = .ok (.dup, 1) := by decide +kernel
theorem d_X_store_33 : decode prog_1_method_2_code 33 = .ok (.aload_n 0, 1) := by decide +kernel
theorem d_X_store_34 : decode prog_1_method_2_code 34 = .ok (.getfield 33, 3) := by decide +kernel
theorem d_X_store_37 : decode prog_1_method_2_code 37 = .ok (.iload_n 1, 1) := by decide +kernel
theorem d_X_store_38 : decode prog_1_method_2_code 38 = .ok (.iload_n 2, 1) := by decide +kernel
theorem d_X_store_39 : decode prog_1_method_2_code 39 = .ok (.invokespecial 54, 3) := by decide +kernel
theorem d_X_store_42 : decode prog_1_method_2_code 42 = .ok (.astore_n 3, 1) := by decide +kernel
theorem d_X_store_43 : decode prog_1_method_2_code 43 = .ok (.new 15, 3) := by decide +kernel
theorem d_X_store_46 : decode prog_1_method_2_code 46 = .ok (.dup, 1) := by decide +kernel
theorem d_X_store_47 : decode prog_1_method_2_code 47 = .ok (.aload_n 3, 1) := by decide +kernel
theorem d_X_store_48 : decode prog_1_method_2_code 48 = .ok (.iconst 0, 1) := by decide +kernel
theorem d_X_store_49 : decode prog_1_method_2_code 49 = .ok (.invokespecial 57, 3) := by decide +kernel
theorem d_X_store_52 : decode prog_1_method_2_code 52 = .ok (.astore 4, 2) := by decide +kernel
theorem d_X_store_54 : decode prog_1_method_2_code 54 = .ok (.aload 4, 2) := by decide +kernel
theorem d_X_store_56 : decode prog_1_method_2_code 56 = .ok (.iconst 0, 1) := by decide +kernel
theorem d_X_store_57 : decode prog_1_method_2_code 57 = .ok (.iload_n 2, 1) := by decide +kernel
theorem d_X_store_58 : decode prog_1_method_2_code 58 = .ok (.iconst 1, 1) := by decide +kernel
theorem d_X_store_59 : decode prog_1_method_2_code 59 = .ok (.invokevirtual 60, 3) := by decide +kernel
theorem d_X_store_62 : decode prog_1_method_2_code 62 = .ok (.aload_n 0, 1) := by decide +kernel
theorem d_X_store_63 : decode prog_1_method_2_code 63 = .ok (.aload_n 3, 1) := by decide +kernel
theorem d_X_store_64 : decode prog_1_method_2_code 64 = .ok (.invokevirtual 63, 3) := by decide +kernel
theorem d_X_store_67 : decode prog_1_method_2_code 67 = .ok (.aload_n 0, 1) := by decide +kernel
theorem d_X_store_68 : decode prog_1_method_2_code 68 = .ok (.aload 4, 2) := by decide +kernel
theorem d_X_store_70 : decode prog_1_method_2_code 70 = .ok (.invokevirtual 67, 3) := by decide +kernel
theorem d_X_store_73 : decode prog_1_method_2_code 73 = .ok (.ireturn, 1) := by decide +kernel
theorem d_X_needLane_0 : decode prog_1_method_25_code 0 = .ok (.iload_n 0, 1) := by decide +kernel
theorem d_X_needLane_1 : decode prog_1_method_25_code 1 = .ok (.ifCond .lt 8, 3) := by decide +kernel
theorem d_X_needLane_4 : decode prog_1_method_25_code 4 = .ok (.iload_n 0, 1) := by decide +kernel
theorem d_X_needLane_5 : decode prog_1_method_25_code 5 = .ok (.iconst 3, 1) := by decide +kernel
theorem d_X_needLane_6 : decode prog_1_method_25_code 6 = .ok (.if_icmp .le 13, 3) := by decide +kernel
theorem d_X_needLane_9 : decode prog_1_method_25_code 9 = .ok (.new 44, 3) := by decide +kernel
theorem d_X_needLane_12 : decode prog_1_method_25_code 12 = .ok (.dup, 1) := by decide +kernel
theorem d_X_needLane_13 : decode prog_1_method_25_code 13 = .ok (.ldc 250, 2) := by decide +kernel
theorem d_X_needLane_15 : decode prog_1_method_25_code 15 = .ok (.invokespecial 48, 3) := by decide +kernel
theorem d_X_needLane_18 : decode prog_1_method_25_code 18 = .ok (.athrow, 1) := by decide +kernel
theorem d_X_needLane_19 : decode prog_1_method_25_code 19 = .ok (.return_, 1) := by decide +kernel
theorem d_X_needRoomForStore_0 : decode prog_1_method_30_code 0 = .ok (.aload_n 0, 1) := by decide +kernel
theorem d_X_needRoomForStore_1 : decode prog_1_method_30_code 1 = .ok (.getfield 33, 3) := by decide +kernel
theorem d_X_needRoomForStore_4 : decode prog_1_method_30_code 4 = .ok (.bipush 12, 2) := by decide +kernel
theorem d_X_needRoomForStore_6 : decode prog_1_method_30_code 6 = .ok (.if_icmp .ge 12, 3) := by decide +kernel
theorem d_X_needRoomForStore_9 : decode prog_1_method_30_code 9 = .ok (.aload_n 0, 1) := by decide +kernel
theorem d_X_needRoomForStore_10 : decode prog_1_method_30_code 10 = .ok (.getfield 37, 3) := by decide +kernel
theorem d_X_needRoomForStore_13 : decode prog_1_method_30_code 13 = .ok (.bipush 80, 2) := by decide +kernel
theorem d_X_needRoomForStore_15 : decode prog_1_method_30_code 15 = .ok (.if_icmp .lt 14, 3) := by decide +kernel
theorem d_X_needRoomForStore_18 : decode prog_1_method_30_code 18 = .ok (.new 111, 3) := by decide +kernel
theorem d_X_needRoomForStore_21 : decode prog_1_method_30_code 21 = .ok (.dup, 1) := by decide +kernel
theorem d_X_needRoomForStore_22 : decode prog_1_method_30_code 22 = .ok (.ldc_w 265, 3) := by decide +kernel
theorem d_X_needRoomForStore_25 : decode prog_1_method_30_code 25 = .ok (.invokespecial 115, 3) := by decide +kernel
theorem d_X_needRoomForStore_28 : decode prog_1_method_30_code 28 = .ok (.athrow, 1) := by decide +kernel
theorem d_X_needRoomForStore_29 : decode prog_1_method_30_code 29 = .ok (.return_, 1) := by decide +kernel
theorem d_X_keepStore_0 : decode prog_1_method_31_code 0 = .ok (.aload_n 0, 1) := by decide +kernel
theorem d_X_keepStore_1 : decode prog_1_method_31_code 1 = .ok (.getfield 11, 3) := by decide +kernel
theorem d_X_keepStore_4 : decode prog_1_method_31_code 4 = .ok (.aload_n 0, 1) := by decide +kernel
theorem d_X_keepStore_5 : decode prog_1_method_31_code 5 = .ok (.getfield 33, 3) := by decide +kernel
theorem d_X_keepStore_8 : decode prog_1_method_31_code 8 = .ok (.aload_n 1, 1) := by decide +kernel
theorem d_X_keepStore_9 : decode prog_1_method_31_code 9 = .ok (.aastore, 1) := by decide +kernel
theorem d_X_keepStore_10 : decode prog_1_method_31_code 10 = .ok (.aload_n 0, 1) := by decide +kernel
theorem d_X_keepStore_11 : decode prog_1_method_31_code 11 = .ok (.dup, 1) := by decide +kernel
theorem d_X_keepStore_12 : decode prog_1_method_31_code 12 = .ok (.getfield 33, 3) := by decide +kernel
theorem d_X_keepStore_15 : decode prog_1_method_31_code 15 = .ok (.iconst 1, 1) := by decide +kernel
theorem d_X_keepStore_16 : decode prog_1_method_31_code 16 = .ok (.iadd, 1) := by decide +kernel
theorem d_X_keepStore_17 : decode prog_1_method_31_code 17 = .ok (.putfield 33, 3) := by decide +kernel
theorem d_X_keepStore_20 : decode prog_1_method_31_code 20 = .ok (.return_, 1) := by decide +kernel
theorem d_X_keepView_0 : decode prog_1_method_32_code 0 = .ok (.aload_n 1, 1) := by decide +kernel
theorem d_X_keepView_1 : decode prog_1_method_32_code 1 = .ok (.invokevirtual 136, 3) := by decide +kernel
theorem d_X_keepView_4 : decode prog_1_method_32_code 4 = .ok (.aload_n 0, 1) := by decide +kernel
theorem d_X_keepView_5 : decode prog_1_method_32_code 5 = .ok (.getfield 37, 3) := by decide +kernel
theorem d_X_keepView_8 : decode prog_1_method_32_code 8 = .ok (.bipush 80, 2) := by decide +kernel
theorem d_X_keepView_10 : decode prog_1_method_32_code 10 = .ok (.if_icmp .ge 13, 3) := by decide +kernel
theorem d_X_keepView_13 : decode prog_1_method_32_code 13 = .ok (.aload_n 1, 1) := by decide +kernel
theorem d_X_keepView_14 : decode prog_1_method_32_code 14 = .ok (.getfield 139, 3) := by decide +kernel
theorem d_X_keepView_17 : decode prog_1_method_32_code 17 = .ok (.sipush 3000, 3) := by decide +kernel
theorem d_X_keepView_20 : decode prog_1_method_32_code 20 = .ok (.if_icmp .le 14, 3) := by decide +kernel
theorem d_X_keepView_23 : decode prog_1_method_32_code 23 = .ok (.new 111, 3) := by decide +kernel
theorem d_X_keepView_26 : decode prog_1_method_32_code 26 = .ok (.dup, 1) := by decide +kernel
theorem d_X_keepView_27 : decode prog_1_method_32_code 27 = .ok (.ldc_w 267, 3) := by decide +kernel
theorem d_X_keepView_30 : decode prog_1_method_32_code 30 = .ok (.invokespecial 115, 3) := by decide +kernel
theorem d_X_keepView_33 : decode prog_1_method_32_code 33 = .ok (.athrow, 1) := by decide +kernel
theorem d_X_keepView_34 : decode prog_1_method_32_code 34 = .ok (.aload_n 0, 1) := by decide +kernel
theorem d_X_keepView_35 : decode prog_1_method_32_code 35 = .ok (.getfield 17, 3) := by decide +kernel
theorem d_X_keepView_38 : decode prog_1_method_32_code 38 = .ok (.aload_n 0, 1) := by decide +kernel
theorem d_X_keepView_39 : decode prog_1_method_32_code 39 = .ok (.getfield 37, 3) := by decide +kernel
theorem d_X_keepView_42 : decode prog_1_method_32_code 42 = .ok (.aload_n 1, 1) := by decide +kernel
theorem d_X_keepView_43 : decode prog_1_method_32_code 43 = .ok (.aastore, 1) := by decide +kernel
theorem d_X_keepView_44 : decode prog_1_method_32_code 44 = .ok (.aload_n 1, 1) := by decide +kernel
theorem d_X_keepView_45 : decode prog_1_method_32_code 45 = .ok (.getfield 129, 3) := by decide +kernel
theorem d_X_keepView_48 : decode prog_1_method_32_code 48 = .ok (.dup, 1) := by decide +kernel
theorem d_X_keepView_49 : decode prog_1_method_32_code 49 = .ok (.getfield 237, 3) := by decide +kernel
theorem d_X_keepView_52 : decode prog_1_method_32_code 52 = .ok (.iconst 1, 1) := by decide +kernel
theorem d_X_keepView_53 : decode prog_1_method_32_code 53 = .ok (.iadd, 1) := by decide +kernel
theorem d_X_keepView_54 : decode prog_1_method_32_code 54 = .ok (.putfield 237, 3) := by decide +kernel
theorem d_X_keepView_57 : decode prog_1_method_32_code 57 = .ok (.aload_n 0, 1) := by decide +kernel
theorem d_X_keepView_58 : decode prog_1_method_32_code 58 = .ok (.dup, 1) := by decide +kernel
theorem d_X_keepView_59 : decode prog_1_method_32_code 59 = .ok (.getfield 37, 3) := by decide +kernel
theorem d_X_keepView_62 : decode prog_1_method_32_code 62 = .ok (.iconst 1, 1) := by decide +kernel
theorem d_X_keepView_63 : decode prog_1_method_32_code 63 = .ok (.iadd, 1) := by decide +kernel
theorem d_X_keepView_64 : decode prog_1_method_32_code 64 = .ok (.putfield 37, 3) := by decide +kernel
theorem d_X_keepView_67 : decode prog_1_method_32_code 67 = .ok (.aload_n 0, 1) := by decide +kernel
theorem d_X_keepView_68 : decode prog_1_method_32_code 68 = .ok (.getfield 37, 3) := by decide +kernel
theorem d_X_keepView_71 : decode prog_1_method_32_code 71 = .ok (.iconst 1, 1) := by decide +kernel
theorem d_X_keepView_72 : decode prog_1_method_32_code 72 = .ok (.isub, 1) := by decide +kernel
theorem d_X_keepView_73 : decode prog_1_method_32_code 73 = .ok (.ireturn, 1) := by decide +kernel
theorem d_X_slice_0 : decode prog_1_method_3_code 0 = .ok (.aload_n 0, 1) := by decide +kernel
theorem d_X_slice_1 : decode prog_1_method_3_code 1 = .ok (.iload_n 1, 1) := by decide +kernel
theorem d_X_slice_2 : decode prog_1_method_3_code 2 = .ok (.invokevirtual 71, 3) := by decide +kernel
theorem d_X_slice_5 : decode prog_1_method_3_code 5 = .ok (.astore 6, 2) := by decide +kernel
theorem d_X_slice_7 : decode prog_1_method_3_code 7 = .ok (.aload 6, 2) := by decide +kernel
theorem d_X_slice_9 : decode prog_1_method_3_code 9 = .ok (.iload_n 2, 1) := by decide +kernel
theorem d_X_slice_10 : decode prog_1_method_3_code 10 = .ok (.invokestatic 75, 3) := by decide +kernel
theorem d_X_slice_13 : decode prog_1_method_3_code 13 = .ok (.aload 6, 2) := by decide +kernel
theorem d_X_slice_15 : decode prog_1_method_3_code 15 = .ok (.getfield 79, 3) := by decide +kernel
theorem d_X_slice_18 : decode prog_1_method_3_code 18 = .ok (.iload_n 2, 1) := by decide +kernel
theorem d_X_slice_19 : decode prog_1_method_3_code 19 = .ok (.iaload, 1) := by decide +kernel
theorem d_X_slice_20 : decode prog_1_method_3_code 20 = .ok (.iload_n 3, 1) := by decide +kernel
theorem d_X_slice_21 : decode prog_1_method_3_code 21 = .ok (.iload 4, 2) := by decide +kernel
theorem d_X_slice_23 : decode prog_1_method_3_code 23 = .ok (.iload 5, 2) := by decide +kernel
theorem d_X_slice_25 : decode prog_1_method_3_code 25 = .ok (.invokestatic 82, 3) := by decide +kernel
theorem d_X_slice_28 : decode prog_1_method_3_code 28 = .ok (.aload 6, 2) := by decide +kernel
theorem d_X_slice_30 : decode prog_1_method_3_code 30 = .ok (.invokevirtual 86, 3) := by decide +kernel
theorem d_X_slice_33 : decode prog_1_method_3_code 33 = .ok (.astore 7, 2) := by decide +kernel
theorem d_X_slice_35 : decode prog_1_method_3_code 35 = .ok (.aload 7, 2) := by decide +kernel
theorem d_X_slice_37 : decode prog_1_method_3_code 37 = .ok (.dup, 1) := by decide +kernel
theorem d_X_slice_38 : decode prog_1_method_3_code 38 = .ok (.getfield 90, 3) := by decide +kernel
theorem d_X_slice_41 : decode prog_1_method_3_code 41 = .ok (.iload_n 3, 1) := by decide +kernel
theorem d_X_slice_42 : decode prog_1_method_3_code 42 = .ok (.aload 6, 2) := by decide +kernel
theorem d_X_slice_44 : decode prog_1_method_3_code 44 = .ok (.getfield 93, 3) := by decide +kernel
theorem d_X_slice_47 : decode prog_1_method_3_code 47 = .ok (.iload_n 2, 1) := by decide +kernel
theorem d_X_slice_48 : decode prog_1_method_3_code 48 = .ok (.iaload, 1) := by decide +kernel
theorem d_X_slice_49 : decode prog_1_method_3_code 49 = .ok (.imul, 1) := by decide +kernel
theorem d_X_slice_50 : decode prog_1_method_3_code 50 = .ok (.iadd, 1) := by decide +kernel
theorem d_X_slice_51 : decode prog_1_method_3_code 51 = .ok (.putfield 90, 3) := by decide +kernel
theorem d_X_slice_54 : decode prog_1_method_3_code 54 = .ok (.aload 7, 2) := by decide +kernel
theorem d_X_slice_56 : decode prog_1_method_3_code 56 = .ok (.getfield 79, 3) := by decide +kernel
theorem d_X_slice_59 : decode prog_1_method_3_code 59 = .ok (.iload_n 2, 1) := by decide +kernel
theorem d_X_slice_60 : decode prog_1_method_3_code 60 = .ok (.iload 5, 2) := by decide +kernel
theorem d_X_slice_62 : decode prog_1_method_3_code 62 = .ok (.iastore, 1) := by decide +kernel
theorem d_X_slice_63 : decode prog_1_method_3_code 63 = .ok (.aload 7, 2) := by decide +kernel
theorem d_X_slice_65 : decode prog_1_method_3_code 65 = .ok (.getfield 93, 3) := by decide +kernel
theorem d_X_slice_68 : decode prog_1_method_3_code 68 = .ok (.iload_n 2, 1) := by decide +kernel
theorem d_X_slice_69 : decode prog_1_method_3_code 69 = .ok (.iload 4, 2) := by decide +kernel
theorem d_X_slice_71 : decode prog_1_method_3_code 71 = .ok (.aload 6, 2) := by decide +kernel
theorem d_X_slice_73 : decode prog_1_method_3_code 73 = .ok (.getfield 93, 3) := by decide +kernel
theorem d_X_slice_76 : decode prog_1_method_3_code 76 = .ok (.iload_n 2, 1) := by decide +kernel
theorem d_X_slice_77 : decode prog_1_method_3_code 77 = .ok (.iaload, 1) := by decide +kernel
theorem d_X_slice_78 : decode prog_1_method_3_code 78 = .ok (.imul, 1) := by decide +kernel
theorem d_X_slice_79 : decode prog_1_method_3_code 79 = .ok (.iastore, 1) := by decide +kernel
theorem d_X_slice_80 : decode prog_1_method_3_code 80 = .ok (.aload_n 0, 1) := by decide +kernel
theorem d_X_slice_81 : decode prog_1_method_3_code 81 = .ok (.aload 7, 2) := by decide +kernel
theorem d_X_slice_83 : decode prog_1_method_3_code 83 = .ok (.invokevirtual 67, 3) := by decide +kernel
theorem d_X_slice_86 : decode prog_1_method_3_code 86 = .ok (.ireturn, 1) := by decide +kernel
theorem d_X_viewAt_0 : decode prog_1_method_22_code 0 = .ok (.iload_n 1, 1) := by decide +kernel
theorem d_X_viewAt_1 : decode prog_1_method_22_code 1 = .ok (.ifCond .lt 11, 3) := by decide +kernel
theorem d_X_viewAt_4 : decode prog_1_method_22_code 4 = .ok (.iload_n 1, 1) := by decide +kernel
theorem d_X_viewAt_5 : decode prog_1_method_22_code 5 = .ok (.aload_n 0, 1) := by decide +kernel
theorem d_X_viewAt_6 : decode prog_1_method_22_code 6 = .ok (.getfield 37, 3) := by decide +kernel
theorem d_X_viewAt_9 : decode prog_1_method_22_code 9 = .ok (.if_icmp .lt 13, 3) := by decide +kernel
theorem d_X_viewAt_12 : decode prog_1_method_22_code 12 = .ok (.new 96, 3) := by decide +kernel
theorem d_X_viewAt_15 : decode prog_1_method_22_code 15 = .ok (.dup, 1) := by decide +kernel
theorem d_X_viewAt_16 : decode prog_1_method_22_code 16 = .ok (.ldc 244, 2) := by decide +kernel
theorem d_X_viewAt_18 : decode prog_1_method_22_code 18 = .ok (.invokespecial 100, 3) := by decide +kernel
theorem d_X_viewAt_21 : decode prog_1_method_22_code 21 = .ok (.athrow, 1) := by decide +kernel
theorem d_X_viewAt_22 : decode prog_1_method_22_code 22 = .ok (.aload_n 0, 1) := by decide +kernel
theorem d_X_viewAt_23 : decode prog_1_method_22_code 23 = .ok (.getfield 17, 3) := by decide +kernel
theorem d_X_viewAt_26 : decode prog_1_method_22_code 26 = .ok (.iload_n 1, 1) := by decide +kernel
theorem d_X_viewAt_27 : decode prog_1_method_22_code 27 = .ok (.aaload, 1) := by decide +kernel
theorem d_X_viewAt_28 : decode prog_1_method_22_code 28 = .ok (.areturn, 1) := by decide +kernel
theorem d_X_needAxis_0 : decode prog_1_method_23_code 0 = .ok (.iload_n 1, 1) := by decide +kernel
theorem d_X_needAxis_1 : decode prog_1_method_23_code 1 = .ok (.ifCond .lt 11, 3) := by decide +kernel
theorem d_X_needAxis_4 : decode prog_1_method_23_code 4 = .ok (.iload_n 1, 1) := by decide +kernel
theorem d_X_needAxis_5 : decode prog_1_method_23_code 5 = .ok (.aload_n 0, 1) := by decide +kernel
theorem d_X_needAxis_6 : decode prog_1_method_23_code 6 = .ok (.getfield 104, 3) := by decide +kernel
theorem d_X_needAxis_9 : decode prog_1_method_23_code 9 = .ok (.if_icmp .lt 13, 3) := by decide +kernel
theorem d_X_needAxis_12 : decode prog_1_method_23_code 12 = .ok (.new 96, 3) := by decide +kernel
theorem d_X_needAxis_15 : decode prog_1_method_23_code 15 = .ok (.dup, 1) := by decide +kernel
theorem d_X_needAxis_16 : decode prog_1_method_23_code 16 = .ok (.ldc 246, 2) := by decide +kernel
theorem d_X_needAxis_18 : decode prog_1_method_23_code 18 = .ok (.invokespecial 100, 3) := by decide +kernel
theorem d_X_needAxis_21 : decode prog_1_method_23_code 21 = .ok (.athrow, 1) := by decide +kernel
theorem d_X_needAxis_22 : decode prog_1_method_23_code 22 = .ok (.return_, 1) := by decide +kernel
theorem d_X_needPart_0 : decode prog_1_method_26_code 0 = .ok (.iload_n 3, 1) := by decide +kernel
theorem d_X_needPart_1 : decode prog_1_method_26_code 1 = .ok (.ifCond .lt 7, 3) := by decide +kernel
theorem d_X_needPart_4 : decode prog_1_method_26_code 4 = .ok (.iload_n 2, 1) := by decide +kernel
theorem d_X_needPart_5 : decode prog_1_method_26_code 5 = .ok (.ifCond .ne 13, 3) := by decide +kernel
theorem d_X_needPart_8 : decode prog_1_method_26_code 8 = .ok (.new 44, 3) := by decide +kernel
theorem d_X_needPart_11 : decode prog_1_method_26_code 11 = .ok (.dup, 1) := by decide +kernel
theorem d_X_needPart_12 : decode prog_1_method_26_code 12 = .ok (.ldc 252, 2) := by decide +kernel
theorem d_X_needPart_14 : decode prog_1_method_26_code 14 = .ok (.invokespecial 48, 3) := by decide +kernel
theorem d_X_needPart_17 : decode prog_1_method_26_code 17 = .ok (.athrow, 1) := by decide +kernel
theorem d_X_needPart_18 : decode prog_1_method_26_code 18 = .ok (.iload_n 1, 1) := by decide +kernel
theorem d_X_needPart_19 : decode prog_1_method_26_code 19 = .ok (.i2l, 1) := by decide +kernel
theorem d_X_needPart_20 : decode prog_1_method_26_code 20 = .ok (.iload_n 3, 1) := by decide +kernel
theorem d_X_needPart_21 : decode prog_1_method_26_code 21 = .ok (.i2l, 1) := by decide +kernel
theorem d_X_needPart_22 : decode prog_1_method_26_code 22 = .ok (.lconst 1, 1) := by decide +kernel
theorem d_X_needPart_23 : decode prog_1_method_26_code 23 = .ok (.lsub, 1) := by decide +kernel
theorem d_X_needPart_24 : decode prog_1_method_26_code 24 = .ok (.iload_n 2, 1) := by decide +kernel
theorem d_X_needPart_25 : decode prog_1_method_26_code 25 = .ok (.i2l, 1) := by decide +kernel
theorem d_X_needPart_26 : decode prog_1_method_26_code 26 = .ok (.lmul, 1) := by decide +kernel
theorem d_X_needPart_27 : decode prog_1_method_26_code 27 = .ok (.ladd, 1) := by decide +kernel
theorem d_X_needPart_28 : decode prog_1_method_26_code 28 = .ok (.lstore 4, 2) := by decide +kernel
theorem d_X_needPart_30 : decode prog_1_method_26_code 30 = .ok (.iload_n 3, 1) := by decide +kernel
theorem d_X_needPart_31 : decode prog_1_method_26_code 31 = .ok (.ifCond .le 37, 3) := by decide +kernel
theorem d_X_needPart_34 : decode prog_1_method_26_code 34 = .ok (.iload_n 1, 1) := by decide +kernel
theorem d_X_needPart_35 : decode prog_1_method_26_code 35 = .ok (.ifCond .lt 23, 3) := by decide +kernel
theorem d_X_needPart_38 : decode prog_1_method_26_code 38 = .ok (.iload_n 1, 1) := by decide +kernel
theorem d_X_needPart_39 : decode prog_1_method_26_code 39 = .ok (.iload_n 0, 1) := by decide +kernel
theorem d_X_needPart_40 : decode prog_1_method_26_code 40 = .ok (.if_icmp .ge 18, 3) := by decide +kernel
theorem d_X_needPart_43 : decode prog_1_method_26_code 43 = .ok (.lload 4, 2) := by decide +kernel
theorem d_X_needPart_45 : decode prog_1_method_26_code 45 = .ok (.lconst 0, 1) := by decide +kernel
theorem d_X_needPart_46 : decode prog_1_method_26_code 46 = .ok (.lcmp, 1) := by decide +kernel
theorem d_X_needPart_47 : decode prog_1_method_26_code 47 = .ok (.ifCond .lt 11, 3) := by decide +kernel
theorem d_X_needPart_50 : decode prog_1_method_26_code 50 = .ok (.lload 4, 2) := by decide +kernel
theorem d_X_needPart_52 : decode prog_1_method_26_code 52 = .ok (.iload_n 0, 1) := by decide +kernel
theorem d_X_needPart_53 : decode prog_1_method_26_code 53 = .ok (.i2l, 1) := by decide +kernel
theorem d_X_needPart_54 : decode prog_1_method_26_code 54 = .ok (.lcmp, 1) := by decide +kernel
theorem d_X_needPart_55 : decode prog_1_method_26_code 55 = .ok (.ifCond .lt 13, 3) := by decide +kernel
theorem d_X_needPart_58 : decode prog_1_method_26_code 58 = .ok (.new 44, 3) := by decide +kernel
theorem d_X_needPart_61 : decode prog_1_method_26_code 61 = .ok (.dup, 1) := by decide +kernel
theorem d_X_needPart_62 : decode prog_1_method_26_code 62 = .ok (.ldc 254, 2) := by decide +kernel
theorem d_X_needPart_64 : decode prog_1_method_26_code 64 = .ok (.invokespecial 48, 3) := by decide +kernel
theorem d_X_needPart_67 : decode prog_1_method_26_code 67 = .ok (.athrow, 1) := by decide +kernel
theorem d_X_needPart_68 : decode prog_1_method_26_code 68 = .ok (.return_, 1) := by decide +kernel
theorem d_X_pick_0 : decode prog_1_method_4_code 0 = .ok (.aload_n 0, 1) := by decide +kernel
theorem d_X_pick_1 : decode prog_1_method_4_code 1 = .ok (.iload_n 1, 1) := by decide +kernel
theorem d_X_pick_2 : decode prog_1_method_4_code 2 = .ok (.invokevirtual 71, 3) := by decide +kernel
theorem d_X_pick_5 : decode prog_1_method_4_code 5 = .ok (.astore 4, 2) := by decide +kernel
theorem d_X_pick_7 : decode prog_1_method_4_code 7 = .ok (.aload 4, 2) := by decide +kernel
theorem d_X_pick_9 : decode prog_1_method_4_code 9 = .ok (.iload_n 2, 1) := by decide +kernel
theorem d_X_pick_10 : decode prog_1_method_4_code 10 = .ok (.invokestatic 75, 3) := by decide +kernel
theorem d_X_pick_13 : decode prog_1_method_4_code 13 = .ok (.iload_n 3, 1) := by decide +kernel
theorem d_X_pick_14 : decode prog_1_method_4_code 14 = .ok (.ifCond .lt 14, 3) := by decide +kernel
theorem d_X_pick_17 : decode prog_1_method_4_code 17 = .ok (.iload_n 3, 1) := by decide +kernel
theorem d_X_pick_18 : decode prog_1_method_4_code 18 = .ok (.aload 4, 2) := by decide +kernel
theorem d_X_pick_20 : decode prog_1_method_4_code 20 = .ok (.getfield 79, 3) := by decide +kernel
theorem d_X_pick_23 : decode prog_1_method_4_code 23 = .ok (.iload_n 2, 1) := by decide +kernel
theorem d_X_pick_24 : decode prog_1_method_4_code 24 = .ok (.iaload, 1) := by decide +kernel
theorem d_X_pick_25 : decode prog_1_method_4_code 25 = .ok (.if_icmp .lt 13, 3) := by decide +kernel
theorem d_X_pick_28 : decode prog_1_method_4_code 28 = .ok (.new 96, 3) := by decide +kernel
theorem d_X_pick_31 : decode prog_1_method_4_code 31 = .ok (.dup, 1) := by decide +kernel
theorem d_X_pick_32 : decode prog_1_method_4_code 32 = .ok (.ldc 98, 2) := by decide +kernel
theorem d_X_pick_34 : decode prog_1_method_4_code 34 = .ok (.invokespecial 100, 3) := by decide +kernel
theorem d_X_pick_37 : decode prog_1_method_4_code 37 = .ok (.athrow, 1) := by decide +kernel
theorem d_X_pick_38 : decode prog_1_method_4_code 38 = .ok (.aload 4, 2) := by decide +kernel
theorem d_X_pick_40 : decode prog_1_method_4_code 40 = .ok (.invokevirtual 86, 3) := by decide +kernel
theorem d_X_pick_43 : decode prog_1_method_4_code 43 = .ok (.astore 5, 2) := by decide +kernel
theorem d_X_pick_45 : decode prog_1_method_4_code 45 = .ok (.aload 5, 2) := by decide +kernel
theorem d_X_pick_47 : decode prog_1_method_4_code 47 = .ok (.dup, 1) := by decide +kernel
theorem d_X_pick_48 : decode prog_1_method_4_code 48 = .ok (.getfield 90, 3) := by decide +kernel
theorem d_X_pick_51 : decode prog_1_method_4_code 51 = .ok (.iload_n 3, 1) := by decide +kernel
theorem d_X_pick_52 : decode prog_1_method_4_code 52 = .ok (.aload 4, 2) := by decide +kernel
theorem d_X_pick_54 : decode prog_1_method_4_code 54 = .ok (.getfield 93, 3) := by decide +kernel
theorem d_X_pick_57 : decode prog_1_method_4_code 57 = .ok (.iload_n 2, 1) := by decide +kernel
theorem d_X_pick_58 : decode prog_1_method_4_code 58 = .ok (.iaload, 1) := by decide +kernel
theorem d_X_pick_59 : decode prog_1_method_4_code 59 = .ok (.imul, 1) := by decide +kernel
theorem d_X_pick_60 : decode prog_1_method_4_code 60 = .ok (.iadd, 1) := by decide +kernel
theorem d_X_pick_61 : decode prog_1_method_4_code 61 = .ok (.putfield 90, 3) := by decide +kernel
theorem d_X_pick_64 : decode prog_1_method_4_code 64 = .ok (.aload 5, 2) := by decide +kernel
theorem d_X_pick_66 : decode prog_1_method_4_code 66 = .ok (.iload_n 2, 1) := by decide +kernel
theorem d_X_pick_67 : decode prog_1_method_4_code 67 = .ok (.invokevirtual 101, 3) := by decide +kernel
theorem d_X_pick_70 : decode prog_1_method_4_code 70 = .ok (.aload_n 0, 1) := by decide +kernel
theorem d_X_pick_71 : decode prog_1_method_4_code 71 = .ok (.aload 5, 2) := by decide +kernel
theorem d_X_pick_73 : decode prog_1_method_4_code 73 = .ok (.invokevirtual 67, 3) := by decide +kernel
theorem d_X_pick_76 : decode prog_1_method_4_code 76 = .ok (.ireturn, 1) := by decide +kernel
theorem d_X_turn_0 : decode prog_1_method_5_code 0 = .ok (.aload_n 0, 1) := by decide +kernel
theorem d_X_turn_1 : decode prog_1_method_5_code 1 = .ok (.iload_n 1, 1) := by decide +kernel
theorem d_X_turn_2 : decode prog_1_method_5_code 2 = .ok (.invokevirtual 71, 3) := by decide +kernel
theorem d_X_turn_5 : decode prog_1_method_5_code 5 = .ok (.astore 4, 2) := by decide +kernel
theorem d_X_turn_7 : decode prog_1_method_5_code 7 = .ok (.aload 4, 2) := by decide +kernel
theorem d_X_turn_9 : decode prog_1_method_5_code 9 = .ok (.iload_n 2, 1) := by decide +kernel
theorem d_X_turn_10 : decode prog_1_method_5_code 10 = .ok (.invokestatic 75, 3) := by decide +kernel
theorem d_X_turn_13 : decode prog_1_method_5_code 13 = .ok (.aload 4, 2) := by decide +kernel
theorem d_X_turn_15 : decode prog_1_method_5_code 15 = .ok (.iload_n 3, 1) := by decide +kernel
theorem d_X_turn_16 : decode prog_1_method_5_code 16 = .ok (.invokestatic 75, 3) := by decide +kernel
theorem d_X_turn_19 : decode prog_1_method_5_code 19 = .ok (.aload 4, 2) := by decide +kernel
theorem d_X_turn_21 : decode prog_1_method_5_code 21 = .ok (.invokevirtual 86, 3) := by decide +kernel
theorem d_X_turn_24 : decode prog_1_method_5_code 24 = .ok (.astore 5, 2) := by decide +kernel
theorem d_X_turn_26 : decode prog_1_method_5_code 26 = .ok (.aload 5, 2) := by decide +kernel
theorem d_X_turn_28 : decode prog_1_method_5_code 28 = .ok (.getfield 79, 3) := by decide +kernel
theorem d_X_turn_31 : decode prog_1_method_5_code 31 = .ok (.iload_n 2, 1) := by decide +kernel
theorem d_X_turn_32 : decode prog_1_method_5_code 32 = .ok (.aload 4, 2) := by decide +kernel
theorem d_X_turn_34 : decode prog_1_method_5_code 34 = .ok (.getfield 79, 3) := by decide +kernel
theorem d_X_turn_37 : decode prog_1_method_5_code 37 = .ok (.iload_n 3, 1) := by decide +kernel
theorem d_X_turn_38 : decode prog_1_method_5_code 38 = .ok (.iaload, 1) := by decide +kernel
theorem d_X_turn_39 : decode prog_1_method_5_code 39 = .ok (.iastore, 1) := by decide +kernel
theorem d_X_turn_40 : decode prog_1_method_5_code 40 = .ok (.aload 5, 2) := by decide +kernel
theorem d_X_turn_42 : decode prog_1_method_5_code 42 = .ok (.getfield 93, 3) := by decide +kernel
theorem d_X_turn_45 : decode prog_1_method_5_code 45 = .ok (.iload_n 2, 1) := by decide +kernel
theorem d_X_turn_46 : decode prog_1_method_5_code 46 = .ok (.aload 4, 2) := by decide +kernel
theorem d_X_turn_48 : decode prog_1_method_5_code 48 = .ok (.getfield 93, 3) := by decide +kernel
theorem d_X_turn_51 : decode prog_1_method_5_code 51 = .ok (.iload_n 3, 1) := by decide +kernel
theorem d_X_turn_52 : decode prog_1_method_5_code 52 = .ok (.iaload, 1) := by decide +kernel
theorem d_X_turn_53 : decode prog_1_method_5_code 53 = .ok (.iastore, 1) := by decide +kernel
theorem d_X_turn_54 : decode prog_1_method_5_code 54 = .ok (.aload 5, 2) := by decide +kernel
theorem d_X_turn_56 : decode prog_1_method_5_code 56 = .ok (.getfield 79, 3) := by decide +kernel
theorem d_X_turn_59 : decode prog_1_method_5_code 59 = .ok (.iload_n 3, 1) := by decide +kernel
theorem d_X_turn_60 : decode prog_1_method_5_code 60 = .ok (.aload 4, 2) := by decide +kernel
theorem d_X_turn_62 : decode prog_1_method_5_code 62 = .ok (.getfield 79, 3) := by decide +kernel
theorem d_X_turn_65 : decode prog_1_method_5_code 65 = .ok (.iload_n 2, 1) := by decide +kernel
theorem d_X_turn_66 : decode prog_1_method_5_code 66 = .ok (.iaload, 1) := by decide +kernel
theorem d_X_turn_67 : decode prog_1_method_5_code 67 = .ok (.iastore, 1) := by decide +kernel
theorem d_X_turn_68 : decode prog_1_method_5_code 68 = .ok (.aload 5, 2) := by decide +kernel
theorem d_X_turn_70 : decode prog_1_method_5_code 70 = .ok (.getfield 93, 3) := by decide +kernel
theorem d_X_turn_73 : decode prog_1_method_5_code 73 = .ok (.iload_n 3, 1) := by decide +kernel
theorem d_X_turn_74 : decode prog_1_method_5_code 74 = .ok (.aload 4, 2) := by decide +kernel
theorem d_X_turn_76 : decode prog_1_method_5_code 76 = .ok (.getfield 93, 3) := by decide +kernel
theorem d_X_turn_79 : decode prog_1_method_5_code 79 = .ok (.iload_n 2, 1) := by decide +kernel
theorem d_X_turn_80 : decode prog_1_method_5_code 80 = .ok (.iaload, 1) := by decide +kernel
theorem d_X_turn_81 : decode prog_1_method_5_code 81 = .ok (.iastore, 1) := by decide +kernel
theorem d_X_turn_82 : decode prog_1_method_5_code 82 = .ok (.aload_n 0, 1) := by decide +kernel
theorem d_X_turn_83 : decode prog_1_method_5_code 83 = .ok (.aload 5, 2) := by decide +kernel
theorem d_X_turn_85 : decode prog_1_method_5_code 85 = .ok (.invokevirtual 67, 3) := by decide +kernel
theorem d_X_turn_88 : decode prog_1_method_5_code 88 = .ok (.ireturn, 1) := by decide +kernel
theorem d_X_spread_0 : decode prog_1_method_6_code 0 = .ok (.aload_n 0, 1) := by decide +kernel
theorem d_X_spread_1 : decode prog_1_method_6_code 1 = .ok (.iload_n 1, 1) := by decide +kernel
theorem d_X_spread_2 : decode prog_1_method_6_code 2 = .ok (.invokevirtual 71, 3) := by decide +kernel
theorem d_X_spread_5 : decode prog_1_method_6_code 5 = .ok (.astore 4, 2) := by decide +kernel
theorem d_X_spread_7 : decode prog_1_method_6_code 7 = .ok (.iload_n 2, 1) := by decide +kernel
theorem d_X_spread_8 : decode prog_1_method_6_code 8 = .ok (.ifCond .lt 12, 3) := by decide +kernel
theorem d_X_spread_11 : decode prog_1_method_6_code 11 = .ok (.iload_n 2, 1) := by decide +kernel
theorem d_X_spread_12 : decode prog_1_method_6_code 12 = .ok (.aload 4, 2) := by decide +kernel
theorem d_X_spread_14 : decode prog_1_method_6_code 14 = .ok (.getfield 104, 3) := by decide +kernel
theorem d_X_spread_17 : decode prog_1_method_6_code 17 = .ok (.if_icmp .le 13, 3) := by decide +kernel
theorem d_X_spread_20 : decode prog_1_method_6_code 20 = .ok (.new 96, 3) := by decide +kernel
theorem d_X_spread_23 : decode prog_1_method_6_code 23 = .ok (.dup, 1) := by decide +kernel
theorem d_X_spread_24 : decode prog_1_method_6_code 24 = .ok (.ldc 107, 2) := by decide +kernel
theorem d_X_spread_26 : decode prog_1_method_6_code 26 = .ok (.invokespecial 100, 3) := by decide +kernel
theorem d_X_spread_29 : decode prog_1_method_6_code 29 = .ok (.athrow, 1) := by decide +kernel
theorem d_X_spread_30 : decode prog_1_method_6_code 30 = .ok (.iload_n 3, 1) := by decide +kernel
theorem d_X_spread_31 : decode prog_1_method_6_code 31 = .ok (.ifCond .ge 13, 3) := by decide +kernel
theorem d_X_spread_34 : decode prog_1_method_6_code 34 = .ok (.new 44, 3) := by decide +kernel
theorem d_X_spread_37 : decode prog_1_method_6_code 37 = .ok (.dup, 1) := by decide +kernel
theorem d_X_spread_38 : decode prog_1_method_6_code 38 = .ok (.ldc 109, 2) := by decide +kernel
theorem d_X_spread_40 : decode prog_1_method_6_code 40 = .ok (.invokespecial 48, 3) := by decide +kernel
theorem d_X_spread_43 : decode prog_1_method_6_code 43 = .ok (.athrow, 1) := by decide +kernel
theorem d_X_spread_44 : decode prog_1_method_6_code 44 = .ok (.aload 4, 2) := by decide +kernel
theorem d_X_spread_46 : decode prog_1_method_6_code 46 = .ok (.getfield 104, 3) := by decide +kernel
theorem d_X_spread_49 : decode prog_1_method_6_code 49 = .ok (.iconst 4, 1) := by decide +kernel
theorem d_X_spread_50 : decode prog_1_method_6_code 50 = .ok (.if_icmp .lt 13, 3) := by decide +kernel
theorem d_X_spread_53 : decode prog_1_method_6_code 53 = .ok (.new 111, 3) := by decide +kernel
theorem d_X_spread_56 : decode prog_1_method_6_code 56 = .ok (.dup, 1) := by decide +kernel
theorem d_X_spread_57 : decode prog_1_method_6_code 57 = .ok (.ldc 113, 2) := by decide +kernel
theorem d_X_spread_59 : decode prog_1_method_6_code 59 = .ok (.invokespecial 115, 3) := by decide +kernel
theorem d_X_spread_62 : decode prog_1_method_6_code 62 = .ok (.athrow, 1) := by decide +kernel
theorem d_X_spread_63 : decode prog_1_method_6_code 63 = .ok (.aload 4, 2) := by decide +kernel
theorem d_X_spread_65 : decode prog_1_method_6_code 65 = .ok (.invokevirtual 86, 3) := by decide +kernel
theorem d_X_spread_68 : decode prog_1_method_6_code 68 = .ok (.astore 5, 2) := by decide +kernel
theorem d_X_spread_70 : decode prog_1_method_6_code 70 = .ok (.aload 5, 2) := by decide +kernel
theorem d_X_spread_72 : decode prog_1_method_6_code 72 = .ok (.iload_n 2, 1) := by decide +kernel
theorem d_X_spread_73 : decode prog_1_method_6_code 73 = .ok (.iload_n 3, 1) := by decide +kernel
theorem d_X_spread_74 : decode prog_1_method_6_code 74 = .ok (.iconst 0, 1) := by decide +kernel
theorem d_X_spread_75 : decode prog_1_method_6_code 75 = .ok (.invokevirtual 60, 3) := by decide +kernel
theorem d_X_spread_78 : decode prog_1_method_6_code 78 = .ok (.aload_n 0, 1) := by decide +kernel
theorem d_X_spread_79 : decode prog_1_method_6_code 79 = .ok (.aload 5, 2) := by decide +kernel
theorem d_X_spread_81 : decode prog_1_method_6_code 81 = .ok (.invokevirtual 67, 3) := by decide +kernel
theorem d_X_spread_84 : decode prog_1_method_6_code 84 = .ok (.ireturn, 1) := by decide +kernel
theorem d_X_diagonal_0 : decode prog_1_method_7_code 0 = .ok (.aload_n 0, 1) := by decide +kernel
theorem d_X_diagonal_1 : decode prog_1_method_7_code 1 = .ok (.iload_n 1, 1) := by decide +kernel
theorem d_X_diagonal_2 : decode prog_1_method_7_code 2 = .ok (.invokevirtual 71, 3) := by decide +kernel
theorem d_X_diagonal_5 : decode prog_1_method_7_code 5 = .ok (.astore 4, 2) := by decide +kernel
theorem d_X_diagonal_7 : decode prog_1_method_7_code 7 = .ok (.aload 4, 2) := by decide +kernel
theorem d_X_diagonal_9 : decode prog_1_method_7_code 9 = .ok (.iload_n 2, 1) := by decide +kernel
theorem d_X_diagonal_10 : decode prog_1_method_7_code 10 = .ok (.invokestatic 75, 3) := by decide +kernel
theorem d_X_diagonal_13 : decode prog_1_method_7_code 13 = .ok (.aload 4, 2) := by decide +kernel
theorem d_X_diagonal_15 : decode prog_1_method_7_code 15 = .ok (.iload_n 3, 1) := by decide +kernel
theorem d_X_diagonal_16 : decode prog_1_method_7_code 16 = .ok (.invokestatic 75, 3) := by decide +kernel
theorem d_X_diagonal_19 : decode prog_1_method_7_code 19 = .ok (.iload_n 2, 1) := by decide +kernel
theorem d_X_diagonal_20 : decode prog_1_method_7_code 20 = .ok (.iload_n 3, 1) := by decide +kernel
theorem d_X_diagonal_21 : decode prog_1_method_7_code 21 = .ok (.if_icmp .ne 13, 3) := by decide +kernel
theorem d_X_diagonal_24 : decode prog_1_method_7_code 24 = .ok (.new 44, 3) := by decide +kernel
theorem d_X_diagonal_27 : decode prog_1_method_7_code 27 = .ok (.dup, 1) := by decide +kernel
theorem d_X_diagonal_28 : decode prog_1_method_7_code 28 = .ok (.ldc 116, 2) := by decide +kernel
theorem d_X_diagonal_30 : decode prog_1_method_7_code 30 = .ok (.invokespecial 48, 3) := by decide +kernel
theorem d_X_diagonal_33 : decode prog_1_method_7_code 33 = .ok (.athrow, 1) := by decide +kernel
theorem d_X_diagonal_34 : decode prog_1_method_7_code 34 = .ok (.aload 4, 2) := by decide +kernel
theorem d_X_diagonal_36 : decode prog_1_method_7_code 36 = .ok (.invokevirtual 86, 3) := by decide +kernel
theorem d_X_diagonal_39 : decode prog_1_method_7_code 39 = .ok (.astore 5, 2) := by decide +kernel
theorem d_X_diagonal_41 : decode prog_1_method_7_code 41 = .ok (.aload 5, 2) := by decide +kernel
theorem d_X_diagonal_43 : decode prog_1_method_7_code 43 = .ok (.iload_n 2, 1) := by decide +kernel
theorem d_X_diagonal_44 : decode prog_1_method_7_code 44 = .ok (.iload_n 3, 1) := by decide +kernel
theorem d_X_diagonal_45 : decode prog_1_method_7_code 45 = .ok (.invokestatic 118, 3) := by decide +kernel
theorem d_X_diagonal_48 : decode prog_1_method_7_code 48 = .ok (.invokevirtual 101, 3) := by decide +kernel
theorem d_X_diagonal_51 : decode prog_1_method_7_code 51 = .ok (.aload 5, 2) := by decide +kernel
theorem d_X_diagonal_53 : decode prog_1_method_7_code 53 = .ok (.iload_n 2, 1) := by decide +kernel
theorem d_X_diagonal_54 : decode prog_1_method_7_code 54 = .ok (.iload_n 3, 1) := by decide +kernel
theorem d_X_diagonal_55 : decode prog_1_method_7_code 55 = .ok (.invokestatic 124, 3) := by decide +kernel
theorem d_X_diagonal_58 : decode prog_1_method_7_code 58 = .ok (.invokevirtual 101, 3) := by decide +kernel
theorem d_X_diagonal_61 : decode prog_1_method_7_code 61 = .ok (.aload 5, 2) := by decide +kernel
theorem d_X_diagonal_63 : decode prog_1_method_7_code 63 = .ok (.aload 5, 2) := by decide +kernel
theorem d_X_diagonal_65 : decode prog_1_method_7_code 65 = .ok (.getfield 104, 3) := by decide +kernel
theorem d_X_diagonal_68 : decode prog_1_method_7_code 68 = .ok (.aload 4, 2) := by decide +kernel
theorem d_X_diagonal_70 : decode prog_1_method_7_code 70 = .ok (.getfield 79, 3) := by decide +kernel
theorem d_X_diagonal_73 : decode prog_1_method_7_code 73 = .ok (.iload_n 2, 1) := by decide +kernel
theorem d_X_diagonal_74 : decode prog_1_method_7_code 74 = .ok (.iaload, 1) := by decide +kernel
theorem d_X_diagonal_75 : decode prog_1_method_7_code 75 = .ok (.aload 4, 2) := by decide +kernel
theorem d_X_diagonal_77 : decode prog_1_method_7_code 77 = .ok (.getfield 79, 3) := by decide +kernel
theorem d_X_diagonal_80 : decode prog_1_method_7_code 80 = .ok (.iload_n 3, 1) := by decide +kernel
theorem d_X_diagonal_81 : decode prog_1_method_7_code 81 = .ok (.iaload, 1) := by decide +kernel
theorem d_X_diagonal_82 : decode prog_1_method_7_code 82 = .ok (.invokestatic 124, 3) := by decide +kernel
theorem d_X_diagonal_85 : decode prog_1_method_7_code 85 = .ok (.aload 4, 2) := by decide +kernel
theorem d_X_diagonal_87 : decode prog_1_method_7_code 87 = .ok (.getfield 93, 3) := by decide +kernel
theorem d_X_diagonal_90 : decode prog_1_method_7_code 90 = .ok (.iload_n 2, 1) := by decide +kernel
theorem d_X_diagonal_91 : decode prog_1_method_7_code 91 = .ok (.iaload, 1) := by decide +kernel
theorem d_X_diagonal_92 : decode prog_1_method_7_code 92 = .ok (.aload 4, 2) := by decide +kernel
theorem d_X_diagonal_94 : decode prog_1_method_7_code 94 = .ok (.getfield 93, 3) := by decide +kernel
theorem d_X_diagonal_97 : decode prog_1_method_7_code 97 = .ok (.iload_n 3, 1) := by decide +kernel
theorem d_X_diagonal_98 : decode prog_1_method_7_code 98 = .ok (.iaload, 1) := by decide +kernel
theorem d_X_diagonal_99 : decode prog_1_method_7_code 99 = .ok (.iadd, 1) := by decide +kernel
theorem d_X_diagonal_100 : decode prog_1_method_7_code 100 = .ok (.invokevirtual 60, 3) := by decide +kernel
theorem d_X_diagonal_103 : decode prog_1_method_7_code 103 = .ok (.aload_n 0, 1) := by decide +kernel
theorem d_X_diagonal_104 : decode prog_1_method_7_code 104 = .ok (.aload 5, 2) := by decide +kernel
theorem d_X_diagonal_106 : decode prog_1_method_7_code 106 = .ok (.invokevirtual 67, 3) := by decide +kernel
theorem d_X_diagonal_109 : decode prog_1_method_7_code 109 = .ok (.ireturn, 1) := by decide +kernel
theorem d_X_shape_0 : decode prog_1_method_8_code 0 = .ok (.aload_n 0, 1) := by decide +kernel
theorem d_X_shape_1 : decode prog_1_method_8_code 1 = .ok (.iload_n 1, 1) := by decide +kernel
theorem d_X_shape_2 : decode prog_1_method_8_code 2 = .ok (.invokevirtual 71, 3) := by decide +kernel
theorem d_X_shape_5 : decode prog_1_method_8_code 5 = .ok (.astore 5, 2) := by decide +kernel
theorem d_X_shape_7 : decode prog_1_method_8_code 7 = .ok (.iload_n 2, 1) := by decide +kernel
theorem d_X_shape_8 : decode prog_1_method_8_code 8 = .ok (.iconst (-1), 1) := by decide +kernel
theorem d_X_shape_9 : decode prog_1_method_8_code 9 = .ok (.if_icmp .lt 14, 3) := by decide +kernel
theorem d_X_shape_12 : decode prog_1_method_8_code 12 = .ok (.iload_n 3, 1) := by decide +kernel
theorem d_X_shape_13 : decode prog_1_method_8_code 13 = .ok (.iconst (-1), 1) := by decide +kernel
theorem d_X_shape_14 : decode prog_1_method_8_code 14 = .ok (.if_icmp .lt 9, 3) := by decide +kernel
theorem d_X_shape_17 : decode prog_1_method_8_code 17 = .ok (.iload 4, 2) := by decide +kernel
theorem d_X_shape_19 : decode prog_1_method_8_code 19 = .ok (.iconst (-1), 1) := by decide +kernel
theorem d_X_shape_20 : decode prog_1_method_8_code 20 = .ok (.if_icmp .ge 13, 3) := by decide +kernel
theorem d_X_shape_23 : decode prog_1_method_8_code 23 = .ok (.new 44, 3) := by decide +kernel
theorem d_X_shape_26 : decode prog_1_method_8_code 26 = .ok (.dup, 1) := by decide +kernel
theorem d_X_shape_27 : decode prog_1_method_8_code 27 = .ok (.ldc 127, 2) := by decide +kernel
theorem d_X_shape_29 : decode prog_1_method_8_code 29 = .ok (.invokespecial 48, 3) := by decide +kernel
theorem d_X_shape_32 : decode prog_1_method_8_code 32 = .ok (.athrow, 1) := by decide +kernel
theorem d_X_shape_33 : decode prog_1_method_8_code 33 = .ok (.new 15, 3) := by decide +kernel
theorem d_X_shape_36 : decode prog_1_method_8_code 36 = .ok (.dup, 1) := by decide +kernel
theorem d_X_shape_37 : decode prog_1_method_8_code 37 = .ok (.aload 5, 2) := by decide +kernel
theorem d_X_shape_39 : decode prog_1_method_8_code 39 = .ok (.getfield 129, 3) := by decide +kernel
theorem d_X_shape_42 : decode prog_1_method_8_code 42 = .ok (.aload 5, 2) := by decide +kernel
theorem d_X_shape_44 : decode prog_1_method_8_code 44 = .ok (.getfield 90, 3) := by decide +kernel
theorem d_X_shape_47 : decode prog_1_method_8_code 47 = .ok (.invokespecial 57, 3) := by decide +kernel
theorem d_X_shape_50 : decode prog_1_method_8_code 50 = .ok (.astore 6, 2) := by decide +kernel
theorem d_X_shape_52 : decode prog_1_method_8_code 52 = .ok (.aload 6, 2) := by decide +kernel
theorem d_X_shape_54 : decode prog_1_method_8_code 54 = .ok (.iload_n 2, 1) := by decide +kernel
theorem d_X_shape_55 : decode prog_1_method_8_code 55 = .ok (.invokevirtual 133, 3) := by decide +kernel
theorem d_X_shape_58 : decode prog_1_method_8_code 58 = .ok (.aload 6, 2) := by decide +kernel
theorem d_X_shape_60 : decode prog_1_method_8_code 60 = .ok (.iload_n 3, 1) := by decide +kernel
theorem d_X_shape_61 : decode prog_1_method_8_code 61 = .ok (.invokevirtual 133, 3) := by decide +kernel
theorem d_X_shape_64 : decode prog_1_method_8_code 64 = .ok (.aload 6, 2) := by decide +kernel
theorem d_X_shape_66 : decode prog_1_method_8_code 66 = .ok (.iload 4, 2) := by decide +kernel
theorem d_X_shape_68 : decode prog_1_method_8_code 68 = .ok (.invokevirtual 133, 3) := by decide +kernel
theorem d_X_shape_71 : decode prog_1_method_8_code 71 = .ok (.aload 6, 2) := by decide +kernel
theorem d_X_shape_73 : decode prog_1_method_8_code 73 = .ok (.invokevirtual 136, 3) := by decide +kernel
theorem d_X_shape_76 : decode prog_1_method_8_code 76 = .ok (.aload 6, 2) := by decide +kernel
theorem d_X_shape_78 : decode prog_1_method_8_code 78 = .ok (.getfield 139, 3) := by decide +kernel
theorem d_X_shape_81 : decode prog_1_method_8_code 81 = .ok (.aload 5, 2) := by decide +kernel
theorem d_X_shape_83 : decode prog_1_method_8_code 83 = .ok (.getfield 139, 3) := by decide +kernel
theorem d_X_shape_86 : decode prog_1_method_8_code 86 = .ok (.if_icmp .eq 13, 3) := by decide +kernel
theorem d_X_shape_89 : decode prog_1_method_8_code 89 = .ok (.new 44, 3) := by decide +kernel
theorem d_X_shape_92 : decode prog_1_method_8_code 92 = .ok (.dup, 1) := by decide +kernel
theorem d_X_shape_93 : decode prog_1_method_8_code 93 = .ok (.ldc 142, 2) := by decide +kernel
theorem d_X_shape_95 : decode prog_1_method_8_code 95 = .ok (.invokespecial 48, 3) := by decide +kernel
theorem d_X_shape_98 : decode prog_1_method_8_code 98 = .ok (.athrow, 1) := by decide +kernel
theorem d_X_shape_99 : decode prog_1_method_8_code 99 = .ok (.aload_n 0, 1) := by decide +kernel
theorem d_X_shape_100 : decode prog_1_method_8_code 100 = .ok (.aload 5, 2) := by decide +kernel
theorem d_X_shape_102 : decode prog_1_method_8_code 102 = .ok (.aload 5, 2) := by decide +kernel
theorem d_X_shape_104 : decode prog_1_method_8_code 104 = .ok (.invokevirtual 144, 3) := by decide +kernel
theorem d_X_shape_107 : decode prog_1_method_8_code 107 = .ok (.aload_n 0, 1) := by decide +kernel
theorem d_X_shape_108 : decode prog_1_method_8_code 108 = .ok (.aload 6, 2) := by decide +kernel
theorem d_X_shape_110 : decode prog_1_method_8_code 110 = .ok (.invokevirtual 148, 3) := by decide +kernel
theorem d_X_shape_113 : decode prog_1_method_8_code 113 = .ok (.aload_n 0, 1) := by decide +kernel
theorem d_X_shape_114 : decode prog_1_method_8_code 114 = .ok (.aload 6, 2) := by decide +kernel
theorem d_X_shape_116 : decode prog_1_method_8_code 116 = .ok (.invokevirtual 152, 3) := by decide +kernel
theorem d_X_shape_119 : decode prog_1_method_8_code 119 = .ok (.ifCond .ne 13, 3) := by decide +kernel
theorem d_X_shape_122 : decode prog_1_method_8_code 122 = .ok (.new 111, 3) := by decide +kernel
theorem d_X_shape_125 : decode prog_1_method_8_code 125 = .ok (.dup, 1) := by decide +kernel
theorem d_X_shape_126 : decode prog_1_method_8_code 126 = .ok (.ldc 156, 2) := by decide +kernel
theorem d_X_shape_128 : decode prog_1_method_8_code 128 = .ok (.invokespecial 115, 3) := by decide +kernel
theorem d_X_shape_131 : decode prog_1_method_8_code 131 = .ok (.athrow, 1) := by decide +kernel
theorem d_X_shape_132 : decode prog_1_method_8_code 132 = .ok (.aload_n 0, 1) := by decide +kernel
theorem d_X_shape_133 : decode prog_1_method_8_code 133 = .ok (.aload 6, 2) := by decide +kernel
theorem d_X_shape_135 : decode prog_1_method_8_code 135 = .ok (.invokevirtual 67, 3) := by decide +kernel
theorem d_X_shape_138 : decode prog_1_method_8_code 138 = .ok (.ireturn, 1) := by decide +kernel
theorem d_X_layOut_0 : decode prog_1_method_33_code 0 = .ok (.aload_n 2, 1) := by decide +kernel
theorem d_X_layOut_1 : decode prog_1_method_33_code 1 = .ok (.getfield 139, 3) := by decide +kernel
theorem d_X_layOut_4 : decode prog_1_method_33_code 4 = .ok (.ifCond .ne 4, 3) := by decide +kernel
theorem d_X_layOut_7 : decode prog_1_method_33_code 7 = .ok (.return_, 1) := by decide +kernel
theorem d_X_layOut_8 : decode prog_1_method_33_code 8 = .ok (.aload_n 0, 1) := by decide +kernel
theorem d_X_layOut_9 : decode prog_1_method_33_code 9 = .ok (.getfield 21, 3) := by decide +kernel
theorem d_X_layOut_12 : decode prog_1_method_33_code 12 = .ok (.iconst 0, 1) := by decide +kernel
theorem d_X_layOut_13 : decode prog_1_method_33_code 13 = .ok (.aload_n 1, 1) := by decide +kernel
theorem d_X_layOut_14 : decode prog_1_method_33_code 14 = .ok (.getfield 90, 3) := by decide +kernel
theorem d_X_layOut_17 : decode prog_1_method_33_code 17 = .ok (.iastore, 1) := by decide +kernel
theorem d_X_layOut_18 : decode prog_1_method_33_code 18 = .ok (.iconst 1, 1) := by decide +kernel
theorem d_X_layOut_19 : decode prog_1_method_33_code 19 = .ok (.istore_n 3, 1) := by decide +kernel
theorem d_X_layOut_20 : decode prog_1_method_33_code 20 = .ok (.aload_n 2, 1) := by decide +kernel
theorem d_X_layOut_21 : decode prog_1_method_33_code 21 = .ok (.getfield 104, 3) := by decide +kernel
theorem d_X_layOut_24 : decode prog_1_method_33_code 24 = .ok (.aload_n 1, 1) := by decide +kernel
theorem d_X_layOut_25 : decode prog_1_method_33_code 25 = .ok (.getfield 104, 3) := by decide +kernel
theorem d_X_layOut_28 : decode prog_1_method_33_code 28 = .ok (.isub, 1) := by decide +kernel
theorem d_X_layOut_29 : decode prog_1_method_33_code 29 = .ok (.istore 4, 2) := by decide +kernel
theorem d_X_layOut_31 : decode prog_1_method_33_code 31 = .ok (.aload_n 2, 1) := by decide +kernel
theorem d_X_layOut_32 : decode prog_1_method_33_code 32 = .ok (.getfield 104, 3) := by decide +kernel
theorem d_X_layOut_35 : decode prog_1_method_33_code 35 = .ok (.iconst 1, 1) := by decide +kernel
theorem d_X_layOut_36 : decode prog_1_method_33_code 36 = .ok (.isub, 1) := by decide +kernel
theorem d_X_layOut_37 : decode prog_1_method_33_code 37 = .ok (.istore 5, 2) := by decide +kernel
theorem d_X_layOut_39 : decode prog_1_method_33_code 39 = .ok (.iload 5, 2) := by decide +kernel
theorem d_X_layOut_41 : decode prog_1_method_33_code 41 = .ok (.ifCond .lt 81, 3) := by decide +kernel
theorem d_X_layOut_44 : decode prog_1_method_33_code 44 = .ok (.iload 5, 2) := by decide +kernel
theorem d_X_layOut_46 : decode prog_1_method_33_code 46 = .ok (.iload 4, 2) := by decide +kernel
theorem d_X_layOut_48 : decode prog_1_method_33_code 48 = .ok (.if_icmp .ge 7, 3) := by decide +kernel
theorem d_X_layOut_51 : decode prog_1_method_33_code 51 = .ok (.iconst 0, 1) := by decide +kernel
theorem d_X_layOut_52 : decode prog_1_method_33_code 52 = .ok (.goto 13, 3) := by decide +kernel
theorem d_X_layOut_55 : decode prog_1_method_33_code 55 = .ok (.aload_n 1, 1) := by decide +kernel
theorem d_X_layOut_56 : decode prog_1_method_33_code 56 = .ok (.getfield 93, 3) := by decide +kernel
theorem d_X_layOut_59 : decode prog_1_method_33_code 59 = .ok (.iload 5, 2) := by decide +kernel
theorem d_X_layOut_61 : decode prog_1_method_33_code 61 = .ok (.iload 4, 2) := by decide +kernel
theorem d_X_layOut_63 : decode prog_1_method_33_code 63 = .ok (.isub, 1) := by decide +kernel
theorem d_X_layOut_64 : decode prog_1_method_33_code 64 = .ok (.iaload, 1) := by decide +kernel
theorem d_X_layOut_65 : decode prog_1_method_33_code 65 = .ok (.istore 6, 2) := by decide +kernel
theorem d_X_layOut_67 : decode prog_1_method_33_code 67 = .ok (.iload_n 3, 1) := by decide +kernel
theorem d_X_layOut_68 : decode prog_1_method_33_code 68 = .ok (.aload_n 2, 1) := by decide +kernel
theorem d_X_layOut_69 : decode prog_1_method_33_code 69 = .ok (.getfield 79, 3) := by decide +kernel
theorem d_X_layOut_72 : decode prog_1_method_33_code 72 = .ok (.iload 5, 2) := by decide +kernel
theorem d_X_layOut_74 : decode prog_1_method_33_code 74 = .ok (.iaload, 1) := by decide +kernel
theorem d_X_layOut_75 : decode prog_1_method_33_code 75 = .ok (.imul, 1) := by decide +kernel
theorem d_X_layOut_76 : decode prog_1_method_33_code 76 = .ok (.istore 7, 2) := by decide +kernel
theorem d_X_layOut_78 : decode prog_1_method_33_code 78 = .ok (.iload_n 3, 1) := by decide +kernel
theorem d_X_layOut_79 : decode prog_1_method_33_code 79 = .ok (.istore 8, 2) := by decide +kernel
theorem d_X_layOut_81 : decode prog_1_method_33_code 81 = .ok (.iload 8, 2) := by decide +kernel
theorem d_X_layOut_83 : decode prog_1_method_33_code 83 = .ok (.iload 7, 2) := by decide +kernel
theorem d_X_layOut_85 : decode prog_1_method_33_code 85 = .ok (.if_icmp .ge 28, 3) := by decide +kernel
theorem d_X_layOut_88 : decode prog_1_method_33_code 88 = .ok (.aload_n 0, 1) := by decide +kernel
theorem d_X_layOut_89 : decode prog_1_method_33_code 89 = .ok (.getfield 21, 3) := by decide +kernel
theorem d_X_layOut_92 : decode prog_1_method_33_code 92 = .ok (.iload 8, 2) := by decide +kernel
theorem d_X_layOut_94 : decode prog_1_method_33_code 94 = .ok (.aload_n 0, 1) := by decide +kernel
theorem d_X_layOut_95 : decode prog_1_method_33_code 95 = .ok (.getfield 21, 3) := by decide +kernel
theorem d_X_layOut_98 : decode prog_1_method_33_code 98 = .ok (.iload 8, 2) := by decide +kernel
theorem d_X_layOut_100 : decode prog_1_method_33_code 100 = .ok (.iload_n 3, 1) := by decide +kernel
theorem d_X_layOut_101 : decode prog_1_method_33_code 101 = .ok (.isub, 1) := by decide +kernel
theorem d_X_layOut_102 : decode prog_1_method_33_code 102 = .ok (.iaload, 1) := by decide +kernel
theorem d_X_layOut_103 : decode prog_1_method_33_code 103 = .ok (.iload 6, 2) := by decide +kernel
theorem d_X_layOut_105 : decode prog_1_method_33_code 105 = .ok (.iadd, 1) := by decide +kernel
theorem d_X_layOut_106 : decode prog_1_method_33_code 106 = .ok (.iastore, 1) := by decide +kernel
theorem d_X_layOut_107 : decode prog_1_method_33_code 107 = .ok (.iinc 8 1, 3) := by decide +kernel
theorem d_X_layOut_110 : decode prog_1_method_33_code 110 = .ok (.goto (-29), 3) := by decide +kernel
theorem d_X_layOut_113 : decode prog_1_method_33_code 113 = .ok (.iload 7, 2) := by decide +kernel
theorem d_X_layOut_115 : decode prog_1_method_33_code 115 = .ok (.istore_n 3, 1) := by decide +kernel
theorem d_X_layOut_116 : decode prog_1_method_33_code 116 = .ok (.iinc 5 (-1), 3) := by decide +kernel
theorem d_X_layOut_119 : decode prog_1_method_33_code 119 = .ok (.goto (-80), 3) := by decide +kernel
theorem d_X_layOut_122 : decode prog_1_method_33_code 122 = .ok (.return_, 1) := by decide +kernel
theorem d_X_guessSteps_0 : decode prog_1_method_36_code 0 = .ok (.aload_n 1, 1) := by decide +kernel
theorem d_X_guessSteps_1 : decode prog_1_method_36_code 1 = .ok (.getfield 139, 3) := by decide +kernel
theorem d_X_guessSteps_4 : decode prog_1_method_36_code 4 = .ok (.ifCond .ne 4, 3) := by decide +kernel
theorem d_X_guessSteps_7 : decode prog_1_method_36_code 7 = .ok (.return_, 1) := by decide +kernel
theorem d_X_guessSteps_8 : decode prog_1_method_36_code 8 = .ok (.iconst 1, 1) := by decide +kernel
theorem d_X_guessSteps_9 : decode prog_1_method_36_code 9 = .ok (.istore_n 2, 1) := by decide +kernel
theorem d_X_guessSteps_10 : decode prog_1_method_36_code 10 = .ok (.aload_n 1, 1) := by decide +kernel
theorem d_X_guessSteps_11 : decode prog_1_method_36_code 11 = .ok (.getfield 104, 3) := by decide +kernel
theorem d_X_guessSteps_14 : decode prog_1_method_36_code 14 = .ok (.iconst 1, 1) := by decide +kernel
theorem d_X_guessSteps_15 : decode prog_1_method_36_code 15 = .ok (.isub, 1) := by decide +kernel
theorem d_X_guessSteps_16 : decode prog_1_method_36_code 16 = .ok (.istore_n 3, 1) := by decide +kernel
theorem d_X_guessSteps_17 : decode prog_1_method_36_code 17 = .ok (.iload_n 3, 1) := by decide +kernel
theorem d_X_guessSteps_18 : decode prog_1_method_36_code 18 = .ok (.ifCond .lt 47, 3) := by decide +kernel
theorem d_X_guessSteps_21 : decode prog_1_method_36_code 21 = .ok (.aload_n 1, 1) := by decide +kernel
theorem d_X_guessSteps_22 : decode prog_1_method_36_code 22 = .ok (.getfield 79, 3) := by decide +kernel
theorem d_X_guessSteps_25 : decode prog_1_method_36_code 25 = .ok (.iload_n 3, 1) := by decide +kernel
theorem d_X_guessSteps_26 : decode prog_1_method_36_code 26 = .ok (.iaload, 1) := by decide +kernel
theorem d_X_guessSteps_27 : decode prog_1_method_36_code 27 = .ok (.iconst 1, 1) := by decide +kernel
theorem d_X_guessSteps_28 : decode prog_1_method_36_code 28 = .ok (.if_icmp .le 22, 3) := by decide +kernel
theorem d_X_guessSteps_31 : decode prog_1_method_36_code 31 = .ok (.aload_n 1, 1) := by decide +kernel
theorem d_X_guessSteps_32 : decode prog_1_method_36_code 32 = .ok (.getfield 93, 3) := by decide +kernel
theorem d_X_guessSteps_35 : decode prog_1_method_36_code 35 = .ok (.iload_n 3, 1) := by decide +kernel
theorem d_X_guessSteps_36 : decode prog_1_method_36_code 36 = .ok (.aload_n 0, 1) := by decide +kernel
theorem d_X_guessSteps_37 : decode prog_1_method_36_code 37 = .ok (.getfield 21, 3) := by decide +kernel
theorem d_X_guessSteps_40 : decode prog_1_method_36_code 40 = .ok (.iload_n 2, 1) := by decide +kernel
theorem d_X_guessSteps_41 : decode prog_1_method_36_code 41 = .ok (.iaload, 1) := by decide +kernel
theorem d_X_guessSteps_42 : decode prog_1_method_36_code 42 = .ok (.aload_n 0, 1) := by decide +kernel
theorem d_X_guessSteps_43 : decode prog_1_method_36_code 43 = .ok (.getfield 21, 3) := by decide +kernel
theorem d_X_guessSteps_46 : decode prog_1_method_36_code 46 = .ok (.iconst 0, 1) := by decide +kernel
theorem d_X_guessSteps_47 : decode prog_1_method_36_code 47 = .ok (.iaload, 1) := by decide +kernel
theorem d_X_guessSteps_48 : decode prog_1_method_36_code 48 = .ok (.isub, 1) := by decide +kernel
theorem d_X_guessSteps_49 : decode prog_1_method_36_code 49 = .ok (.iastore, 1) := by decide +kernel
theorem d_X_guessSteps_50 : decode prog_1_method_36_code 50 = .ok (.iload_n 2, 1) := by decide +kernel
theorem d_X_guessSteps_51 : decode prog_1_method_36_code 51 = .ok (.aload_n 1, 1) := by decide +kernel
theorem d_X_guessSteps_52 : decode prog_1_method_36_code 52 = .ok (.getfield 79, 3) := by decide +kernel
theorem d_X_guessSteps_55 : decode prog_1_method_36_code 55 = .ok (.iload_n 3, 1) := by decide +kernel
theorem d_X_guessSteps_56 : decode prog_1_method_36_code 56 = .ok (.iaload, 1) := by decide +kernel
theorem d_X_guessSteps_57 : decode prog_1_method_36_code 57 = .ok (.imul, 1) := by decide +kernel
theorem d_X_guessSteps_58 : decode prog_1_method_36_code 58 = .ok (.istore_n 2, 1) := by decide +kernel
theorem d_X_guessSteps_59 : decode prog_1_method_36_code 59 = .ok (.iinc 3 (-1), 3) := by decide +kernel
theorem d_X_guessSteps_62 : decode prog_1_method_36_code 62 = .ok (.goto (-45), 3) := by decide +kernel
theorem d_X_guessSteps_65 : decode prog_1_method_36_code 65 = .ok (.return_, 1) := by decide +kernel
theorem d_X_liesAsLaidOut_0 : decode prog_1_method_37_code 0 = .ok (.iconst 0, 1) := by decide +kernel
theorem d_X_liesAsLaidOut_1 : decode prog_1_method_37_code 1 = .ok (.istore_n 2, 1) := by decide +kernel
theorem d_X_liesAsLaidOut_2 : decode prog_1_method_37_code 2 = .ok (.iload_n 2, 1) := by decide +kernel
theorem d_X_liesAsLaidOut_3 : decode prog_1_method_37_code 3 = .ok (.aload_n 1, 1) := by decide +kernel
theorem d_X_liesAsLaidOut_4 : decode prog_1_method_37_code 4 = .ok (.getfield 139, 3) := by decide +kernel
theorem d_X_liesAsLaidOut_7 : decode prog_1_method_37_code 7 = .ok (.if_icmp .ge 25, 3) := by decide +kernel
theorem d_X_liesAsLaidOut_10 : decode prog_1_method_37_code 10 = .ok (.aload_n 1, 1) := by decide +kernel
theorem d_X_liesAsLaidOut_11 : decode prog_1_method_37_code 11 = .ok (.iload_n 2, 1) := by decide +kernel
theorem d_X_liesAsLaidOut_12 : decode prog_1_method_37_code 12 = .ok (.invokevirtual 179, 3) := by decide +kernel
theorem d_X_liesAsLaidOut_15 : decode prog_1_method_37_code 15 = .ok (.aload_n 0, 1) := by decide +kernel
theorem d_X_liesAsLaidOut_16 : decode prog_1_method_37_code 16 = .ok (.getfield 21, 3) := by decide +kernel
theorem d_X_liesAsLaidOut_19 : decode prog_1_method_37_code 19 = .ok (.iload_n 2, 1) := by decide +kernel
theorem d_X_liesAsLaidOut_20 : decode prog_1_method_37_code 20 = .ok (.iaload, 1) := by decide +kernel
theorem d_X_liesAsLaidOut_21 : decode prog_1_method_37_code 21 = .ok (.if_icmp .eq 5, 3) := by decide +kernel
theorem d_X_liesAsLaidOut_24 : decode prog_1_method_37_code 24 = .ok (.iconst 0, 1) := by decide +kernel
theorem d_X_liesAsLaidOut_25 : decode prog_1_method_37_code 25 = .ok (.ireturn, 1) := by decide +kernel
theorem d_X_liesAsLaidOut_26 : decode prog_1_method_37_code 26 = .ok (.iinc 2 1, 3) := by decide +kernel
theorem d_X_liesAsLaidOut_29 : decode prog_1_method_37_code 29 = .ok (.goto (-27), 3) := by decide +kernel
theorem d_X_liesAsLaidOut_32 : decode prog_1_method_37_code 32 = .ok (.iconst 1, 1) := by decide +kernel
theorem d_X_liesAsLaidOut_33 : decode prog_1_method_37_code 33 = .ok (.ireturn, 1) := by decide +kernel
theorem d_X_compact_0 : decode prog_1_method_9_code 0 = .ok (.aload_n 0, 1) := by decide +kernel
theorem d_X_compact_1 : decode prog_1_method_9_code 1 = .ok (.iload_n 1, 1) := by decide +kernel
theorem d_X_compact_2 : decode prog_1_method_9_code 2 = .ok (.invokevirtual 71, 3) := by decide +kernel
theorem d_X_compact_5 : decode prog_1_method_9_code 5 = .ok (.astore_n 3, 1) := by decide +kernel
theorem d_X_compact_6 : decode prog_1_method_9_code 6 = .ok (.iload_n 2, 1) := by decide +kernel
theorem d_X_compact_7 : decode prog_1_method_9_code 7 = .ok (.invokestatic 40, 3) := by decide +kernel
theorem d_X_compact_10 : decode prog_1_method_9_code 10 = .ok (.aload_n 3, 1) := by decide +kernel
theorem d_X_compact_11 : decode prog_1_method_9_code 11 = .ok (.getfield 139, 3) := by decide +kernel
theorem d_X_compact_14 : decode prog_1_method_9_code 14 = .ok (.invokestatic 158, 3) := by decide +kernel
theorem d_X_compact_17 : decode prog_1_method_9_code 17 = .ok (.aload_n 0, 1) := by decide +kernel
theorem d_X_compact_18 : decode prog_1_method_9_code 18 = .ok (.invokevirtual 51, 3) := by decide +kernel
theorem d_X_compact_21 : decode prog_1_method_9_code 21 = .ok (.new 9, 3) := by decide +kernel
theorem d_X_compact_24 : decode prog_1_method_9_code 24 = .ok (.dup, 1) := by decide +kernel
theorem d_X_compact_25 : decode prog_1_method_9_code 25 = .ok (.aload_n 0, 1) := by decide +kernel
theorem d_X_compact_26 : decode prog_1_method_9_code 26 = .ok (.getfield 33, 3) := by decide +kernel
theorem d_X_compact_29 : decode prog_1_method_9_code 29 = .ok (.iload_n 2, 1) := by decide +kernel
theorem d_X_compact_30 : decode prog_1_method_9_code 30 = .ok (.aload_n 3, 1) := by decide +kernel
theorem d_X_compact_31 : decode prog_1_method_9_code 31 = .ok (.getfield 139, 3) := by decide +kernel
theorem d_X_compact_34 : decode prog_1_method_9_code 34 = .ok (.invokespecial 54, 3) := by decide +kernel
theorem d_X_compact_37 : decode prog_1_method_9_code 37 = .ok (.astore 4, 2) := by decide +kernel
theorem d_X_compact_39 : decode prog_1_method_9_code 39 = .ok (.new 15, 3) := by decide +kernel
theorem d_X_compact_42 : decode prog_1_method_9_code 42 = .ok (.dup, 1) := by decide +kernel
theorem d_X_compact_43 : decode prog_1_method_9_code 43 = .ok (.aload 4, 2) := by decide +kernel
theorem d_X_compact_45 : decode prog_1_method_9_code 45 = .ok (.iconst 0, 1) := by decide +kernel
theorem d_X_compact_46 : decode prog_1_method_9_code 46 = .ok (.invokespecial 57, 3) := by decide +kernel
theorem d_X_compact_49 : decode prog_1_method_9_code 49 = .ok (.astore 5, 2) := by decide +kernel
theorem d_X_compact_51 : decode prog_1_method_9_code 51 = .ok (.aload 5, 2) := by decide +kernel
theorem d_X_compact_53 : decode prog_1_method_9_code 53 = .ok (.aload_n 3, 1) := by decide +kernel
theorem d_X_compact_54 : decode prog_1_method_9_code 54 = .ok (.iconst (-1), 1) := by decide +kernel
theorem d_X_compact_55 : decode prog_1_method_9_code 55 = .ok (.invokevirtual 161, 3) := by decide +kernel
theorem d_X_compact_58 : decode prog_1_method_9_code 58 = .ok (.aload 5, 2) := by decide +kernel
theorem d_X_compact_60 : decode prog_1_method_9_code 60 = .ok (.invokevirtual 164, 3) := by decide +kernel
theorem d_X_compact_63 : decode prog_1_method_9_code 63 = .ok (.aload_n 0, 1) := by decide +kernel
theorem d_X_compact_64 : decode prog_1_method_9_code 64 = .ok (.aload_n 3, 1) := by decide +kernel
theorem d_X_compact_65 : decode prog_1_method_9_code 65 = .ok (.aload_n 3, 1) := by decide +kernel
theorem d_X_compact_66 : decode prog_1_method_9_code 66 = .ok (.invokevirtual 167, 3) := by decide +kernel
theorem d_X_compact_69 : decode prog_1_method_9_code 69 = .ok (.aload_n 0, 1) := by decide +kernel
theorem d_X_compact_70 : decode prog_1_method_9_code 70 = .ok (.aload 4, 2) := by decide +kernel
theorem d_X_compact_72 : decode prog_1_method_9_code 72 = .ok (.invokevirtual 63, 3) := by decide +kernel
theorem d_X_compact_75 : decode prog_1_method_9_code 75 = .ok (.aload_n 0, 1) := by decide +kernel
theorem d_X_compact_76 : decode prog_1_method_9_code 76 = .ok (.aload 5, 2) := by decide +kernel
theorem d_X_compact_78 : decode prog_1_method_9_code 78 = .ok (.invokevirtual 67, 3) := by decide +kernel
theorem d_X_compact_81 : decode prog_1_method_9_code 81 = .ok (.istore 6, 2) := by decide +kernel
theorem d_X_compact_83 : decode prog_1_method_9_code 83 = .ok (.aload_n 0, 1) := by decide +kernel
theorem d_X_compact_84 : decode prog_1_method_9_code 84 = .ok (.aload 5, 2) := by decide +kernel
theorem d_X_compact_86 : decode prog_1_method_9_code 86 = .ok (.invokevirtual 170, 3) := by decide +kernel
theorem d_X_compact_89 : decode prog_1_method_9_code 89 = .ok (.pop, 1) := by decide +kernel
theorem d_X_compact_90 : decode prog_1_method_9_code 90 = .ok (.iload 6, 2) := by decide +kernel
theorem d_X_compact_92 : decode prog_1_method_9_code 92 = .ok (.ireturn, 1) := by decide +kernel
theorem d_X_needFewNumbers_0 : decode prog_1_method_29_code 0 = .ok (.iload_n 0, 1) := by decide +kernel
theorem d_X_needFewNumbers_1 : decode prog_1_method_29_code 1 = .ok (.sipush 300, 3) := by decide +kernel
theorem d_X_needFewNumbers_4 : decode prog_1_method_29_code 4 = .ok (.if_icmp .le 14, 3) := by decide +kernel
theorem d_X_needFewNumbers_7 : decode prog_1_method_29_code 7 = .ok (.new 111, 3) := by decide +kernel
theorem d_X_needFewNumbers_10 : decode prog_1_method_29_code 10 = .ok (.dup, 1) := by decide +kernel
theorem d_X_needFewNumbers_11 : decode prog_1_method_29_code 11 = .ok (.ldc_w 263, 3) := by decide +kernel
theorem d_X_needFewNumbers_14 : decode prog_1_method_29_code 14 = .ok (.invokespecial 115, 3) := by decide +kernel
theorem d_X_needFewNumbers_17 : decode prog_1_method_29_code 17 = .ok (.athrow, 1) := by decide +kernel
theorem d_X_needFewNumbers_18 : decode prog_1_method_29_code 18 = .ok (.return_, 1) := by decide +kernel
theorem d_X_readItems_0 : decode prog_1_method_34_code 0 = .ok (.aload_n 0, 1) := by decide +kernel
theorem d_X_readItems_1 : decode prog_1_method_34_code 1 = .ok (.aload_n 1, 1) := by decide +kernel
theorem d_X_readItems_2 : decode prog_1_method_34_code 2 = .ok (.aload_n 2, 1) := by decide +kernel
theorem d_X_readItems_3 : decode prog_1_method_34_code 3 = .ok (.invokevirtual 144, 3) := by decide +kernel
theorem d_X_readItems_6 : decode prog_1_method_34_code 6 = .ok (.iconst 0, 1) := by decide +kernel
theorem d_X_readItems_7 : decode prog_1_method_34_code 7 = .ok (.istore_n 3, 1) := by decide +kernel
theorem d_X_readItems_8 : decode prog_1_method_34_code 8 = .ok (.iload_n 3, 1) := by decide +kernel
theorem d_X_readItems_9 : decode prog_1_method_34_code 9 = .ok (.aload_n 2, 1) := by decide +kernel
theorem d_X_readItems_10 : decode prog_1_method_34_code 10 = .ok (.getfield 139, 3) := by decide +kernel
theorem d_X_readItems_13 : decode prog_1_method_34_code 13 = .ok (.if_icmp .ge 29, 3) := by decide +kernel
theorem d_X_readItems_16 : decode prog_1_method_34_code 16 = .ok (.aload_n 0, 1) := by decide +kernel
theorem d_X_readItems_17 : decode prog_1_method_34_code 17 = .ok (.getfield 25, 3) := by decide +kernel
theorem d_X_readItems_20 : decode prog_1_method_34_code 20 = .ok (.iload_n 3, 1) := by decide +kernel
theorem d_X_readItems_21 : decode prog_1_method_34_code 21 = .ok (.aload_n 1, 1) := by decide +kernel
theorem d_X_readItems_22 : decode prog_1_method_34_code 22 = .ok (.getfield 129, 3) := by decide +kernel
theorem d_X_readItems_25 : decode prog_1_method_34_code 25 = .ok (.getfield 176, 3) := by decide +kernel
theorem d_X_readItems_28 : decode prog_1_method_34_code 28 = .ok (.aload_n 0, 1) := by decide +kernel
theorem d_X_readItems_29 : decode prog_1_method_34_code 29 = .ok (.getfield 21, 3) := by decide +kernel
theorem d_X_readItems_32 : decode prog_1_method_34_code 32 = .ok (.iload_n 3, 1) := by decide +kernel
theorem d_X_readItems_33 : decode prog_1_method_34_code 33 = .ok (.iaload, 1) := by decide +kernel
theorem d_X_readItems_34 : decode prog_1_method_34_code 34 = .ok (.laload, 1) := by decide +kernel
theorem d_X_readItems_35 : decode prog_1_method_34_code 35 = .ok (.lastore, 1) := by decide +kernel
theorem d_X_readItems_36 : decode prog_1_method_34_code 36 = .ok (.iinc 3 1, 3) := by decide +kernel
theorem d_X_readItems_39 : decode prog_1_method_34_code 39 = .ok (.goto (-31), 3) := by decide +kernel
theorem d_X_readItems_42 : decode prog_1_method_34_code 42 = .ok (.return_, 1) := by decide +kernel
theorem d_X_writeItems_0 : decode prog_1_method_35_code 0 = .ok (.aload_n 0, 1) := by decide +kernel
theorem d_X_writeItems_1 : decode prog_1_method_35_code 1 = .ok (.aload_n 1, 1) := by decide +kernel
theorem d_X_writeItems_2 : decode prog_1_method_35_code 2 = .ok (.aload_n 1, 1) := by decide +kernel
theorem d_X_writeItems_3 : decode prog_1_method_35_code 3 = .ok (.invokevirtual 144, 3) := by decide +kernel
theorem d_X_writeItems_6 : decode prog_1_method_35_code 6 = .ok (.iconst 0, 1) := by decide +kernel
theorem d_X_writeItems_7 : decode prog_1_method_35_code 7 = .ok (.istore_n 2, 1) := by decide +kernel
theorem d_X_writeItems_8 : decode prog_1_method_35_code 8 = .ok (.iconst 0, 1) := by decide +kernel
theorem d_X_writeItems_9 : decode prog_1_method_35_code 9 = .ok (.istore_n 3, 1) := by decide +kernel
theorem d_X_writeItems_10 : decode prog_1_method_35_code 10 = .ok (.iload_n 3, 1) := by decide +kernel
theorem d_X_writeItems_11 : decode prog_1_method_35_code 11 = .ok (.aload_n 1, 1) := by decide +kernel
theorem d_X_writeItems_12 : decode prog_1_method_35_code 12 = .ok (.getfield 139, 3) := by decide +kernel
theorem d_X_writeItems_15 : decode prog_1_method_35_code 15 = .ok (.if_icmp .ge 63, 3) := by decide +kernel
theorem d_X_writeItems_18 : decode prog_1_method_35_code 18 = .ok (.aload_n 1, 1) := by decide +kernel
theorem d_X_writeItems_19 : decode prog_1_method_35_code 19 = .ok (.getfield 129, 3) := by decide +kernel
theorem d_X_writeItems_22 : decode prog_1_method_35_code 22 = .ok (.aload_n 0, 1) := by decide +kernel
theorem d_X_writeItems_23 : decode prog_1_method_35_code 23 = .ok (.getfield 25, 3) := by decide +kernel
theorem d_X_writeItems_26 : decode prog_1_method_35_code 26 = .ok (.iload_n 3, 1) := by decide +kernel
theorem d_X_writeItems_27 : decode prog_1_method_35_code 27 = .ok (.laload, 1) := by decide +kernel
theorem d_X_writeItems_28 : decode prog_1_method_35_code 28 = .ok (.invokevirtual 186, 3) := by decide +kernel
theorem d_X_writeItems_31 : decode prog_1_method_35_code 31 = .ok (.lstore 4, 2) := by decide +kernel
theorem d_X_writeItems_33 : decode prog_1_method_35_code 33 = .ok (.aload_n 1, 1) := by decide +kernel
theorem d_X_writeItems_34 : decode prog_1_method_35_code 34 = .ok (.getfield 129, 3) := by decide +kernel
theorem d_X_writeItems_37 : decode prog_1_method_35_code 37 = .ok (.getfield 176, 3) := by decide +kernel
theorem d_X_writeItems_40 : decode prog_1_method_35_code 40 = .ok (.aload_n 0, 1) := by decide +kernel
theorem d_X_writeItems_41 : decode prog_1_method_35_code 41 = .ok (.getfield 21, 3) := by decide +kernel
theorem d_X_writeItems_44 : decode prog_1_method_35_code 44 = .ok (.iload_n 3, 1) := by decide +kernel
theorem d_X_writeItems_45 : decode prog_1_method_35_code 45 = .ok (.iaload, 1) := by decide +kernel
theorem d_X_writeItems_46 : decode prog_1_method_35_code 46 = .ok (.laload, 1) := by decide +kernel
theorem d_X_writeItems_47 : decode prog_1_method_35_code 47 = .ok (.lload 4, 2) := by decide +kernel
theorem d_X_writeItems_49 : decode prog_1_method_35_code 49 = .ok (.lcmp, 1) := by decide +kernel
theorem d_X_writeItems_50 : decode prog_1_method_35_code 50 = .ok (.ifCond .eq 6, 3) := by decide +kernel
theorem d_X_writeItems_53 : decode prog_1_method_35_code 53 = .ok (.iinc 2 1, 3) := by decide +kernel
theorem d_X_writeItems_56 : decode prog_1_method_35_code 56 = .ok (.aload_n 1, 1) := by decide +kernel
theorem d_X_writeItems_57 : decode prog_1_method_35_code 57 = .ok (.getfield 129, 3) := by decide +kernel
theorem d_X_writeItems_60 : decode prog_1_method_35_code 60 = .ok (.getfield 176, 3) := by decide +kernel
theorem d_X_writeItems_63 : decode prog_1_method_35_code 63 = .ok (.aload_n 0, 1) := by decide +kernel
theorem d_X_writeItems_64 : decode prog_1_method_35_code 64 = .ok (.getfield 21, 3) := by decide +kernel
theorem d_X_writeItems_67 : decode prog_1_method_35_code 67 = .ok (.iload_n 3, 1) := by decide +kernel
theorem d_X_writeItems_68 : decode prog_1_method_35_code 68 = .ok (.iaload, 1) := by decide +kernel
theorem d_X_writeItems_69 : decode prog_1_method_35_code 69 = .ok (.lload 4, 2) := by decide +kernel
theorem d_X_writeItems_71 : decode prog_1_method_35_code 71 = .ok (.lastore, 1) := by decide +kernel
theorem d_X_writeItems_72 : decode prog_1_method_35_code 72 = .ok (.iinc 3 1, 3) := by decide +kernel
theorem d_X_writeItems_75 : decode prog_1_method_35_code 75 = .ok (.goto (-65), 3) := by decide +kernel
theorem d_X_writeItems_78 : decode prog_1_method_35_code 78 = .ok (.iload_n 2, 1) := by decide +kernel
theorem d_X_writeItems_79 : decode prog_1_method_35_code 79 = .ok (.ireturn, 1) := by decide +kernel
theorem d_X_at_0 : decode prog_1_method_10_code 0 = .ok (.aload_n 0, 1) := by decide +kernel
theorem d_X_at_1 : decode prog_1_method_10_code 1 = .ok (.iload_n 1, 1) := by decide +kernel
theorem d_X_at_2 : decode prog_1_method_10_code 2 = .ok (.invokevirtual 71, 3) := by decide +kernel
theorem d_X_at_5 : decode prog_1_method_10_code 5 = .ok (.astore_n 3, 1) := by decide +kernel
theorem d_X_at_6 : decode prog_1_method_10_code 6 = .ok (.aload_n 3, 1) := by decide +kernel
theorem d_X_at_7 : decode prog_1_method_10_code 7 = .ok (.iload_n 2, 1) := by decide +kernel
theorem d_X_at_8 : decode prog_1_method_10_code 8 = .ok (.invokestatic 173, 3) := by decide +kernel
theorem d_X_at_11 : decode prog_1_method_10_code 11 = .ok (.aload_n 3, 1) := by decide +kernel
theorem d_X_at_12 : decode prog_1_method_10_code 12 = .ok (.getfield 129, 3) := by decide +kernel
theorem d_X_at_15 : decode prog_1_method_10_code 15 = .ok (.getfield 176, 3) := by decide +kernel
theorem d_X_at_18 : decode prog_1_method_10_code 18 = .ok (.aload_n 3, 1) := by decide +kernel
theorem d_X_at_19 : decode prog_1_method_10_code 19 = .ok (.iload_n 2, 1) := by decide +kernel
theorem d_X_at_20 : decode prog_1_method_10_code 20 = .ok (.invokevirtual 179, 3) := by decide +kernel
theorem d_X_at_23 : decode prog_1_method_10_code 23 = .ok (.laload, 1) := by decide +kernel
theorem d_X_at_24 : decode prog_1_method_10_code 24 = .ok (.lreturn, 1) := by decide +kernel
theorem d_X_needItem_0 : decode prog_1_method_24_code 0 = .ok (.iload_n 1, 1) := by decide +kernel
theorem d_X_needItem_1 : decode prog_1_method_24_code 1 = .ok (.ifCond .lt 11, 3) := by decide +kernel
theorem d_X_needItem_4 : decode prog_1_method_24_code 4 = .ok (.iload_n 1, 1) := by decide +kernel
theorem d_X_needItem_5 : decode prog_1_method_24_code 5 = .ok (.aload_n 0, 1) := by decide +kernel
theorem d_X_needItem_6 : decode prog_1_method_24_code 6 = .ok (.getfield 139, 3) := by decide +kernel
theorem d_X_needItem_9 : decode prog_1_method_24_code 9 = .ok (.if_icmp .lt 13, 3) := by decide +kernel
theorem d_X_needItem_12 : decode prog_1_method_24_code 12 = .ok (.new 96, 3) := by decide +kernel
theorem d_X_needItem_15 : decode prog_1_method_24_code 15 = .ok (.dup, 1) := by decide +kernel
theorem d_X_needItem_16 : decode prog_1_method_24_code 16 = .ok (.ldc 248, 2) := by decide +kernel
theorem d_X_needItem_18 : decode prog_1_method_24_code 18 = .ok (.invokespecial 100, 3) := by decide +kernel
theorem d_X_needItem_21 : decode prog_1_method_24_code 21 = .ok (.athrow, 1) := by decide +kernel
theorem d_X_needItem_22 : decode prog_1_method_24_code 22 = .ok (.return_, 1) := by decide +kernel
theorem d_X_put_0 : decode prog_1_method_11_code 0 = .ok (.aload_n 0, 1) := by decide +kernel
theorem d_X_put_1 : decode prog_1_method_11_code 1 = .ok (.iload_n 1, 1) := by decide +kernel
theorem d_X_put_2 : decode prog_1_method_11_code 2 = .ok (.invokevirtual 71, 3) := by decide +kernel
theorem d_X_put_5 : decode prog_1_method_11_code 5 = .ok (.astore 5, 2) := by decide +kernel
theorem d_X_put_7 : decode prog_1_method_11_code 7 = .ok (.aload 5, 2) := by decide +kernel
theorem d_X_put_9 : decode prog_1_method_11_code 9 = .ok (.iload_n 2, 1) := by decide +kernel
theorem d_X_put_10 : decode prog_1_method_11_code 10 = .ok (.invokestatic 173, 3) := by decide +kernel
theorem d_X_put_13 : decode prog_1_method_11_code 13 = .ok (.aload 5, 2) := by decide +kernel
theorem d_X_put_15 : decode prog_1_method_11_code 15 = .ok (.invokestatic 183, 3) := by decide +kernel
theorem d_X_put_18 : decode prog_1_method_11_code 18 = .ok (.aload 5, 2) := by decide +kernel
theorem d_X_put_20 : decode prog_1_method_11_code 20 = .ok (.iload_n 2, 1) := by decide +kernel
theorem d_X_put_21 : decode prog_1_method_11_code 21 = .ok (.invokevirtual 179, 3) := by decide +kernel
theorem d_X_put_24 : decode prog_1_method_11_code 24 = .ok (.istore 6, 2) := by decide +kernel
theorem d_X_put_26 : decode prog_1_method_11_code 26 = .ok (.aload 5, 2) := by decide +kernel
theorem d_X_put_28 : decode prog_1_method_11_code 28 = .ok (.getfield 129, 3) := by decide +kernel
theorem d_X_put_31 : decode prog_1_method_11_code 31 = .ok (.getfield 176, 3) := by decide +kernel
theorem d_X_put_34 : decode prog_1_method_11_code 34 = .ok (.iload 6, 2) := by decide +kernel
theorem d_X_put_36 : decode prog_1_method_11_code 36 = .ok (.laload, 1) := by decide +kernel
theorem d_X_put_37 : decode prog_1_method_11_code 37 = .ok (.lstore 7, 2) := by decide +kernel
theorem d_X_put_39 : decode prog_1_method_11_code 39 = .ok (.aload 5, 2) := by decide +kernel
theorem d_X_put_41 : decode prog_1_method_11_code 41 = .ok (.getfield 129, 3) := by decide +kernel
theorem d_X_put_44 : decode prog_1_method_11_code 44 = .ok (.getfield 176, 3) := by decide +kernel
theorem d_X_put_47 : decode prog_1_method_11_code 47 = .ok (.iload 6, 2) := by decide +kernel
theorem d_X_put_49 : decode prog_1_method_11_code 49 = .ok (.aload 5, 2) := by decide +kernel
theorem d_X_put_51 : decode prog_1_method_11_code 51 = .ok (.getfield 129, 3) := by decide +kernel
theorem d_X_put_54 : decode prog_1_method_11_code 54 = .ok (.lload_n 3, 1) := by decide +kernel
theorem d_X_put_55 : decode prog_1_method_11_code 55 = .ok (.invokevirtual 186, 3) := by decide +kernel
theorem d_X_put_58 : decode prog_1_method_11_code 58 = .ok (.lastore, 1) := by decide +kernel
theorem d_X_put_59 : decode prog_1_method_11_code 59 = .ok (.lload 7, 2) := by decide +kernel
theorem d_X_put_61 : decode prog_1_method_11_code 61 = .ok (.lreturn, 1) := by decide +kernel
theorem d_X_needFree_0 : decode prog_1_method_28_code 0 = .ok (.aload_n 0, 1) := by decide +kernel
theorem d_X_needFree_1 : decode prog_1_method_28_code 1 = .ok (.invokevirtual 217, 3) := by decide +kernel
theorem d_X_needFree_4 : decode prog_1_method_28_code 4 = .ok (.ifCond .eq 14, 3) := by decide +kernel
theorem d_X_needFree_7 : decode prog_1_method_28_code 7 = .ok (.new 111, 3) := by decide +kernel
theorem d_X_needFree_10 : decode prog_1_method_28_code 10 = .ok (.dup, 1) := by decide +kernel
theorem d_X_needFree_11 : decode prog_1_method_28_code 11 = .ok (.ldc_w 261, 3) := by decide +kernel
theorem d_X_needFree_14 : decode prog_1_method_28_code 14 = .ok (.invokespecial 115, 3) := by decide +kernel
theorem d_X_needFree_17 : decode prog_1_method_28_code 17 = .ok (.athrow, 1) := by decide +kernel
theorem d_X_needFree_18 : decode prog_1_method_28_code 18 = .ok (.return_, 1) := by decide +kernel
theorem d_X_copy_0 : decode prog_1_method_12_code 0 = .ok (.aload_n 0, 1) := by decide +kernel
theorem d_X_copy_1 : decode prog_1_method_12_code 1 = .ok (.iload_n 1, 1) := by decide +kernel
theorem d_X_copy_2 : decode prog_1_method_12_code 2 = .ok (.invokevirtual 71, 3) := by decide +kernel
theorem d_X_copy_5 : decode prog_1_method_12_code 5 = .ok (.astore_n 3, 1) := by decide +kernel
theorem d_X_copy_6 : decode prog_1_method_12_code 6 = .ok (.aload_n 0, 1) := by decide +kernel
theorem d_X_copy_7 : decode prog_1_method_12_code 7 = .ok (.iload_n 2, 1) := by decide +kernel
theorem d_X_copy_8 : decode prog_1_method_12_code 8 = .ok (.invokevirtual 71, 3) := by decide +kernel
theorem d_X_copy_11 : decode prog_1_method_12_code 11 = .ok (.astore 4, 2) := by decide +kernel
theorem d_X_copy_13 : decode prog_1_method_12_code 13 = .ok (.aload_n 3, 1) := by decide +kernel
theorem d_X_copy_14 : decode prog_1_method_12_code 14 = .ok (.aload 4, 2) := by decide +kernel
theorem d_X_copy_16 : decode prog_1_method_12_code 16 = .ok (.invokestatic 190, 3) := by decide +kernel
theorem d_X_copy_19 : decode prog_1_method_12_code 19 = .ok (.aload 4, 2) := by decide +kernel
theorem d_X_copy_21 : decode prog_1_method_12_code 21 = .ok (.invokestatic 183, 3) := by decide +kernel
theorem d_X_copy_24 : decode prog_1_method_12_code 24 = .ok (.aload_n 0, 1) := by decide +kernel
theorem d_X_copy_25 : decode prog_1_method_12_code 25 = .ok (.aload_n 3, 1) := by decide +kernel
theorem d_X_copy_26 : decode prog_1_method_12_code 26 = .ok (.aload 4, 2) := by decide +kernel
theorem d_X_copy_28 : decode prog_1_method_12_code 28 = .ok (.invokevirtual 167, 3) := by decide +kernel
theorem d_X_copy_31 : decode prog_1_method_12_code 31 = .ok (.aload_n 0, 1) := by decide +kernel
theorem d_X_copy_32 : decode prog_1_method_12_code 32 = .ok (.aload 4, 2) := by decide +kernel
theorem d_X_copy_34 : decode prog_1_method_12_code 34 = .ok (.invokevirtual 170, 3) := by decide +kernel
theorem d_X_copy_37 : decode prog_1_method_12_code 37 = .ok (.ireturn, 1) := by decide +kernel
theorem d_X_needGoing_0 : decode prog_1_method_27_code 0 = .ok (.aload_n 0, 1) := by decide +kernel
theorem d_X_needGoing_1 : decode prog_1_method_27_code 1 = .ok (.aload_n 1, 1) := by decide +kernel
theorem d_X_needGoing_2 : decode prog_1_method_27_code 2 = .ok (.invokevirtual 256, 3) := by decide +kernel
theorem d_X_needGoing_5 : decode prog_1_method_27_code 5 = .ok (.ifCond .ne 14, 3) := by decide +kernel
theorem d_X_needGoing_8 : decode prog_1_method_27_code 8 = .ok (.new 44, 3) := by decide +kernel
theorem d_X_needGoing_11 : decode prog_1_method_27_code 11 = .ok (.dup, 1) := by decide +kernel
theorem d_X_needGoing_12 : decode prog_1_method_27_code 12 = .ok (.ldc_w 259, 3) := by decide +kernel
theorem d_X_needGoing_15 : decode prog_1_method_27_code 15 = .ok (.invokespecial 48, 3) := by decide +kernel
theorem d_X_needGoing_18 : decode prog_1_method_27_code 18 = .ok (.athrow, 1) := by decide +kernel
theorem d_X_needGoing_19 : decode prog_1_method_27_code 19 = .ok (.return_, 1) := by decide +kernel
theorem d_X_act_0 : decode prog_1_method_13_code 0 = .ok (.aload_n 0, 1) := by decide +kernel
theorem d_X_act_1 : decode prog_1_method_13_code 1 = .ok (.iload_n 2, 1) := by decide +kernel
theorem d_X_act_2 : decode prog_1_method_13_code 2 = .ok (.invokevirtual 71, 3) := by decide +kernel
theorem d_X_act_5 : decode prog_1_method_13_code 5 = .ok (.astore 5, 2) := by decide +kernel
theorem d_X_act_7 : decode prog_1_method_13_code 7 = .ok (.aload_n 0, 1) := by decide +kernel
theorem d_X_act_8 : decode prog_1_method_13_code 8 = .ok (.iload_n 3, 1) := by decide +kernel
theorem d_X_act_9 : decode prog_1_method_13_code 9 = .ok (.invokevirtual 71, 3) := by decide +kernel
theorem d_X_act_12 : decode prog_1_method_13_code 12 = .ok (.astore 6, 2) := by decide +kernel
theorem d_X_act_14 : decode prog_1_method_13_code 14 = .ok (.aload_n 0, 1) := by decide +kernel
theorem d_X_act_15 : decode prog_1_method_13_code 15 = .ok (.iload 4, 2) := by decide +kernel
theorem d_X_act_17 : decode prog_1_method_13_code 17 = .ok (.invokevirtual 71, 3) := by decide +kernel
theorem d_X_act_20 : decode prog_1_method_13_code 20 = .ok (.astore 7, 2) := by decide +kernel
theorem d_X_act_22 : decode prog_1_method_13_code 22 = .ok (.iload_n 1, 1) := by decide +kernel
theorem d_X_act_23 : decode prog_1_method_13_code 23 = .ok (.ifCond .lt 8, 3) := by decide +kernel
theorem d_X_act_26 : decode prog_1_method_13_code 26 = .ok (.iload_n 1, 1) := by decide +kernel
theorem d_X_act_27 : decode prog_1_method_13_code 27 = .ok (.iconst 4, 1) := by decide +kernel
theorem d_X_act_28 : decode prog_1_method_13_code 28 = .ok (.if_icmp .le 13, 3) := by decide +kernel
theorem d_X_act_31 : decode prog_1_method_13_code 31 = .ok (.new 44, 3) := by decide +kernel
theorem d_X_act_34 : decode prog_1_method_13_code 34 = .ok (.dup, 1) := by decide +kernel
theorem d_X_act_35 : decode prog_1_method_13_code 35 = .ok (.ldc 193, 2) := by decide +kernel
theorem d_X_act_37 : decode prog_1_method_13_code 37 = .ok (.invokespecial 48, 3) := by decide +kernel
theorem d_X_act_40 : decode prog_1_method_13_code 40 = .ok (.athrow, 1) := by decide +kernel
theorem d_X_act_41 : decode prog_1_method_13_code 41 = .ok (.aload 5, 2) := by decide +kernel
theorem d_X_act_43 : decode prog_1_method_13_code 43 = .ok (.aload 7, 2) := by decide +kernel
theorem d_X_act_45 : decode prog_1_method_13_code 45 = .ok (.invokestatic 190, 3) := by decide +kernel
theorem d_X_act_48 : decode prog_1_method_13_code 48 = .ok (.aload 6, 2) := by decide +kernel
theorem d_X_act_50 : decode prog_1_method_13_code 50 = .ok (.aload 7, 2) := by decide +kernel
theorem d_X_act_52 : decode prog_1_method_13_code 52 = .ok (.invokestatic 190, 3) := by decide +kernel
theorem d_X_act_55 : decode prog_1_method_13_code 55 = .ok (.aload 7, 2) := by decide +kernel
theorem d_X_act_57 : decode prog_1_method_13_code 57 = .ok (.invokestatic 183, 3) := by decide +kernel
theorem d_X_act_60 : decode prog_1_method_13_code 60 = .ok (.aload_n 0, 1) := by decide +kernel
theorem d_X_act_61 : decode prog_1_method_13_code 61 = .ok (.aload 5, 2) := by decide +kernel
theorem d_X_act_63 : decode prog_1_method_13_code 63 = .ok (.aload 7, 2) := by decide +kernel
theorem d_X_act_65 : decode prog_1_method_13_code 65 = .ok (.invokevirtual 167, 3) := by decide +kernel
theorem d_X_act_68 : decode prog_1_method_13_code 68 = .ok (.aload_n 0, 1) := by decide +kernel
theorem d_X_act_69 : decode prog_1_method_13_code 69 = .ok (.aload 6, 2) := by decide +kernel
theorem d_X_act_71 : decode prog_1_method_13_code 71 = .ok (.aload 7, 2) := by decide +kernel
theorem d_X_act_73 : decode prog_1_method_13_code 73 = .ok (.invokevirtual 144, 3) := by decide +kernel
theorem d_X_act_76 : decode prog_1_method_13_code 76 = .ok (.iconst 0, 1) := by decide +kernel
theorem d_X_act_77 : decode prog_1_method_13_code 77 = .ok (.istore 8, 2) := by decide +kernel
theorem d_X_act_79 : decode prog_1_method_13_code 79 = .ok (.iload 8, 2) := by decide +kernel
theorem d_X_act_81 : decode prog_1_method_13_code 81 = .ok (.aload 7, 2) := by decide +kernel
theorem d_X_act_83 : decode prog_1_method_13_code 83 = .ok (.getfield 139, 3) := by decide +kernel
theorem d_X_act_86 : decode prog_1_method_13_code 86 = .ok (.if_icmp .ge 43, 3) := by decide +kernel
theorem d_X_act_89 : decode prog_1_method_13_code 89 = .ok (.aload_n 0, 1) := by decide +kernel
theorem d_X_act_90 : decode prog_1_method_13_code 90 = .ok (.getfield 25, 3) := by decide +kernel
theorem d_X_act_93 : decode prog_1_method_13_code 93 = .ok (.iload 8, 2) := by decide +kernel
theorem d_X_act_95 : decode prog_1_method_13_code 95 = .ok (.iload_n 1, 1) := by decide +kernel
theorem d_X_act_96 : decode prog_1_method_13_code 96 = .ok (.aload_n 0, 1) := by decide +kernel
theorem d_X_act_97 : decode prog_1_method_13_code 97 = .ok (.getfield 25, 3) := by decide +kernel
theorem d_X_act_100 : decode prog_1_method_13_code 100 = .ok (.iload 8, 2) := by decide +kernel
theorem d_X_act_102 : decode prog_1_method_13_code 102 = .ok (.laload, 1) := by decide +kernel
theorem d_X_act_103 : decode prog_1_method_13_code 103 = .ok (.aload 6, 2) := by decide +kernel
theorem d_X_act_105 : decode prog_1_method_13_code 105 = .ok (.getfield 129, 3) := by decide +kernel
theorem d_X_act_108 : decode prog_1_method_13_code 108 = .ok (.getfield 176, 3) := by decide +kernel
theorem d_X_act_111 : decode prog_1_method_13_code 111 = .ok (.aload_n 0, 1) := by decide +kernel
theorem d_X_act_112 : decode prog_1_method_13_code 112 = .ok (.getfield 21, 3) := by decide +kernel
theorem d_X_act_115 : decode prog_1_method_13_code 115 = .ok (.iload 8, 2) := by decide +kernel
theorem d_X_act_117 : decode prog_1_method_13_code 117 = .ok (.iaload, 1) := by decide +kernel
theorem d_X_act_118 : decode prog_1_method_13_code 118 = .ok (.laload, 1) := by decide +kernel
theorem d_X_act_119 : decode prog_1_method_13_code 119 = .ok (.invokestatic 195, 3) := by decide +kernel
theorem d_X_act_122 : decode prog_1_method_13_code 122 = .ok (.lastore, 1) := by decide +kernel
theorem d_X_act_123 : decode prog_1_method_13_code 123 = .ok (.iinc 8 1, 3) := by decide +kernel
theorem d_X_act_126 : decode prog_1_method_13_code 126 = .ok (.goto (-47), 3) := by decide +kernel
theorem d_X_act_129 : decode prog_1_method_13_code 129 = .ok (.aload_n 0, 1) := by decide +kernel
theorem d_X_act_130 : decode prog_1_method_13_code 130 = .ok (.aload 7, 2) := by decide +kernel
theorem d_X_act_132 : decode prog_1_method_13_code 132 = .ok (.invokevirtual 170, 3) := by decide +kernel
theorem d_X_act_135 : decode prog_1_method_13_code 135 = .ok (.ireturn, 1) := by decide +kernel
theorem d_X_reckon_0 : decode prog_1_method_40_code 0 = .ok (.iload_n 0, 1) := by decide +kernel
theorem d_X_reckon_1 : decode prog_1_method_40_code 1 = .ok (.tableswitch 49 0 3 #[31, 35, 39, 43], 31) := by decide +kernel
theorem d_X_reckon_32 : decode prog_1_method_40_code 32 = .ok (.lload_n 1, 1) := by decide +kernel
theorem d_X_reckon_33 : decode prog_1_method_40_code 33 = .ok (.lload_n 3, 1) := by decide +kernel
theorem d_X_reckon_34 : decode prog_1_method_40_code 34 = .ok (.ladd, 1) := by decide +kernel
theorem d_X_reckon_35 : decode prog_1_method_40_code 35 = .ok (.lreturn, 1) := by decide +kernel
theorem d_X_reckon_36 : decode prog_1_method_40_code 36 = .ok (.lload_n 1, 1) := by decide +kernel
theorem d_X_reckon_37 : decode prog_1_method_40_code 37 = .ok (.lload_n 3, 1) := by decide +kernel
theorem d_X_reckon_38 : decode prog_1_method_40_code 38 = .ok (.lsub, 1) := by decide +kernel
theorem d_X_reckon_39 : decode prog_1_method_40_code 39 = .ok (.lreturn, 1) := by decide +kernel
theorem d_X_reckon_40 : decode prog_1_method_40_code 40 = .ok (.lload_n 1, 1) := by decide +kernel
theorem d_X_reckon_41 : decode prog_1_method_40_code 41 = .ok (.lload_n 3, 1) := by decide +kernel
theorem d_X_reckon_42 : decode prog_1_method_40_code 42 = .ok (.lmul, 1) := by decide +kernel
theorem d_X_reckon_43 : decode prog_1_method_40_code 43 = .ok (.lreturn, 1) := by decide +kernel
theorem d_X_reckon_44 : decode prog_1_method_40_code 44 = .ok (.lload_n 1, 1) := by decide +kernel
theorem d_X_reckon_45 : decode prog_1_method_40_code 45 = .ok (.lload_n 3, 1) := by decide +kernel
theorem d_X_reckon_46 : decode prog_1_method_40_code 46 = .ok (.invokestatic 273, 3) := by decide +kernel
theorem d_X_reckon_49 : decode prog_1_method_40_code 49 = .ok (.lreturn, 1) := by decide +kernel
theorem d_X_reckon_50 : decode prog_1_method_40_code 50 = .ok (.lload_n 1, 1) := by decide +kernel
theorem d_X_reckon_51 : decode prog_1_method_40_code 51 = .ok (.lload_n 3, 1) := by decide +kernel
theorem d_X_reckon_52 : decode prog_1_method_40_code 52 = .ok (.invokestatic 276, 3) := by decide +kernel
theorem d_X_reckon_55 : decode prog_1_method_40_code 55 = .ok (.lreturn, 1) := by decide +kernel
theorem d_X_fold_0 : decode prog_1_method_14_code 0 = .ok (.aload_n 0, 1) := by decide +kernel
theorem d_X_fold_1 : decode prog_1_method_14_code 1 = .ok (.iload_n 2, 1) := by decide +kernel
theorem d_X_fold_2 : decode prog_1_method_14_code 2 = .ok (.invokevirtual 71, 3) := by decide +kernel
theorem d_X_fold_5 : decode prog_1_method_14_code 5 = .ok (.astore 4, 2) := by decide +kernel
theorem d_X_fold_7 : decode prog_1_method_14_code 7 = .ok (.aload 4, 2) := by decide +kernel
theorem d_X_fold_9 : decode prog_1_method_14_code 9 = .ok (.iload_n 3, 1) := by decide +kernel
theorem d_X_fold_10 : decode prog_1_method_14_code 10 = .ok (.invokestatic 75, 3) := by decide +kernel
theorem d_X_fold_13 : decode prog_1_method_14_code 13 = .ok (.iload_n 1, 1) := by decide +kernel
theorem d_X_fold_14 : decode prog_1_method_14_code 14 = .ok (.ifCond .lt 13, 3) := by decide +kernel
theorem d_X_fold_17 : decode prog_1_method_14_code 17 = .ok (.iload_n 1, 1) := by decide +kernel
theorem d_X_fold_18 : decode prog_1_method_14_code 18 = .ok (.iconst 4, 1) := by decide +kernel
theorem d_X_fold_19 : decode prog_1_method_14_code 19 = .ok (.if_icmp .gt 8, 3) := by decide +kernel
theorem d_X_fold_22 : decode prog_1_method_14_code 22 = .ok (.iload_n 1, 1) := by decide +kernel
theorem d_X_fold_23 : decode prog_1_method_14_code 23 = .ok (.iconst 1, 1) := by decide +kernel
theorem d_X_fold_24 : decode prog_1_method_14_code 24 = .ok (.if_icmp .ne 13, 3) := by decide +kernel
theorem d_X_fold_27 : decode prog_1_method_14_code 27 = .ok (.new 44, 3) := by decide +kernel
theorem d_X_fold_30 : decode prog_1_method_14_code 30 = .ok (.dup, 1) := by decide +kernel
theorem d_X_fold_31 : decode prog_1_method_14_code 31 = .ok (.ldc 199, 2) := by decide +kernel
theorem d_X_fold_33 : decode prog_1_method_14_code 33 = .ok (.invokespecial 48, 3) := by decide +kernel
theorem d_X_fold_36 : decode prog_1_method_14_code 36 = .ok (.athrow, 1) := by decide +kernel
theorem d_X_fold_37 : decode prog_1_method_14_code 37 = .ok (.aload 4, 2) := by decide +kernel
theorem d_X_fold_39 : decode prog_1_method_14_code 39 = .ok (.iload_n 3, 1) := by decide +kernel
theorem d_X_fold_40 : decode prog_1_method_14_code 40 = .ok (.invokevirtual 201, 3) := by decide +kernel
theorem d_X_fold_43 : decode prog_1_method_14_code 43 = .ok (.istore 5, 2) := by decide +kernel
theorem d_X_fold_45 : decode prog_1_method_14_code 45 = .ok (.iload 5, 2) := by decide +kernel
theorem d_X_fold_47 : decode prog_1_method_14_code 47 = .ok (.invokestatic 158, 3) := by decide +kernel
theorem d_X_fold_50 : decode prog_1_method_14_code 50 = .ok (.aload_n 0, 1) := by decide +kernel
theorem d_X_fold_51 : decode prog_1_method_14_code 51 = .ok (.invokevirtual 51, 3) := by decide +kernel
theorem d_X_fold_54 : decode prog_1_method_14_code 54 = .ok (.new 9, 3) := by decide +kernel
theorem d_X_fold_57 : decode prog_1_method_14_code 57 = .ok (.dup, 1) := by decide +kernel
theorem d_X_fold_58 : decode prog_1_method_14_code 58 = .ok (.aload_n 0, 1) := by decide +kernel
theorem d_X_fold_59 : decode prog_1_method_14_code 59 = .ok (.getfield 33, 3) := by decide +kernel
theorem d_X_fold_62 : decode prog_1_method_14_code 62 = .ok (.iconst 3, 1) := by decide +kernel
theorem d_X_fold_63 : decode prog_1_method_14_code 63 = .ok (.iload 5, 2) := by decide +kernel
theorem d_X_fold_65 : decode prog_1_method_14_code 65 = .ok (.invokespecial 54, 3) := by decide +kernel
theorem d_X_fold_68 : decode prog_1_method_14_code 68 = .ok (.astore 6, 2) := by decide +kernel
theorem d_X_fold_70 : decode prog_1_method_14_code 70 = .ok (.new 15, 3) := by decide +kernel
theorem d_X_fold_73 : decode prog_1_method_14_code 73 = .ok (.dup, 1) := by decide +kernel
theorem d_X_fold_74 : decode prog_1_method_14_code 74 = .ok (.aload 6, 2) := by decide +kernel
theorem d_X_fold_76 : decode prog_1_method_14_code 76 = .ok (.iconst 0, 1) := by decide +kernel
theorem d_X_fold_77 : decode prog_1_method_14_code 77 = .ok (.invokespecial 57, 3) := by decide +kernel
theorem d_X_fold_80 : decode prog_1_method_14_code 80 = .ok (.astore 7, 2) := by decide +kernel
theorem d_X_fold_82 : decode prog_1_method_14_code 82 = .ok (.aload 7, 2) := by decide +kernel
theorem d_X_fold_84 : decode prog_1_method_14_code 84 = .ok (.aload 4, 2) := by decide +kernel
theorem d_X_fold_86 : decode prog_1_method_14_code 86 = .ok (.iload_n 3, 1) := by decide +kernel
theorem d_X_fold_87 : decode prog_1_method_14_code 87 = .ok (.invokevirtual 161, 3) := by decide +kernel
theorem d_X_fold_90 : decode prog_1_method_14_code 90 = .ok (.aload 7, 2) := by decide +kernel
theorem d_X_fold_92 : decode prog_1_method_14_code 92 = .ok (.invokevirtual 164, 3) := by decide +kernel
theorem d_X_fold_95 : decode prog_1_method_14_code 95 = .ok (.aload_n 0, 1) := by decide +kernel
theorem d_X_fold_96 : decode prog_1_method_14_code 96 = .ok (.aload 6, 2) := by decide +kernel
theorem d_X_fold_98 : decode prog_1_method_14_code 98 = .ok (.iload_n 1, 1) := by decide +kernel
theorem d_X_fold_99 : decode prog_1_method_14_code 99 = .ok (.aload 4, 2) := by decide +kernel
theorem d_X_fold_101 : decode prog_1_method_14_code 101 = .ok (.aload 7, 2) := by decide +kernel
theorem d_X_fold_103 : decode prog_1_method_14_code 103 = .ok (.iload_n 3, 1) := by decide +kernel
theorem d_X_fold_104 : decode prog_1_method_14_code 104 = .ok (.invokevirtual 204, 3) := by decide +kernel
theorem d_X_fold_107 : decode prog_1_method_14_code 107 = .ok (.aload_n 0, 1) := by decide +kernel
theorem d_X_fold_108 : decode prog_1_method_14_code 108 = .ok (.aload 6, 2) := by decide +kernel
theorem d_X_fold_110 : decode prog_1_method_14_code 110 = .ok (.invokevirtual 63, 3) := by decide +kernel
theorem d_X_fold_113 : decode prog_1_method_14_code 113 = .ok (.aload_n 0, 1) := by decide +kernel
theorem d_X_fold_114 : decode prog_1_method_14_code 114 = .ok (.aload 7, 2) := by decide +kernel
theorem d_X_fold_116 : decode prog_1_method_14_code 116 = .ok (.invokevirtual 67, 3) := by decide +kernel
theorem d_X_fold_119 : decode prog_1_method_14_code 119 = .ok (.ireturn, 1) := by decide +kernel
theorem d_X_foldInto_0 : decode prog_1_method_38_code 0 = .ok (.iconst 0, 1) := by decide +kernel
theorem d_X_foldInto_1 : decode prog_1_method_38_code 1 = .ok (.istore 6, 2) := by decide +kernel
theorem d_X_foldInto_3 : decode prog_1_method_38_code 3 = .ok (.iload 6, 2) := by decide +kernel
theorem d_X_foldInto_5 : decode prog_1_method_38_code 5 = .ok (.aload_n 1, 1) := by decide +kernel
theorem d_X_foldInto_6 : decode prog_1_method_38_code 6 = .ok (.getfield 176, 3) := by decide +kernel
theorem d_X_foldInto_9 : decode prog_1_method_38_code 9 = .ok (.arraylength, 1) := by decide +kernel
theorem d_X_foldInto_10 : decode prog_1_method_38_code 10 = .ok (.if_icmp .ge 20, 3) := by decide +kernel
theorem d_X_foldInto_13 : decode prog_1_method_38_code 13 = .ok (.aload_n 1, 1) := by decide +kernel
theorem d_X_foldInto_14 : decode prog_1_method_38_code 14 = .ok (.getfield 176, 3) := by decide +kernel
theorem d_X_foldInto_17 : decode prog_1_method_38_code 17 = .ok (.iload 6, 2) := by decide +kernel
theorem d_X_foldInto_19 : decode prog_1_method_38_code 19 = .ok (.iload_n 2, 1) := by decide +kernel
theorem d_X_foldInto_20 : decode prog_1_method_38_code 20 = .ok (.invokestatic 269, 3) := by decide +kernel
theorem d_X_foldInto_23 : decode prog_1_method_38_code 23 = .ok (.lastore, 1) := by decide +kernel
theorem d_X_foldInto_24 : decode prog_1_method_38_code 24 = .ok (.iinc 6 1, 3) := by decide +kernel
theorem d_X_foldInto_27 : decode prog_1_method_38_code 27 = .ok (.goto (-24), 3) := by decide +kernel
theorem d_X_foldInto_30 : decode prog_1_method_38_code 30 = .ok (.aload_n 0, 1) := by decide +kernel
theorem d_X_foldInto_31 : decode prog_1_method_38_code 31 = .ok (.aload_n 3, 1) := by decide +kernel
theorem d_X_foldInto_32 : decode prog_1_method_38_code 32 = .ok (.aload_n 3, 1) := by decide +kernel
theorem d_X_foldInto_33 : decode prog_1_method_38_code 33 = .ok (.invokevirtual 167, 3) := by decide +kernel
theorem d_X_foldInto_36 : decode prog_1_method_38_code 36 = .ok (.aload 4, 2) := by decide +kernel
theorem d_X_foldInto_38 : decode prog_1_method_38_code 38 = .ok (.invokevirtual 86, 3) := by decide +kernel
theorem d_X_foldInto_41 : decode prog_1_method_38_code 41 = .ok (.astore 6, 2) := by decide +kernel
theorem d_X_foldInto_43 : decode prog_1_method_38_code 43 = .ok (.aload 6, 2) := by decide +kernel
theorem d_X_foldInto_45 : decode prog_1_method_38_code 45 = .ok (.iload 5, 2) := by decide +kernel
theorem d_X_foldInto_47 : decode prog_1_method_38_code 47 = .ok (.aload_n 3, 1) := by decide +kernel
theorem d_X_foldInto_48 : decode prog_1_method_38_code 48 = .ok (.getfield 79, 3) := by decide +kernel
theorem d_X_foldInto_51 : decode prog_1_method_38_code 51 = .ok (.iload 5, 2) := by decide +kernel
theorem d_X_foldInto_53 : decode prog_1_method_38_code 53 = .ok (.iaload, 1) := by decide +kernel
theorem d_X_foldInto_54 : decode prog_1_method_38_code 54 = .ok (.iconst 0, 1) := by decide +kernel
theorem d_X_foldInto_55 : decode prog_1_method_38_code 55 = .ok (.invokevirtual 60, 3) := by decide +kernel
theorem d_X_foldInto_58 : decode prog_1_method_38_code 58 = .ok (.aload 6, 2) := by decide +kernel
theorem d_X_foldInto_60 : decode prog_1_method_38_code 60 = .ok (.invokevirtual 136, 3) := by decide +kernel
theorem d_X_foldInto_63 : decode prog_1_method_38_code 63 = .ok (.aload_n 0, 1) := by decide +kernel
theorem d_X_foldInto_64 : decode prog_1_method_38_code 64 = .ok (.aload 6, 2) := by decide +kernel
theorem d_X_foldInto_66 : decode prog_1_method_38_code 66 = .ok (.aload 6, 2) := by decide +kernel
theorem d_X_foldInto_68 : decode prog_1_method_38_code 68 = .ok (.invokevirtual 144, 3) := by decide +kernel
theorem d_X_foldInto_71 : decode prog_1_method_38_code 71 = .ok (.iconst 0, 1) := by decide +kernel
theorem d_X_foldInto_72 : decode prog_1_method_38_code 72 = .ok (.istore 7, 2) := by decide +kernel
theorem d_X_foldInto_74 : decode prog_1_method_38_code 74 = .ok (.iload 7, 2) := by decide +kernel
theorem d_X_foldInto_76 : decode prog_1_method_38_code 76 = .ok (.aload 6, 2) := by decide +kernel
theorem d_X_foldInto_78 : decode prog_1_method_38_code 78 = .ok (.getfield 139, 3) := by decide +kernel
theorem d_X_foldInto_81 : decode prog_1_method_38_code 81 = .ok (.if_icmp .ge 44, 3) := by decide +kernel
theorem d_X_foldInto_84 : decode prog_1_method_38_code 84 = .ok (.aload_n 1, 1) := by decide +kernel
theorem d_X_foldInto_85 : decode prog_1_method_38_code 85 = .ok (.getfield 176, 3) := by decide +kernel
theorem d_X_foldInto_88 : decode prog_1_method_38_code 88 = .ok (.aload_n 0, 1) := by decide +kernel
theorem d_X_foldInto_89 : decode prog_1_method_38_code 89 = .ok (.getfield 21, 3) := by decide +kernel
theorem d_X_foldInto_92 : decode prog_1_method_38_code 92 = .ok (.iload 7, 2) := by decide +kernel
theorem d_X_foldInto_94 : decode prog_1_method_38_code 94 = .ok (.iaload, 1) := by decide +kernel
theorem d_X_foldInto_95 : decode prog_1_method_38_code 95 = .ok (.iload_n 2, 1) := by decide +kernel
theorem d_X_foldInto_96 : decode prog_1_method_38_code 96 = .ok (.aload_n 1, 1) := by decide +kernel
theorem d_X_foldInto_97 : decode prog_1_method_38_code 97 = .ok (.getfield 176, 3) := by decide +kernel
theorem d_X_foldInto_100 : decode prog_1_method_38_code 100 = .ok (.aload_n 0, 1) := by decide +kernel
theorem d_X_foldInto_101 : decode prog_1_method_38_code 101 = .ok (.getfield 21, 3) := by decide +kernel
theorem d_X_foldInto_104 : decode prog_1_method_38_code 104 = .ok (.iload 7, 2) := by decide +kernel
theorem d_X_foldInto_106 : decode prog_1_method_38_code 106 = .ok (.iaload, 1) := by decide +kernel
theorem d_X_foldInto_107 : decode prog_1_method_38_code 107 = .ok (.laload, 1) := by decide +kernel
theorem d_X_foldInto_108 : decode prog_1_method_38_code 108 = .ok (.aload_n 0, 1) := by decide +kernel
theorem d_X_foldInto_109 : decode prog_1_method_38_code 109 = .ok (.getfield 25, 3) := by decide +kernel
theorem d_X_foldInto_112 : decode prog_1_method_38_code 112 = .ok (.iload 7, 2) := by decide +kernel
theorem d_X_foldInto_114 : decode prog_1_method_38_code 114 = .ok (.laload, 1) := by decide +kernel
theorem d_X_foldInto_115 : decode prog_1_method_38_code 115 = .ok (.invokestatic 195, 3) := by decide +kernel
theorem d_X_foldInto_118 : decode prog_1_method_38_code 118 = .ok (.lastore, 1) := by decide +kernel
theorem d_X_foldInto_119 : decode prog_1_method_38_code 119 = .ok (.iinc 7 1, 3) := by decide +kernel
theorem d_X_foldInto_122 : decode prog_1_method_38_code 122 = .ok (.goto (-48), 3) := by decide +kernel
theorem d_X_foldInto_125 : decode prog_1_method_38_code 125 = .ok (.return_, 1) := by decide +kernel
theorem d_X_neutral_0 : decode prog_1_method_41_code 0 = .ok (.iload_n 0, 1) := by decide +kernel
theorem d_X_neutral_1 : decode prog_1_method_41_code 1 = .ok (.tableswitch 37 2 4 #[27, 29, 33], 27) := by decide +kernel
theorem d_X_neutral_28 : decode prog_1_method_41_code 28 = .ok (.lconst 1, 1) := by decide +kernel
theorem d_X_neutral_29 : decode prog_1_method_41_code 29 = .ok (.lreturn, 1) := by decide +kernel
theorem d_X_neutral_30 : decode prog_1_method_41_code 30 = .ok (.ldc2_w 280, 3) := by decide +kernel
theorem d_X_neutral_33 : decode prog_1_method_41_code 33 = .ok (.lreturn, 1) := by decide +kernel
theorem d_X_neutral_34 : decode prog_1_method_41_code 34 = .ok (.ldc2_w 282, 3) := by decide +kernel
theorem d_X_neutral_37 : decode prog_1_method_41_code 37 = .ok (.lreturn, 1) := by decide +kernel
theorem d_X_neutral_38 : decode prog_1_method_41_code 38 = .ok (.lconst 0, 1) := by decide +kernel
theorem d_X_neutral_39 : decode prog_1_method_41_code 39 = .ok (.lreturn, 1) := by decide +kernel
theorem d_X_shared_0 : decode prog_1_method_15_code 0 = .ok (.aload_n 0, 1) := by decide +kernel
theorem d_X_shared_1 : decode prog_1_method_15_code 1 = .ok (.iload_n 1, 1) := by decide +kernel
theorem d_X_shared_2 : decode prog_1_method_15_code 2 = .ok (.invokevirtual 71, 3) := by decide +kernel
theorem d_X_shared_5 : decode prog_1_method_15_code 5 = .ok (.astore_n 3, 1) := by decide +kernel
theorem d_X_shared_6 : decode prog_1_method_15_code 6 = .ok (.aload_n 0, 1) := by decide +kernel
theorem d_X_shared_7 : decode prog_1_method_15_code 7 = .ok (.iload_n 2, 1) := by decide +kernel
theorem d_X_shared_8 : decode prog_1_method_15_code 8 = .ok (.invokevirtual 71, 3) := by decide +kernel
theorem d_X_shared_11 : decode prog_1_method_15_code 11 = .ok (.astore 4, 2) := by decide +kernel
theorem d_X_shared_13 : decode prog_1_method_15_code 13 = .ok (.aload_n 3, 1) := by decide +kernel
theorem d_X_shared_14 : decode prog_1_method_15_code 14 = .ok (.getfield 129, 3) := by decide +kernel
theorem d_X_shared_17 : decode prog_1_method_15_code 17 = .ok (.aload 4, 2) := by decide +kernel
theorem d_X_shared_19 : decode prog_1_method_15_code 19 = .ok (.getfield 129, 3) := by decide +kernel
theorem d_X_shared_22 : decode prog_1_method_15_code 22 = .ok (.if_acmp .eq 5, 3) := by decide +kernel
theorem d_X_shared_25 : decode prog_1_method_15_code 25 = .ok (.iconst 0, 1) := by decide +kernel
theorem d_X_shared_26 : decode prog_1_method_15_code 26 = .ok (.ireturn, 1) := by decide +kernel
theorem d_X_shared_27 : decode prog_1_method_15_code 27 = .ok (.aload_n 0, 1) := by decide +kernel
theorem d_X_shared_28 : decode prog_1_method_15_code 28 = .ok (.invokevirtual 208, 3) := by decide +kernel
theorem d_X_shared_31 : decode prog_1_method_15_code 31 = .ok (.aload_n 0, 1) := by decide +kernel
theorem d_X_shared_32 : decode prog_1_method_15_code 32 = .ok (.aload_n 3, 1) := by decide +kernel
theorem d_X_shared_33 : decode prog_1_method_15_code 33 = .ok (.aload_n 3, 1) := by decide +kernel
theorem d_X_shared_34 : decode prog_1_method_15_code 34 = .ok (.invokevirtual 144, 3) := by decide +kernel
theorem d_X_shared_37 : decode prog_1_method_15_code 37 = .ok (.iconst 0, 1) := by decide +kernel
theorem d_X_shared_38 : decode prog_1_method_15_code 38 = .ok (.istore 5, 2) := by decide +kernel
theorem d_X_shared_40 : decode prog_1_method_15_code 40 = .ok (.iload 5, 2) := by decide +kernel
theorem d_X_shared_42 : decode prog_1_method_15_code 42 = .ok (.aload_n 3, 1) := by decide +kernel
theorem d_X_shared_43 : decode prog_1_method_15_code 43 = .ok (.getfield 139, 3) := by decide +kernel
theorem d_X_shared_46 : decode prog_1_method_15_code 46 = .ok (.if_icmp .ge 22, 3) := by decide +kernel
theorem d_X_shared_49 : decode prog_1_method_15_code 49 = .ok (.aload_n 0, 1) := by decide +kernel
theorem d_X_shared_50 : decode prog_1_method_15_code 50 = .ok (.getfield 29, 3) := by decide +kernel
theorem d_X_shared_53 : decode prog_1_method_15_code 53 = .ok (.aload_n 0, 1) := by decide +kernel
theorem d_X_shared_54 : decode prog_1_method_15_code 54 = .ok (.getfield 21, 3) := by decide +kernel
theorem d_X_shared_57 : decode prog_1_method_15_code 57 = .ok (.iload 5, 2) := by decide +kernel
theorem d_X_shared_59 : decode prog_1_method_15_code 59 = .ok (.iaload, 1) := by decide +kernel
theorem d_X_shared_60 : decode prog_1_method_15_code 60 = .ok (.iconst 1, 1) := by decide +kernel
theorem d_X_shared_61 : decode prog_1_method_15_code 61 = .ok (.bastore, 1) := by decide +kernel
theorem d_X_shared_62 : decode prog_1_method_15_code 62 = .ok (.iinc 5 1, 3) := by decide +kernel
theorem d_X_shared_65 : decode prog_1_method_15_code 65 = .ok (.goto (-25), 3) := by decide +kernel
theorem d_X_shared_68 : decode prog_1_method_15_code 68 = .ok (.aload_n 0, 1) := by decide +kernel
theorem d_X_shared_69 : decode prog_1_method_15_code 69 = .ok (.aload 4, 2) := by decide +kernel
theorem d_X_shared_71 : decode prog_1_method_15_code 71 = .ok (.aload 4, 2) := by decide +kernel
theorem d_X_shared_73 : decode prog_1_method_15_code 73 = .ok (.invokevirtual 144, 3) := by decide +kernel
theorem d_X_shared_76 : decode prog_1_method_15_code 76 = .ok (.iconst 0, 1) := by decide +kernel
theorem d_X_shared_77 : decode prog_1_method_15_code 77 = .ok (.istore 5, 2) := by decide +kernel
theorem d_X_shared_79 : decode prog_1_method_15_code 79 = .ok (.iconst 0, 1) := by decide +kernel
theorem d_X_shared_80 : decode prog_1_method_15_code 80 = .ok (.istore 6, 2) := by decide +kernel
theorem d_X_shared_82 : decode prog_1_method_15_code 82 = .ok (.iload 6, 2) := by decide +kernel
theorem d_X_shared_84 : decode prog_1_method_15_code 84 = .ok (.aload 4, 2) := by decide +kernel
theorem d_X_shared_86 : decode prog_1_method_15_code 86 = .ok (.getfield 139, 3) := by decide +kernel
theorem d_X_shared_89 : decode prog_1_method_15_code 89 = .ok (.if_icmp .ge 40, 3) := by decide +kernel
theorem d_X_shared_92 : decode prog_1_method_15_code 92 = .ok (.aload_n 0, 1) := by decide +kernel
theorem d_X_shared_93 : decode prog_1_method_15_code 93 = .ok (.getfield 29, 3) := by decide +kernel
theorem d_X_shared_96 : decode prog_1_method_15_code 96 = .ok (.aload_n 0, 1) := by decide +kernel
theorem d_X_shared_97 : decode prog_1_method_15_code 97 = .ok (.getfield 21, 3) := by decide +kernel
theorem d_X_shared_100 : decode prog_1_method_15_code 100 = .ok (.iload 6, 2) := by decide +kernel
theorem d_X_shared_102 : decode prog_1_method_15_code 102 = .ok (.iaload, 1) := by decide +kernel
theorem d_X_shared_103 : decode prog_1_method_15_code 103 = .ok (.baload, 1) := by decide +kernel
theorem d_X_shared_104 : decode prog_1_method_15_code 104 = .ok (.ifCond .eq 19, 3) := by decide +kernel
theorem d_X_shared_107 : decode prog_1_method_15_code 107 = .ok (.iinc 5 1, 3) := by decide +kernel
theorem d_X_shared_110 : decode prog_1_method_15_code 110 = .ok (.aload_n 0, 1) := by decide +kernel
theorem d_X_shared_111 : decode prog_1_method_15_code 111 = .ok (.getfield 29, 3) := by decide +kernel
theorem d_X_shared_114 : decode prog_1_method_15_code 114 = .ok (.aload_n 0, 1) := by decide +kernel
theorem d_X_shared_115 : decode prog_1_method_15_code 115 = .ok (.getfield 21, 3) := by decide +kernel
theorem d_X_shared_118 : decode prog_1_method_15_code 118 = .ok (.iload 6, 2) := by decide +kernel
theorem d_X_shared_120 : decode prog_1_method_15_code 120 = .ok (.iaload, 1) := by decide +kernel
theorem d_X_shared_121 : decode prog_1_method_15_code 121 = .ok (.iconst 0, 1) := by decide +kernel
theorem d_X_shared_122 : decode prog_1_method_15_code 122 = .ok (.bastore, 1) := by decide +kernel
theorem d_X_shared_123 : decode prog_1_method_15_code 123 = .ok (.iinc 6 1, 3) := by decide +kernel
theorem d_X_shared_126 : decode prog_1_method_15_code 126 = .ok (.goto (-44), 3) := by decide +kernel
theorem d_X_shared_129 : decode prog_1_method_15_code 129 = .ok (.iload 5, 2) := by decide +kernel
theorem d_X_shared_131 : decode prog_1_method_15_code 131 = .ok (.ireturn, 1) := by decide +kernel
theorem d_X_clearMarks_0 : decode prog_1_method_39_code 0 = .ok (.iconst 0, 1) := by decide +kernel
theorem d_X_clearMarks_1 : decode prog_1_method_39_code 1 = .ok (.istore_n 1, 1) := by decide +kernel
theorem d_X_clearMarks_2 : decode prog_1_method_39_code 2 = .ok (.iload_n 1, 1) := by decide +kernel
theorem d_X_clearMarks_3 : decode prog_1_method_39_code 3 = .ok (.sipush 300, 3) := by decide +kernel
theorem d_X_clearMarks_6 : decode prog_1_method_39_code 6 = .ok (.if_icmp .ge 16, 3) := by decide +kernel
theorem d_X_clearMarks_9 : decode prog_1_method_39_code 9 = .ok (.aload_n 0, 1) := by decide +kernel
theorem d_X_clearMarks_10 : decode prog_1_method_39_code 10 = .ok (.getfield 29, 3) := by decide +kernel
theorem d_X_clearMarks_13 : decode prog_1_method_39_code 13 = .ok (.iload_n 1, 1) := by decide +kernel
theorem d_X_clearMarks_14 : decode prog_1_method_39_code 14 = .ok (.iconst 0, 1) := by decide +kernel
theorem d_X_clearMarks_15 : decode prog_1_method_39_code 15 = .ok (.bastore, 1) := by decide +kernel
theorem d_X_clearMarks_16 : decode prog_1_method_39_code 16 = .ok (.iinc 1 1, 3) := by decide +kernel
theorem d_X_clearMarks_19 : decode prog_1_method_39_code 19 = .ok (.goto (-17), 3) := by decide +kernel
theorem d_X_clearMarks_22 : decode prog_1_method_39_code 22 = .ok (.return_, 1) := by decide +kernel
theorem d_X_same_0 : decode prog_1_method_16_code 0 = .ok (.aload_n 0, 1) := by decide +kernel
theorem d_X_same_1 : decode prog_1_method_16_code 1 = .ok (.iload_n 1, 1) := by decide +kernel
theorem d_X_same_2 : decode prog_1_method_16_code 2 = .ok (.invokevirtual 71, 3) := by decide +kernel
theorem d_X_same_5 : decode prog_1_method_16_code 5 = .ok (.astore_n 3, 1) := by decide +kernel
theorem d_X_same_6 : decode prog_1_method_16_code 6 = .ok (.aload_n 0, 1) := by decide +kernel
theorem d_X_same_7 : decode prog_1_method_16_code 7 = .ok (.iload_n 2, 1) := by decide +kernel
theorem d_X_same_8 : decode prog_1_method_16_code 8 = .ok (.invokevirtual 71, 3) := by decide +kernel
theorem d_X_same_11 : decode prog_1_method_16_code 11 = .ok (.astore 4, 2) := by decide +kernel
theorem d_X_same_13 : decode prog_1_method_16_code 13 = .ok (.aload_n 3, 1) := by decide +kernel
theorem d_X_same_14 : decode prog_1_method_16_code 14 = .ok (.aload 4, 2) := by decide +kernel
theorem d_X_same_16 : decode prog_1_method_16_code 16 = .ok (.invokevirtual 211, 3) := by decide +kernel
theorem d_X_same_19 : decode prog_1_method_16_code 19 = .ok (.ifCond .ne 5, 3) := by decide +kernel
theorem d_X_same_22 : decode prog_1_method_16_code 22 = .ok (.iconst 0, 1) := by decide +kernel
theorem d_X_same_23 : decode prog_1_method_16_code 23 = .ok (.ireturn, 1) := by decide +kernel
theorem d_X_same_24 : decode prog_1_method_16_code 24 = .ok (.aload_n 0, 1) := by decide +kernel
theorem d_X_same_25 : decode prog_1_method_16_code 25 = .ok (.aload_n 3, 1) := by decide +kernel
theorem d_X_same_26 : decode prog_1_method_16_code 26 = .ok (.aload_n 3, 1) := by decide +kernel
theorem d_X_same_27 : decode prog_1_method_16_code 27 = .ok (.invokevirtual 167, 3) := by decide +kernel
theorem d_X_same_30 : decode prog_1_method_16_code 30 = .ok (.aload_n 0, 1) := by decide +kernel
theorem d_X_same_31 : decode prog_1_method_16_code 31 = .ok (.aload 4, 2) := by decide +kernel
theorem d_X_same_33 : decode prog_1_method_16_code 33 = .ok (.aload 4, 2) := by decide +kernel
theorem d_X_same_35 : decode prog_1_method_16_code 35 = .ok (.invokevirtual 144, 3) := by decide +kernel
theorem d_X_same_38 : decode prog_1_method_16_code 38 = .ok (.iconst 0, 1) := by decide +kernel
theorem d_X_same_39 : decode prog_1_method_16_code 39 = .ok (.istore 5, 2) := by decide +kernel
theorem d_X_same_41 : decode prog_1_method_16_code 41 = .ok (.iload 5, 2) := by decide +kernel
theorem d_X_same_43 : decode prog_1_method_16_code 43 = .ok (.aload 4, 2) := by decide +kernel
theorem d_X_same_45 : decode prog_1_method_16_code 45 = .ok (.getfield 139, 3) := by decide +kernel
theorem d_X_same_48 : decode prog_1_method_16_code 48 = .ok (.if_icmp .ge 38, 3) := by decide +kernel
theorem d_X_same_51 : decode prog_1_method_16_code 51 = .ok (.aload_n 0, 1) := by decide +kernel
theorem d_X_same_52 : decode prog_1_method_16_code 52 = .ok (.getfield 25, 3) := by decide +kernel
theorem d_X_same_55 : decode prog_1_method_16_code 55 = .ok (.iload 5, 2) := by decide +kernel
theorem d_X_same_57 : decode prog_1_method_16_code 57 = .ok (.laload, 1) := by decide +kernel
theorem d_X_same_58 : decode prog_1_method_16_code 58 = .ok (.aload 4, 2) := by decide +kernel
theorem d_X_same_60 : decode prog_1_method_16_code 60 = .ok (.getfield 129, 3) := by decide +kernel
theorem d_X_same_63 : decode prog_1_method_16_code 63 = .ok (.getfield 176, 3) := by decide +kernel
theorem d_X_same_66 : decode prog_1_method_16_code 66 = .ok (.aload_n 0, 1) := by decide +kernel
theorem d_X_same_67 : decode prog_1_method_16_code 67 = .ok (.getfield 21, 3) := by decide +kernel
theorem d_X_same_70 : decode prog_1_method_16_code 70 = .ok (.iload 5, 2) := by decide +kernel
theorem d_X_same_72 : decode prog_1_method_16_code 72 = .ok (.iaload, 1) := by decide +kernel
theorem d_X_same_73 : decode prog_1_method_16_code 73 = .ok (.laload, 1) := by decide +kernel
theorem d_X_same_74 : decode prog_1_method_16_code 74 = .ok (.lcmp, 1) := by decide +kernel
theorem d_X_same_75 : decode prog_1_method_16_code 75 = .ok (.ifCond .eq 5, 3) := by decide +kernel
theorem d_X_same_78 : decode prog_1_method_16_code 78 = .ok (.iconst 0, 1) := by decide +kernel
theorem d_X_same_79 : decode prog_1_method_16_code 79 = .ok (.ireturn, 1) := by decide +kernel
theorem d_X_same_80 : decode prog_1_method_16_code 80 = .ok (.iinc 5 1, 3) := by decide +kernel
theorem d_X_same_83 : decode prog_1_method_16_code 83 = .ok (.goto (-42), 3) := by decide +kernel
theorem d_X_same_86 : decode prog_1_method_16_code 86 = .ok (.iconst 1, 1) := by decide +kernel
theorem d_X_same_87 : decode prog_1_method_16_code 87 = .ok (.ireturn, 1) := by decide +kernel
theorem d_X_runs_0 : decode prog_1_method_17_code 0 = .ok (.aload_n 0, 1) := by decide +kernel
theorem d_X_runs_1 : decode prog_1_method_17_code 1 = .ok (.iload_n 1, 1) := by decide +kernel
theorem d_X_runs_2 : decode prog_1_method_17_code 2 = .ok (.invokevirtual 71, 3) := by decide +kernel
theorem d_X_runs_5 : decode prog_1_method_17_code 5 = .ok (.astore_n 2, 1) := by decide +kernel
theorem d_X_runs_6 : decode prog_1_method_17_code 6 = .ok (.aload_n 0, 1) := by decide +kernel
theorem d_X_runs_7 : decode prog_1_method_17_code 7 = .ok (.aload_n 2, 1) := by decide +kernel
theorem d_X_runs_8 : decode prog_1_method_17_code 8 = .ok (.aload_n 2, 1) := by decide +kernel
theorem d_X_runs_9 : decode prog_1_method_17_code 9 = .ok (.invokevirtual 144, 3) := by decide +kernel
theorem d_X_runs_12 : decode prog_1_method_17_code 12 = .ok (.iconst 0, 1) := by decide +kernel
theorem d_X_runs_13 : decode prog_1_method_17_code 13 = .ok (.istore_n 3, 1) := by decide +kernel
theorem d_X_runs_14 : decode prog_1_method_17_code 14 = .ok (.iconst 0, 1) := by decide +kernel
theorem d_X_runs_15 : decode prog_1_method_17_code 15 = .ok (.istore 4, 2) := by decide +kernel
theorem d_X_runs_17 : decode prog_1_method_17_code 17 = .ok (.iload 4, 2) := by decide +kernel
theorem d_X_runs_19 : decode prog_1_method_17_code 19 = .ok (.aload_n 2, 1) := by decide +kernel
theorem d_X_runs_20 : decode prog_1_method_17_code 20 = .ok (.getfield 139, 3) := by decide +kernel
theorem d_X_runs_23 : decode prog_1_method_17_code 23 = .ok (.if_icmp .ge 38, 3) := by decide +kernel
theorem d_X_runs_26 : decode prog_1_method_17_code 26 = .ok (.iload 4, 2) := by decide +kernel
theorem d_X_runs_28 : decode prog_1_method_17_code 28 = .ok (.ifCond .eq 24, 3) := by decide +kernel
theorem d_X_runs_31 : decode prog_1_method_17_code 31 = .ok (.aload_n 0, 1) := by decide +kernel
theorem d_X_runs_32 : decode prog_1_method_17_code 32 = .ok (.getfield 21, 3) := by decide +kernel
theorem d_X_runs_35 : decode prog_1_method_17_code 35 = .ok (.iload 4, 2) := by decide +kernel
theorem d_X_runs_37 : decode prog_1_method_17_code 37 = .ok (.iaload, 1) := by decide +kernel
theorem d_X_runs_38 : decode prog_1_method_17_code 38 = .ok (.aload_n 0, 1) := by decide +kernel
theorem d_X_runs_39 : decode prog_1_method_17_code 39 = .ok (.getfield 21, 3) := by decide +kernel
theorem d_X_runs_42 : decode prog_1_method_17_code 42 = .ok (.iload 4, 2) := by decide +kernel
theorem d_X_runs_44 : decode prog_1_method_17_code 44 = .ok (.iconst 1, 1) := by decide +kernel
theorem d_X_runs_45 : decode prog_1_method_17_code 45 = .ok (.isub, 1) := by decide +kernel
theorem d_X_runs_46 : decode prog_1_method_17_code 46 = .ok (.iaload, 1) := by decide +kernel
theorem d_X_runs_47 : decode prog_1_method_17_code 47 = .ok (.iconst 1, 1) := by decide +kernel
theorem d_X_runs_48 : decode prog_1_method_17_code 48 = .ok (.iadd, 1) := by decide +kernel
theorem d_X_runs_49 : decode prog_1_method_17_code 49 = .ok (.if_icmp .eq 6, 3) := by decide +kernel
theorem d_X_runs_52 : decode prog_1_method_17_code 52 = .ok (.iinc 3 1, 3) := by decide +kernel
theorem d_X_runs_55 : decode prog_1_method_17_code 55 = .ok (.iinc 4 1, 3) := by decide +kernel
theorem d_X_runs_58 : decode prog_1_method_17_code 58 = .ok (.goto (-41), 3) := by decide +kernel
theorem d_X_runs_61 : decode prog_1_method_17_code 61 = .ok (.iload_n 3, 1) := by decide +kernel
theorem d_X_runs_62 : decode prog_1_method_17_code 62 = .ok (.ireturn, 1) := by decide +kernel
theorem d_X_told_0 : decode prog_1_method_18_code 0 = .ok (.aload_n 0, 1) := by decide +kernel
theorem d_X_told_1 : decode prog_1_method_18_code 1 = .ok (.iload_n 1, 1) := by decide +kernel
theorem d_X_told_2 : decode prog_1_method_18_code 2 = .ok (.invokevirtual 71, 3) := by decide +kernel
theorem d_X_told_5 : decode prog_1_method_18_code 5 = .ok (.astore_n 3, 1) := by decide +kernel
theorem d_X_told_6 : decode prog_1_method_18_code 6 = .ok (.iload_n 2, 1) := by decide +kernel
theorem d_X_told_7 : decode prog_1_method_18_code 7 = .ok (.tableswitch 87 0 6 #[41, 49, 54, 59, 64, 77, 82], 41) := by decide +kernel
theorem d_X_told_48 : decode prog_1_method_18_code 48 = .ok (.aload_n 3, 1) := by decide +kernel
theorem d_X_told_49 : decode prog_1_method_18_code 49 = .ok (.getfield 129, 3) := by decide +kernel
theorem d_X_told_52 : decode prog_1_method_18_code 52 = .ok (.getfield 214, 3) := by decide +kernel
theorem d_X_told_55 : decode prog_1_method_18_code 55 = .ok (.ireturn, 1) := by decide +kernel
theorem d_X_told_56 : decode prog_1_method_18_code 56 = .ok (.aload_n 3, 1) := by decide +kernel
theorem d_X_told_57 : decode prog_1_method_18_code 57 = .ok (.getfield 90, 3) := by decide +kernel
theorem d_X_told_60 : decode prog_1_method_18_code 60 = .ok (.ireturn, 1) := by decide +kernel
theorem d_X_told_61 : decode prog_1_method_18_code 61 = .ok (.aload_n 3, 1) := by decide +kernel
theorem d_X_told_62 : decode prog_1_method_18_code 62 = .ok (.getfield 104, 3) := by decide +kernel
theorem d_X_told_65 : decode prog_1_method_18_code 65 = .ok (.ireturn, 1) := by decide +kernel
theorem d_X_told_66 : decode prog_1_method_18_code 66 = .ok (.aload_n 3, 1) := by decide +kernel
theorem d_X_told_67 : decode prog_1_method_18_code 67 = .ok (.getfield 139, 3) := by decide +kernel
theorem d_X_told_70 : decode prog_1_method_18_code 70 = .ok (.ireturn, 1) := by decide +kernel
theorem d_X_told_71 : decode prog_1_method_18_code 71 = .ok (.aload_n 3, 1) := by decide +kernel
theorem d_X_told_72 : decode prog_1_method_18_code 72 = .ok (.invokevirtual 217, 3) := by decide +kernel
theorem d_X_told_75 : decode prog_1_method_18_code 75 = .ok (.ifCond .eq 7, 3) := by decide +kernel
theorem d_X_told_78 : decode prog_1_method_18_code 78 = .ok (.iconst 1, 1) := by decide +kernel
theorem d_X_told_79 : decode prog_1_method_18_code 79 = .ok (.goto 4, 3) := by decide +kernel
theorem d_X_told_82 : decode prog_1_method_18_code 82 = .ok (.iconst 0, 1) := by decide +kernel
theorem d_X_told_83 : decode prog_1_method_18_code 83 = .ok (.ireturn, 1) := by decide +kernel
theorem d_X_told_84 : decode prog_1_method_18_code 84 = .ok (.aload_n 3, 1) := by decide +kernel
theorem d_X_told_85 : decode prog_1_method_18_code 85 = .ok (.invokevirtual 221, 3) := by decide +kernel
theorem d_X_told_88 : decode prog_1_method_18_code 88 = .ok (.ireturn, 1) := by decide +kernel
theorem d_X_told_89 : decode prog_1_method_18_code 89 = .ok (.aload_n 3, 1) := by decide +kernel
theorem d_X_told_90 : decode prog_1_method_18_code 90 = .ok (.invokevirtual 225, 3) := by decide +kernel
theorem d_X_told_93 : decode prog_1_method_18_code 93 = .ok (.ireturn, 1) := by decide +kernel
theorem d_X_told_94 : decode prog_1_method_18_code 94 = .ok (.new 44, 3) := by decide +kernel
theorem d_X_told_97 : decode prog_1_method_18_code 97 = .ok (.dup, 1) := by decide +kernel
theorem d_X_told_98 : decode prog_1_method_18_code 98 = .ok (.ldc 228, 2) := by decide +kernel
theorem d_X_told_100 : decode prog_1_method_18_code 100 = .ok (.invokespecial 48, 3) := by decide +kernel
theorem d_X_told_103 : decode prog_1_method_18_code 103 = .ok (.athrow, 1) := by decide +kernel
theorem d_X_axis_0 : decode prog_1_method_19_code 0 = .ok (.aload_n 0, 1) := by decide +kernel
theorem d_X_axis_1 : decode prog_1_method_19_code 1 = .ok (.iload_n 1, 1) := by decide +kernel
theorem d_X_axis_2 : decode prog_1_method_19_code 2 = .ok (.invokevirtual 71, 3) := by decide +kernel
theorem d_X_axis_5 : decode prog_1_method_19_code 5 = .ok (.astore 4, 2) := by decide +kernel
theorem d_X_axis_7 : decode prog_1_method_19_code 7 = .ok (.aload 4, 2) := by decide +kernel
theorem d_X_axis_9 : decode prog_1_method_19_code 9 = .ok (.iload_n 2, 1) := by decide +kernel
theorem d_X_axis_10 : decode prog_1_method_19_code 10 = .ok (.invokestatic 75, 3) := by decide +kernel
theorem d_X_axis_13 : decode prog_1_method_19_code 13 = .ok (.iload_n 3, 1) := by decide +kernel
theorem d_X_axis_14 : decode prog_1_method_19_code 14 = .ok (.lookupswitch 42 #[(0, 26), (1, 34)], 26) := by decide +kernel
theorem d_X_axis_40 : decode prog_1_method_19_code 40 = .ok (.aload 4, 2) := by decide +kernel
theorem d_X_axis_42 : decode prog_1_method_19_code 42 = .ok (.getfield 79, 3) := by decide +kernel
theorem d_X_axis_45 : decode prog_1_method_19_code 45 = .ok (.iload_n 2, 1) := by decide +kernel
theorem d_X_axis_46 : decode prog_1_method_19_code 46 = .ok (.iaload, 1) := by decide +kernel
theorem d_X_axis_47 : decode prog_1_method_19_code 47 = .ok (.ireturn, 1) := by decide +kernel
theorem d_X_axis_48 : decode prog_1_method_19_code 48 = .ok (.aload 4, 2) := by decide +kernel
theorem d_X_axis_50 : decode prog_1_method_19_code 50 = .ok (.getfield 93, 3) := by decide +kernel
theorem d_X_axis_53 : decode prog_1_method_19_code 53 = .ok (.iload_n 2, 1) := by decide +kernel
theorem d_X_axis_54 : decode prog_1_method_19_code 54 = .ok (.iaload, 1) := by decide +kernel
theorem d_X_axis_55 : decode prog_1_method_19_code 55 = .ok (.ireturn, 1) := by decide +kernel
theorem d_X_axis_56 : decode prog_1_method_19_code 56 = .ok (.new 44, 3) := by decide +kernel
theorem d_X_axis_59 : decode prog_1_method_19_code 59 = .ok (.dup, 1) := by decide +kernel
theorem d_X_axis_60 : decode prog_1_method_19_code 60 = .ok (.ldc 230, 2) := by decide +kernel
theorem d_X_axis_62 : decode prog_1_method_19_code 62 = .ok (.invokespecial 48, 3) := by decide +kernel
theorem d_X_axis_65 : decode prog_1_method_19_code 65 = .ok (.athrow, 1) := by decide +kernel
theorem d_X_stored_0 : decode prog_1_method_20_code 0 = .ok (.iload_n 1, 1) := by decide +kernel
theorem d_X_stored_1 : decode prog_1_method_20_code 1 = .ok (.ifCond .lt 11, 3) := by decide +kernel
theorem d_X_stored_4 : decode prog_1_method_20_code 4 = .ok (.iload_n 1, 1) := by decide +kernel
theorem d_X_stored_5 : decode prog_1_method_20_code 5 = .ok (.aload_n 0, 1) := by decide +kernel
theorem d_X_stored_6 : decode prog_1_method_20_code 6 = .ok (.getfield 33, 3) := by decide +kernel
theorem d_X_stored_9 : decode prog_1_method_20_code 9 = .ok (.if_icmp .lt 13, 3) := by decide +kernel
theorem d_X_stored_12 : decode prog_1_method_20_code 12 = .ok (.new 96, 3) := by decide +kernel
theorem d_X_stored_15 : decode prog_1_method_20_code 15 = .ok (.dup, 1) := by decide +kernel
theorem d_X_stored_16 : decode prog_1_method_20_code 16 = .ok (.ldc 232, 2) := by decide +kernel
theorem d_X_stored_18 : decode prog_1_method_20_code 18 = .ok (.invokespecial 100, 3) := by decide +kernel
theorem d_X_stored_21 : decode prog_1_method_20_code 21 = .ok (.athrow, 1) := by decide +kernel
theorem d_X_stored_22 : decode prog_1_method_20_code 22 = .ok (.iload_n 2, 1) := by decide +kernel
theorem d_X_stored_23 : decode prog_1_method_20_code 23 = .ok (.tableswitch 56 0 2 #[25, 35, 46], 25) := by decide +kernel
theorem d_X_stored_48 : decode prog_1_method_20_code 48 = .ok (.aload_n 0, 1) := by decide +kernel
theorem d_X_stored_49 : decode prog_1_method_20_code 49 = .ok (.getfield 11, 3) := by decide +kernel
theorem d_X_stored_52 : decode prog_1_method_20_code 52 = .ok (.iload_n 1, 1) := by decide +kernel
theorem d_X_stored_53 : decode prog_1_method_20_code 53 = .ok (.aaload, 1) := by decide +kernel
theorem d_X_stored_54 : decode prog_1_method_20_code 54 = .ok (.getfield 234, 3) := by decide +kernel
theorem d_X_stored_57 : decode prog_1_method_20_code 57 = .ok (.ireturn, 1) := by decide +kernel
theorem d_X_stored_58 : decode prog_1_method_20_code 58 = .ok (.aload_n 0, 1) := by decide +kernel
theorem d_X_stored_59 : decode prog_1_method_20_code 59 = .ok (.getfield 11, 3) := by decide +kernel
theorem d_X_stored_62 : decode prog_1_method_20_code 62 = .ok (.iload_n 1, 1) := by decide +kernel
theorem d_X_stored_63 : decode prog_1_method_20_code 63 = .ok (.aaload, 1) := by decide +kernel
theorem d_X_stored_64 : decode prog_1_method_20_code 64 = .ok (.getfield 176, 3) := by decide +kernel
theorem d_X_stored_67 : decode prog_1_method_20_code 67 = .ok (.arraylength, 1) := by decide +kernel
theorem d_X_stored_68 : decode prog_1_method_20_code 68 = .ok (.ireturn, 1) := by decide +kernel
theorem d_X_stored_69 : decode prog_1_method_20_code 69 = .ok (.aload_n 0, 1) := by decide +kernel
theorem d_X_stored_70 : decode prog_1_method_20_code 70 = .ok (.getfield 11, 3) := by decide +kernel
theorem d_X_stored_73 : decode prog_1_method_20_code 73 = .ok (.iload_n 1, 1) := by decide +kernel
theorem d_X_stored_74 : decode prog_1_method_20_code 74 = .ok (.aaload, 1) := by decide +kernel
theorem d_X_stored_75 : decode prog_1_method_20_code 75 = .ok (.getfield 237, 3) := by decide +kernel
theorem d_X_stored_78 : decode prog_1_method_20_code 78 = .ok (.ireturn, 1) := by decide +kernel
theorem d_X_stored_79 : decode prog_1_method_20_code 79 = .ok (.new 44, 3) := by decide +kernel
theorem d_X_stored_82 : decode prog_1_method_20_code 82 = .ok (.dup, 1) := by decide +kernel
theorem d_X_stored_83 : decode prog_1_method_20_code 83 = .ok (.ldc 240, 2) := by decide +kernel
theorem d_X_stored_85 : decode prog_1_method_20_code 85 = .ok (.invokespecial 48, 3) := by decide +kernel
theorem d_X_stored_88 : decode prog_1_method_20_code 88 = .ok (.athrow, 1) := by decide +kernel
theorem d_X_count_0 : decode prog_1_method_21_code 0 = .ok (.iload_n 1, 1) := by decide +kernel
theorem d_X_count_1 : decode prog_1_method_21_code 1 = .ok (.lookupswitch 37 #[(0, 27), (1, 32)], 27) := by decide +kernel
theorem d_X_count_28 : decode prog_1_method_21_code 28 = .ok (.aload_n 0, 1) := by decide +kernel
theorem d_X_count_29 : decode prog_1_method_21_code 29 = .ok (.getfield 33, 3) := by decide +kernel
theorem d_X_count_32 : decode prog_1_method_21_code 32 = .ok (.ireturn, 1) := by decide +kernel
theorem d_X_count_33 : decode prog_1_method_21_code 33 = .ok (.aload_n 0, 1) := by decide +kernel
theorem d_X_count_34 : decode prog_1_method_21_code 34 = .ok (.getfield 37, 3) := by decide +kernel
theorem d_X_count_37 : decode prog_1_method_21_code 37 = .ok (.ireturn, 1) := by decide +kernel
theorem d_X_count_38 : decode prog_1_method_21_code 38 = .ok (.new 44, 3) := by decide +kernel
theorem d_X_count_41 : decode prog_1_method_21_code 41 = .ok (.dup, 1) := by decide +kernel
theorem d_X_count_42 : decode prog_1_method_21_code 42 = .ok (.ldc 242, 2) := by decide +kernel
theorem d_X_count_44 : decode prog_1_method_21_code 44 = .ok (.invokespecial 48, 3) := by decide +kernel
theorem d_X_count_47 : decode prog_1_method_21_code 47 = .ok (.athrow, 1) := by decide +kernel
end
section
/-! decode rows -/
theorem d_M_init_0 : decode prog_5_method_1_code 0 = .ok (.aload_n 0, 1) := by decide +kernel
theorem d_M_init_1 : decode prog_5_method_1_code 1 = .ok (.invokespecial 1, 3) := by decide +kernel
theorem d_M_init_4 : decode prog_5_method_1_code 4 = .ok (.aload_n 0, 1) := by decide +kernel
theorem d_M_init_5 : decode prog_5_method_1_code 5 = .ok (.bipush 12, 2) := by decide +kernel
theorem d_M_init_7 : decode prog_5_method_1_code 7 = .ok (.newarray .int, 2) := by decide +kernel
theorem d_M_init_9 : decode prog_5_method_1_code 9 = .ok (.putfield 7, 3) := by decide +kernel
theorem d_M_init_12 : decode prog_5_method_1_code 12 = .ok (.aload_n 0, 1) := by decide +kernel
theorem d_M_init_13 : decode prog_5_method_1_code 13 = .ok (.bipush 12, 2) := by decide +kernel
theorem d_M_init_15 : decode prog_5_method_1_code 15 = .ok (.newarray .int, 2) := by decide +kernel
theorem d_M_init_17 : decode prog_5_method_1_code 17 = .ok (.putfield 13, 3) := by decide +kernel
theorem d_M_init_20 : decode prog_5_method_1_code 20 = .ok (.aload_n 0, 1) := by decide +kernel
theorem d_M_init_21 : decode prog_5_method_1_code 21 = .ok (.sipush 3600, 3) := by decide +kernel
theorem d_M_init_24 : decode prog_5_method_1_code 24 = .ok (.newarray .long, 2) := by decide +kernel
theorem d_M_init_26 : decode prog_5_method_1_code 26 = .ok (.putfield 16, 3) := by decide +kernel
theorem d_M_init_29 : decode prog_5_method_1_code 29 = .ok (.aload_n 0, 1) := by decide +kernel
theorem d_M_init_30 : decode prog_5_method_1_code 30 = .ok (.bipush 80, 2) := by decide +kernel
theorem d_M_init_32 : decode prog_5_method_1_code 32 = .ok (.newarray .int, 2) := by decide +kernel
theorem d_M_init_34 : decode prog_5_method_1_code 34 = .ok (.putfield 20, 3) := by decide +kernel
theorem d_M_init_37 : decode prog_5_method_1_code 37 = .ok (.aload_n 0, 1) := by decide +kernel
theorem d_M_init_38 : decode prog_5_method_1_code 38 = .ok (.bipush 80, 2) := by decide +kernel
theorem d_M_init_40 : decode prog_5_method_1_code 40 = .ok (.newarray .int, 2) := by decide +kernel
theorem d_M_init_42 : decode prog_5_method_1_code 42 = .ok (.putfield 23, 3) := by decide +kernel
theorem d_M_init_45 : decode prog_5_method_1_code 45 = .ok (.aload_n 0, 1) := by decide +kernel
theorem d_M_init_46 : decode prog_5_method_1_code 46 = .ok (.bipush 80, 2) := by decide +kernel
theorem d_M_init_48 : decode prog_5_method_1_code 48 = .ok (.newarray .int, 2) := by decide +kernel
theorem d_M_init_50 : decode prog_5_method_1_code 50 = .ok (.putfield 26, 3) := by decide +kernel
theorem d_M_init_53 : decode prog_5_method_1_code 53 = .ok (.aload_n 0, 1) := by decide +kernel
theorem d_M_init_54 : decode prog_5_method_1_code 54 = .ok (.sipush 320, 3) := by decide +kernel
theorem d_M_init_57 : decode prog_5_method_1_code 57 = .ok (.newarray .int, 2) := by decide +kernel
theorem d_M_init_59 : decode prog_5_method_1_code 59 = .ok (.putfield 29, 3) := by decide +kernel
theorem d_M_init_62 : decode prog_5_method_1_code 62 = .ok (.aload_n 0, 1) := by decide +kernel
theorem d_M_init_63 : decode prog_5_method_1_code 63 = .ok (.sipush 320, 3) := by decide +kernel
theorem d_M_init_66 : decode prog_5_method_1_code 66 = .ok (.newarray .int, 2) := by decide +kernel
theorem d_M_init_68 : decode prog_5_method_1_code 68 = .ok (.putfield 32, 3) := by decide +kernel
theorem d_M_init_71 : decode prog_5_method_1_code 71 = .ok (.aload_n 0, 1) := by decide +kernel
theorem d_M_init_72 : decode prog_5_method_1_code 72 = .ok (.iconst 5, 1) := by decide +kernel
theorem d_M_init_73 : decode prog_5_method_1_code 73 = .ok (.newarray .long, 2) := by decide +kernel
theorem d_M_init_75 : decode prog_5_method_1_code 75 = .ok (.putfield 35, 3) := by decide +kernel
theorem d_M_init_78 : decode prog_5_method_1_code 78 = .ok (.aload_n 0, 1) := by decide +kernel
theorem d_M_init_79 : decode prog_5_method_1_code 79 = .ok (.iconst 5, 1) := by decide +kernel
theorem d_M_init_80 : decode prog_5_method_1_code 80 = .ok (.newarray .long, 2) := by decide +kernel
theorem d_M_init_82 : decode prog_5_method_1_code 82 = .ok (.putfield 38, 3) := by decide +kernel
theorem d_M_init_85 : decode prog_5_method_1_code 85 = .ok (.aload_n 0, 1) := by decide +kernel
theorem d_M_init_86 : decode prog_5_method_1_code 86 = .ok (.sipush 3000, 3) := by decide +kernel
theorem d_M_init_89 : decode prog_5_method_1_code 89 = .ok (.newarray .long, 2) := by decide +kernel
theorem d_M_init_91 : decode prog_5_method_1_code 91 = .ok (.putfield 41, 3) := by decide +kernel
theorem d_M_init_94 : decode prog_5_method_1_code 94 = .ok (.aload_n 0, 1) := by decide +kernel
theorem d_M_init_95 : decode prog_5_method_1_code 95 = .ok (.sipush 300, 3) := by decide +kernel
theorem d_M_init_98 : decode prog_5_method_1_code 98 = .ok (.newarray .boolean, 2) := by decide +kernel
theorem d_M_init_100 : decode prog_5_method_1_code 100 = .ok (.putfield 44, 3) := by decide +kernel
theorem d_M_init_103 : decode prog_5_method_1_code 103 = .ok (.return_, 1) := by decide +kernel
theorem d_M_thrown_0 : decode prog_5_method_2_code 0 = .ok (.aload_n 0, 1) := by decide +kernel
theorem d_M_thrown_1 : decode prog_5_method_2_code 1 = .ok (.getfield 48, 3) := by decide +kernel
theorem d_M_thrown_4 : decode prog_5_method_2_code 4 = .ok (.ireturn, 1) := by decide +kernel
theorem d_M_store_0 : decode prog_5_method_21_code 0 = .ok (.aload_n 0, 1) := by decide +kernel
theorem d_M_store_1 : decode prog_5_method_21_code 1 = .ok (.iload_n 1, 1) := by decide +kernel
theorem d_M_store_2 : decode prog_5_method_21_code 2 = .ok (.invokestatic 87, 3) := by decide +kernel
theorem d_M_store_5 : decode prog_5_method_21_code 5 = .ok (.ifCond .eq 18, 3) := by decide +kernel
theorem d_M_store_8 : decode prog_5_method_21_code 8 = .ok (.iload_n 2, 1) := by decide +kernel
theorem d_M_store_9 : decode prog_5_method_21_code 9 = .ok (.ifCond .lt 14, 3) := by decide +kernel
theorem d_M_store_12 : decode prog_5_method_21_code 12 = .ok (.iload_n 2, 1) := by decide +kernel
theorem d_M_store_13 : decode prog_5_method_21_code 13 = .ok (.sipush 300, 3) := by decide +kernel
theorem d_M_store_16 : decode prog_5_method_21_code 16 = .ok (.if_icmp .gt 7, 3) := by decide +kernel
theorem d_M_store_19 : decode prog_5_method_21_code 19 = .ok (.iconst 1, 1) := by decide +kernel
theorem d_M_store_20 : decode prog_5_method_21_code 20 = .ok (.goto 4, 3) := by decide +kernel
theorem d_M_store_23 : decode prog_5_method_21_code 23 = .ok (.iconst 0, 1) := by decide +kernel
theorem d_M_store_24 : decode prog_5_method_21_code 24 = .ok (.aload_n 0, 1) := by decide +kernel
theorem d_M_store_25 : decode prog_5_method_21_code 25 = .ok (.getfield 84, 3) := by decide +kernel
theorem d_M_store_28 : decode prog_5_method_21_code 28 = .ok (.bipush 12, 2) := by decide +kernel
theorem d_M_store_30 : decode prog_5_method_21_code 30 = .ok (.if_icmp .ge 16, 3) := by decide +kernel
theorem d_M_store_33 : decode prog_5_method_21_code 33 = .ok (.aload_n 0, 1) := by decide +kernel
theorem d_M_store_34 : decode prog_5_method_21_code 34 = .ok (.getfield 52, 3) := by decide +kernel
theorem d_M_store_37 : decode prog_5_method_21_code 37 = .ok (.bipush 80, 2) := by decide +kernel
theorem d_M_store_39 : decode prog_5_method_21_code 39 = .ok (.if_icmp .ge 7, 3) := by decide +kernel
theorem d_M_store_42 : decode prog_5_method_21_code 42 = .ok (.iconst 1, 1) := by decide +kernel
theorem d_M_store_43 : decode prog_5_method_21_code 43 = .ok (.goto 4, 3) := by decide +kernel
theorem d_M_store_46 : decode prog_5_method_21_code 46 = .ok (.iconst 0, 1) := by decide +kernel
theorem d_M_store_47 : decode prog_5_method_21_code 47 = .ok (.invokevirtual 90, 3) := by decide +kernel
theorem d_M_store_50 : decode prog_5_method_21_code 50 = .ok (.ifCond .ne 5, 3) := by decide +kernel
theorem d_M_store_53 : decode prog_5_method_21_code 53 = .ok (.iconst 0, 1) := by decide +kernel
theorem d_M_store_54 : decode prog_5_method_21_code 54 = .ok (.ireturn, 1) := by decide +kernel
theorem d_M_store_55 : decode prog_5_method_21_code 55 = .ok (.aload_n 0, 1) := by decide +kernel
theorem d_M_store_56 : decode prog_5_method_21_code 56 = .ok (.iconst 0, 1) := by decide +kernel
theorem d_M_store_57 : decode prog_5_method_21_code 57 = .ok (.putfield 59, 3) := by decide +kernel
theorem d_M_store_60 : decode prog_5_method_21_code 60 = .ok (.aload_n 0, 1) := by decide +kernel
theorem d_M_store_61 : decode prog_5_method_21_code 61 = .ok (.iload_n 2, 1) := by decide +kernel
theorem d_M_store_62 : decode prog_5_method_21_code 62 = .ok (.i2l, 1) := by decide +kernel
theorem d_M_store_63 : decode prog_5_method_21_code 63 = .ok (.lconst 1, 1) := by decide +kernel
theorem d_M_store_64 : decode prog_5_method_21_code 64 = .ok (.invokevirtual 94, 3) := by decide +kernel
theorem d_M_store_67 : decode prog_5_method_21_code 67 = .ok (.aload_n 0, 1) := by decide +kernel
theorem d_M_store_68 : decode prog_5_method_21_code 68 = .ok (.aload_n 0, 1) := by decide +kernel
theorem d_M_store_69 : decode prog_5_method_21_code 69 = .ok (.iload_n 1, 1) := by decide +kernel
theorem d_M_store_70 : decode prog_5_method_21_code 70 = .ok (.iload_n 2, 1) := by decide +kernel
theorem d_M_store_71 : decode prog_5_method_21_code 71 = .ok (.invokevirtual 98, 3) := by decide +kernel
theorem d_M_store_74 : decode prog_5_method_21_code 74 = .ok (.lconst 0, 1) := by decide +kernel
theorem d_M_store_75 : decode prog_5_method_21_code 75 = .ok (.invokevirtual 101, 3) := by decide +kernel
theorem d_M_store_78 : decode prog_5_method_21_code 78 = .ok (.ireturn, 1) := by decide +kernel
theorem d_M_isLane_0 : decode prog_5_method_20_code 0 = .ok (.iload_n 0, 1) := by decide +kernel
theorem d_M_isLane_1 : decode prog_5_method_20_code 1 = .ok (.ifCond .lt 12, 3) := by decide +kernel
theorem d_M_isLane_4 : decode prog_5_method_20_code 4 = .ok (.iload_n 0, 1) := by decide +kernel
theorem d_M_isLane_5 : decode prog_5_method_20_code 5 = .ok (.iconst 4, 1) := by decide +kernel
theorem d_M_isLane_6 : decode prog_5_method_20_code 6 = .ok (.if_icmp .ge 7, 3) := by decide +kernel
theorem d_M_isLane_9 : decode prog_5_method_20_code 9 = .ok (.iconst 1, 1) := by decide +kernel
theorem d_M_isLane_10 : decode prog_5_method_20_code 10 = .ok (.goto 4, 3) := by decide +kernel
theorem d_M_isLane_13 : decode prog_5_method_20_code 13 = .ok (.iconst 0, 1) := by decide +kernel
theorem d_M_isLane_14 : decode prog_5_method_20_code 14 = .ok (.ireturn, 1) := by decide +kernel
theorem d_M_goesOf_0 : decode prog_5_method_6_code 0 = .ok (.aload_n 0, 1) := by decide +kernel
theorem d_M_goesOf_1 : decode prog_5_method_6_code 1 = .ok (.iload_n 1, 1) := by decide +kernel
theorem d_M_goesOf_2 : decode prog_5_method_6_code 2 = .ok (.ifCond .ne 7, 3) := by decide +kernel
theorem d_M_goesOf_5 : decode prog_5_method_6_code 5 = .ok (.iconst 1, 1) := by decide +kernel
theorem d_M_goesOf_6 : decode prog_5_method_6_code 6 = .ok (.goto 12, 3) := by decide +kernel
theorem d_M_goesOf_9 : decode prog_5_method_6_code 9 = .ok (.iload_n 2, 1) := by decide +kernel
theorem d_M_goesOf_10 : decode prog_5_method_6_code 10 = .ok (.ifCond .ne 7, 3) := by decide +kernel
theorem d_M_goesOf_13 : decode prog_5_method_6_code 13 = .ok (.iconst 2, 1) := by decide +kernel
theorem d_M_goesOf_14 : decode prog_5_method_6_code 14 = .ok (.goto 4, 3) := by decide +kernel
theorem d_M_goesOf_17 : decode prog_5_method_6_code 17 = .ok (.iconst 0, 1) := by decide +kernel
theorem d_M_goesOf_18 : decode prog_5_method_6_code 18 = .ok (.putfield 48, 3) := by decide +kernel
theorem d_M_goesOf_21 : decode prog_5_method_6_code 21 = .ok (.aload_n 0, 1) := by decide +kernel
theorem d_M_goesOf_22 : decode prog_5_method_6_code 22 = .ok (.getfield 48, 3) := by decide +kernel
theorem d_M_goesOf_25 : decode prog_5_method_6_code 25 = .ok (.ifCond .ne 7, 3) := by decide +kernel
theorem d_M_goesOf_28 : decode prog_5_method_6_code 28 = .ok (.iconst 1, 1) := by decide +kernel
theorem d_M_goesOf_29 : decode prog_5_method_6_code 29 = .ok (.goto 4, 3) := by decide +kernel
theorem d_M_goesOf_32 : decode prog_5_method_6_code 32 = .ok (.iconst 0, 1) := by decide +kernel
theorem d_M_goesOf_33 : decode prog_5_method_6_code 33 = .ok (.ireturn, 1) := by decide +kernel
theorem d_M_more_0 : decode prog_5_method_16_code 0 = .ok (.aload_n 0, 1) := by decide +kernel
theorem d_M_more_1 : decode prog_5_method_16_code 1 = .ok (.getfield 35, 3) := by decide +kernel
theorem d_M_more_4 : decode prog_5_method_16_code 4 = .ok (.aload_n 0, 1) := by decide +kernel
theorem d_M_more_5 : decode prog_5_method_16_code 5 = .ok (.getfield 59, 3) := by decide +kernel
theorem d_M_more_8 : decode prog_5_method_16_code 8 = .ok (.lload_n 1, 1) := by decide +kernel
theorem d_M_more_9 : decode prog_5_method_16_code 9 = .ok (.lastore, 1) := by decide +kernel
theorem d_M_more_10 : decode prog_5_method_16_code 10 = .ok (.aload_n 0, 1) := by decide +kernel
theorem d_M_more_11 : decode prog_5_method_16_code 11 = .ok (.getfield 38, 3) := by decide +kernel
theorem d_M_more_14 : decode prog_5_method_16_code 14 = .ok (.aload_n 0, 1) := by decide +kernel
theorem d_M_more_15 : decode prog_5_method_16_code 15 = .ok (.getfield 59, 3) := by decide +kernel
theorem d_M_more_18 : decode prog_5_method_16_code 18 = .ok (.lload_n 3, 1) := by decide +kernel
theorem d_M_more_19 : decode prog_5_method_16_code 19 = .ok (.lastore, 1) := by decide +kernel
theorem d_M_more_20 : decode prog_5_method_16_code 20 = .ok (.aload_n 0, 1) := by decide +kernel
theorem d_M_more_21 : decode prog_5_method_16_code 21 = .ok (.dup, 1) := by decide +kernel
theorem d_M_more_22 : decode prog_5_method_16_code 22 = .ok (.getfield 59, 3) := by decide +kernel
theorem d_M_more_25 : decode prog_5_method_16_code 25 = .ok (.iconst 1, 1) := by decide +kernel
theorem d_M_more_26 : decode prog_5_method_16_code 26 = .ok (.iadd, 1) := by decide +kernel
theorem d_M_more_27 : decode prog_5_method_16_code 27 = .ok (.putfield 59, 3) := by decide +kernel
theorem d_M_more_30 : decode prog_5_method_16_code 30 = .ok (.return_, 1) := by decide +kernel
theorem d_M_addStore_0 : decode prog_5_method_19_code 0 = .ok (.aload_n 0, 1) := by decide +kernel
theorem d_M_addStore_1 : decode prog_5_method_19_code 1 = .ok (.getfield 7, 3) := by decide +kernel
theorem d_M_addStore_4 : decode prog_5_method_19_code 4 = .ok (.aload_n 0, 1) := by decide +kernel
theorem d_M_addStore_5 : decode prog_5_method_19_code 5 = .ok (.getfield 84, 3) := by decide +kernel
theorem d_M_addStore_8 : decode prog_5_method_19_code 8 = .ok (.iload_n 1, 1) := by decide +kernel
theorem d_M_addStore_9 : decode prog_5_method_19_code 9 = .ok (.iastore, 1) := by decide +kernel
theorem d_M_addStore_10 : decode prog_5_method_19_code 10 = .ok (.aload_n 0, 1) := by decide +kernel
theorem d_M_addStore_11 : decode prog_5_method_19_code 11 = .ok (.getfield 13, 3) := by decide +kernel
theorem d_M_addStore_14 : decode prog_5_method_19_code 14 = .ok (.aload_n 0, 1) := by decide +kernel
theorem d_M_addStore_15 : decode prog_5_method_19_code 15 = .ok (.getfield 84, 3) := by decide +kernel
theorem d_M_addStore_18 : decode prog_5_method_19_code 18 = .ok (.iload_n 2, 1) := by decide +kernel
theorem d_M_addStore_19 : decode prog_5_method_19_code 19 = .ok (.iastore, 1) := by decide +kernel
theorem d_M_addStore_20 : decode prog_5_method_19_code 20 = .ok (.aload_n 0, 1) := by decide +kernel
theorem d_M_addStore_21 : decode prog_5_method_19_code 21 = .ok (.dup, 1) := by decide +kernel
theorem d_M_addStore_22 : decode prog_5_method_19_code 22 = .ok (.getfield 84, 3) := by decide +kernel
theorem d_M_addStore_25 : decode prog_5_method_19_code 25 = .ok (.iconst 1, 1) := by decide +kernel
theorem d_M_addStore_26 : decode prog_5_method_19_code 26 = .ok (.iadd, 1) := by decide +kernel
theorem d_M_addStore_27 : decode prog_5_method_19_code 27 = .ok (.putfield 84, 3) := by decide +kernel
theorem d_M_addStore_30 : decode prog_5_method_19_code 30 = .ok (.aload_n 0, 1) := by decide +kernel
theorem d_M_addStore_31 : decode prog_5_method_19_code 31 = .ok (.getfield 84, 3) := by decide +kernel
theorem d_M_addStore_34 : decode prog_5_method_19_code 34 = .ok (.iconst 1, 1) := by decide +kernel
theorem d_M_addStore_35 : decode prog_5_method_19_code 35 = .ok (.isub, 1) := by decide +kernel
theorem d_M_addStore_36 : decode prog_5_method_19_code 36 = .ok (.ireturn, 1) := by decide +kernel
theorem d_M_add_0 : decode prog_5_method_17_code 0 = .ok (.aload_n 0, 1) := by decide +kernel
theorem d_M_add_1 : decode prog_5_method_17_code 1 = .ok (.getfield 52, 3) := by decide +kernel
theorem d_M_add_4 : decode prog_5_method_17_code 4 = .ok (.istore 4, 2) := by decide +kernel
theorem d_M_add_6 : decode prog_5_method_17_code 6 = .ok (.aload_n 0, 1) := by decide +kernel
theorem d_M_add_7 : decode prog_5_method_17_code 7 = .ok (.invokevirtual 78, 3) := by decide +kernel
theorem d_M_add_10 : decode prog_5_method_17_code 10 = .ok (.lconst 0, 1) := by decide +kernel
theorem d_M_add_11 : decode prog_5_method_17_code 11 = .ok (.lcmp, 1) := by decide +kernel
theorem d_M_add_12 : decode prog_5_method_17_code 12 = .ok (.ifCond .ne 7, 3) := by decide +kernel
theorem d_M_add_15 : decode prog_5_method_17_code 15 = .ok (.iconst 1, 1) := by decide +kernel
theorem d_M_add_16 : decode prog_5_method_17_code 16 = .ok (.goto 4, 3) := by decide +kernel
theorem d_M_add_19 : decode prog_5_method_17_code 19 = .ok (.iconst 0, 1) := by decide +kernel
theorem d_M_add_20 : decode prog_5_method_17_code 20 = .ok (.istore 5, 2) := by decide +kernel
theorem d_M_add_22 : decode prog_5_method_17_code 22 = .ok (.aload_n 0, 1) := by decide +kernel
theorem d_M_add_23 : decode prog_5_method_17_code 23 = .ok (.getfield 20, 3) := by decide +kernel
theorem d_M_add_26 : decode prog_5_method_17_code 26 = .ok (.iload 4, 2) := by decide +kernel
theorem d_M_add_28 : decode prog_5_method_17_code 28 = .ok (.iload_n 1, 1) := by decide +kernel
theorem d_M_add_29 : decode prog_5_method_17_code 29 = .ok (.iastore, 1) := by decide +kernel
theorem d_M_add_30 : decode prog_5_method_17_code 30 = .ok (.aload_n 0, 1) := by decide +kernel
theorem d_M_add_31 : decode prog_5_method_17_code 31 = .ok (.getfield 23, 3) := by decide +kernel
theorem d_M_add_34 : decode prog_5_method_17_code 34 = .ok (.iload 4, 2) := by decide +kernel
theorem d_M_add_36 : decode prog_5_method_17_code 36 = .ok (.iload 5, 2) := by decide +kernel
theorem d_M_add_38 : decode prog_5_method_17_code 38 = .ok (.ifCond .eq 7, 3) := by decide +kernel
theorem d_M_add_41 : decode prog_5_method_17_code 41 = .ok (.iconst 0, 1) := by decide +kernel
theorem d_M_add_42 : decode prog_5_method_17_code 42 = .ok (.goto 5, 3) := by decide +kernel
theorem d_M_add_45 : decode prog_5_method_17_code 45 = .ok (.lload_n 2, 1) := by decide +kernel
theorem d_M_add_46 : decode prog_5_method_17_code 46 = .ok (.l2i, 1) := by decide +kernel
theorem d_M_add_47 : decode prog_5_method_17_code 47 = .ok (.iastore, 1) := by decide +kernel
theorem d_M_add_48 : decode prog_5_method_17_code 48 = .ok (.aload_n 0, 1) := by decide +kernel
theorem d_M_add_49 : decode prog_5_method_17_code 49 = .ok (.getfield 26, 3) := by decide +kernel
theorem d_M_add_52 : decode prog_5_method_17_code 52 = .ok (.iload 4, 2) := by decide +kernel
theorem d_M_add_54 : decode prog_5_method_17_code 54 = .ok (.aload_n 0, 1) := by decide +kernel
theorem d_M_add_55 : decode prog_5_method_17_code 55 = .ok (.getfield 59, 3) := by decide +kernel
theorem d_M_add_58 : decode prog_5_method_17_code 58 = .ok (.iastore, 1) := by decide +kernel
theorem d_M_add_59 : decode prog_5_method_17_code 59 = .ok (.iconst 0, 1) := by decide +kernel
theorem d_M_add_60 : decode prog_5_method_17_code 60 = .ok (.istore 6, 2) := by decide +kernel
theorem d_M_add_62 : decode prog_5_method_17_code 62 = .ok (.iload 6, 2) := by decide +kernel
theorem d_M_add_64 : decode prog_5_method_17_code 64 = .ok (.aload_n 0, 1) := by decide +kernel
theorem d_M_add_65 : decode prog_5_method_17_code 65 = .ok (.getfield 59, 3) := by decide +kernel
theorem d_M_add_68 : decode prog_5_method_17_code 68 = .ok (.if_icmp .ge 72, 3) := by decide +kernel
theorem d_M_add_71 : decode prog_5_method_17_code 71 = .ok (.aload_n 0, 1) := by decide +kernel
theorem d_M_add_72 : decode prog_5_method_17_code 72 = .ok (.getfield 29, 3) := by decide +kernel
theorem d_M_add_75 : decode prog_5_method_17_code 75 = .ok (.iconst 4, 1) := by decide +kernel
theorem d_M_add_76 : decode prog_5_method_17_code 76 = .ok (.iload 4, 2) := by decide +kernel
theorem d_M_add_78 : decode prog_5_method_17_code 78 = .ok (.imul, 1) := by decide +kernel
theorem d_M_add_79 : decode prog_5_method_17_code 79 = .ok (.iload 6, 2) := by decide +kernel
theorem d_M_add_81 : decode prog_5_method_17_code 81 = .ok (.iadd, 1) := by decide +kernel
theorem d_M_add_82 : decode prog_5_method_17_code 82 = .ok (.aload_n 0, 1) := by decide +kernel
theorem d_M_add_83 : decode prog_5_method_17_code 83 = .ok (.getfield 35, 3) := by decide +kernel
theorem d_M_add_86 : decode prog_5_method_17_code 86 = .ok (.iload 6, 2) := by decide +kernel
theorem d_M_add_88 : decode prog_5_method_17_code 88 = .ok (.laload, 1) := by decide +kernel
theorem d_M_add_89 : decode prog_5_method_17_code 89 = .ok (.l2i, 1) := by decide +kernel
theorem d_M_add_90 : decode prog_5_method_17_code 90 = .ok (.iastore, 1) := by decide +kernel
theorem d_M_add_91 : decode prog_5_method_17_code 91 = .ok (.aload_n 0, 1) := by decide +kernel
theorem d_M_add_92 : decode prog_5_method_17_code 92 = .ok (.getfield 32, 3) := by decide +kernel
theorem d_M_add_95 : decode prog_5_method_17_code 95 = .ok (.iconst 4, 1) := by decide +kernel
theorem d_M_add_96 : decode prog_5_method_17_code 96 = .ok (.iload 4, 2) := by decide +kernel
theorem d_M_add_98 : decode prog_5_method_17_code 98 = .ok (.imul, 1) := by decide +kernel
theorem d_M_add_99 : decode prog_5_method_17_code 99 = .ok (.iload 6, 2) := by decide +kernel
theorem d_M_add_101 : decode prog_5_method_17_code 101 = .ok (.iadd, 1) := by decide +kernel
theorem d_M_add_102 : decode prog_5_method_17_code 102 = .ok (.iload 5, 2) := by decide +kernel
theorem d_M_add_104 : decode prog_5_method_17_code 104 = .ok (.ifCond .ne 17, 3) := by decide +kernel
theorem d_M_add_107 : decode prog_5_method_17_code 107 = .ok (.aload_n 0, 1) := by decide +kernel
theorem d_M_add_108 : decode prog_5_method_17_code 108 = .ok (.getfield 35, 3) := by decide +kernel
theorem d_M_add_111 : decode prog_5_method_17_code 111 = .ok (.iload 6, 2) := by decide +kernel
theorem d_M_add_113 : decode prog_5_method_17_code 113 = .ok (.laload, 1) := by decide +kernel
theorem d_M_add_114 : decode prog_5_method_17_code 114 = .ok (.ldc2_w 82, 3) := by decide +kernel
theorem d_M_add_117 : decode prog_5_method_17_code 117 = .ok (.lcmp, 1) := by decide +kernel
theorem d_M_add_118 : decode prog_5_method_17_code 118 = .ok (.ifCond .ge 7, 3) := by decide +kernel
theorem d_M_add_121 : decode prog_5_method_17_code 121 = .ok (.iconst 0, 1) := by decide +kernel
theorem d_M_add_122 : decode prog_5_method_17_code 122 = .ok (.goto 11, 3) := by decide +kernel
theorem d_M_add_125 : decode prog_5_method_17_code 125 = .ok (.aload_n 0, 1) := by decide +kernel
theorem d_M_add_126 : decode prog_5_method_17_code 126 = .ok (.getfield 38, 3) := by decide +kernel
theorem d_M_add_129 : decode prog_5_method_17_code 129 = .ok (.iload 6, 2) := by decide +kernel
theorem d_M_add_131 : decode prog_5_method_17_code 131 = .ok (.laload, 1) := by decide +kernel
theorem d_M_add_132 : decode prog_5_method_17_code 132 = .ok (.l2i, 1) := by decide +kernel
theorem d_M_add_133 : decode prog_5_method_17_code 133 = .ok (.iastore, 1) := by decide +kernel
theorem d_M_add_134 : decode prog_5_method_17_code 134 = .ok (.iinc 6 1, 3) := by decide +kernel
theorem d_M_add_137 : decode prog_5_method_17_code 137 = .ok (.goto (-75), 3) := by decide +kernel
theorem d_M_add_140 : decode prog_5_method_17_code 140 = .ok (.aload_n 0, 1) := by decide +kernel
theorem d_M_add_141 : decode prog_5_method_17_code 141 = .ok (.dup, 1) := by decide +kernel
theorem d_M_add_142 : decode prog_5_method_17_code 142 = .ok (.getfield 52, 3) := by decide +kernel
theorem d_M_add_145 : decode prog_5_method_17_code 145 = .ok (.iconst 1, 1) := by decide +kernel
theorem d_M_add_146 : decode prog_5_method_17_code 146 = .ok (.iadd, 1) := by decide +kernel
theorem d_M_add_147 : decode prog_5_method_17_code 147 = .ok (.putfield 52, 3) := by decide +kernel
theorem d_M_add_150 : decode prog_5_method_17_code 150 = .ok (.iload 4, 2) := by decide +kernel
theorem d_M_add_152 : decode prog_5_method_17_code 152 = .ok (.ireturn, 1) := by decide +kernel
theorem d_M_product_0 : decode prog_5_method_7_code 0 = .ok (.lconst 1, 1) := by decide +kernel
theorem d_M_product_1 : decode prog_5_method_7_code 1 = .ok (.lstore_n 1, 1) := by decide +kernel
theorem d_M_product_2 : decode prog_5_method_7_code 2 = .ok (.iconst 0, 1) := by decide +kernel
theorem d_M_product_3 : decode prog_5_method_7_code 3 = .ok (.istore_n 3, 1) := by decide +kernel
theorem d_M_product_4 : decode prog_5_method_7_code 4 = .ok (.iload_n 3, 1) := by decide +kernel
theorem d_M_product_5 : decode prog_5_method_7_code 5 = .ok (.aload_n 0, 1) := by decide +kernel
theorem d_M_product_6 : decode prog_5_method_7_code 6 = .ok (.getfield 59, 3) := by decide +kernel
theorem d_M_product_9 : decode prog_5_method_7_code 9 = .ok (.if_icmp .ge 22, 3) := by decide +kernel
theorem d_M_product_12 : decode prog_5_method_7_code 12 = .ok (.aload_n 0, 1) := by decide +kernel
theorem d_M_product_13 : decode prog_5_method_7_code 13 = .ok (.getfield 35, 3) := by decide +kernel
theorem d_M_product_16 : decode prog_5_method_7_code 16 = .ok (.iload_n 3, 1) := by decide +kernel
theorem d_M_product_17 : decode prog_5_method_7_code 17 = .ok (.laload, 1) := by decide +kernel
theorem d_M_product_18 : decode prog_5_method_7_code 18 = .ok (.lconst 0, 1) := by decide +kernel
theorem d_M_product_19 : decode prog_5_method_7_code 19 = .ok (.lcmp, 1) := by decide +kernel
theorem d_M_product_20 : decode prog_5_method_7_code 20 = .ok (.ifCond .ne 5, 3) := by decide +kernel
theorem d_M_product_23 : decode prog_5_method_7_code 23 = .ok (.lconst 0, 1) := by decide +kernel
theorem d_M_product_24 : decode prog_5_method_7_code 24 = .ok (.lreturn, 1) := by decide +kernel
theorem d_M_product_25 : decode prog_5_method_7_code 25 = .ok (.iinc 3 1, 3) := by decide +kernel
theorem d_M_product_28 : decode prog_5_method_7_code 28 = .ok (.goto (-24), 3) := by decide +kernel
theorem d_M_product_31 : decode prog_5_method_7_code 31 = .ok (.iconst 0, 1) := by decide +kernel
theorem d_M_product_32 : decode prog_5_method_7_code 32 = .ok (.istore_n 3, 1) := by decide +kernel
theorem d_M_product_33 : decode prog_5_method_7_code 33 = .ok (.iload_n 3, 1) := by decide +kernel
theorem d_M_product_34 : decode prog_5_method_7_code 34 = .ok (.aload_n 0, 1) := by decide +kernel
theorem d_M_product_35 : decode prog_5_method_7_code 35 = .ok (.getfield 59, 3) := by decide +kernel
theorem d_M_product_38 : decode prog_5_method_7_code 38 = .ok (.if_icmp .ge 32, 3) := by decide +kernel
theorem d_M_product_41 : decode prog_5_method_7_code 41 = .ok (.lload_n 1, 1) := by decide +kernel
theorem d_M_product_42 : decode prog_5_method_7_code 42 = .ok (.ldc2_w 62, 3) := by decide +kernel
theorem d_M_product_45 : decode prog_5_method_7_code 45 = .ok (.lcmp, 1) := by decide +kernel
theorem d_M_product_46 : decode prog_5_method_7_code 46 = .ok (.ifCond .le 9, 3) := by decide +kernel
theorem d_M_product_49 : decode prog_5_method_7_code 49 = .ok (.ldc2_w 64, 3) := by decide +kernel
theorem d_M_product_52 : decode prog_5_method_7_code 52 = .ok (.goto 11, 3) := by decide +kernel
theorem d_M_product_55 : decode prog_5_method_7_code 55 = .ok (.lload_n 1, 1) := by decide +kernel
theorem d_M_product_56 : decode prog_5_method_7_code 56 = .ok (.aload_n 0, 1) := by decide +kernel
theorem d_M_product_57 : decode prog_5_method_7_code 57 = .ok (.getfield 35, 3) := by decide +kernel
theorem d_M_product_60 : decode prog_5_method_7_code 60 = .ok (.iload_n 3, 1) := by decide +kernel
theorem d_M_product_61 : decode prog_5_method_7_code 61 = .ok (.laload, 1) := by decide +kernel
theorem d_M_product_62 : decode prog_5_method_7_code 62 = .ok (.lmul, 1) := by decide +kernel
theorem d_M_product_63 : decode prog_5_method_7_code 63 = .ok (.lstore_n 1, 1) := by decide +kernel
theorem d_M_product_64 : decode prog_5_method_7_code 64 = .ok (.iinc 3 1, 3) := by decide +kernel
theorem d_M_product_67 : decode prog_5_method_7_code 67 = .ok (.goto (-34), 3) := by decide +kernel
theorem d_M_product_70 : decode prog_5_method_7_code 70 = .ok (.lload_n 1, 1) := by decide +kernel
theorem d_M_product_71 : decode prog_5_method_7_code 71 = .ok (.ldc2_w 62, 3) := by decide +kernel
theorem d_M_product_74 : decode prog_5_method_7_code 74 = .ok (.lcmp, 1) := by decide +kernel
theorem d_M_product_75 : decode prog_5_method_7_code 75 = .ok (.ifCond .le 9, 3) := by decide +kernel
theorem d_M_product_78 : decode prog_5_method_7_code 78 = .ok (.ldc2_w 64, 3) := by decide +kernel
theorem d_M_product_81 : decode prog_5_method_7_code 81 = .ok (.goto 4, 3) := by decide +kernel
theorem d_M_product_84 : decode prog_5_method_7_code 84 = .ok (.lload_n 1, 1) := by decide +kernel
theorem d_M_product_85 : decode prog_5_method_7_code 85 = .ok (.lreturn, 1) := by decide +kernel
theorem d_M_slice_0 : decode prog_5_method_22_code 0 = .ok (.aload_n 0, 1) := by decide +kernel
theorem d_M_slice_1 : decode prog_5_method_22_code 1 = .ok (.iload_n 1, 1) := by decide +kernel
theorem d_M_slice_2 : decode prog_5_method_22_code 2 = .ok (.iload_n 2, 1) := by decide +kernel
theorem d_M_slice_3 : decode prog_5_method_22_code 3 = .ok (.invokevirtual 105, 3) := by decide +kernel
theorem d_M_slice_6 : decode prog_5_method_22_code 6 = .ok (.istore 6, 2) := by decide +kernel
theorem d_M_slice_8 : decode prog_5_method_22_code 8 = .ok (.iload 6, 2) := by decide +kernel
theorem d_M_slice_10 : decode prog_5_method_22_code 10 = .ok (.ifCond .eq 17, 3) := by decide +kernel
theorem d_M_slice_13 : decode prog_5_method_22_code 13 = .ok (.iload 5, 2) := by decide +kernel
theorem d_M_slice_15 : decode prog_5_method_22_code 15 = .ok (.ifCond .lt 12, 3) := by decide +kernel
theorem d_M_slice_18 : decode prog_5_method_22_code 18 = .ok (.iload 4, 2) := by decide +kernel
theorem d_M_slice_20 : decode prog_5_method_22_code 20 = .ok (.ifCond .eq 7, 3) := by decide +kernel
theorem d_M_slice_23 : decode prog_5_method_22_code 23 = .ok (.iconst 1, 1) := by decide +kernel
theorem d_M_slice_24 : decode prog_5_method_22_code 24 = .ok (.goto 4, 3) := by decide +kernel
theorem d_M_slice_27 : decode prog_5_method_22_code 27 = .ok (.iconst 0, 1) := by decide +kernel
theorem d_M_slice_28 : decode prog_5_method_22_code 28 = .ok (.istore 7, 2) := by decide +kernel
theorem d_M_slice_30 : decode prog_5_method_22_code 30 = .ok (.iload 7, 2) := by decide +kernel
theorem d_M_slice_32 : decode prog_5_method_22_code 32 = .ok (.ifCond .eq 69, 3) := by decide +kernel
theorem d_M_slice_35 : decode prog_5_method_22_code 35 = .ok (.iload 5, 2) := by decide +kernel
theorem d_M_slice_37 : decode prog_5_method_22_code 37 = .ok (.ifCond .le 64, 3) := by decide +kernel
theorem d_M_slice_40 : decode prog_5_method_22_code 40 = .ok (.aload_n 0, 1) := by decide +kernel
theorem d_M_slice_41 : decode prog_5_method_22_code 41 = .ok (.getfield 29, 3) := by decide +kernel
theorem d_M_slice_44 : decode prog_5_method_22_code 44 = .ok (.iconst 4, 1) := by decide +kernel
theorem d_M_slice_45 : decode prog_5_method_22_code 45 = .ok (.iload_n 1, 1) := by decide +kernel
theorem d_M_slice_46 : decode prog_5_method_22_code 46 = .ok (.imul, 1) := by decide +kernel
theorem d_M_slice_47 : decode prog_5_method_22_code 47 = .ok (.iload_n 2, 1) := by decide +kernel
theorem d_M_slice_48 : decode prog_5_method_22_code 48 = .ok (.iadd, 1) := by decide +kernel
theorem d_M_slice_49 : decode prog_5_method_22_code 49 = .ok (.iaload, 1) := by decide +kernel
theorem d_M_slice_50 : decode prog_5_method_22_code 50 = .ok (.i2l, 1) := by decide +kernel
theorem d_M_slice_51 : decode prog_5_method_22_code 51 = .ok (.lstore 8, 2) := by decide +kernel
theorem d_M_slice_53 : decode prog_5_method_22_code 53 = .ok (.iload_n 3, 1) := by decide +kernel
theorem d_M_slice_54 : decode prog_5_method_22_code 54 = .ok (.i2l, 1) := by decide +kernel
theorem d_M_slice_55 : decode prog_5_method_22_code 55 = .ok (.iload 5, 2) := by decide +kernel
theorem d_M_slice_57 : decode prog_5_method_22_code 57 = .ok (.i2l, 1) := by decide +kernel
theorem d_M_slice_58 : decode prog_5_method_22_code 58 = .ok (.lconst 1, 1) := by decide +kernel
theorem d_M_slice_59 : decode prog_5_method_22_code 59 = .ok (.lsub, 1) := by decide +kernel
theorem d_M_slice_60 : decode prog_5_method_22_code 60 = .ok (.iload 4, 2) := by decide +kernel
theorem d_M_slice_62 : decode prog_5_method_22_code 62 = .ok (.i2l, 1) := by decide +kernel
theorem d_M_slice_63 : decode prog_5_method_22_code 63 = .ok (.lmul, 1) := by decide +kernel
theorem d_M_slice_64 : decode prog_5_method_22_code 64 = .ok (.ladd, 1) := by decide +kernel
theorem d_M_slice_65 : decode prog_5_method_22_code 65 = .ok (.lstore 10, 2) := by decide +kernel
theorem d_M_slice_67 : decode prog_5_method_22_code 67 = .ok (.iload_n 3, 1) := by decide +kernel
theorem d_M_slice_68 : decode prog_5_method_22_code 68 = .ok (.ifCond .lt 30, 3) := by decide +kernel
theorem d_M_slice_71 : decode prog_5_method_22_code 71 = .ok (.iload_n 3, 1) := by decide +kernel
theorem d_M_slice_72 : decode prog_5_method_22_code 72 = .ok (.i2l, 1) := by decide +kernel
theorem d_M_slice_73 : decode prog_5_method_22_code 73 = .ok (.lload 8, 2) := by decide +kernel
theorem d_M_slice_75 : decode prog_5_method_22_code 75 = .ok (.lcmp, 1) := by decide +kernel
theorem d_M_slice_76 : decode prog_5_method_22_code 76 = .ok (.ifCond .ge 22, 3) := by decide +kernel
theorem d_M_slice_79 : decode prog_5_method_22_code 79 = .ok (.lload 10, 2) := by decide +kernel
theorem d_M_slice_81 : decode prog_5_method_22_code 81 = .ok (.lconst 0, 1) := by decide +kernel
theorem d_M_slice_82 : decode prog_5_method_22_code 82 = .ok (.lcmp, 1) := by decide +kernel
theorem d_M_slice_83 : decode prog_5_method_22_code 83 = .ok (.ifCond .lt 15, 3) := by decide +kernel
theorem d_M_slice_86 : decode prog_5_method_22_code 86 = .ok (.lload 10, 2) := by decide +kernel
theorem d_M_slice_88 : decode prog_5_method_22_code 88 = .ok (.lload 8, 2) := by decide +kernel
theorem d_M_slice_90 : decode prog_5_method_22_code 90 = .ok (.lcmp, 1) := by decide +kernel
theorem d_M_slice_91 : decode prog_5_method_22_code 91 = .ok (.ifCond .ge 7, 3) := by decide +kernel
theorem d_M_slice_94 : decode prog_5_method_22_code 94 = .ok (.iconst 1, 1) := by decide +kernel
theorem d_M_slice_95 : decode prog_5_method_22_code 95 = .ok (.goto 4, 3) := by decide +kernel
theorem d_M_slice_98 : decode prog_5_method_22_code 98 = .ok (.iconst 0, 1) := by decide +kernel
theorem d_M_slice_99 : decode prog_5_method_22_code 99 = .ok (.istore 7, 2) := by decide +kernel
theorem d_M_slice_101 : decode prog_5_method_22_code 101 = .ok (.aload_n 0, 1) := by decide +kernel
theorem d_M_slice_102 : decode prog_5_method_22_code 102 = .ok (.iload 6, 2) := by decide +kernel
theorem d_M_slice_104 : decode prog_5_method_22_code 104 = .ok (.iload 7, 2) := by decide +kernel
theorem d_M_slice_106 : decode prog_5_method_22_code 106 = .ok (.aload_n 0, 1) := by decide +kernel
theorem d_M_slice_107 : decode prog_5_method_22_code 107 = .ok (.getfield 52, 3) := by decide +kernel
theorem d_M_slice_110 : decode prog_5_method_22_code 110 = .ok (.bipush 80, 2) := by decide +kernel
theorem d_M_slice_112 : decode prog_5_method_22_code 112 = .ok (.if_icmp .ge 7, 3) := by decide +kernel
theorem d_M_slice_115 : decode prog_5_method_22_code 115 = .ok (.iconst 1, 1) := by decide +kernel
theorem d_M_slice_116 : decode prog_5_method_22_code 116 = .ok (.goto 4, 3) := by decide +kernel
theorem d_M_slice_119 : decode prog_5_method_22_code 119 = .ok (.iconst 0, 1) := by decide +kernel
theorem d_M_slice_120 : decode prog_5_method_22_code 120 = .ok (.invokevirtual 109, 3) := by decide +kernel
theorem d_M_slice_123 : decode prog_5_method_22_code 123 = .ok (.ifCond .ne 5, 3) := by decide +kernel
theorem d_M_slice_126 : decode prog_5_method_22_code 126 = .ok (.iconst 0, 1) := by decide +kernel
theorem d_M_slice_127 : decode prog_5_method_22_code 127 = .ok (.ireturn, 1) := by decide +kernel
theorem d_M_slice_128 : decode prog_5_method_22_code 128 = .ok (.aload_n 0, 1) := by decide +kernel
theorem d_M_slice_129 : decode prog_5_method_22_code 129 = .ok (.iload_n 1, 1) := by decide +kernel
theorem d_M_slice_130 : decode prog_5_method_22_code 130 = .ok (.iconst (-1), 1) := by decide +kernel
theorem d_M_slice_131 : decode prog_5_method_22_code 131 = .ok (.iconst (-1), 1) := by decide +kernel
theorem d_M_slice_132 : decode prog_5_method_22_code 132 = .ok (.invokevirtual 113, 3) := by decide +kernel
theorem d_M_slice_135 : decode prog_5_method_22_code 135 = .ok (.aload_n 0, 1) := by decide +kernel
theorem d_M_slice_136 : decode prog_5_method_22_code 136 = .ok (.getfield 38, 3) := by decide +kernel
theorem d_M_slice_139 : decode prog_5_method_22_code 139 = .ok (.iload_n 2, 1) := by decide +kernel
theorem d_M_slice_140 : decode prog_5_method_22_code 140 = .ok (.laload, 1) := by decide +kernel
theorem d_M_slice_141 : decode prog_5_method_22_code 141 = .ok (.lstore 8, 2) := by decide +kernel
theorem d_M_slice_143 : decode prog_5_method_22_code 143 = .ok (.aload_n 0, 1) := by decide +kernel
theorem d_M_slice_144 : decode prog_5_method_22_code 144 = .ok (.getfield 35, 3) := by decide +kernel
theorem d_M_slice_147 : decode prog_5_method_22_code 147 = .ok (.iload_n 2, 1) := by decide +kernel
theorem d_M_slice_148 : decode prog_5_method_22_code 148 = .ok (.iload 5, 2) := by decide +kernel
theorem d_M_slice_150 : decode prog_5_method_22_code 150 = .ok (.i2l, 1) := by decide +kernel
theorem d_M_slice_151 : decode prog_5_method_22_code 151 = .ok (.lastore, 1) := by decide +kernel
theorem d_M_slice_152 : decode prog_5_method_22_code 152 = .ok (.aload_n 0, 1) := by decide +kernel
theorem d_M_slice_153 : decode prog_5_method_22_code 153 = .ok (.getfield 38, 3) := by decide +kernel
theorem d_M_slice_156 : decode prog_5_method_22_code 156 = .ok (.iload_n 2, 1) := by decide +kernel
theorem d_M_slice_157 : decode prog_5_method_22_code 157 = .ok (.lload 8, 2) := by decide +kernel
theorem d_M_slice_159 : decode prog_5_method_22_code 159 = .ok (.iload 4, 2) := by decide +kernel
theorem d_M_slice_161 : decode prog_5_method_22_code 161 = .ok (.i2l, 1) := by decide +kernel
theorem d_M_slice_162 : decode prog_5_method_22_code 162 = .ok (.lmul, 1) := by decide +kernel
theorem d_M_slice_163 : decode prog_5_method_22_code 163 = .ok (.lastore, 1) := by decide +kernel
theorem d_M_slice_164 : decode prog_5_method_22_code 164 = .ok (.aload_n 0, 1) := by decide +kernel
theorem d_M_slice_165 : decode prog_5_method_22_code 165 = .ok (.aload_n 0, 1) := by decide +kernel
theorem d_M_slice_166 : decode prog_5_method_22_code 166 = .ok (.getfield 20, 3) := by decide +kernel
theorem d_M_slice_169 : decode prog_5_method_22_code 169 = .ok (.iload_n 1, 1) := by decide +kernel
theorem d_M_slice_170 : decode prog_5_method_22_code 170 = .ok (.iaload, 1) := by decide +kernel
theorem d_M_slice_171 : decode prog_5_method_22_code 171 = .ok (.aload_n 0, 1) := by decide +kernel
theorem d_M_slice_172 : decode prog_5_method_22_code 172 = .ok (.getfield 23, 3) := by decide +kernel
theorem d_M_slice_175 : decode prog_5_method_22_code 175 = .ok (.iload_n 1, 1) := by decide +kernel
theorem d_M_slice_176 : decode prog_5_method_22_code 176 = .ok (.iaload, 1) := by decide +kernel
theorem d_M_slice_177 : decode prog_5_method_22_code 177 = .ok (.i2l, 1) := by decide +kernel
theorem d_M_slice_178 : decode prog_5_method_22_code 178 = .ok (.lload 8, 2) := by decide +kernel
theorem d_M_slice_180 : decode prog_5_method_22_code 180 = .ok (.iload_n 3, 1) := by decide +kernel
theorem d_M_slice_181 : decode prog_5_method_22_code 181 = .ok (.i2l, 1) := by decide +kernel
theorem d_M_slice_182 : decode prog_5_method_22_code 182 = .ok (.lmul, 1) := by decide +kernel
theorem d_M_slice_183 : decode prog_5_method_22_code 183 = .ok (.ladd, 1) := by decide +kernel
theorem d_M_slice_184 : decode prog_5_method_22_code 184 = .ok (.invokevirtual 101, 3) := by decide +kernel
theorem d_M_slice_187 : decode prog_5_method_22_code 187 = .ok (.ireturn, 1) := by decide +kernel
theorem d_M_isAxis_0 : decode prog_5_method_4_code 0 = .ok (.aload_n 0, 1) := by decide +kernel
theorem d_M_isAxis_1 : decode prog_5_method_4_code 1 = .ok (.iload_n 1, 1) := by decide +kernel
theorem d_M_isAxis_2 : decode prog_5_method_4_code 2 = .ok (.invokevirtual 55, 3) := by decide +kernel
theorem d_M_isAxis_5 : decode prog_5_method_4_code 5 = .ok (.ifCond .eq 21, 3) := by decide +kernel
theorem d_M_isAxis_8 : decode prog_5_method_4_code 8 = .ok (.iload_n 2, 1) := by decide +kernel
theorem d_M_isAxis_9 : decode prog_5_method_4_code 9 = .ok (.ifCond .lt 17, 3) := by decide +kernel
theorem d_M_isAxis_12 : decode prog_5_method_4_code 12 = .ok (.iload_n 2, 1) := by decide +kernel
theorem d_M_isAxis_13 : decode prog_5_method_4_code 13 = .ok (.aload_n 0, 1) := by decide +kernel
theorem d_M_isAxis_14 : decode prog_5_method_4_code 14 = .ok (.getfield 26, 3) := by decide +kernel
theorem d_M_isAxis_17 : decode prog_5_method_4_code 17 = .ok (.iload_n 1, 1) := by decide +kernel
theorem d_M_isAxis_18 : decode prog_5_method_4_code 18 = .ok (.iaload, 1) := by decide +kernel
theorem d_M_isAxis_19 : decode prog_5_method_4_code 19 = .ok (.if_icmp .ge 7, 3) := by decide +kernel
theorem d_M_isAxis_22 : decode prog_5_method_4_code 22 = .ok (.iconst 1, 1) := by decide +kernel
theorem d_M_isAxis_23 : decode prog_5_method_4_code 23 = .ok (.goto 4, 3) := by decide +kernel
theorem d_M_isAxis_26 : decode prog_5_method_4_code 26 = .ok (.iconst 0, 1) := by decide +kernel
theorem d_M_isAxis_27 : decode prog_5_method_4_code 27 = .ok (.ireturn, 1) := by decide +kernel
theorem d_M_isView_0 : decode prog_5_method_3_code 0 = .ok (.iload_n 1, 1) := by decide +kernel
theorem d_M_isView_1 : decode prog_5_method_3_code 1 = .ok (.ifCond .lt 15, 3) := by decide +kernel
theorem d_M_isView_4 : decode prog_5_method_3_code 4 = .ok (.iload_n 1, 1) := by decide +kernel
theorem d_M_isView_5 : decode prog_5_method_3_code 5 = .ok (.aload_n 0, 1) := by decide +kernel
theorem d_M_isView_6 : decode prog_5_method_3_code 6 = .ok (.getfield 52, 3) := by decide +kernel
theorem d_M_isView_9 : decode prog_5_method_3_code 9 = .ok (.if_icmp .ge 7, 3) := by decide +kernel
theorem d_M_isView_12 : decode prog_5_method_3_code 12 = .ok (.iconst 1, 1) := by decide +kernel
theorem d_M_isView_13 : decode prog_5_method_3_code 13 = .ok (.goto 4, 3) := by decide +kernel
theorem d_M_isView_16 : decode prog_5_method_3_code 16 = .ok (.iconst 0, 1) := by decide +kernel
theorem d_M_isView_17 : decode prog_5_method_3_code 17 = .ok (.ireturn, 1) := by decide +kernel
theorem d_M_goes_0 : decode prog_5_method_5_code 0 = .ok (.aload_n 0, 1) := by decide +kernel
theorem d_M_goes_1 : decode prog_5_method_5_code 1 = .ok (.iload_n 1, 1) := by decide +kernel
theorem d_M_goes_2 : decode prog_5_method_5_code 2 = .ok (.ifCond .ne 7, 3) := by decide +kernel
theorem d_M_goes_5 : decode prog_5_method_5_code 5 = .ok (.iconst 1, 1) := by decide +kernel
theorem d_M_goes_6 : decode prog_5_method_5_code 6 = .ok (.goto 20, 3) := by decide +kernel
theorem d_M_goes_9 : decode prog_5_method_5_code 9 = .ok (.iload_n 2, 1) := by decide +kernel
theorem d_M_goes_10 : decode prog_5_method_5_code 10 = .ok (.ifCond .ne 7, 3) := by decide +kernel
theorem d_M_goes_13 : decode prog_5_method_5_code 13 = .ok (.iconst 2, 1) := by decide +kernel
theorem d_M_goes_14 : decode prog_5_method_5_code 14 = .ok (.goto 12, 3) := by decide +kernel
theorem d_M_goes_17 : decode prog_5_method_5_code 17 = .ok (.iload_n 3, 1) := by decide +kernel
theorem d_M_goes_18 : decode prog_5_method_5_code 18 = .ok (.ifCond .ne 7, 3) := by decide +kernel
theorem d_M_goes_21 : decode prog_5_method_5_code 21 = .ok (.iconst 3, 1) := by decide +kernel
theorem d_M_goes_22 : decode prog_5_method_5_code 22 = .ok (.goto 4, 3) := by decide +kernel
theorem d_M_goes_25 : decode prog_5_method_5_code 25 = .ok (.iconst 0, 1) := by decide +kernel
theorem d_M_goes_26 : decode prog_5_method_5_code 26 = .ok (.putfield 48, 3) := by decide +kernel
theorem d_M_goes_29 : decode prog_5_method_5_code 29 = .ok (.aload_n 0, 1) := by decide +kernel
theorem d_M_goes_30 : decode prog_5_method_5_code 30 = .ok (.getfield 48, 3) := by decide +kernel
theorem d_M_goes_33 : decode prog_5_method_5_code 33 = .ok (.ifCond .ne 7, 3) := by decide +kernel
theorem d_M_goes_36 : decode prog_5_method_5_code 36 = .ok (.iconst 1, 1) := by decide +kernel
theorem d_M_goes_37 : decode prog_5_method_5_code 37 = .ok (.goto 4, 3) := by decide +kernel
theorem d_M_goes_40 : decode prog_5_method_5_code 40 = .ok (.iconst 0, 1) := by decide +kernel
theorem d_M_goes_41 : decode prog_5_method_5_code 41 = .ok (.ireturn, 1) := by decide +kernel
theorem d_M_take_0 : decode prog_5_method_15_code 0 = .ok (.aload_n 0, 1) := by decide +kernel
theorem d_M_take_1 : decode prog_5_method_15_code 1 = .ok (.iconst 0, 1) := by decide +kernel
theorem d_M_take_2 : decode prog_5_method_15_code 2 = .ok (.putfield 59, 3) := by decide +kernel
theorem d_M_take_5 : decode prog_5_method_15_code 5 = .ok (.iconst 0, 1) := by decide +kernel
theorem d_M_take_6 : decode prog_5_method_15_code 6 = .ok (.istore 4, 2) := by decide +kernel
theorem d_M_take_8 : decode prog_5_method_15_code 8 = .ok (.iload 4, 2) := by decide +kernel
theorem d_M_take_10 : decode prog_5_method_15_code 10 = .ok (.aload_n 0, 1) := by decide +kernel
theorem d_M_take_11 : decode prog_5_method_15_code 11 = .ok (.getfield 26, 3) := by decide +kernel
theorem d_M_take_14 : decode prog_5_method_15_code 14 = .ok (.iload_n 1, 1) := by decide +kernel
theorem d_M_take_15 : decode prog_5_method_15_code 15 = .ok (.iaload, 1) := by decide +kernel
theorem d_M_take_16 : decode prog_5_method_15_code 16 = .ok (.if_icmp .ge 73, 3) := by decide +kernel
theorem d_M_take_19 : decode prog_5_method_15_code 19 = .ok (.iload 4, 2) := by decide +kernel
theorem d_M_take_21 : decode prog_5_method_15_code 21 = .ok (.iload_n 2, 1) := by decide +kernel
theorem d_M_take_22 : decode prog_5_method_15_code 22 = .ok (.if_icmp .eq 61, 3) := by decide +kernel
theorem d_M_take_25 : decode prog_5_method_15_code 25 = .ok (.iload 4, 2) := by decide +kernel
theorem d_M_take_27 : decode prog_5_method_15_code 27 = .ok (.iload_n 3, 1) := by decide +kernel
theorem d_M_take_28 : decode prog_5_method_15_code 28 = .ok (.if_icmp .eq 55, 3) := by decide +kernel
theorem d_M_take_31 : decode prog_5_method_15_code 31 = .ok (.aload_n 0, 1) := by decide +kernel
theorem d_M_take_32 : decode prog_5_method_15_code 32 = .ok (.getfield 35, 3) := by decide +kernel
theorem d_M_take_35 : decode prog_5_method_15_code 35 = .ok (.aload_n 0, 1) := by decide +kernel
theorem d_M_take_36 : decode prog_5_method_15_code 36 = .ok (.getfield 59, 3) := by decide +kernel
theorem d_M_take_39 : decode prog_5_method_15_code 39 = .ok (.aload_n 0, 1) := by decide +kernel
theorem d_M_take_40 : decode prog_5_method_15_code 40 = .ok (.getfield 29, 3) := by decide +kernel
theorem d_M_take_43 : decode prog_5_method_15_code 43 = .ok (.iconst 4, 1) := by decide +kernel
theorem d_M_take_44 : decode prog_5_method_15_code 44 = .ok (.iload_n 1, 1) := by decide +kernel
theorem d_M_take_45 : decode prog_5_method_15_code 45 = .ok (.imul, 1) := by decide +kernel
theorem d_M_take_46 : decode prog_5_method_15_code 46 = .ok (.iload 4, 2) := by decide +kernel
theorem d_M_take_48 : decode prog_5_method_15_code 48 = .ok (.iadd, 1) := by decide +kernel
theorem d_M_take_49 : decode prog_5_method_15_code 49 = .ok (.iaload, 1) := by decide +kernel
theorem d_M_take_50 : decode prog_5_method_15_code 50 = .ok (.i2l, 1) := by decide +kernel
theorem d_M_take_51 : decode prog_5_method_15_code 51 = .ok (.lastore, 1) := by decide +kernel
theorem d_M_take_52 : decode prog_5_method_15_code 52 = .ok (.aload_n 0, 1) := by decide +kernel
theorem d_M_take_53 : decode prog_5_method_15_code 53 = .ok (.getfield 38, 3) := by decide +kernel
theorem d_M_take_56 : decode prog_5_method_15_code 56 = .ok (.aload_n 0, 1) := by decide +kernel
theorem d_M_take_57 : decode prog_5_method_15_code 57 = .ok (.getfield 59, 3) := by decide +kernel
theorem d_M_take_60 : decode prog_5_method_15_code 60 = .ok (.aload_n 0, 1) := by decide +kernel
theorem d_M_take_61 : decode prog_5_method_15_code 61 = .ok (.getfield 32, 3) := by decide +kernel
theorem d_M_take_64 : decode prog_5_method_15_code 64 = .ok (.iconst 4, 1) := by decide +kernel
theorem d_M_take_65 : decode prog_5_method_15_code 65 = .ok (.iload_n 1, 1) := by decide +kernel
theorem d_M_take_66 : decode prog_5_method_15_code 66 = .ok (.imul, 1) := by decide +kernel
theorem d_M_take_67 : decode prog_5_method_15_code 67 = .ok (.iload 4, 2) := by decide +kernel
theorem d_M_take_69 : decode prog_5_method_15_code 69 = .ok (.iadd, 1) := by decide +kernel
theorem d_M_take_70 : decode prog_5_method_15_code 70 = .ok (.iaload, 1) := by decide +kernel
theorem d_M_take_71 : decode prog_5_method_15_code 71 = .ok (.i2l, 1) := by decide +kernel
theorem d_M_take_72 : decode prog_5_method_15_code 72 = .ok (.lastore, 1) := by decide +kernel
theorem d_M_take_73 : decode prog_5_method_15_code 73 = .ok (.aload_n 0, 1) := by decide +kernel
theorem d_M_take_74 : decode prog_5_method_15_code 74 = .ok (.dup, 1) := by decide +kernel
theorem d_M_take_75 : decode prog_5_method_15_code 75 = .ok (.getfield 59, 3) := by decide +kernel
theorem d_M_take_78 : decode prog_5_method_15_code 78 = .ok (.iconst 1, 1) := by decide +kernel
theorem d_M_take_79 : decode prog_5_method_15_code 79 = .ok (.iadd, 1) := by decide +kernel
theorem d_M_take_80 : decode prog_5_method_15_code 80 = .ok (.putfield 59, 3) := by decide +kernel
theorem d_M_take_83 : decode prog_5_method_15_code 83 = .ok (.iinc 4 1, 3) := by decide +kernel
theorem d_M_take_86 : decode prog_5_method_15_code 86 = .ok (.goto (-78), 3) := by decide +kernel
theorem d_M_take_89 : decode prog_5_method_15_code 89 = .ok (.return_, 1) := by decide +kernel
theorem d_M_pick_0 : decode prog_5_method_23_code 0 = .ok (.aload_n 0, 1) := by decide +kernel
theorem d_M_pick_1 : decode prog_5_method_23_code 1 = .ok (.iload_n 1, 1) := by decide +kernel
theorem d_M_pick_2 : decode prog_5_method_23_code 2 = .ok (.iload_n 2, 1) := by decide +kernel
theorem d_M_pick_3 : decode prog_5_method_23_code 3 = .ok (.invokevirtual 105, 3) := by decide +kernel
theorem d_M_pick_6 : decode prog_5_method_23_code 6 = .ok (.ifCond .eq 25, 3) := by decide +kernel
theorem d_M_pick_9 : decode prog_5_method_23_code 9 = .ok (.iload_n 3, 1) := by decide +kernel
theorem d_M_pick_10 : decode prog_5_method_23_code 10 = .ok (.ifCond .lt 21, 3) := by decide +kernel
theorem d_M_pick_13 : decode prog_5_method_23_code 13 = .ok (.iload_n 3, 1) := by decide +kernel
theorem d_M_pick_14 : decode prog_5_method_23_code 14 = .ok (.aload_n 0, 1) := by decide +kernel
theorem d_M_pick_15 : decode prog_5_method_23_code 15 = .ok (.getfield 29, 3) := by decide +kernel
theorem d_M_pick_18 : decode prog_5_method_23_code 18 = .ok (.iconst 4, 1) := by decide +kernel
theorem d_M_pick_19 : decode prog_5_method_23_code 19 = .ok (.iload_n 1, 1) := by decide +kernel
theorem d_M_pick_20 : decode prog_5_method_23_code 20 = .ok (.imul, 1) := by decide +kernel
theorem d_M_pick_21 : decode prog_5_method_23_code 21 = .ok (.iload_n 2, 1) := by decide +kernel
theorem d_M_pick_22 : decode prog_5_method_23_code 22 = .ok (.iadd, 1) := by decide +kernel
theorem d_M_pick_23 : decode prog_5_method_23_code 23 = .ok (.iaload, 1) := by decide +kernel
theorem d_M_pick_24 : decode prog_5_method_23_code 24 = .ok (.if_icmp .ge 7, 3) := by decide +kernel
theorem d_M_pick_27 : decode prog_5_method_23_code 27 = .ok (.iconst 1, 1) := by decide +kernel
theorem d_M_pick_28 : decode prog_5_method_23_code 28 = .ok (.goto 4, 3) := by decide +kernel
theorem d_M_pick_31 : decode prog_5_method_23_code 31 = .ok (.iconst 0, 1) := by decide +kernel
theorem d_M_pick_32 : decode prog_5_method_23_code 32 = .ok (.istore 4, 2) := by decide +kernel
theorem d_M_pick_34 : decode prog_5_method_23_code 34 = .ok (.aload_n 0, 1) := by decide +kernel
theorem d_M_pick_35 : decode prog_5_method_23_code 35 = .ok (.iload 4, 2) := by decide +kernel
theorem d_M_pick_37 : decode prog_5_method_23_code 37 = .ok (.aload_n 0, 1) := by decide +kernel
theorem d_M_pick_38 : decode prog_5_method_23_code 38 = .ok (.getfield 52, 3) := by decide +kernel
theorem d_M_pick_41 : decode prog_5_method_23_code 41 = .ok (.bipush 80, 2) := by decide +kernel
theorem d_M_pick_43 : decode prog_5_method_23_code 43 = .ok (.if_icmp .ge 7, 3) := by decide +kernel
theorem d_M_pick_46 : decode prog_5_method_23_code 46 = .ok (.iconst 1, 1) := by decide +kernel
theorem d_M_pick_47 : decode prog_5_method_23_code 47 = .ok (.goto 4, 3) := by decide +kernel
theorem d_M_pick_50 : decode prog_5_method_23_code 50 = .ok (.iconst 0, 1) := by decide +kernel
theorem d_M_pick_51 : decode prog_5_method_23_code 51 = .ok (.invokevirtual 90, 3) := by decide +kernel
theorem d_M_pick_54 : decode prog_5_method_23_code 54 = .ok (.ifCond .ne 5, 3) := by decide +kernel
theorem d_M_pick_57 : decode prog_5_method_23_code 57 = .ok (.iconst 0, 1) := by decide +kernel
theorem d_M_pick_58 : decode prog_5_method_23_code 58 = .ok (.ireturn, 1) := by decide +kernel
theorem d_M_pick_59 : decode prog_5_method_23_code 59 = .ok (.aload_n 0, 1) := by decide +kernel
theorem d_M_pick_60 : decode prog_5_method_23_code 60 = .ok (.iload_n 1, 1) := by decide +kernel
theorem d_M_pick_61 : decode prog_5_method_23_code 61 = .ok (.iload_n 2, 1) := by decide +kernel
theorem d_M_pick_62 : decode prog_5_method_23_code 62 = .ok (.iconst (-1), 1) := by decide +kernel
theorem d_M_pick_63 : decode prog_5_method_23_code 63 = .ok (.invokevirtual 113, 3) := by decide +kernel
theorem d_M_pick_66 : decode prog_5_method_23_code 66 = .ok (.aload_n 0, 1) := by decide +kernel
theorem d_M_pick_67 : decode prog_5_method_23_code 67 = .ok (.aload_n 0, 1) := by decide +kernel
theorem d_M_pick_68 : decode prog_5_method_23_code 68 = .ok (.getfield 20, 3) := by decide +kernel
theorem d_M_pick_71 : decode prog_5_method_23_code 71 = .ok (.iload_n 1, 1) := by decide +kernel
theorem d_M_pick_72 : decode prog_5_method_23_code 72 = .ok (.iaload, 1) := by decide +kernel
theorem d_M_pick_73 : decode prog_5_method_23_code 73 = .ok (.aload_n 0, 1) := by decide +kernel
theorem d_M_pick_74 : decode prog_5_method_23_code 74 = .ok (.getfield 23, 3) := by decide +kernel
theorem d_M_pick_77 : decode prog_5_method_23_code 77 = .ok (.iload_n 1, 1) := by decide +kernel
theorem d_M_pick_78 : decode prog_5_method_23_code 78 = .ok (.iaload, 1) := by decide +kernel
theorem d_M_pick_79 : decode prog_5_method_23_code 79 = .ok (.i2l, 1) := by decide +kernel
theorem d_M_pick_80 : decode prog_5_method_23_code 80 = .ok (.iload_n 3, 1) := by decide +kernel
theorem d_M_pick_81 : decode prog_5_method_23_code 81 = .ok (.i2l, 1) := by decide +kernel
theorem d_M_pick_82 : decode prog_5_method_23_code 82 = .ok (.aload_n 0, 1) := by decide +kernel
theorem d_M_pick_83 : decode prog_5_method_23_code 83 = .ok (.getfield 32, 3) := by decide +kernel
theorem d_M_pick_86 : decode prog_5_method_23_code 86 = .ok (.iconst 4, 1) := by decide +kernel
theorem d_M_pick_87 : decode prog_5_method_23_code 87 = .ok (.iload_n 1, 1) := by decide +kernel
theorem d_M_pick_88 : decode prog_5_method_23_code 88 = .ok (.imul, 1) := by decide +kernel
theorem d_M_pick_89 : decode prog_5_method_23_code 89 = .ok (.iload_n 2, 1) := by decide +kernel
theorem d_M_pick_90 : decode prog_5_method_23_code 90 = .ok (.iadd, 1) := by decide +kernel
theorem d_M_pick_91 : decode prog_5_method_23_code 91 = .ok (.iaload, 1) := by decide +kernel
theorem d_M_pick_92 : decode prog_5_method_23_code 92 = .ok (.i2l, 1) := by decide +kernel
theorem d_M_pick_93 : decode prog_5_method_23_code 93 = .ok (.lmul, 1) := by decide +kernel
theorem d_M_pick_94 : decode prog_5_method_23_code 94 = .ok (.ladd, 1) := by decide +kernel
theorem d_M_pick_95 : decode prog_5_method_23_code 95 = .ok (.invokevirtual 101, 3) := by decide +kernel
theorem d_M_pick_98 : decode prog_5_method_23_code 98 = .ok (.ireturn, 1) := by decide +kernel
theorem d_M_turn_0 : decode prog_5_method_24_code 0 = .ok (.aload_n 0, 1) := by decide +kernel
theorem d_M_turn_1 : decode prog_5_method_24_code 1 = .ok (.aload_n 0, 1) := by decide +kernel
theorem d_M_turn_2 : decode prog_5_method_24_code 2 = .ok (.iload_n 1, 1) := by decide +kernel
theorem d_M_turn_3 : decode prog_5_method_24_code 3 = .ok (.iload_n 2, 1) := by decide +kernel
theorem d_M_turn_4 : decode prog_5_method_24_code 4 = .ok (.invokevirtual 105, 3) := by decide +kernel
theorem d_M_turn_7 : decode prog_5_method_24_code 7 = .ok (.ifCond .eq 16, 3) := by decide +kernel
theorem d_M_turn_10 : decode prog_5_method_24_code 10 = .ok (.aload_n 0, 1) := by decide +kernel
theorem d_M_turn_11 : decode prog_5_method_24_code 11 = .ok (.iload_n 1, 1) := by decide +kernel
theorem d_M_turn_12 : decode prog_5_method_24_code 12 = .ok (.iload_n 3, 1) := by decide +kernel
theorem d_M_turn_13 : decode prog_5_method_24_code 13 = .ok (.invokevirtual 105, 3) := by decide +kernel
theorem d_M_turn_16 : decode prog_5_method_24_code 16 = .ok (.ifCond .eq 7, 3) := by decide +kernel
theorem d_M_turn_19 : decode prog_5_method_24_code 19 = .ok (.iconst 1, 1) := by decide +kernel
theorem d_M_turn_20 : decode prog_5_method_24_code 20 = .ok (.goto 4, 3) := by decide +kernel
theorem d_M_turn_23 : decode prog_5_method_24_code 23 = .ok (.iconst 0, 1) := by decide +kernel
theorem d_M_turn_24 : decode prog_5_method_24_code 24 = .ok (.aload_n 0, 1) := by decide +kernel
theorem d_M_turn_25 : decode prog_5_method_24_code 25 = .ok (.getfield 52, 3) := by decide +kernel
theorem d_M_turn_28 : decode prog_5_method_24_code 28 = .ok (.bipush 80, 2) := by decide +kernel
theorem d_M_turn_30 : decode prog_5_method_24_code 30 = .ok (.if_icmp .ge 7, 3) := by decide +kernel
theorem d_M_turn_33 : decode prog_5_method_24_code 33 = .ok (.iconst 1, 1) := by decide +kernel
theorem d_M_turn_34 : decode prog_5_method_24_code 34 = .ok (.goto 4, 3) := by decide +kernel
theorem d_M_turn_37 : decode prog_5_method_24_code 37 = .ok (.iconst 0, 1) := by decide +kernel
theorem d_M_turn_38 : decode prog_5_method_24_code 38 = .ok (.invokevirtual 90, 3) := by decide +kernel
theorem d_M_turn_41 : decode prog_5_method_24_code 41 = .ok (.ifCond .ne 5, 3) := by decide +kernel
theorem d_M_turn_44 : decode prog_5_method_24_code 44 = .ok (.iconst 0, 1) := by decide +kernel
theorem d_M_turn_45 : decode prog_5_method_24_code 45 = .ok (.ireturn, 1) := by decide +kernel
theorem d_M_turn_46 : decode prog_5_method_24_code 46 = .ok (.aload_n 0, 1) := by decide +kernel
theorem d_M_turn_47 : decode prog_5_method_24_code 47 = .ok (.iload_n 1, 1) := by decide +kernel
theorem d_M_turn_48 : decode prog_5_method_24_code 48 = .ok (.iconst (-1), 1) := by decide +kernel
theorem d_M_turn_49 : decode prog_5_method_24_code 49 = .ok (.iconst (-1), 1) := by decide +kernel
theorem d_M_turn_50 : decode prog_5_method_24_code 50 = .ok (.invokevirtual 113, 3) := by decide +kernel
theorem d_M_turn_53 : decode prog_5_method_24_code 53 = .ok (.aload_n 0, 1) := by decide +kernel
theorem d_M_turn_54 : decode prog_5_method_24_code 54 = .ok (.getfield 35, 3) := by decide +kernel
theorem d_M_turn_57 : decode prog_5_method_24_code 57 = .ok (.iload_n 2, 1) := by decide +kernel
theorem d_M_turn_58 : decode prog_5_method_24_code 58 = .ok (.aload_n 0, 1) := by decide +kernel
theorem d_M_turn_59 : decode prog_5_method_24_code 59 = .ok (.getfield 29, 3) := by decide +kernel
theorem d_M_turn_62 : decode prog_5_method_24_code 62 = .ok (.iconst 4, 1) := by decide +kernel
theorem d_M_turn_63 : decode prog_5_method_24_code 63 = .ok (.iload_n 1, 1) := by decide +kernel
theorem d_M_turn_64 : decode prog_5_method_24_code 64 = .ok (.imul, 1) := by decide +kernel
theorem d_M_turn_65 : decode prog_5_method_24_code 65 = .ok (.iload_n 3, 1) := by decide +kernel
theorem d_M_turn_66 : decode prog_5_method_24_code 66 = .ok (.iadd, 1) := by decide +kernel
theorem d_M_turn_67 : decode prog_5_method_24_code 67 = .ok (.iaload, 1) := by decide +kernel
theorem d_M_turn_68 : decode prog_5_method_24_code 68 = .ok (.i2l, 1) := by decide +kernel
theorem d_M_turn_69 : decode prog_5_method_24_code 69 = .ok (.lastore, 1) := by decide +kernel
theorem d_M_turn_70 : decode prog_5_method_24_code 70 = .ok (.aload_n 0, 1) := by decide +kernel
theorem d_M_turn_71 : decode prog_5_method_24_code 71 = .ok (.getfield 38, 3) := by decide +kernel
theorem d_M_turn_74 : decode prog_5_method_24_code 74 = .ok (.iload_n 2, 1) := by decide +kernel
theorem d_M_turn_75 : decode prog_5_method_24_code 75 = .ok (.aload_n 0, 1) := by decide +kernel
theorem d_M_turn_76 : decode prog_5_method_24_code 76 = .ok (.getfield 32, 3) := by decide +kernel
theorem d_M_turn_79 : decode prog_5_method_24_code 79 = .ok (.iconst 4, 1) := by decide +kernel
theorem d_M_turn_80 : decode prog_5_method_24_code 80 = .ok (.iload_n 1, 1) := by decide +kernel
theorem d_M_turn_81 : decode prog_5_method_24_code 81 = .ok (.imul, 1) := by decide +kernel
theorem d_M_turn_82 : decode prog_5_method_24_code 82 = .ok (.iload_n 3, 1) := by decide +kernel
theorem d_M_turn_83 : decode prog_5_method_24_code 83 = .ok (.iadd, 1) := by decide +kernel
theorem d_M_turn_84 : decode prog_5_method_24_code 84 = .ok (.iaload, 1) := by decide +kernel
theorem d_M_turn_85 : decode prog_5_method_24_code 85 = .ok (.i2l, 1) := by decide +kernel
theorem d_M_turn_86 : decode prog_5_method_24_code 86 = .ok (.lastore, 1) := by decide +kernel
theorem d_M_turn_87 : decode prog_5_method_24_code 87 = .ok (.aload_n 0, 1) := by decide +kernel
theorem d_M_turn_88 : decode prog_5_method_24_code 88 = .ok (.getfield 35, 3) := by decide +kernel
theorem d_M_turn_91 : decode prog_5_method_24_code 91 = .ok (.iload_n 3, 1) := by decide +kernel
theorem d_M_turn_92 : decode prog_5_method_24_code 92 = .ok (.aload_n 0, 1) := by decide +kernel
theorem d_M_turn_93 : decode prog_5_method_24_code 93 = .ok (.getfield 29, 3) := by decide +kernel
theorem d_M_turn_96 : decode prog_5_method_24_code 96 = .ok (.iconst 4, 1) := by decide +kernel
theorem d_M_turn_97 : decode prog_5_method_24_code 97 = .ok (.iload_n 1, 1) := by decide +kernel
theorem d_M_turn_98 : decode prog_5_method_24_code 98 = .ok (.imul, 1) := by decide +kernel
theorem d_M_turn_99 : decode prog_5_method_24_code 99 = .ok (.iload_n 2, 1) := by decide +kernel
theorem d_M_turn_100 : decode prog_5_method_24_code 100 = .ok (.iadd, 1) := by decide +kernel
theorem d_M_turn_101 : decode prog_5_method_24_code 101 = .ok (.iaload, 1) := by decide +kernel
theorem d_M_turn_102 : decode prog_5_method_24_code 102 = .ok (.i2l, 1) := by decide +kernel
theorem d_M_turn_103 : decode prog_5_method_24_code 103 = .ok (.lastore, 1) := by decide +kernel
theorem d_M_turn_104 : decode prog_5_method_24_code 104 = .ok (.aload_n 0, 1) := by decide +kernel
theorem d_M_turn_105 : decode prog_5_method_24_code 105 = .ok (.getfield 38, 3) := by decide +kernel
theorem d_M_turn_108 : decode prog_5_method_24_code 108 = .ok (.iload_n 3, 1) := by decide +kernel
theorem d_M_turn_109 : decode prog_5_method_24_code 109 = .ok (.aload_n 0, 1) := by decide +kernel
theorem d_M_turn_110 : decode prog_5_method_24_code 110 = .ok (.getfield 32, 3) := by decide +kernel
theorem d_M_turn_113 : decode prog_5_method_24_code 113 = .ok (.iconst 4, 1) := by decide +kernel
theorem d_M_turn_114 : decode prog_5_method_24_code 114 = .ok (.iload_n 1, 1) := by decide +kernel
theorem d_M_turn_115 : decode prog_5_method_24_code 115 = .ok (.imul, 1) := by decide +kernel
theorem d_M_turn_116 : decode prog_5_method_24_code 116 = .ok (.iload_n 2, 1) := by decide +kernel
theorem d_M_turn_117 : decode prog_5_method_24_code 117 = .ok (.iadd, 1) := by decide +kernel
theorem d_M_turn_118 : decode prog_5_method_24_code 118 = .ok (.iaload, 1) := by decide +kernel
theorem d_M_turn_119 : decode prog_5_method_24_code 119 = .ok (.i2l, 1) := by decide +kernel
theorem d_M_turn_120 : decode prog_5_method_24_code 120 = .ok (.lastore, 1) := by decide +kernel
theorem d_M_turn_121 : decode prog_5_method_24_code 121 = .ok (.aload_n 0, 1) := by decide +kernel
theorem d_M_turn_122 : decode prog_5_method_24_code 122 = .ok (.aload_n 0, 1) := by decide +kernel
theorem d_M_turn_123 : decode prog_5_method_24_code 123 = .ok (.getfield 20, 3) := by decide +kernel
theorem d_M_turn_126 : decode prog_5_method_24_code 126 = .ok (.iload_n 1, 1) := by decide +kernel
theorem d_M_turn_127 : decode prog_5_method_24_code 127 = .ok (.iaload, 1) := by decide +kernel
theorem d_M_turn_128 : decode prog_5_method_24_code 128 = .ok (.aload_n 0, 1) := by decide +kernel
theorem d_M_turn_129 : decode prog_5_method_24_code 129 = .ok (.getfield 23, 3) := by decide +kernel
theorem d_M_turn_132 : decode prog_5_method_24_code 132 = .ok (.iload_n 1, 1) := by decide +kernel
theorem d_M_turn_133 : decode prog_5_method_24_code 133 = .ok (.iaload, 1) := by decide +kernel
theorem d_M_turn_134 : decode prog_5_method_24_code 134 = .ok (.i2l, 1) := by decide +kernel
theorem d_M_turn_135 : decode prog_5_method_24_code 135 = .ok (.invokevirtual 101, 3) := by decide +kernel
theorem d_M_turn_138 : decode prog_5_method_24_code 138 = .ok (.ireturn, 1) := by decide +kernel
theorem d_M_spread_0 : decode prog_5_method_25_code 0 = .ok (.aload_n 0, 1) := by decide +kernel
theorem d_M_spread_1 : decode prog_5_method_25_code 1 = .ok (.iload_n 1, 1) := by decide +kernel
theorem d_M_spread_2 : decode prog_5_method_25_code 2 = .ok (.invokevirtual 55, 3) := by decide +kernel
theorem d_M_spread_5 : decode prog_5_method_25_code 5 = .ok (.ifCond .eq 21, 3) := by decide +kernel
theorem d_M_spread_8 : decode prog_5_method_25_code 8 = .ok (.iload_n 2, 1) := by decide +kernel
theorem d_M_spread_9 : decode prog_5_method_25_code 9 = .ok (.ifCond .lt 17, 3) := by decide +kernel
theorem d_M_spread_12 : decode prog_5_method_25_code 12 = .ok (.iload_n 2, 1) := by decide +kernel
theorem d_M_spread_13 : decode prog_5_method_25_code 13 = .ok (.aload_n 0, 1) := by decide +kernel
theorem d_M_spread_14 : decode prog_5_method_25_code 14 = .ok (.getfield 26, 3) := by decide +kernel
theorem d_M_spread_17 : decode prog_5_method_25_code 17 = .ok (.iload_n 1, 1) := by decide +kernel
theorem d_M_spread_18 : decode prog_5_method_25_code 18 = .ok (.iaload, 1) := by decide +kernel
theorem d_M_spread_19 : decode prog_5_method_25_code 19 = .ok (.if_icmp .gt 7, 3) := by decide +kernel
theorem d_M_spread_22 : decode prog_5_method_25_code 22 = .ok (.iconst 1, 1) := by decide +kernel
theorem d_M_spread_23 : decode prog_5_method_25_code 23 = .ok (.goto 4, 3) := by decide +kernel
theorem d_M_spread_26 : decode prog_5_method_25_code 26 = .ok (.iconst 0, 1) := by decide +kernel
theorem d_M_spread_27 : decode prog_5_method_25_code 27 = .ok (.istore 4, 2) := by decide +kernel
theorem d_M_spread_29 : decode prog_5_method_25_code 29 = .ok (.aload_n 0, 1) := by decide +kernel
theorem d_M_spread_30 : decode prog_5_method_25_code 30 = .ok (.getfield 52, 3) := by decide +kernel
theorem d_M_spread_33 : decode prog_5_method_25_code 33 = .ok (.bipush 80, 2) := by decide +kernel
theorem d_M_spread_35 : decode prog_5_method_25_code 35 = .ok (.if_icmp .ge 7, 3) := by decide +kernel
theorem d_M_spread_38 : decode prog_5_method_25_code 38 = .ok (.iconst 1, 1) := by decide +kernel
theorem d_M_spread_39 : decode prog_5_method_25_code 39 = .ok (.goto 4, 3) := by decide +kernel
theorem d_M_spread_42 : decode prog_5_method_25_code 42 = .ok (.iconst 0, 1) := by decide +kernel
theorem d_M_spread_43 : decode prog_5_method_25_code 43 = .ok (.istore 5, 2) := by decide +kernel
theorem d_M_spread_45 : decode prog_5_method_25_code 45 = .ok (.iload 4, 2) := by decide +kernel
theorem d_M_spread_47 : decode prog_5_method_25_code 47 = .ok (.ifCond .eq 115, 3) := by decide +kernel
theorem d_M_spread_50 : decode prog_5_method_25_code 50 = .ok (.iload_n 3, 1) := by decide +kernel
theorem d_M_spread_51 : decode prog_5_method_25_code 51 = .ok (.ifCond .lt 111, 3) := by decide +kernel
theorem d_M_spread_54 : decode prog_5_method_25_code 54 = .ok (.aload_n 0, 1) := by decide +kernel
theorem d_M_spread_55 : decode prog_5_method_25_code 55 = .ok (.iconst 0, 1) := by decide +kernel
theorem d_M_spread_56 : decode prog_5_method_25_code 56 = .ok (.putfield 59, 3) := by decide +kernel
theorem d_M_spread_59 : decode prog_5_method_25_code 59 = .ok (.iconst 0, 1) := by decide +kernel
theorem d_M_spread_60 : decode prog_5_method_25_code 60 = .ok (.istore 6, 2) := by decide +kernel
theorem d_M_spread_62 : decode prog_5_method_25_code 62 = .ok (.iload 6, 2) := by decide +kernel
theorem d_M_spread_64 : decode prog_5_method_25_code 64 = .ok (.aload_n 0, 1) := by decide +kernel
theorem d_M_spread_65 : decode prog_5_method_25_code 65 = .ok (.getfield 26, 3) := by decide +kernel
theorem d_M_spread_68 : decode prog_5_method_25_code 68 = .ok (.iload_n 1, 1) := by decide +kernel
theorem d_M_spread_69 : decode prog_5_method_25_code 69 = .ok (.iaload, 1) := by decide +kernel
theorem d_M_spread_70 : decode prog_5_method_25_code 70 = .ok (.if_icmp .gt 61, 3) := by decide +kernel
theorem d_M_spread_73 : decode prog_5_method_25_code 73 = .ok (.iload 6, 2) := by decide +kernel
theorem d_M_spread_75 : decode prog_5_method_25_code 75 = .ok (.iload_n 2, 1) := by decide +kernel
theorem d_M_spread_76 : decode prog_5_method_25_code 76 = .ok (.if_icmp .ne 10, 3) := by decide +kernel
theorem d_M_spread_79 : decode prog_5_method_25_code 79 = .ok (.aload_n 0, 1) := by decide +kernel
theorem d_M_spread_80 : decode prog_5_method_25_code 80 = .ok (.iload_n 3, 1) := by decide +kernel
theorem d_M_spread_81 : decode prog_5_method_25_code 81 = .ok (.i2l, 1) := by decide +kernel
theorem d_M_spread_82 : decode prog_5_method_25_code 82 = .ok (.lconst 0, 1) := by decide +kernel
theorem d_M_spread_83 : decode prog_5_method_25_code 83 = .ok (.invokevirtual 94, 3) := by decide +kernel
theorem d_M_spread_86 : decode prog_5_method_25_code 86 = .ok (.iload 6, 2) := by decide +kernel
theorem d_M_spread_88 : decode prog_5_method_25_code 88 = .ok (.aload_n 0, 1) := by decide +kernel
theorem d_M_spread_89 : decode prog_5_method_25_code 89 = .ok (.getfield 26, 3) := by decide +kernel
theorem d_M_spread_92 : decode prog_5_method_25_code 92 = .ok (.iload_n 1, 1) := by decide +kernel
theorem d_M_spread_93 : decode prog_5_method_25_code 93 = .ok (.iaload, 1) := by decide +kernel
theorem d_M_spread_94 : decode prog_5_method_25_code 94 = .ok (.if_icmp .ge 31, 3) := by decide +kernel
theorem d_M_spread_97 : decode prog_5_method_25_code 97 = .ok (.aload_n 0, 1) := by decide +kernel
theorem d_M_spread_98 : decode prog_5_method_25_code 98 = .ok (.aload_n 0, 1) := by decide +kernel
theorem d_M_spread_99 : decode prog_5_method_25_code 99 = .ok (.getfield 29, 3) := by decide +kernel
theorem d_M_spread_102 : decode prog_5_method_25_code 102 = .ok (.iconst 4, 1) := by decide +kernel
theorem d_M_spread_103 : decode prog_5_method_25_code 103 = .ok (.iload_n 1, 1) := by decide +kernel
theorem d_M_spread_104 : decode prog_5_method_25_code 104 = .ok (.imul, 1) := by decide +kernel
theorem d_M_spread_105 : decode prog_5_method_25_code 105 = .ok (.iload 6, 2) := by decide +kernel
theorem d_M_spread_107 : decode prog_5_method_25_code 107 = .ok (.iadd, 1) := by decide +kernel
theorem d_M_spread_108 : decode prog_5_method_25_code 108 = .ok (.iaload, 1) := by decide +kernel
theorem d_M_spread_109 : decode prog_5_method_25_code 109 = .ok (.i2l, 1) := by decide +kernel
theorem d_M_spread_110 : decode prog_5_method_25_code 110 = .ok (.aload_n 0, 1) := by decide +kernel
theorem d_M_spread_111 : decode prog_5_method_25_code 111 = .ok (.getfield 32, 3) := by decide +kernel
theorem d_M_spread_114 : decode prog_5_method_25_code 114 = .ok (.iconst 4, 1) := by decide +kernel
theorem d_M_spread_115 : decode prog_5_method_25_code 115 = .ok (.iload_n 1, 1) := by decide +kernel
theorem d_M_spread_116 : decode prog_5_method_25_code 116 = .ok (.imul, 1) := by decide +kernel
theorem d_M_spread_117 : decode prog_5_method_25_code 117 = .ok (.iload 6, 2) := by decide +kernel
theorem d_M_spread_119 : decode prog_5_method_25_code 119 = .ok (.iadd, 1) := by decide +kernel
theorem d_M_spread_120 : decode prog_5_method_25_code 120 = .ok (.iaload, 1) := by decide +kernel
theorem d_M_spread_121 : decode prog_5_method_25_code 121 = .ok (.i2l, 1) := by decide +kernel
theorem d_M_spread_122 : decode prog_5_method_25_code 122 = .ok (.invokevirtual 94, 3) := by decide +kernel
theorem d_M_spread_125 : decode prog_5_method_25_code 125 = .ok (.iinc 6 1, 3) := by decide +kernel
theorem d_M_spread_128 : decode prog_5_method_25_code 128 = .ok (.goto (-66), 3) := by decide +kernel
theorem d_M_spread_131 : decode prog_5_method_25_code 131 = .ok (.iload 5, 2) := by decide +kernel
theorem d_M_spread_133 : decode prog_5_method_25_code 133 = .ok (.ifCond .eq 26, 3) := by decide +kernel
theorem d_M_spread_136 : decode prog_5_method_25_code 136 = .ok (.aload_n 0, 1) := by decide +kernel
theorem d_M_spread_137 : decode prog_5_method_25_code 137 = .ok (.getfield 59, 3) := by decide +kernel
theorem d_M_spread_140 : decode prog_5_method_25_code 140 = .ok (.iconst 5, 1) := by decide +kernel
theorem d_M_spread_141 : decode prog_5_method_25_code 141 = .ok (.if_icmp .ge 18, 3) := by decide +kernel
theorem d_M_spread_144 : decode prog_5_method_25_code 144 = .ok (.aload_n 0, 1) := by decide +kernel
theorem d_M_spread_145 : decode prog_5_method_25_code 145 = .ok (.invokevirtual 78, 3) := by decide +kernel
theorem d_M_spread_148 : decode prog_5_method_25_code 148 = .ok (.ldc2_w 62, 3) := by decide +kernel
theorem d_M_spread_151 : decode prog_5_method_25_code 151 = .ok (.lcmp, 1) := by decide +kernel
theorem d_M_spread_152 : decode prog_5_method_25_code 152 = .ok (.ifCond .gt 7, 3) := by decide +kernel
theorem d_M_spread_155 : decode prog_5_method_25_code 155 = .ok (.iconst 1, 1) := by decide +kernel
theorem d_M_spread_156 : decode prog_5_method_25_code 156 = .ok (.goto 4, 3) := by decide +kernel
theorem d_M_spread_159 : decode prog_5_method_25_code 159 = .ok (.iconst 0, 1) := by decide +kernel
theorem d_M_spread_160 : decode prog_5_method_25_code 160 = .ok (.istore 5, 2) := by decide +kernel
theorem d_M_spread_162 : decode prog_5_method_25_code 162 = .ok (.aload_n 0, 1) := by decide +kernel
theorem d_M_spread_163 : decode prog_5_method_25_code 163 = .ok (.iload 4, 2) := by decide +kernel
theorem d_M_spread_165 : decode prog_5_method_25_code 165 = .ok (.iload_n 3, 1) := by decide +kernel
theorem d_M_spread_166 : decode prog_5_method_25_code 166 = .ok (.ifCond .lt 7, 3) := by decide +kernel
theorem d_M_spread_169 : decode prog_5_method_25_code 169 = .ok (.iconst 1, 1) := by decide +kernel
theorem d_M_spread_170 : decode prog_5_method_25_code 170 = .ok (.goto 4, 3) := by decide +kernel
theorem d_M_spread_173 : decode prog_5_method_25_code 173 = .ok (.iconst 0, 1) := by decide +kernel
theorem d_M_spread_174 : decode prog_5_method_25_code 174 = .ok (.iload 5, 2) := by decide +kernel
theorem d_M_spread_176 : decode prog_5_method_25_code 176 = .ok (.invokevirtual 109, 3) := by decide +kernel
theorem d_M_spread_179 : decode prog_5_method_25_code 179 = .ok (.ifCond .ne 5, 3) := by decide +kernel
theorem d_M_spread_182 : decode prog_5_method_25_code 182 = .ok (.iconst 0, 1) := by decide +kernel
theorem d_M_spread_183 : decode prog_5_method_25_code 183 = .ok (.ireturn, 1) := by decide +kernel
theorem d_M_spread_184 : decode prog_5_method_25_code 184 = .ok (.aload_n 0, 1) := by decide +kernel
theorem d_M_spread_185 : decode prog_5_method_25_code 185 = .ok (.aload_n 0, 1) := by decide +kernel
theorem d_M_spread_186 : decode prog_5_method_25_code 186 = .ok (.getfield 20, 3) := by decide +kernel
theorem d_M_spread_189 : decode prog_5_method_25_code 189 = .ok (.iload_n 1, 1) := by decide +kernel
theorem d_M_spread_190 : decode prog_5_method_25_code 190 = .ok (.iaload, 1) := by decide +kernel
theorem d_M_spread_191 : decode prog_5_method_25_code 191 = .ok (.aload_n 0, 1) := by decide +kernel
theorem d_M_spread_192 : decode prog_5_method_25_code 192 = .ok (.getfield 23, 3) := by decide +kernel
theorem d_M_spread_195 : decode prog_5_method_25_code 195 = .ok (.iload_n 1, 1) := by decide +kernel
theorem d_M_spread_196 : decode prog_5_method_25_code 196 = .ok (.iaload, 1) := by decide +kernel
theorem d_M_spread_197 : decode prog_5_method_25_code 197 = .ok (.i2l, 1) := by decide +kernel
theorem d_M_spread_198 : decode prog_5_method_25_code 198 = .ok (.invokevirtual 101, 3) := by decide +kernel
theorem d_M_spread_201 : decode prog_5_method_25_code 201 = .ok (.ireturn, 1) := by decide +kernel
theorem d_M_diagonal_0 : decode prog_5_method_26_code 0 = .ok (.aload_n 0, 1) := by decide +kernel
theorem d_M_diagonal_1 : decode prog_5_method_26_code 1 = .ok (.aload_n 0, 1) := by decide +kernel
theorem d_M_diagonal_2 : decode prog_5_method_26_code 2 = .ok (.iload_n 1, 1) := by decide +kernel
theorem d_M_diagonal_3 : decode prog_5_method_26_code 3 = .ok (.iload_n 2, 1) := by decide +kernel
theorem d_M_diagonal_4 : decode prog_5_method_26_code 4 = .ok (.invokevirtual 105, 3) := by decide +kernel
theorem d_M_diagonal_7 : decode prog_5_method_26_code 7 = .ok (.ifCond .eq 16, 3) := by decide +kernel
theorem d_M_diagonal_10 : decode prog_5_method_26_code 10 = .ok (.aload_n 0, 1) := by decide +kernel
theorem d_M_diagonal_11 : decode prog_5_method_26_code 11 = .ok (.iload_n 1, 1) := by decide +kernel
theorem d_M_diagonal_12 : decode prog_5_method_26_code 12 = .ok (.iload_n 3, 1) := by decide +kernel
theorem d_M_diagonal_13 : decode prog_5_method_26_code 13 = .ok (.invokevirtual 105, 3) := by decide +kernel
theorem d_M_diagonal_16 : decode prog_5_method_26_code 16 = .ok (.ifCond .eq 7, 3) := by decide +kernel
theorem d_M_diagonal_19 : decode prog_5_method_26_code 19 = .ok (.iconst 1, 1) := by decide +kernel
theorem d_M_diagonal_20 : decode prog_5_method_26_code 20 = .ok (.goto 4, 3) := by decide +kernel
theorem d_M_diagonal_23 : decode prog_5_method_26_code 23 = .ok (.iconst 0, 1) := by decide +kernel
theorem d_M_diagonal_24 : decode prog_5_method_26_code 24 = .ok (.iload_n 2, 1) := by decide +kernel
theorem d_M_diagonal_25 : decode prog_5_method_26_code 25 = .ok (.iload_n 3, 1) := by decide +kernel
theorem d_M_diagonal_26 : decode prog_5_method_26_code 26 = .ok (.if_icmp .eq 7, 3) := by decide +kernel
theorem d_M_diagonal_29 : decode prog_5_method_26_code 29 = .ok (.iconst 1, 1) := by decide +kernel
theorem d_M_diagonal_30 : decode prog_5_method_26_code 30 = .ok (.goto 4, 3) := by decide +kernel
theorem d_M_diagonal_33 : decode prog_5_method_26_code 33 = .ok (.iconst 0, 1) := by decide +kernel
theorem d_M_diagonal_34 : decode prog_5_method_26_code 34 = .ok (.aload_n 0, 1) := by decide +kernel
theorem d_M_diagonal_35 : decode prog_5_method_26_code 35 = .ok (.getfield 52, 3) := by decide +kernel
theorem d_M_diagonal_38 : decode prog_5_method_26_code 38 = .ok (.bipush 80, 2) := by decide +kernel
theorem d_M_diagonal_40 : decode prog_5_method_26_code 40 = .ok (.if_icmp .ge 7, 3) := by decide +kernel
theorem d_M_diagonal_43 : decode prog_5_method_26_code 43 = .ok (.iconst 1, 1) := by decide +kernel
theorem d_M_diagonal_44 : decode prog_5_method_26_code 44 = .ok (.goto 4, 3) := by decide +kernel
theorem d_M_diagonal_47 : decode prog_5_method_26_code 47 = .ok (.iconst 0, 1) := by decide +kernel
theorem d_M_diagonal_48 : decode prog_5_method_26_code 48 = .ok (.invokevirtual 109, 3) := by decide +kernel
theorem d_M_diagonal_51 : decode prog_5_method_26_code 51 = .ok (.ifCond .ne 5, 3) := by decide +kernel
theorem d_M_diagonal_54 : decode prog_5_method_26_code 54 = .ok (.iconst 0, 1) := by decide +kernel
theorem d_M_diagonal_55 : decode prog_5_method_26_code 55 = .ok (.ireturn, 1) := by decide +kernel
theorem d_M_diagonal_56 : decode prog_5_method_26_code 56 = .ok (.aload_n 0, 1) := by decide +kernel
theorem d_M_diagonal_57 : decode prog_5_method_26_code 57 = .ok (.getfield 29, 3) := by decide +kernel
theorem d_M_diagonal_60 : decode prog_5_method_26_code 60 = .ok (.iconst 4, 1) := by decide +kernel
theorem d_M_diagonal_61 : decode prog_5_method_26_code 61 = .ok (.iload_n 1, 1) := by decide +kernel
theorem d_M_diagonal_62 : decode prog_5_method_26_code 62 = .ok (.imul, 1) := by decide +kernel
theorem d_M_diagonal_63 : decode prog_5_method_26_code 63 = .ok (.iload_n 2, 1) := by decide +kernel
theorem d_M_diagonal_64 : decode prog_5_method_26_code 64 = .ok (.iadd, 1) := by decide +kernel
theorem d_M_diagonal_65 : decode prog_5_method_26_code 65 = .ok (.iaload, 1) := by decide +kernel
theorem d_M_diagonal_66 : decode prog_5_method_26_code 66 = .ok (.istore 4, 2) := by decide +kernel
theorem d_M_diagonal_68 : decode prog_5_method_26_code 68 = .ok (.aload_n 0, 1) := by decide +kernel
theorem d_M_diagonal_69 : decode prog_5_method_26_code 69 = .ok (.getfield 29, 3) := by decide +kernel
theorem d_M_diagonal_72 : decode prog_5_method_26_code 72 = .ok (.iconst 4, 1) := by decide +kernel
theorem d_M_diagonal_73 : decode prog_5_method_26_code 73 = .ok (.iload_n 1, 1) := by decide +kernel
theorem d_M_diagonal_74 : decode prog_5_method_26_code 74 = .ok (.imul, 1) := by decide +kernel
theorem d_M_diagonal_75 : decode prog_5_method_26_code 75 = .ok (.iload_n 3, 1) := by decide +kernel
theorem d_M_diagonal_76 : decode prog_5_method_26_code 76 = .ok (.iadd, 1) := by decide +kernel
theorem d_M_diagonal_77 : decode prog_5_method_26_code 77 = .ok (.iaload, 1) := by decide +kernel
theorem d_M_diagonal_78 : decode prog_5_method_26_code 78 = .ok (.istore 5, 2) := by decide +kernel
theorem d_M_diagonal_80 : decode prog_5_method_26_code 80 = .ok (.aload_n 0, 1) := by decide +kernel
theorem d_M_diagonal_81 : decode prog_5_method_26_code 81 = .ok (.iload_n 1, 1) := by decide +kernel
theorem d_M_diagonal_82 : decode prog_5_method_26_code 82 = .ok (.iload_n 2, 1) := by decide +kernel
theorem d_M_diagonal_83 : decode prog_5_method_26_code 83 = .ok (.iload_n 3, 1) := by decide +kernel
theorem d_M_diagonal_84 : decode prog_5_method_26_code 84 = .ok (.invokevirtual 113, 3) := by decide +kernel
theorem d_M_diagonal_87 : decode prog_5_method_26_code 87 = .ok (.aload_n 0, 1) := by decide +kernel
theorem d_M_diagonal_88 : decode prog_5_method_26_code 88 = .ok (.iload 4, 2) := by decide +kernel
theorem d_M_diagonal_90 : decode prog_5_method_26_code 90 = .ok (.iload 5, 2) := by decide +kernel
theorem d_M_diagonal_92 : decode prog_5_method_26_code 92 = .ok (.if_icmp .ge 9, 3) := by decide +kernel
theorem d_M_diagonal_95 : decode prog_5_method_26_code 95 = .ok (.iload 4, 2) := by decide +kernel
theorem d_M_diagonal_97 : decode prog_5_method_26_code 97 = .ok (.i2l, 1) := by decide +kernel
theorem d_M_diagonal_98 : decode prog_5_method_26_code 98 = .ok (.goto 6, 3) := by decide +kernel
theorem d_M_diagonal_101 : decode prog_5_method_26_code 101 = .ok (.iload 5, 2) := by decide +kernel
theorem d_M_diagonal_103 : decode prog_5_method_26_code 103 = .ok (.i2l, 1) := by decide +kernel
theorem d_M_diagonal_104 : decode prog_5_method_26_code 104 = .ok (.aload_n 0, 1) := by decide +kernel
theorem d_M_diagonal_105 : decode prog_5_method_26_code 105 = .ok (.getfield 32, 3) := by decide +kernel
theorem d_M_diagonal_108 : decode prog_5_method_26_code 108 = .ok (.iconst 4, 1) := by decide +kernel
theorem d_M_diagonal_109 : decode prog_5_method_26_code 109 = .ok (.iload_n 1, 1) := by decide +kernel
theorem d_M_diagonal_110 : decode prog_5_method_26_code 110 = .ok (.imul, 1) := by decide +kernel
theorem d_M_diagonal_111 : decode prog_5_method_26_code 111 = .ok (.iload_n 2, 1) := by decide +kernel
theorem d_M_diagonal_112 : decode prog_5_method_26_code 112 = .ok (.iadd, 1) := by decide +kernel
theorem d_M_diagonal_113 : decode prog_5_method_26_code 113 = .ok (.iaload, 1) := by decide +kernel
theorem d_M_diagonal_114 : decode prog_5_method_26_code 114 = .ok (.i2l, 1) := by decide +kernel
theorem d_M_diagonal_115 : decode prog_5_method_26_code 115 = .ok (.aload_n 0, 1) := by decide +kernel
theorem d_M_diagonal_116 : decode prog_5_method_26_code 116 = .ok (.getfield 32, 3) := by decide +kernel
theorem d_M_diagonal_119 : decode prog_5_method_26_code 119 = .ok (.iconst 4, 1) := by decide +kernel
theorem d_M_diagonal_120 : decode prog_5_method_26_code 120 = .ok (.iload_n 1, 1) := by decide +kernel
theorem d_M_diagonal_121 : decode prog_5_method_26_code 121 = .ok (.imul, 1) := by decide +kernel
theorem d_M_diagonal_122 : decode prog_5_method_26_code 122 = .ok (.iload_n 3, 1) := by decide +kernel
theorem d_M_diagonal_123 : decode prog_5_method_26_code 123 = .ok (.iadd, 1) := by decide +kernel
theorem d_M_diagonal_124 : decode prog_5_method_26_code 124 = .ok (.iaload, 1) := by decide +kernel
theorem d_M_diagonal_125 : decode prog_5_method_26_code 125 = .ok (.i2l, 1) := by decide +kernel
theorem d_M_diagonal_126 : decode prog_5_method_26_code 126 = .ok (.ladd, 1) := by decide +kernel
theorem d_M_diagonal_127 : decode prog_5_method_26_code 127 = .ok (.invokevirtual 94, 3) := by decide +kernel
theorem d_M_diagonal_130 : decode prog_5_method_26_code 130 = .ok (.aload_n 0, 1) := by decide +kernel
theorem d_M_diagonal_131 : decode prog_5_method_26_code 131 = .ok (.aload_n 0, 1) := by decide +kernel
theorem d_M_diagonal_132 : decode prog_5_method_26_code 132 = .ok (.getfield 20, 3) := by decide +kernel
theorem d_M_diagonal_135 : decode prog_5_method_26_code 135 = .ok (.iload_n 1, 1) := by decide +kernel
theorem d_M_diagonal_136 : decode prog_5_method_26_code 136 = .ok (.iaload, 1) := by decide +kernel
theorem d_M_diagonal_137 : decode prog_5_method_26_code 137 = .ok (.aload_n 0, 1) := by decide +kernel
theorem d_M_diagonal_138 : decode prog_5_method_26_code 138 = .ok (.getfield 23, 3) := by decide +kernel
theorem d_M_diagonal_141 : decode prog_5_method_26_code 141 = .ok (.iload_n 1, 1) := by decide +kernel
theorem d_M_diagonal_142 : decode prog_5_method_26_code 142 = .ok (.iaload, 1) := by decide +kernel
theorem d_M_diagonal_143 : decode prog_5_method_26_code 143 = .ok (.i2l, 1) := by decide +kernel
theorem d_M_diagonal_144 : decode prog_5_method_26_code 144 = .ok (.invokevirtual 101, 3) := by decide +kernel
theorem d_M_diagonal_147 : decode prog_5_method_26_code 147 = .ok (.ireturn, 1) := by decide +kernel
theorem d_M_shape_0 : decode prog_5_method_29_code 0 = .ok (.aload_n 0, 1) := by decide +kernel
theorem d_M_shape_1 : decode prog_5_method_29_code 1 = .ok (.iload_n 1, 1) := by decide +kernel
theorem d_M_shape_2 : decode prog_5_method_29_code 2 = .ok (.invokevirtual 55, 3) := by decide +kernel
theorem d_M_shape_5 : decode prog_5_method_29_code 5 = .ok (.istore 5, 2) := by decide +kernel
theorem d_M_shape_7 : decode prog_5_method_29_code 7 = .ok (.iload 5, 2) := by decide +kernel
theorem d_M_shape_9 : decode prog_5_method_29_code 9 = .ok (.ifCond .eq 32, 3) := by decide +kernel
theorem d_M_shape_12 : decode prog_5_method_29_code 12 = .ok (.aload_n 0, 1) := by decide +kernel
theorem d_M_shape_13 : decode prog_5_method_29_code 13 = .ok (.iload_n 2, 1) := by decide +kernel
theorem d_M_shape_14 : decode prog_5_method_29_code 14 = .ok (.iload_n 3, 1) := by decide +kernel
theorem d_M_shape_15 : decode prog_5_method_29_code 15 = .ok (.iload 4, 2) := by decide +kernel
theorem d_M_shape_17 : decode prog_5_method_29_code 17 = .ok (.invokevirtual 121, 3) := by decide +kernel
theorem d_M_shape_20 : decode prog_5_method_29_code 20 = .ok (.ifCond .eq 21, 3) := by decide +kernel
theorem d_M_shape_23 : decode prog_5_method_29_code 23 = .ok (.aload_n 0, 1) := by decide +kernel
theorem d_M_shape_24 : decode prog_5_method_29_code 24 = .ok (.invokevirtual 78, 3) := by decide +kernel
theorem d_M_shape_27 : decode prog_5_method_29_code 27 = .ok (.aload_n 0, 1) := by decide +kernel
theorem d_M_shape_28 : decode prog_5_method_29_code 28 = .ok (.iload_n 1, 1) := by decide +kernel
theorem d_M_shape_29 : decode prog_5_method_29_code 29 = .ok (.invokevirtual 117, 3) := by decide +kernel
theorem d_M_shape_32 : decode prog_5_method_29_code 32 = .ok (.i2l, 1) := by decide +kernel
theorem d_M_shape_33 : decode prog_5_method_29_code 33 = .ok (.lcmp, 1) := by decide +kernel
theorem d_M_shape_34 : decode prog_5_method_29_code 34 = .ok (.ifCond .ne 7, 3) := by decide +kernel
theorem d_M_shape_37 : decode prog_5_method_29_code 37 = .ok (.iconst 1, 1) := by decide +kernel
theorem d_M_shape_38 : decode prog_5_method_29_code 38 = .ok (.goto 4, 3) := by decide +kernel
theorem d_M_shape_41 : decode prog_5_method_29_code 41 = .ok (.iconst 0, 1) := by decide +kernel
theorem d_M_shape_42 : decode prog_5_method_29_code 42 = .ok (.istore 6, 2) := by decide +kernel
theorem d_M_shape_44 : decode prog_5_method_29_code 44 = .ok (.aload_n 0, 1) := by decide +kernel
theorem d_M_shape_45 : decode prog_5_method_29_code 45 = .ok (.iload 5, 2) := by decide +kernel
theorem d_M_shape_47 : decode prog_5_method_29_code 47 = .ok (.iload 6, 2) := by decide +kernel
theorem d_M_shape_49 : decode prog_5_method_29_code 49 = .ok (.iload 6, 2) := by decide +kernel
theorem d_M_shape_51 : decode prog_5_method_29_code 51 = .ok (.ifCond .eq 24, 3) := by decide +kernel
theorem d_M_shape_54 : decode prog_5_method_29_code 54 = .ok (.aload_n 0, 1) := by decide +kernel
theorem d_M_shape_55 : decode prog_5_method_29_code 55 = .ok (.getfield 52, 3) := by decide +kernel
theorem d_M_shape_58 : decode prog_5_method_29_code 58 = .ok (.bipush 80, 2) := by decide +kernel
theorem d_M_shape_60 : decode prog_5_method_29_code 60 = .ok (.if_icmp .ge 15, 3) := by decide +kernel
theorem d_M_shape_63 : decode prog_5_method_29_code 63 = .ok (.aload_n 0, 1) := by decide +kernel
theorem d_M_shape_64 : decode prog_5_method_29_code 64 = .ok (.iload_n 1, 1) := by decide +kernel
theorem d_M_shape_65 : decode prog_5_method_29_code 65 = .ok (.invokevirtual 125, 3) := by decide +kernel
theorem d_M_shape_68 : decode prog_5_method_29_code 68 = .ok (.ifCond .eq 7, 3) := by decide +kernel
theorem d_M_shape_71 : decode prog_5_method_29_code 71 = .ok (.iconst 1, 1) := by decide +kernel
theorem d_M_shape_72 : decode prog_5_method_29_code 72 = .ok (.goto 4, 3) := by decide +kernel
theorem d_M_shape_75 : decode prog_5_method_29_code 75 = .ok (.iconst 0, 1) := by decide +kernel
theorem d_M_shape_76 : decode prog_5_method_29_code 76 = .ok (.invokevirtual 109, 3) := by decide +kernel
theorem d_M_shape_79 : decode prog_5_method_29_code 79 = .ok (.ifCond .ne 5, 3) := by decide +kernel
theorem d_M_shape_82 : decode prog_5_method_29_code 82 = .ok (.iconst 0, 1) := by decide +kernel
theorem d_M_shape_83 : decode prog_5_method_29_code 83 = .ok (.ireturn, 1) := by decide +kernel
theorem d_M_shape_84 : decode prog_5_method_29_code 84 = .ok (.aload_n 0, 1) := by decide +kernel
theorem d_M_shape_85 : decode prog_5_method_29_code 85 = .ok (.aload_n 0, 1) := by decide +kernel
theorem d_M_shape_86 : decode prog_5_method_29_code 86 = .ok (.getfield 20, 3) := by decide +kernel
theorem d_M_shape_89 : decode prog_5_method_29_code 89 = .ok (.iload_n 1, 1) := by decide +kernel
theorem d_M_shape_90 : decode prog_5_method_29_code 90 = .ok (.iaload, 1) := by decide +kernel
theorem d_M_shape_91 : decode prog_5_method_29_code 91 = .ok (.aload_n 0, 1) := by decide +kernel
theorem d_M_shape_92 : decode prog_5_method_29_code 92 = .ok (.iload_n 1, 1) := by decide +kernel
theorem d_M_shape_93 : decode prog_5_method_29_code 93 = .ok (.invokevirtual 117, 3) := by decide +kernel
theorem d_M_shape_96 : decode prog_5_method_29_code 96 = .ok (.ifCond .ne 7, 3) := by decide +kernel
theorem d_M_shape_99 : decode prog_5_method_29_code 99 = .ok (.lconst 0, 1) := by decide +kernel
theorem d_M_shape_100 : decode prog_5_method_29_code 100 = .ok (.goto 10, 3) := by decide +kernel
theorem d_M_shape_103 : decode prog_5_method_29_code 103 = .ok (.aload_n 0, 1) := by decide +kernel
theorem d_M_shape_104 : decode prog_5_method_29_code 104 = .ok (.iload_n 1, 1) := by decide +kernel
theorem d_M_shape_105 : decode prog_5_method_29_code 105 = .ok (.iconst 0, 1) := by decide +kernel
theorem d_M_shape_106 : decode prog_5_method_29_code 106 = .ok (.invokevirtual 70, 3) := by decide +kernel
theorem d_M_shape_109 : decode prog_5_method_29_code 109 = .ok (.i2l, 1) := by decide +kernel
theorem d_M_shape_110 : decode prog_5_method_29_code 110 = .ok (.invokevirtual 101, 3) := by decide +kernel
theorem d_M_shape_113 : decode prog_5_method_29_code 113 = .ok (.ireturn, 1) := by decide +kernel
theorem d_M_tells_0 : decode prog_5_method_27_code 0 = .ok (.aload_n 0, 1) := by decide +kernel
theorem d_M_tells_1 : decode prog_5_method_27_code 1 = .ok (.iconst 0, 1) := by decide +kernel
theorem d_M_tells_2 : decode prog_5_method_27_code 2 = .ok (.putfield 59, 3) := by decide +kernel
theorem d_M_tells_5 : decode prog_5_method_27_code 5 = .ok (.iload_n 1, 1) := by decide +kernel
theorem d_M_tells_6 : decode prog_5_method_27_code 6 = .ok (.ifCond .lt 10, 3) := by decide +kernel
theorem d_M_tells_9 : decode prog_5_method_27_code 9 = .ok (.aload_n 0, 1) := by decide +kernel
theorem d_M_tells_10 : decode prog_5_method_27_code 10 = .ok (.iload_n 1, 1) := by decide +kernel
theorem d_M_tells_11 : decode prog_5_method_27_code 11 = .ok (.i2l, 1) := by decide +kernel
theorem d_M_tells_12 : decode prog_5_method_27_code 12 = .ok (.lconst 0, 1) := by decide +kernel
theorem d_M_tells_13 : decode prog_5_method_27_code 13 = .ok (.invokevirtual 94, 3) := by decide +kernel
theorem d_M_tells_16 : decode prog_5_method_27_code 16 = .ok (.iload_n 2, 1) := by decide +kernel
theorem d_M_tells_17 : decode prog_5_method_27_code 17 = .ok (.ifCond .lt 10, 3) := by decide +kernel
theorem d_M_tells_20 : decode prog_5_method_27_code 20 = .ok (.aload_n 0, 1) := by decide +kernel
theorem d_M_tells_21 : decode prog_5_method_27_code 21 = .ok (.iload_n 2, 1) := by decide +kernel
theorem d_M_tells_22 : decode prog_5_method_27_code 22 = .ok (.i2l, 1) := by decide +kernel
theorem d_M_tells_23 : decode prog_5_method_27_code 23 = .ok (.lconst 0, 1) := by decide +kernel
theorem d_M_tells_24 : decode prog_5_method_27_code 24 = .ok (.invokevirtual 94, 3) := by decide +kernel
theorem d_M_tells_27 : decode prog_5_method_27_code 27 = .ok (.iload_n 3, 1) := by decide +kernel
theorem d_M_tells_28 : decode prog_5_method_27_code 28 = .ok (.ifCond .lt 10, 3) := by decide +kernel
theorem d_M_tells_31 : decode prog_5_method_27_code 31 = .ok (.aload_n 0, 1) := by decide +kernel
theorem d_M_tells_32 : decode prog_5_method_27_code 32 = .ok (.iload_n 3, 1) := by decide +kernel
theorem d_M_tells_33 : decode prog_5_method_27_code 33 = .ok (.i2l, 1) := by decide +kernel
theorem d_M_tells_34 : decode prog_5_method_27_code 34 = .ok (.lconst 0, 1) := by decide +kernel
theorem d_M_tells_35 : decode prog_5_method_27_code 35 = .ok (.invokevirtual 94, 3) := by decide +kernel
theorem d_M_tells_38 : decode prog_5_method_27_code 38 = .ok (.iload_n 1, 1) := by decide +kernel
theorem d_M_tells_39 : decode prog_5_method_27_code 39 = .ok (.iconst (-1), 1) := by decide +kernel
theorem d_M_tells_40 : decode prog_5_method_27_code 40 = .ok (.if_icmp .lt 17, 3) := by decide +kernel
theorem d_M_tells_43 : decode prog_5_method_27_code 43 = .ok (.iload_n 2, 1) := by decide +kernel
theorem d_M_tells_44 : decode prog_5_method_27_code 44 = .ok (.iconst (-1), 1) := by decide +kernel
theorem d_M_tells_45 : decode prog_5_method_27_code 45 = .ok (.if_icmp .lt 12, 3) := by decide +kernel
theorem d_M_tells_48 : decode prog_5_method_27_code 48 = .ok (.iload_n 3, 1) := by decide +kernel
theorem d_M_tells_49 : decode prog_5_method_27_code 49 = .ok (.iconst (-1), 1) := by decide +kernel
theorem d_M_tells_50 : decode prog_5_method_27_code 50 = .ok (.if_icmp .lt 7, 3) := by decide +kernel
theorem d_M_tells_53 : decode prog_5_method_27_code 53 = .ok (.iconst 1, 1) := by decide +kernel
theorem d_M_tells_54 : decode prog_5_method_27_code 54 = .ok (.goto 4, 3) := by decide +kernel
theorem d_M_tells_57 : decode prog_5_method_27_code 57 = .ok (.iconst 0, 1) := by decide +kernel
theorem d_M_tells_58 : decode prog_5_method_27_code 58 = .ok (.ireturn, 1) := by decide +kernel
theorem d_M_items_0 : decode prog_5_method_8_code 0 = .ok (.iconst 1, 1) := by decide +kernel
theorem d_M_items_1 : decode prog_5_method_8_code 1 = .ok (.istore_n 2, 1) := by decide +kernel
theorem d_M_items_2 : decode prog_5_method_8_code 2 = .ok (.iconst 0, 1) := by decide +kernel
theorem d_M_items_3 : decode prog_5_method_8_code 3 = .ok (.istore_n 3, 1) := by decide +kernel
theorem d_M_items_4 : decode prog_5_method_8_code 4 = .ok (.iload_n 3, 1) := by decide +kernel
theorem d_M_items_5 : decode prog_5_method_8_code 5 = .ok (.aload_n 0, 1) := by decide +kernel
theorem d_M_items_6 : decode prog_5_method_8_code 6 = .ok (.getfield 26, 3) := by decide +kernel
theorem d_M_items_9 : decode prog_5_method_8_code 9 = .ok (.iload_n 1, 1) := by decide +kernel
theorem d_M_items_10 : decode prog_5_method_8_code 10 = .ok (.iaload, 1) := by decide +kernel
theorem d_M_items_11 : decode prog_5_method_8_code 11 = .ok (.if_icmp .ge 24, 3) := by decide +kernel
theorem d_M_items_14 : decode prog_5_method_8_code 14 = .ok (.aload_n 0, 1) := by decide +kernel
theorem d_M_items_15 : decode prog_5_method_8_code 15 = .ok (.getfield 29, 3) := by decide +kernel
theorem d_M_items_18 : decode prog_5_method_8_code 18 = .ok (.iconst 4, 1) := by decide +kernel
theorem d_M_items_19 : decode prog_5_method_8_code 19 = .ok (.iload_n 1, 1) := by decide +kernel
theorem d_M_items_20 : decode prog_5_method_8_code 20 = .ok (.imul, 1) := by decide +kernel
theorem d_M_items_21 : decode prog_5_method_8_code 21 = .ok (.iload_n 3, 1) := by decide +kernel
theorem d_M_items_22 : decode prog_5_method_8_code 22 = .ok (.iadd, 1) := by decide +kernel
theorem d_M_items_23 : decode prog_5_method_8_code 23 = .ok (.iaload, 1) := by decide +kernel
theorem d_M_items_24 : decode prog_5_method_8_code 24 = .ok (.ifCond .ne 5, 3) := by decide +kernel
theorem d_M_items_27 : decode prog_5_method_8_code 27 = .ok (.iconst 0, 1) := by decide +kernel
theorem d_M_items_28 : decode prog_5_method_8_code 28 = .ok (.ireturn, 1) := by decide +kernel
theorem d_M_items_29 : decode prog_5_method_8_code 29 = .ok (.iinc 3 1, 3) := by decide +kernel
theorem d_M_items_32 : decode prog_5_method_8_code 32 = .ok (.goto (-28), 3) := by decide +kernel
theorem d_M_items_35 : decode prog_5_method_8_code 35 = .ok (.iconst 0, 1) := by decide +kernel
theorem d_M_items_36 : decode prog_5_method_8_code 36 = .ok (.istore_n 3, 1) := by decide +kernel
theorem d_M_items_37 : decode prog_5_method_8_code 37 = .ok (.iload_n 3, 1) := by decide +kernel
theorem d_M_items_38 : decode prog_5_method_8_code 38 = .ok (.aload_n 0, 1) := by decide +kernel
theorem d_M_items_39 : decode prog_5_method_8_code 39 = .ok (.getfield 26, 3) := by decide +kernel
theorem d_M_items_42 : decode prog_5_method_8_code 42 = .ok (.iload_n 1, 1) := by decide +kernel
theorem d_M_items_43 : decode prog_5_method_8_code 43 = .ok (.iaload, 1) := by decide +kernel
theorem d_M_items_44 : decode prog_5_method_8_code 44 = .ok (.if_icmp .ge 22, 3) := by decide +kernel
theorem d_M_items_47 : decode prog_5_method_8_code 47 = .ok (.iload_n 2, 1) := by decide +kernel
theorem d_M_items_48 : decode prog_5_method_8_code 48 = .ok (.aload_n 0, 1) := by decide +kernel
theorem d_M_items_49 : decode prog_5_method_8_code 49 = .ok (.getfield 29, 3) := by decide +kernel
theorem d_M_items_52 : decode prog_5_method_8_code 52 = .ok (.iconst 4, 1) := by decide +kernel
theorem d_M_items_53 : decode prog_5_method_8_code 53 = .ok (.iload_n 1, 1) := by decide +kernel
theorem d_M_items_54 : decode prog_5_method_8_code 54 = .ok (.imul, 1) := by decide +kernel
theorem d_M_items_55 : decode prog_5_method_8_code 55 = .ok (.iload_n 3, 1) := by decide +kernel
theorem d_M_items_56 : decode prog_5_method_8_code 56 = .ok (.iadd, 1) := by decide +kernel
theorem d_M_items_57 : decode prog_5_method_8_code 57 = .ok (.iaload, 1) := by decide +kernel
theorem d_M_items_58 : decode prog_5_method_8_code 58 = .ok (.imul, 1) := by decide +kernel
theorem d_M_items_59 : decode prog_5_method_8_code 59 = .ok (.istore_n 2, 1) := by decide +kernel
theorem d_M_items_60 : decode prog_5_method_8_code 60 = .ok (.iinc 3 1, 3) := by decide +kernel
theorem d_M_items_63 : decode prog_5_method_8_code 63 = .ok (.goto (-26), 3) := by decide +kernel
theorem d_M_items_66 : decode prog_5_method_8_code 66 = .ok (.iload_n 2, 1) := by decide +kernel
theorem d_M_items_67 : decode prog_5_method_8_code 67 = .ok (.ireturn, 1) := by decide +kernel
theorem d_M_findSteps_0 : decode prog_5_method_28_code 0 = .ok (.aload_n 0, 1) := by decide +kernel
theorem d_M_findSteps_1 : decode prog_5_method_28_code 1 = .ok (.iload_n 1, 1) := by decide +kernel
theorem d_M_findSteps_2 : decode prog_5_method_28_code 2 = .ok (.invokevirtual 117, 3) := by decide +kernel
theorem d_M_findSteps_5 : decode prog_5_method_28_code 5 = .ok (.istore_n 2, 1) := by decide +kernel
theorem d_M_findSteps_6 : decode prog_5_method_28_code 6 = .ok (.iload_n 2, 1) := by decide +kernel
theorem d_M_findSteps_7 : decode prog_5_method_28_code 7 = .ok (.ifCond .ne 5, 3) := by decide +kernel
theorem d_M_findSteps_10 : decode prog_5_method_28_code 10 = .ok (.iconst 1, 1) := by decide +kernel
theorem d_M_findSteps_11 : decode prog_5_method_28_code 11 = .ok (.ireturn, 1) := by decide +kernel
theorem d_M_findSteps_12 : decode prog_5_method_28_code 12 = .ok (.iconst 1, 1) := by decide +kernel
theorem d_M_findSteps_13 : decode prog_5_method_28_code 13 = .ok (.istore_n 3, 1) := by decide +kernel
theorem d_M_findSteps_14 : decode prog_5_method_28_code 14 = .ok (.aload_n 0, 1) := by decide +kernel
theorem d_M_findSteps_15 : decode prog_5_method_28_code 15 = .ok (.getfield 59, 3) := by decide +kernel
theorem d_M_findSteps_18 : decode prog_5_method_28_code 18 = .ok (.iconst 1, 1) := by decide +kernel
theorem d_M_findSteps_19 : decode prog_5_method_28_code 19 = .ok (.isub, 1) := by decide +kernel
theorem d_M_findSteps_20 : decode prog_5_method_28_code 20 = .ok (.istore 4, 2) := by decide +kernel
theorem d_M_findSteps_22 : decode prog_5_method_28_code 22 = .ok (.iload 4, 2) := by decide +kernel
theorem d_M_findSteps_24 : decode prog_5_method_28_code 24 = .ok (.ifCond .lt 59, 3) := by decide +kernel
theorem d_M_findSteps_27 : decode prog_5_method_28_code 27 = .ok (.aload_n 0, 1) := by decide +kernel
theorem d_M_findSteps_28 : decode prog_5_method_28_code 28 = .ok (.getfield 38, 3) := by decide +kernel
theorem d_M_findSteps_31 : decode prog_5_method_28_code 31 = .ok (.iload 4, 2) := by decide +kernel
theorem d_M_findSteps_33 : decode prog_5_method_28_code 33 = .ok (.aload_n 0, 1) := by decide +kernel
theorem d_M_findSteps_34 : decode prog_5_method_28_code 34 = .ok (.getfield 35, 3) := by decide +kernel
theorem d_M_findSteps_37 : decode prog_5_method_28_code 37 = .ok (.iload 4, 2) := by decide +kernel
theorem d_M_findSteps_39 : decode prog_5_method_28_code 39 = .ok (.laload, 1) := by decide +kernel
theorem d_M_findSteps_40 : decode prog_5_method_28_code 40 = .ok (.ldc2_w 82, 3) := by decide +kernel
theorem d_M_findSteps_43 : decode prog_5_method_28_code 43 = .ok (.lcmp, 1) := by decide +kernel
theorem d_M_findSteps_44 : decode prog_5_method_28_code 44 = .ok (.ifCond .ge 7, 3) := by decide +kernel
theorem d_M_findSteps_47 : decode prog_5_method_28_code 47 = .ok (.lconst 0, 1) := by decide +kernel
theorem d_M_findSteps_48 : decode prog_5_method_28_code 48 = .ok (.goto 17, 3) := by decide +kernel
theorem d_M_findSteps_51 : decode prog_5_method_28_code 51 = .ok (.aload_n 0, 1) := by decide +kernel
theorem d_M_findSteps_52 : decode prog_5_method_28_code 52 = .ok (.iload_n 1, 1) := by decide +kernel
theorem d_M_findSteps_53 : decode prog_5_method_28_code 53 = .ok (.iload_n 3, 1) := by decide +kernel
theorem d_M_findSteps_54 : decode prog_5_method_28_code 54 = .ok (.invokevirtual 70, 3) := by decide +kernel
theorem d_M_findSteps_57 : decode prog_5_method_28_code 57 = .ok (.aload_n 0, 1) := by decide +kernel
theorem d_M_findSteps_58 : decode prog_5_method_28_code 58 = .ok (.iload_n 1, 1) := by decide +kernel
theorem d_M_findSteps_59 : decode prog_5_method_28_code 59 = .ok (.iconst 0, 1) := by decide +kernel
theorem d_M_findSteps_60 : decode prog_5_method_28_code 60 = .ok (.invokevirtual 70, 3) := by decide +kernel
theorem d_M_findSteps_63 : decode prog_5_method_28_code 63 = .ok (.isub, 1) := by decide +kernel
theorem d_M_findSteps_64 : decode prog_5_method_28_code 64 = .ok (.i2l, 1) := by decide +kernel
theorem d_M_findSteps_65 : decode prog_5_method_28_code 65 = .ok (.lastore, 1) := by decide +kernel
theorem d_M_findSteps_66 : decode prog_5_method_28_code 66 = .ok (.iload_n 3, 1) := by decide +kernel
theorem d_M_findSteps_67 : decode prog_5_method_28_code 67 = .ok (.aload_n 0, 1) := by decide +kernel
theorem d_M_findSteps_68 : decode prog_5_method_28_code 68 = .ok (.getfield 35, 3) := by decide +kernel
theorem d_M_findSteps_71 : decode prog_5_method_28_code 71 = .ok (.iload 4, 2) := by decide +kernel
theorem d_M_findSteps_73 : decode prog_5_method_28_code 73 = .ok (.laload, 1) := by decide +kernel
theorem d_M_findSteps_74 : decode prog_5_method_28_code 74 = .ok (.l2i, 1) := by decide +kernel
theorem d_M_findSteps_75 : decode prog_5_method_28_code 75 = .ok (.imul, 1) := by decide +kernel
theorem d_M_findSteps_76 : decode prog_5_method_28_code 76 = .ok (.istore_n 3, 1) := by decide +kernel
theorem d_M_findSteps_77 : decode prog_5_method_28_code 77 = .ok (.iinc 4 (-1), 3) := by decide +kernel
theorem d_M_findSteps_80 : decode prog_5_method_28_code 80 = .ok (.goto (-58), 3) := by decide +kernel
theorem d_M_findSteps_83 : decode prog_5_method_28_code 83 = .ok (.iconst 1, 1) := by decide +kernel
theorem d_M_findSteps_84 : decode prog_5_method_28_code 84 = .ok (.istore 4, 2) := by decide +kernel
theorem d_M_findSteps_86 : decode prog_5_method_28_code 86 = .ok (.iconst 0, 1) := by decide +kernel
theorem d_M_findSteps_87 : decode prog_5_method_28_code 87 = .ok (.istore 5, 2) := by decide +kernel
theorem d_M_findSteps_89 : decode prog_5_method_28_code 89 = .ok (.iload 5, 2) := by decide +kernel
theorem d_M_findSteps_91 : decode prog_5_method_28_code 91 = .ok (.iload_n 2, 1) := by decide +kernel
theorem d_M_findSteps_92 : decode prog_5_method_28_code 92 = .ok (.if_icmp .ge 105, 3) := by decide +kernel
theorem d_M_findSteps_95 : decode prog_5_method_28_code 95 = .ok (.iload 4, 2) := by decide +kernel
theorem d_M_findSteps_97 : decode prog_5_method_28_code 97 = .ok (.ifCond .eq 100, 3) := by decide +kernel
theorem d_M_findSteps_100 : decode prog_5_method_28_code 100 = .ok (.aload_n 0, 1) := by decide +kernel
theorem d_M_findSteps_101 : decode prog_5_method_28_code 101 = .ok (.iload_n 1, 1) := by decide +kernel
theorem d_M_findSteps_102 : decode prog_5_method_28_code 102 = .ok (.iconst 0, 1) := by decide +kernel
theorem d_M_findSteps_103 : decode prog_5_method_28_code 103 = .ok (.invokevirtual 70, 3) := by decide +kernel
theorem d_M_findSteps_106 : decode prog_5_method_28_code 106 = .ok (.i2l, 1) := by decide +kernel
theorem d_M_findSteps_107 : decode prog_5_method_28_code 107 = .ok (.lstore 6, 2) := by decide +kernel
theorem d_M_findSteps_109 : decode prog_5_method_28_code 109 = .ok (.iload 5, 2) := by decide +kernel
theorem d_M_findSteps_111 : decode prog_5_method_28_code 111 = .ok (.istore 8, 2) := by decide +kernel
theorem d_M_findSteps_113 : decode prog_5_method_28_code 113 = .ok (.aload_n 0, 1) := by decide +kernel
theorem d_M_findSteps_114 : decode prog_5_method_28_code 114 = .ok (.getfield 59, 3) := by decide +kernel
theorem d_M_findSteps_117 : decode prog_5_method_28_code 117 = .ok (.iconst 1, 1) := by decide +kernel
theorem d_M_findSteps_118 : decode prog_5_method_28_code 118 = .ok (.isub, 1) := by decide +kernel
theorem d_M_findSteps_119 : decode prog_5_method_28_code 119 = .ok (.istore 9, 2) := by decide +kernel
theorem d_M_findSteps_121 : decode prog_5_method_28_code 121 = .ok (.iload 9, 2) := by decide +kernel
theorem d_M_findSteps_123 : decode prog_5_method_28_code 123 = .ok (.ifCond .lt 47, 3) := by decide +kernel
theorem d_M_findSteps_126 : decode prog_5_method_28_code 126 = .ok (.lload 6, 2) := by decide +kernel
theorem d_M_findSteps_128 : decode prog_5_method_28_code 128 = .ok (.iload 8, 2) := by decide +kernel
theorem d_M_findSteps_130 : decode prog_5_method_28_code 130 = .ok (.aload_n 0, 1) := by decide +kernel
theorem d_M_findSteps_131 : decode prog_5_method_28_code 131 = .ok (.getfield 35, 3) := by decide +kernel
theorem d_M_findSteps_134 : decode prog_5_method_28_code 134 = .ok (.iload 9, 2) := by decide +kernel
theorem d_M_findSteps_136 : decode prog_5_method_28_code 136 = .ok (.laload, 1) := by decide +kernel
theorem d_M_findSteps_137 : decode prog_5_method_28_code 137 = .ok (.l2i, 1) := by decide +kernel
theorem d_M_findSteps_138 : decode prog_5_method_28_code 138 = .ok (.irem, 1) := by decide +kernel
theorem d_M_findSteps_139 : decode prog_5_method_28_code 139 = .ok (.i2l, 1) := by decide +kernel
theorem d_M_findSteps_140 : decode prog_5_method_28_code 140 = .ok (.aload_n 0, 1) := by decide +kernel
theorem d_M_findSteps_141 : decode prog_5_method_28_code 141 = .ok (.getfield 38, 3) := by decide +kernel
theorem d_M_findSteps_144 : decode prog_5_method_28_code 144 = .ok (.iload 9, 2) := by decide +kernel
theorem d_M_findSteps_146 : decode prog_5_method_28_code 146 = .ok (.laload, 1) := by decide +kernel
theorem d_M_findSteps_147 : decode prog_5_method_28_code 147 = .ok (.lmul, 1) := by decide +kernel
theorem d_M_findSteps_148 : decode prog_5_method_28_code 148 = .ok (.ladd, 1) := by decide +kernel
theorem d_M_findSteps_149 : decode prog_5_method_28_code 149 = .ok (.lstore 6, 2) := by decide +kernel
theorem d_M_findSteps_151 : decode prog_5_method_28_code 151 = .ok (.iload 8, 2) := by decide +kernel
theorem d_M_findSteps_153 : decode prog_5_method_28_code 153 = .ok (.aload_n 0, 1) := by decide +kernel
theorem d_M_findSteps_154 : decode prog_5_method_28_code 154 = .ok (.getfield 35, 3) := by decide +kernel
theorem d_M_findSteps_157 : decode prog_5_method_28_code 157 = .ok (.iload 9, 2) := by decide +kernel
theorem d_M_findSteps_159 : decode prog_5_method_28_code 159 = .ok (.laload, 1) := by decide +kernel
theorem d_M_findSteps_160 : decode prog_5_method_28_code 160 = .ok (.l2i, 1) := by decide +kernel
theorem d_M_findSteps_161 : decode prog_5_method_28_code 161 = .ok (.idiv, 1) := by decide +kernel
theorem d_M_findSteps_162 : decode prog_5_method_28_code 162 = .ok (.istore 8, 2) := by decide +kernel
theorem d_M_findSteps_164 : decode prog_5_method_28_code 164 = .ok (.iinc 9 (-1), 3) := by decide +kernel
theorem d_M_findSteps_167 : decode prog_5_method_28_code 167 = .ok (.goto (-46), 3) := by decide +kernel
theorem d_M_findSteps_170 : decode prog_5_method_28_code 170 = .ok (.lload 6, 2) := by decide +kernel
theorem d_M_findSteps_172 : decode prog_5_method_28_code 172 = .ok (.aload_n 0, 1) := by decide +kernel
theorem d_M_findSteps_173 : decode prog_5_method_28_code 173 = .ok (.iload_n 1, 1) := by decide +kernel
theorem d_M_findSteps_174 : decode prog_5_method_28_code 174 = .ok (.iload 5, 2) := by decide +kernel
theorem d_M_findSteps_176 : decode prog_5_method_28_code 176 = .ok (.invokevirtual 70, 3) := by decide +kernel
theorem d_M_findSteps_179 : decode prog_5_method_28_code 179 = .ok (.i2l, 1) := by decide +kernel
theorem d_M_findSteps_180 : decode prog_5_method_28_code 180 = .ok (.lcmp, 1) := by decide +kernel
theorem d_M_findSteps_181 : decode prog_5_method_28_code 181 = .ok (.ifCond .ne 7, 3) := by decide +kernel
theorem d_M_findSteps_184 : decode prog_5_method_28_code 184 = .ok (.iconst 1, 1) := by decide +kernel
theorem d_M_findSteps_185 : decode prog_5_method_28_code 185 = .ok (.goto 4, 3) := by decide +kernel
theorem d_M_findSteps_188 : decode prog_5_method_28_code 188 = .ok (.iconst 0, 1) := by decide +kernel
theorem d_M_findSteps_189 : decode prog_5_method_28_code 189 = .ok (.istore 4, 2) := by decide +kernel
theorem d_M_findSteps_191 : decode prog_5_method_28_code 191 = .ok (.iinc 5 1, 3) := by decide +kernel
theorem d_M_findSteps_194 : decode prog_5_method_28_code 194 = .ok (.goto (-105), 3) := by decide +kernel
theorem d_M_findSteps_197 : decode prog_5_method_28_code 197 = .ok (.iload 4, 2) := by decide +kernel
theorem d_M_findSteps_199 : decode prog_5_method_28_code 199 = .ok (.ireturn, 1) := by decide +kernel
theorem d_M_place_0 : decode prog_5_method_10_code 0 = .ok (.aload_n 0, 1) := by decide +kernel
theorem d_M_place_1 : decode prog_5_method_10_code 1 = .ok (.getfield 23, 3) := by decide +kernel
theorem d_M_place_4 : decode prog_5_method_10_code 4 = .ok (.iload_n 1, 1) := by decide +kernel
theorem d_M_place_5 : decode prog_5_method_10_code 5 = .ok (.iaload, 1) := by decide +kernel
theorem d_M_place_6 : decode prog_5_method_10_code 6 = .ok (.istore_n 3, 1) := by decide +kernel
theorem d_M_place_7 : decode prog_5_method_10_code 7 = .ok (.iconst 0, 1) := by decide +kernel
theorem d_M_place_8 : decode prog_5_method_10_code 8 = .ok (.istore 4, 2) := by decide +kernel
theorem d_M_place_10 : decode prog_5_method_10_code 10 = .ok (.iload 4, 2) := by decide +kernel
theorem d_M_place_12 : decode prog_5_method_10_code 12 = .ok (.aload_n 0, 1) := by decide +kernel
theorem d_M_place_13 : decode prog_5_method_10_code 13 = .ok (.getfield 26, 3) := by decide +kernel
theorem d_M_place_16 : decode prog_5_method_10_code 16 = .ok (.iload_n 1, 1) := by decide +kernel
theorem d_M_place_17 : decode prog_5_method_10_code 17 = .ok (.iaload, 1) := by decide +kernel
theorem d_M_place_18 : decode prog_5_method_10_code 18 = .ok (.if_icmp .ge 32, 3) := by decide +kernel
theorem d_M_place_21 : decode prog_5_method_10_code 21 = .ok (.iload_n 3, 1) := by decide +kernel
theorem d_M_place_22 : decode prog_5_method_10_code 22 = .ok (.aload_n 0, 1) := by decide +kernel
theorem d_M_place_23 : decode prog_5_method_10_code 23 = .ok (.iload_n 1, 1) := by decide +kernel
theorem d_M_place_24 : decode prog_5_method_10_code 24 = .ok (.iload 4, 2) := by decide +kernel
theorem d_M_place_26 : decode prog_5_method_10_code 26 = .ok (.iload_n 2, 1) := by decide +kernel
theorem d_M_place_27 : decode prog_5_method_10_code 27 = .ok (.invokevirtual 66, 3) := by decide +kernel
theorem d_M_place_30 : decode prog_5_method_10_code 30 = .ok (.aload_n 0, 1) := by decide +kernel
theorem d_M_place_31 : decode prog_5_method_10_code 31 = .ok (.getfield 32, 3) := by decide +kernel
theorem d_M_place_34 : decode prog_5_method_10_code 34 = .ok (.iconst 4, 1) := by decide +kernel
theorem d_M_place_35 : decode prog_5_method_10_code 35 = .ok (.iload_n 1, 1) := by decide +kernel
theorem d_M_place_36 : decode prog_5_method_10_code 36 = .ok (.imul, 1) := by decide +kernel
theorem d_M_place_37 : decode prog_5_method_10_code 37 = .ok (.iload 4, 2) := by decide +kernel
theorem d_M_place_39 : decode prog_5_method_10_code 39 = .ok (.iadd, 1) := by decide +kernel
theorem d_M_place_40 : decode prog_5_method_10_code 40 = .ok (.iaload, 1) := by decide +kernel
theorem d_M_place_41 : decode prog_5_method_10_code 41 = .ok (.imul, 1) := by decide +kernel
theorem d_M_place_42 : decode prog_5_method_10_code 42 = .ok (.iadd, 1) := by decide +kernel
theorem d_M_place_43 : decode prog_5_method_10_code 43 = .ok (.istore_n 3, 1) := by decide +kernel
theorem d_M_place_44 : decode prog_5_method_10_code 44 = .ok (.iinc 4 1, 3) := by decide +kernel
theorem d_M_place_47 : decode prog_5_method_10_code 47 = .ok (.goto (-37), 3) := by decide +kernel
theorem d_M_place_50 : decode prog_5_method_10_code 50 = .ok (.iload_n 3, 1) := by decide +kernel
theorem d_M_place_51 : decode prog_5_method_10_code 51 = .ok (.ireturn, 1) := by decide +kernel
theorem d_M_indexOf_0 : decode prog_5_method_9_code 0 = .ok (.iload_n 3, 1) := by decide +kernel
theorem d_M_indexOf_1 : decode prog_5_method_9_code 1 = .ok (.istore 4, 2) := by decide +kernel
theorem d_M_indexOf_3 : decode prog_5_method_9_code 3 = .ok (.aload_n 0, 1) := by decide +kernel
theorem d_M_indexOf_4 : decode prog_5_method_9_code 4 = .ok (.getfield 26, 3) := by decide +kernel
theorem d_M_indexOf_7 : decode prog_5_method_9_code 7 = .ok (.iload_n 1, 1) := by decide +kernel
theorem d_M_indexOf_8 : decode prog_5_method_9_code 8 = .ok (.iaload, 1) := by decide +kernel
theorem d_M_indexOf_9 : decode prog_5_method_9_code 9 = .ok (.iconst 1, 1) := by decide +kernel
theorem d_M_indexOf_10 : decode prog_5_method_9_code 10 = .ok (.isub, 1) := by decide +kernel
theorem d_M_indexOf_11 : decode prog_5_method_9_code 11 = .ok (.istore 5, 2) := by decide +kernel
theorem d_M_indexOf_13 : decode prog_5_method_9_code 13 = .ok (.iload 5, 2) := by decide +kernel
theorem d_M_indexOf_15 : decode prog_5_method_9_code 15 = .ok (.iload_n 2, 1) := by decide +kernel
theorem d_M_indexOf_16 : decode prog_5_method_9_code 16 = .ok (.if_icmp .le 25, 3) := by decide +kernel
theorem d_M_indexOf_19 : decode prog_5_method_9_code 19 = .ok (.iload 4, 2) := by decide +kernel
theorem d_M_indexOf_21 : decode prog_5_method_9_code 21 = .ok (.aload_n 0, 1) := by decide +kernel
theorem d_M_indexOf_22 : decode prog_5_method_9_code 22 = .ok (.getfield 29, 3) := by decide +kernel
theorem d_M_indexOf_25 : decode prog_5_method_9_code 25 = .ok (.iconst 4, 1) := by decide +kernel
theorem d_M_indexOf_26 : decode prog_5_method_9_code 26 = .ok (.iload_n 1, 1) := by decide +kernel
theorem d_M_indexOf_27 : decode prog_5_method_9_code 27 = .ok (.imul, 1) := by decide +kernel
theorem d_M_indexOf_28 : decode prog_5_method_9_code 28 = .ok (.iload 5, 2) := by decide +kernel
theorem d_M_indexOf_30 : decode prog_5_method_9_code 30 = .ok (.iadd, 1) := by decide +kernel
theorem d_M_indexOf_31 : decode prog_5_method_9_code 31 = .ok (.iaload, 1) := by decide +kernel
theorem d_M_indexOf_32 : decode prog_5_method_9_code 32 = .ok (.idiv, 1) := by decide +kernel
theorem d_M_indexOf_33 : decode prog_5_method_9_code 33 = .ok (.istore 4, 2) := by decide +kernel
theorem d_M_indexOf_35 : decode prog_5_method_9_code 35 = .ok (.iinc 5 (-1), 3) := by decide +kernel
theorem d_M_indexOf_38 : decode prog_5_method_9_code 38 = .ok (.goto (-25), 3) := by decide +kernel
theorem d_M_indexOf_41 : decode prog_5_method_9_code 41 = .ok (.iload 4, 2) := by decide +kernel
theorem d_M_indexOf_43 : decode prog_5_method_9_code 43 = .ok (.aload_n 0, 1) := by decide +kernel
theorem d_M_indexOf_44 : decode prog_5_method_9_code 44 = .ok (.getfield 29, 3) := by decide +kernel
theorem d_M_indexOf_47 : decode prog_5_method_9_code 47 = .ok (.iconst 4, 1) := by decide +kernel
theorem d_M_indexOf_48 : decode prog_5_method_9_code 48 = .ok (.iload_n 1, 1) := by decide +kernel
theorem d_M_indexOf_49 : decode prog_5_method_9_code 49 = .ok (.imul, 1) := by decide +kernel
theorem d_M_indexOf_50 : decode prog_5_method_9_code 50 = .ok (.iload_n 2, 1) := by decide +kernel
theorem d_M_indexOf_51 : decode prog_5_method_9_code 51 = .ok (.iadd, 1) := by decide +kernel
theorem d_M_indexOf_52 : decode prog_5_method_9_code 52 = .ok (.iaload, 1) := by decide +kernel
theorem d_M_indexOf_53 : decode prog_5_method_9_code 53 = .ok (.irem, 1) := by decide +kernel
theorem d_M_indexOf_54 : decode prog_5_method_9_code 54 = .ok (.ireturn, 1) := by decide +kernel
end
section
/-! decode rows -/
theorem d_M_compact_0 : decode prog_5_method_30_code 0 = .ok (.aload_n 0, 1) := by decide +kernel
theorem d_M_compact_1 : decode prog_5_method_30_code 1 = .ok (.iload_n 1, 1) := by decide +kernel
theorem d_M_compact_2 : decode prog_5_method_30_code 2 = .ok (.invokevirtual 55, 3) := by decide +kernel
theorem d_M_compact_5 : decode prog_5_method_30_code 5 = .ok (.istore_n 3, 1) := by decide +kernel
theorem d_M_compact_6 : decode prog_5_method_30_code 6 = .ok (.iload_n 3, 1) := by decide +kernel
theorem d_M_compact_7 : decode prog_5_method_30_code 7 = .ok (.ifCond .eq 36, 3) := by decide +kernel
theorem d_M_compact_10 : decode prog_5_method_30_code 10 = .ok (.aload_n 0, 1) := by decide +kernel
theorem d_M_compact_11 : decode prog_5_method_30_code 11 = .ok (.iload_n 1, 1) := by decide +kernel
theorem d_M_compact_12 : decode prog_5_method_30_code 12 = .ok (.invokevirtual 117, 3) := by decide +kernel
theorem d_M_compact_15 : decode prog_5_method_30_code 15 = .ok (.sipush 300, 3) := by decide +kernel
theorem d_M_compact_18 : decode prog_5_method_30_code 18 = .ok (.if_icmp .gt 25, 3) := by decide +kernel
theorem d_M_compact_21 : decode prog_5_method_30_code 21 = .ok (.aload_n 0, 1) := by decide +kernel
theorem d_M_compact_22 : decode prog_5_method_30_code 22 = .ok (.getfield 84, 3) := by decide +kernel
theorem d_M_compact_25 : decode prog_5_method_30_code 25 = .ok (.bipush 12, 2) := by decide +kernel
theorem d_M_compact_27 : decode prog_5_method_30_code 27 = .ok (.if_icmp .ge 16, 3) := by decide +kernel
theorem d_M_compact_30 : decode prog_5_method_30_code 30 = .ok (.aload_n 0, 1) := by decide +kernel
theorem d_M_compact_31 : decode prog_5_method_30_code 31 = .ok (.getfield 52, 3) := by decide +kernel
theorem d_M_compact_34 : decode prog_5_method_30_code 34 = .ok (.bipush 80, 2) := by decide +kernel
theorem d_M_compact_36 : decode prog_5_method_30_code 36 = .ok (.if_icmp .ge 7, 3) := by decide +kernel
theorem d_M_compact_39 : decode prog_5_method_30_code 39 = .ok (.iconst 1, 1) := by decide +kernel
theorem d_M_compact_40 : decode prog_5_method_30_code 40 = .ok (.goto 4, 3) := by decide +kernel
theorem d_M_compact_43 : decode prog_5_method_30_code 43 = .ok (.iconst 0, 1) := by decide +kernel
theorem d_M_compact_44 : decode prog_5_method_30_code 44 = .ok (.istore 4, 2) := by decide +kernel
theorem d_M_compact_46 : decode prog_5_method_30_code 46 = .ok (.aload_n 0, 1) := by decide +kernel
theorem d_M_compact_47 : decode prog_5_method_30_code 47 = .ok (.iload_n 3, 1) := by decide +kernel
theorem d_M_compact_48 : decode prog_5_method_30_code 48 = .ok (.iload_n 2, 1) := by decide +kernel
theorem d_M_compact_49 : decode prog_5_method_30_code 49 = .ok (.invokestatic 87, 3) := by decide +kernel
theorem d_M_compact_52 : decode prog_5_method_30_code 52 = .ok (.iload 4, 2) := by decide +kernel
theorem d_M_compact_54 : decode prog_5_method_30_code 54 = .ok (.invokevirtual 109, 3) := by decide +kernel
theorem d_M_compact_57 : decode prog_5_method_30_code 57 = .ok (.ifCond .ne 5, 3) := by decide +kernel
theorem d_M_compact_60 : decode prog_5_method_30_code 60 = .ok (.iconst 0, 1) := by decide +kernel
theorem d_M_compact_61 : decode prog_5_method_30_code 61 = .ok (.ireturn, 1) := by decide +kernel
theorem d_M_compact_62 : decode prog_5_method_30_code 62 = .ok (.aload_n 0, 1) := by decide +kernel
theorem d_M_compact_63 : decode prog_5_method_30_code 63 = .ok (.iload_n 1, 1) := by decide +kernel
theorem d_M_compact_64 : decode prog_5_method_30_code 64 = .ok (.invokevirtual 117, 3) := by decide +kernel
theorem d_M_compact_67 : decode prog_5_method_30_code 67 = .ok (.istore 5, 2) := by decide +kernel
theorem d_M_compact_69 : decode prog_5_method_30_code 69 = .ok (.aload_n 0, 1) := by decide +kernel
theorem d_M_compact_70 : decode prog_5_method_30_code 70 = .ok (.iload_n 2, 1) := by decide +kernel
theorem d_M_compact_71 : decode prog_5_method_30_code 71 = .ok (.iload 5, 2) := by decide +kernel
theorem d_M_compact_73 : decode prog_5_method_30_code 73 = .ok (.invokevirtual 98, 3) := by decide +kernel
theorem d_M_compact_76 : decode prog_5_method_30_code 76 = .ok (.istore 6, 2) := by decide +kernel
theorem d_M_compact_78 : decode prog_5_method_30_code 78 = .ok (.iconst 0, 1) := by decide +kernel
theorem d_M_compact_79 : decode prog_5_method_30_code 79 = .ok (.istore 7, 2) := by decide +kernel
theorem d_M_compact_81 : decode prog_5_method_30_code 81 = .ok (.iload 7, 2) := by decide +kernel
theorem d_M_compact_83 : decode prog_5_method_30_code 83 = .ok (.iload 5, 2) := by decide +kernel
theorem d_M_compact_85 : decode prog_5_method_30_code 85 = .ok (.if_icmp .ge 34, 3) := by decide +kernel
theorem d_M_compact_88 : decode prog_5_method_30_code 88 = .ok (.aload_n 0, 1) := by decide +kernel
theorem d_M_compact_89 : decode prog_5_method_30_code 89 = .ok (.getfield 16, 3) := by decide +kernel
theorem d_M_compact_92 : decode prog_5_method_30_code 92 = .ok (.sipush 300, 3) := by decide +kernel
theorem d_M_compact_95 : decode prog_5_method_30_code 95 = .ok (.iload 6, 2) := by decide +kernel
theorem d_M_compact_97 : decode prog_5_method_30_code 97 = .ok (.imul, 1) := by decide +kernel
theorem d_M_compact_98 : decode prog_5_method_30_code 98 = .ok (.iload 7, 2) := by decide +kernel
theorem d_M_compact_100 : decode prog_5_method_30_code 100 = .ok (.iadd, 1) := by decide +kernel
theorem d_M_compact_101 : decode prog_5_method_30_code 101 = .ok (.iload_n 2, 1) := by decide +kernel
theorem d_M_compact_102 : decode prog_5_method_30_code 102 = .ok (.aload_n 0, 1) := by decide +kernel
theorem d_M_compact_103 : decode prog_5_method_30_code 103 = .ok (.iload_n 1, 1) := by decide +kernel
theorem d_M_compact_104 : decode prog_5_method_30_code 104 = .ok (.iload 7, 2) := by decide +kernel
theorem d_M_compact_106 : decode prog_5_method_30_code 106 = .ok (.invokevirtual 128, 3) := by decide +kernel
theorem d_M_compact_109 : decode prog_5_method_30_code 109 = .ok (.invokestatic 74, 3) := by decide +kernel
theorem d_M_compact_112 : decode prog_5_method_30_code 112 = .ok (.lastore, 1) := by decide +kernel
theorem d_M_compact_113 : decode prog_5_method_30_code 113 = .ok (.iinc 7 1, 3) := by decide +kernel
theorem d_M_compact_116 : decode prog_5_method_30_code 116 = .ok (.goto (-35), 3) := by decide +kernel
theorem d_M_compact_119 : decode prog_5_method_30_code 119 = .ok (.aload_n 0, 1) := by decide +kernel
theorem d_M_compact_120 : decode prog_5_method_30_code 120 = .ok (.iload_n 1, 1) := by decide +kernel
theorem d_M_compact_121 : decode prog_5_method_30_code 121 = .ok (.iconst (-1), 1) := by decide +kernel
theorem d_M_compact_122 : decode prog_5_method_30_code 122 = .ok (.iconst (-1), 1) := by decide +kernel
theorem d_M_compact_123 : decode prog_5_method_30_code 123 = .ok (.invokevirtual 113, 3) := by decide +kernel
theorem d_M_compact_126 : decode prog_5_method_30_code 126 = .ok (.aload_n 0, 1) := by decide +kernel
theorem d_M_compact_127 : decode prog_5_method_30_code 127 = .ok (.invokevirtual 132, 3) := by decide +kernel
theorem d_M_compact_130 : decode prog_5_method_30_code 130 = .ok (.aload_n 0, 1) := by decide +kernel
theorem d_M_compact_131 : decode prog_5_method_30_code 131 = .ok (.iload 6, 2) := by decide +kernel
theorem d_M_compact_133 : decode prog_5_method_30_code 133 = .ok (.lconst 0, 1) := by decide +kernel
theorem d_M_compact_134 : decode prog_5_method_30_code 134 = .ok (.invokevirtual 101, 3) := by decide +kernel
theorem d_M_compact_137 : decode prog_5_method_30_code 137 = .ok (.ireturn, 1) := by decide +kernel
theorem d_M_item_0 : decode prog_5_method_11_code 0 = .ok (.aload_n 0, 1) := by decide +kernel
theorem d_M_item_1 : decode prog_5_method_11_code 1 = .ok (.getfield 16, 3) := by decide +kernel
theorem d_M_item_4 : decode prog_5_method_11_code 4 = .ok (.sipush 300, 3) := by decide +kernel
theorem d_M_item_7 : decode prog_5_method_11_code 7 = .ok (.aload_n 0, 1) := by decide +kernel
theorem d_M_item_8 : decode prog_5_method_11_code 8 = .ok (.getfield 20, 3) := by decide +kernel
theorem d_M_item_11 : decode prog_5_method_11_code 11 = .ok (.iload_n 1, 1) := by decide +kernel
theorem d_M_item_12 : decode prog_5_method_11_code 12 = .ok (.iaload, 1) := by decide +kernel
theorem d_M_item_13 : decode prog_5_method_11_code 13 = .ok (.imul, 1) := by decide +kernel
theorem d_M_item_14 : decode prog_5_method_11_code 14 = .ok (.aload_n 0, 1) := by decide +kernel
theorem d_M_item_15 : decode prog_5_method_11_code 15 = .ok (.iload_n 1, 1) := by decide +kernel
theorem d_M_item_16 : decode prog_5_method_11_code 16 = .ok (.iload_n 2, 1) := by decide +kernel
theorem d_M_item_17 : decode prog_5_method_11_code 17 = .ok (.invokevirtual 70, 3) := by decide +kernel
theorem d_M_item_20 : decode prog_5_method_11_code 20 = .ok (.iadd, 1) := by decide +kernel
theorem d_M_item_21 : decode prog_5_method_11_code 21 = .ok (.laload, 1) := by decide +kernel
theorem d_M_item_22 : decode prog_5_method_11_code 22 = .ok (.lreturn, 1) := by decide +kernel
theorem d_M_kept_0 : decode prog_5_method_12_code 0 = .ok (.iload_n 0, 1) := by decide +kernel
theorem d_M_kept_1 : decode prog_5_method_12_code 1 = .ok (.ifCond .ne 8, 3) := by decide +kernel
theorem d_M_kept_4 : decode prog_5_method_12_code 4 = .ok (.bipush 56, 2) := by decide +kernel
theorem d_M_kept_6 : decode prog_5_method_12_code 6 = .ok (.goto 24, 3) := by decide +kernel
theorem d_M_kept_9 : decode prog_5_method_12_code 9 = .ok (.iload_n 0, 1) := by decide +kernel
theorem d_M_kept_10 : decode prog_5_method_12_code 10 = .ok (.iconst 1, 1) := by decide +kernel
theorem d_M_kept_11 : decode prog_5_method_12_code 11 = .ok (.if_icmp .ne 8, 3) := by decide +kernel
theorem d_M_kept_14 : decode prog_5_method_12_code 14 = .ok (.bipush 48, 2) := by decide +kernel
theorem d_M_kept_16 : decode prog_5_method_12_code 16 = .ok (.goto 14, 3) := by decide +kernel
theorem d_M_kept_19 : decode prog_5_method_12_code 19 = .ok (.iload_n 0, 1) := by decide +kernel
theorem d_M_kept_20 : decode prog_5_method_12_code 20 = .ok (.iconst 2, 1) := by decide +kernel
theorem d_M_kept_21 : decode prog_5_method_12_code 21 = .ok (.if_icmp .ne 8, 3) := by decide +kernel
theorem d_M_kept_24 : decode prog_5_method_12_code 24 = .ok (.bipush 32, 2) := by decide +kernel
theorem d_M_kept_26 : decode prog_5_method_12_code 26 = .ok (.goto 4, 3) := by decide +kernel
theorem d_M_kept_29 : decode prog_5_method_12_code 29 = .ok (.iconst 0, 1) := by decide +kernel
theorem d_M_kept_30 : decode prog_5_method_12_code 30 = .ok (.istore_n 3, 1) := by decide +kernel
theorem d_M_kept_31 : decode prog_5_method_12_code 31 = .ok (.lload_n 1, 1) := by decide +kernel
theorem d_M_kept_32 : decode prog_5_method_12_code 32 = .ok (.iload_n 3, 1) := by decide +kernel
theorem d_M_kept_33 : decode prog_5_method_12_code 33 = .ok (.lshl, 1) := by decide +kernel
theorem d_M_kept_34 : decode prog_5_method_12_code 34 = .ok (.iload_n 3, 1) := by decide +kernel
theorem d_M_kept_35 : decode prog_5_method_12_code 35 = .ok (.lshr, 1) := by decide +kernel
theorem d_M_kept_36 : decode prog_5_method_12_code 36 = .ok (.lreturn, 1) := by decide +kernel
theorem d_M_inOrder_0 : decode prog_5_method_18_code 0 = .ok (.lconst 1, 1) := by decide +kernel
theorem d_M_inOrder_1 : decode prog_5_method_18_code 1 = .ok (.lstore_n 1, 1) := by decide +kernel
theorem d_M_inOrder_2 : decode prog_5_method_18_code 2 = .ok (.aload_n 0, 1) := by decide +kernel
theorem d_M_inOrder_3 : decode prog_5_method_18_code 3 = .ok (.getfield 59, 3) := by decide +kernel
theorem d_M_inOrder_6 : decode prog_5_method_18_code 6 = .ok (.iconst 1, 1) := by decide +kernel
theorem d_M_inOrder_7 : decode prog_5_method_18_code 7 = .ok (.isub, 1) := by decide +kernel
theorem d_M_inOrder_8 : decode prog_5_method_18_code 8 = .ok (.istore_n 3, 1) := by decide +kernel
theorem d_M_inOrder_9 : decode prog_5_method_18_code 9 = .ok (.iload_n 3, 1) := by decide +kernel
theorem d_M_inOrder_10 : decode prog_5_method_18_code 10 = .ok (.ifCond .lt 25, 3) := by decide +kernel
theorem d_M_inOrder_13 : decode prog_5_method_18_code 13 = .ok (.aload_n 0, 1) := by decide +kernel
theorem d_M_inOrder_14 : decode prog_5_method_18_code 14 = .ok (.getfield 38, 3) := by decide +kernel
theorem d_M_inOrder_17 : decode prog_5_method_18_code 17 = .ok (.iload_n 3, 1) := by decide +kernel
theorem d_M_inOrder_18 : decode prog_5_method_18_code 18 = .ok (.lload_n 1, 1) := by decide +kernel
theorem d_M_inOrder_19 : decode prog_5_method_18_code 19 = .ok (.lastore, 1) := by decide +kernel
theorem d_M_inOrder_20 : decode prog_5_method_18_code 20 = .ok (.lload_n 1, 1) := by decide +kernel
theorem d_M_inOrder_21 : decode prog_5_method_18_code 21 = .ok (.aload_n 0, 1) := by decide +kernel
theorem d_M_inOrder_22 : decode prog_5_method_18_code 22 = .ok (.getfield 35, 3) := by decide +kernel
theorem d_M_inOrder_25 : decode prog_5_method_18_code 25 = .ok (.iload_n 3, 1) := by decide +kernel
theorem d_M_inOrder_26 : decode prog_5_method_18_code 26 = .ok (.laload, 1) := by decide +kernel
theorem d_M_inOrder_27 : decode prog_5_method_18_code 27 = .ok (.lmul, 1) := by decide +kernel
theorem d_M_inOrder_28 : decode prog_5_method_18_code 28 = .ok (.lstore_n 1, 1) := by decide +kernel
theorem d_M_inOrder_29 : decode prog_5_method_18_code 29 = .ok (.iinc 3 (-1), 3) := by decide +kernel
theorem d_M_inOrder_32 : decode prog_5_method_18_code 32 = .ok (.goto (-23), 3) := by decide +kernel
theorem d_M_inOrder_35 : decode prog_5_method_18_code 35 = .ok (.return_, 1) := by decide +kernel
theorem d_M_at_0 : decode prog_5_method_31_code 0 = .ok (.aload_n 0, 1) := by decide +kernel
theorem d_M_at_1 : decode prog_5_method_31_code 1 = .ok (.aload_n 0, 1) := by decide +kernel
theorem d_M_at_2 : decode prog_5_method_31_code 2 = .ok (.iload_n 1, 1) := by decide +kernel
theorem d_M_at_3 : decode prog_5_method_31_code 3 = .ok (.invokevirtual 55, 3) := by decide +kernel
theorem d_M_at_6 : decode prog_5_method_31_code 6 = .ok (.ifCond .eq 20, 3) := by decide +kernel
theorem d_M_at_9 : decode prog_5_method_31_code 9 = .ok (.iload_n 2, 1) := by decide +kernel
theorem d_M_at_10 : decode prog_5_method_31_code 10 = .ok (.ifCond .lt 16, 3) := by decide +kernel
theorem d_M_at_13 : decode prog_5_method_31_code 13 = .ok (.iload_n 2, 1) := by decide +kernel
theorem d_M_at_14 : decode prog_5_method_31_code 14 = .ok (.aload_n 0, 1) := by decide +kernel
theorem d_M_at_15 : decode prog_5_method_31_code 15 = .ok (.iload_n 1, 1) := by decide +kernel
theorem d_M_at_16 : decode prog_5_method_31_code 16 = .ok (.invokevirtual 117, 3) := by decide +kernel
theorem d_M_at_19 : decode prog_5_method_31_code 19 = .ok (.if_icmp .ge 7, 3) := by decide +kernel
theorem d_M_at_22 : decode prog_5_method_31_code 22 = .ok (.iconst 0, 1) := by decide +kernel
theorem d_M_at_23 : decode prog_5_method_31_code 23 = .ok (.goto 4, 3) := by decide +kernel
theorem d_M_at_26 : decode prog_5_method_31_code 26 = .ok (.iconst 1, 1) := by decide +kernel
theorem d_M_at_27 : decode prog_5_method_31_code 27 = .ok (.putfield 48, 3) := by decide +kernel
theorem d_M_at_30 : decode prog_5_method_31_code 30 = .ok (.aload_n 0, 1) := by decide +kernel
theorem d_M_at_31 : decode prog_5_method_31_code 31 = .ok (.getfield 48, 3) := by decide +kernel
theorem d_M_at_34 : decode prog_5_method_31_code 34 = .ok (.ifCond .le 7, 3) := by decide +kernel
theorem d_M_at_37 : decode prog_5_method_31_code 37 = .ok (.lconst 0, 1) := by decide +kernel
theorem d_M_at_38 : decode prog_5_method_31_code 38 = .ok (.goto 9, 3) := by decide +kernel
theorem d_M_at_41 : decode prog_5_method_31_code 41 = .ok (.aload_n 0, 1) := by decide +kernel
theorem d_M_at_42 : decode prog_5_method_31_code 42 = .ok (.iload_n 1, 1) := by decide +kernel
theorem d_M_at_43 : decode prog_5_method_31_code 43 = .ok (.iload_n 2, 1) := by decide +kernel
theorem d_M_at_44 : decode prog_5_method_31_code 44 = .ok (.invokevirtual 128, 3) := by decide +kernel
theorem d_M_at_47 : decode prog_5_method_31_code 47 = .ok (.lreturn, 1) := by decide +kernel
theorem d_M_put_0 : decode prog_5_method_32_code 0 = .ok (.aload_n 0, 1) := by decide +kernel
theorem d_M_put_1 : decode prog_5_method_32_code 1 = .ok (.iload_n 1, 1) := by decide +kernel
theorem d_M_put_2 : decode prog_5_method_32_code 2 = .ok (.invokevirtual 55, 3) := by decide +kernel
theorem d_M_put_5 : decode prog_5_method_32_code 5 = .ok (.ifCond .eq 20, 3) := by decide +kernel
theorem d_M_put_8 : decode prog_5_method_32_code 8 = .ok (.iload_n 2, 1) := by decide +kernel
theorem d_M_put_9 : decode prog_5_method_32_code 9 = .ok (.ifCond .lt 16, 3) := by decide +kernel
theorem d_M_put_12 : decode prog_5_method_32_code 12 = .ok (.iload_n 2, 1) := by decide +kernel
theorem d_M_put_13 : decode prog_5_method_32_code 13 = .ok (.aload_n 0, 1) := by decide +kernel
theorem d_M_put_14 : decode prog_5_method_32_code 14 = .ok (.iload_n 1, 1) := by decide +kernel
theorem d_M_put_15 : decode prog_5_method_32_code 15 = .ok (.invokevirtual 117, 3) := by decide +kernel
theorem d_M_put_18 : decode prog_5_method_32_code 18 = .ok (.if_icmp .ge 7, 3) := by decide +kernel
theorem d_M_put_21 : decode prog_5_method_32_code 21 = .ok (.iconst 1, 1) := by decide +kernel
theorem d_M_put_22 : decode prog_5_method_32_code 22 = .ok (.goto 4, 3) := by decide +kernel
theorem d_M_put_25 : decode prog_5_method_32_code 25 = .ok (.iconst 0, 1) := by decide +kernel
theorem d_M_put_26 : decode prog_5_method_32_code 26 = .ok (.istore 5, 2) := by decide +kernel
theorem d_M_put_28 : decode prog_5_method_32_code 28 = .ok (.aload_n 0, 1) := by decide +kernel
theorem d_M_put_29 : decode prog_5_method_32_code 29 = .ok (.iload 5, 2) := by decide +kernel
theorem d_M_put_31 : decode prog_5_method_32_code 31 = .ok (.iload 5, 2) := by decide +kernel
theorem d_M_put_33 : decode prog_5_method_32_code 33 = .ok (.ifCond .eq 15, 3) := by decide +kernel
theorem d_M_put_36 : decode prog_5_method_32_code 36 = .ok (.aload_n 0, 1) := by decide +kernel
theorem d_M_put_37 : decode prog_5_method_32_code 37 = .ok (.iload_n 1, 1) := by decide +kernel
theorem d_M_put_38 : decode prog_5_method_32_code 38 = .ok (.invokevirtual 135, 3) := by decide +kernel
theorem d_M_put_41 : decode prog_5_method_32_code 41 = .ok (.ifCond .ne 7, 3) := by decide +kernel
theorem d_M_put_44 : decode prog_5_method_32_code 44 = .ok (.iconst 1, 1) := by decide +kernel
theorem d_M_put_45 : decode prog_5_method_32_code 45 = .ok (.goto 4, 3) := by decide +kernel
theorem d_M_put_48 : decode prog_5_method_32_code 48 = .ok (.iconst 0, 1) := by decide +kernel
theorem d_M_put_49 : decode prog_5_method_32_code 49 = .ok (.invokevirtual 90, 3) := by decide +kernel
theorem d_M_put_52 : decode prog_5_method_32_code 52 = .ok (.ifCond .ne 5, 3) := by decide +kernel
theorem d_M_put_55 : decode prog_5_method_32_code 55 = .ok (.lconst 0, 1) := by decide +kernel
theorem d_M_put_56 : decode prog_5_method_32_code 56 = .ok (.lreturn, 1) := by decide +kernel
theorem d_M_put_57 : decode prog_5_method_32_code 57 = .ok (.aload_n 0, 1) := by decide +kernel
theorem d_M_put_58 : decode prog_5_method_32_code 58 = .ok (.iload_n 1, 1) := by decide +kernel
theorem d_M_put_59 : decode prog_5_method_32_code 59 = .ok (.iload_n 2, 1) := by decide +kernel
theorem d_M_put_60 : decode prog_5_method_32_code 60 = .ok (.invokevirtual 128, 3) := by decide +kernel
theorem d_M_put_63 : decode prog_5_method_32_code 63 = .ok (.lstore 6, 2) := by decide +kernel
theorem d_M_put_65 : decode prog_5_method_32_code 65 = .ok (.aload_n 0, 1) := by decide +kernel
theorem d_M_put_66 : decode prog_5_method_32_code 66 = .ok (.iload_n 1, 1) := by decide +kernel
theorem d_M_put_67 : decode prog_5_method_32_code 67 = .ok (.iload_n 2, 1) := by decide +kernel
theorem d_M_put_68 : decode prog_5_method_32_code 68 = .ok (.lload_n 3, 1) := by decide +kernel
theorem d_M_put_69 : decode prog_5_method_32_code 69 = .ok (.invokevirtual 138, 3) := by decide +kernel
theorem d_M_put_72 : decode prog_5_method_32_code 72 = .ok (.lload 6, 2) := by decide +kernel
theorem d_M_put_74 : decode prog_5_method_32_code 74 = .ok (.lreturn, 1) := by decide +kernel
theorem d_M_isFixed_0 : decode prog_5_method_14_code 0 = .ok (.iconst 0, 1) := by decide +kernel
theorem d_M_isFixed_1 : decode prog_5_method_14_code 1 = .ok (.istore_n 2, 1) := by decide +kernel
theorem d_M_isFixed_2 : decode prog_5_method_14_code 2 = .ok (.iconst 0, 1) := by decide +kernel
theorem d_M_isFixed_3 : decode prog_5_method_14_code 3 = .ok (.istore_n 3, 1) := by decide +kernel
theorem d_M_isFixed_4 : decode prog_5_method_14_code 4 = .ok (.iload_n 3, 1) := by decide +kernel
theorem d_M_isFixed_5 : decode prog_5_method_14_code 5 = .ok (.aload_n 0, 1) := by decide +kernel
theorem d_M_isFixed_6 : decode prog_5_method_14_code 6 = .ok (.getfield 26, 3) := by decide +kernel
theorem d_M_isFixed_9 : decode prog_5_method_14_code 9 = .ok (.iload_n 1, 1) := by decide +kernel
theorem d_M_isFixed_10 : decode prog_5_method_14_code 10 = .ok (.iaload, 1) := by decide +kernel
theorem d_M_isFixed_11 : decode prog_5_method_14_code 11 = .ok (.if_icmp .ge 46, 3) := by decide +kernel
theorem d_M_isFixed_14 : decode prog_5_method_14_code 14 = .ok (.iload_n 2, 1) := by decide +kernel
theorem d_M_isFixed_15 : decode prog_5_method_14_code 15 = .ok (.ifCond .ne 30, 3) := by decide +kernel
theorem d_M_isFixed_18 : decode prog_5_method_14_code 18 = .ok (.aload_n 0, 1) := by decide +kernel
theorem d_M_isFixed_19 : decode prog_5_method_14_code 19 = .ok (.getfield 29, 3) := by decide +kernel
theorem d_M_isFixed_22 : decode prog_5_method_14_code 22 = .ok (.iconst 4, 1) := by decide +kernel
theorem d_M_isFixed_23 : decode prog_5_method_14_code 23 = .ok (.iload_n 1, 1) := by decide +kernel
theorem d_M_isFixed_24 : decode prog_5_method_14_code 24 = .ok (.imul, 1) := by decide +kernel
theorem d_M_isFixed_25 : decode prog_5_method_14_code 25 = .ok (.iload_n 3, 1) := by decide +kernel
theorem d_M_isFixed_26 : decode prog_5_method_14_code 26 = .ok (.iadd, 1) := by decide +kernel
theorem d_M_isFixed_27 : decode prog_5_method_14_code 27 = .ok (.iaload, 1) := by decide +kernel
theorem d_M_isFixed_28 : decode prog_5_method_14_code 28 = .ok (.iconst 1, 1) := by decide +kernel
theorem d_M_isFixed_29 : decode prog_5_method_14_code 29 = .ok (.if_icmp .le 20, 3) := by decide +kernel
theorem d_M_isFixed_32 : decode prog_5_method_14_code 32 = .ok (.aload_n 0, 1) := by decide +kernel
theorem d_M_isFixed_33 : decode prog_5_method_14_code 33 = .ok (.getfield 32, 3) := by decide +kernel
theorem d_M_isFixed_36 : decode prog_5_method_14_code 36 = .ok (.iconst 4, 1) := by decide +kernel
theorem d_M_isFixed_37 : decode prog_5_method_14_code 37 = .ok (.iload_n 1, 1) := by decide +kernel
theorem d_M_isFixed_38 : decode prog_5_method_14_code 38 = .ok (.imul, 1) := by decide +kernel
theorem d_M_isFixed_39 : decode prog_5_method_14_code 39 = .ok (.iload_n 3, 1) := by decide +kernel
theorem d_M_isFixed_40 : decode prog_5_method_14_code 40 = .ok (.iadd, 1) := by decide +kernel
theorem d_M_isFixed_41 : decode prog_5_method_14_code 41 = .ok (.iaload, 1) := by decide +kernel
theorem d_M_isFixed_42 : decode prog_5_method_14_code 42 = .ok (.ifCond .ne 7, 3) := by decide +kernel
theorem d_M_isFixed_45 : decode prog_5_method_14_code 45 = .ok (.iconst 1, 1) := by decide +kernel
theorem d_M_isFixed_46 : decode prog_5_method_14_code 46 = .ok (.goto 4, 3) := by decide +kernel
theorem d_M_isFixed_49 : decode prog_5_method_14_code 49 = .ok (.iconst 0, 1) := by decide +kernel
theorem d_M_isFixed_50 : decode prog_5_method_14_code 50 = .ok (.istore_n 2, 1) := by decide +kernel
theorem d_M_isFixed_51 : decode prog_5_method_14_code 51 = .ok (.iinc 3 1, 3) := by decide +kernel
theorem d_M_isFixed_54 : decode prog_5_method_14_code 54 = .ok (.goto (-50), 3) := by decide +kernel
theorem d_M_isFixed_57 : decode prog_5_method_14_code 57 = .ok (.iload_n 2, 1) := by decide +kernel
theorem d_M_isFixed_58 : decode prog_5_method_14_code 58 = .ok (.ireturn, 1) := by decide +kernel
theorem d_M_setItem_0 : decode prog_5_method_13_code 0 = .ok (.aload_n 0, 1) := by decide +kernel
theorem d_M_setItem_1 : decode prog_5_method_13_code 1 = .ok (.getfield 16, 3) := by decide +kernel
theorem d_M_setItem_4 : decode prog_5_method_13_code 4 = .ok (.sipush 300, 3) := by decide +kernel
theorem d_M_setItem_7 : decode prog_5_method_13_code 7 = .ok (.aload_n 0, 1) := by decide +kernel
theorem d_M_setItem_8 : decode prog_5_method_13_code 8 = .ok (.getfield 20, 3) := by decide +kernel
theorem d_M_setItem_11 : decode prog_5_method_13_code 11 = .ok (.iload_n 1, 1) := by decide +kernel
theorem d_M_setItem_12 : decode prog_5_method_13_code 12 = .ok (.iaload, 1) := by decide +kernel
theorem d_M_setItem_13 : decode prog_5_method_13_code 13 = .ok (.imul, 1) := by decide +kernel
theorem d_M_setItem_14 : decode prog_5_method_13_code 14 = .ok (.aload_n 0, 1) := by decide +kernel
theorem d_M_setItem_15 : decode prog_5_method_13_code 15 = .ok (.iload_n 1, 1) := by decide +kernel
theorem d_M_setItem_16 : decode prog_5_method_13_code 16 = .ok (.iload_n 2, 1) := by decide +kernel
theorem d_M_setItem_17 : decode prog_5_method_13_code 17 = .ok (.invokevirtual 70, 3) := by decide +kernel
theorem d_M_setItem_20 : decode prog_5_method_13_code 20 = .ok (.iadd, 1) := by decide +kernel
theorem d_M_setItem_21 : decode prog_5_method_13_code 21 = .ok (.aload_n 0, 1) := by decide +kernel
theorem d_M_setItem_22 : decode prog_5_method_13_code 22 = .ok (.getfield 7, 3) := by decide +kernel
theorem d_M_setItem_25 : decode prog_5_method_13_code 25 = .ok (.aload_n 0, 1) := by decide +kernel
theorem d_M_setItem_26 : decode prog_5_method_13_code 26 = .ok (.getfield 20, 3) := by decide +kernel
theorem d_M_setItem_29 : decode prog_5_method_13_code 29 = .ok (.iload_n 1, 1) := by decide +kernel
theorem d_M_setItem_30 : decode prog_5_method_13_code 30 = .ok (.iaload, 1) := by decide +kernel
theorem d_M_setItem_31 : decode prog_5_method_13_code 31 = .ok (.iaload, 1) := by decide +kernel
theorem d_M_setItem_32 : decode prog_5_method_13_code 32 = .ok (.lload_n 3, 1) := by decide +kernel
theorem d_M_setItem_33 : decode prog_5_method_13_code 33 = .ok (.invokestatic 74, 3) := by decide +kernel
theorem d_M_setItem_36 : decode prog_5_method_13_code 36 = .ok (.lastore, 1) := by decide +kernel
theorem d_M_setItem_37 : decode prog_5_method_13_code 37 = .ok (.return_, 1) := by decide +kernel
theorem d_M_copy_0 : decode prog_5_method_36_code 0 = .ok (.aload_n 0, 1) := by decide +kernel
theorem d_M_copy_1 : decode prog_5_method_36_code 1 = .ok (.iload_n 1, 1) := by decide +kernel
theorem d_M_copy_2 : decode prog_5_method_36_code 2 = .ok (.invokevirtual 55, 3) := by decide +kernel
theorem d_M_copy_5 : decode prog_5_method_36_code 5 = .ok (.ifCond .eq 15, 3) := by decide +kernel
theorem d_M_copy_8 : decode prog_5_method_36_code 8 = .ok (.aload_n 0, 1) := by decide +kernel
theorem d_M_copy_9 : decode prog_5_method_36_code 9 = .ok (.iload_n 2, 1) := by decide +kernel
theorem d_M_copy_10 : decode prog_5_method_36_code 10 = .ok (.invokevirtual 55, 3) := by decide +kernel
theorem d_M_copy_13 : decode prog_5_method_36_code 13 = .ok (.ifCond .eq 7, 3) := by decide +kernel
theorem d_M_copy_16 : decode prog_5_method_36_code 16 = .ok (.iconst 1, 1) := by decide +kernel
theorem d_M_copy_17 : decode prog_5_method_36_code 17 = .ok (.goto 4, 3) := by decide +kernel
theorem d_M_copy_20 : decode prog_5_method_36_code 20 = .ok (.iconst 0, 1) := by decide +kernel
theorem d_M_copy_21 : decode prog_5_method_36_code 21 = .ok (.istore_n 3, 1) := by decide +kernel
theorem d_M_copy_22 : decode prog_5_method_36_code 22 = .ok (.aload_n 0, 1) := by decide +kernel
theorem d_M_copy_23 : decode prog_5_method_36_code 23 = .ok (.iload_n 3, 1) := by decide +kernel
theorem d_M_copy_24 : decode prog_5_method_36_code 24 = .ok (.iload_n 3, 1) := by decide +kernel
theorem d_M_copy_25 : decode prog_5_method_36_code 25 = .ok (.ifCond .eq 16, 3) := by decide +kernel
theorem d_M_copy_28 : decode prog_5_method_36_code 28 = .ok (.aload_n 0, 1) := by decide +kernel
theorem d_M_copy_29 : decode prog_5_method_36_code 29 = .ok (.iload_n 1, 1) := by decide +kernel
theorem d_M_copy_30 : decode prog_5_method_36_code 30 = .ok (.iload_n 2, 1) := by decide +kernel
theorem d_M_copy_31 : decode prog_5_method_36_code 31 = .ok (.invokevirtual 142, 3) := by decide +kernel
theorem d_M_copy_34 : decode prog_5_method_36_code 34 = .ok (.ifCond .eq 7, 3) := by decide +kernel
theorem d_M_copy_37 : decode prog_5_method_36_code 37 = .ok (.iconst 1, 1) := by decide +kernel
theorem d_M_copy_38 : decode prog_5_method_36_code 38 = .ok (.goto 4, 3) := by decide +kernel
theorem d_M_copy_41 : decode prog_5_method_36_code 41 = .ok (.iconst 0, 1) := by decide +kernel
theorem d_M_copy_42 : decode prog_5_method_36_code 42 = .ok (.iload_n 3, 1) := by decide +kernel
theorem d_M_copy_43 : decode prog_5_method_36_code 43 = .ok (.ifCond .eq 15, 3) := by decide +kernel
theorem d_M_copy_46 : decode prog_5_method_36_code 46 = .ok (.aload_n 0, 1) := by decide +kernel
theorem d_M_copy_47 : decode prog_5_method_36_code 47 = .ok (.iload_n 2, 1) := by decide +kernel
theorem d_M_copy_48 : decode prog_5_method_36_code 48 = .ok (.invokevirtual 135, 3) := by decide +kernel
theorem d_M_copy_51 : decode prog_5_method_36_code 51 = .ok (.ifCond .ne 7, 3) := by decide +kernel
theorem d_M_copy_54 : decode prog_5_method_36_code 54 = .ok (.iconst 1, 1) := by decide +kernel
theorem d_M_copy_55 : decode prog_5_method_36_code 55 = .ok (.goto 4, 3) := by decide +kernel
theorem d_M_copy_58 : decode prog_5_method_36_code 58 = .ok (.iconst 0, 1) := by decide +kernel
theorem d_M_copy_59 : decode prog_5_method_36_code 59 = .ok (.invokevirtual 109, 3) := by decide +kernel
theorem d_M_copy_62 : decode prog_5_method_36_code 62 = .ok (.ifCond .ne 5, 3) := by decide +kernel
theorem d_M_copy_65 : decode prog_5_method_36_code 65 = .ok (.iconst 0, 1) := by decide +kernel
theorem d_M_copy_66 : decode prog_5_method_36_code 66 = .ok (.ireturn, 1) := by decide +kernel
theorem d_M_copy_67 : decode prog_5_method_36_code 67 = .ok (.aload_n 0, 1) := by decide +kernel
theorem d_M_copy_68 : decode prog_5_method_36_code 68 = .ok (.iload_n 2, 1) := by decide +kernel
theorem d_M_copy_69 : decode prog_5_method_36_code 69 = .ok (.invokevirtual 117, 3) := by decide +kernel
theorem d_M_copy_72 : decode prog_5_method_36_code 72 = .ok (.istore 4, 2) := by decide +kernel
theorem d_M_copy_74 : decode prog_5_method_36_code 74 = .ok (.iconst 0, 1) := by decide +kernel
theorem d_M_copy_75 : decode prog_5_method_36_code 75 = .ok (.istore 5, 2) := by decide +kernel
theorem d_M_copy_77 : decode prog_5_method_36_code 77 = .ok (.iload 5, 2) := by decide +kernel
theorem d_M_copy_79 : decode prog_5_method_36_code 79 = .ok (.iload 4, 2) := by decide +kernel
theorem d_M_copy_81 : decode prog_5_method_36_code 81 = .ok (.if_icmp .ge 24, 3) := by decide +kernel
theorem d_M_copy_84 : decode prog_5_method_36_code 84 = .ok (.aload_n 0, 1) := by decide +kernel
theorem d_M_copy_85 : decode prog_5_method_36_code 85 = .ok (.getfield 41, 3) := by decide +kernel
theorem d_M_copy_88 : decode prog_5_method_36_code 88 = .ok (.iload 5, 2) := by decide +kernel
theorem d_M_copy_90 : decode prog_5_method_36_code 90 = .ok (.aload_n 0, 1) := by decide +kernel
theorem d_M_copy_91 : decode prog_5_method_36_code 91 = .ok (.iload_n 1, 1) := by decide +kernel
theorem d_M_copy_92 : decode prog_5_method_36_code 92 = .ok (.iload_n 2, 1) := by decide +kernel
theorem d_M_copy_93 : decode prog_5_method_36_code 93 = .ok (.iload 5, 2) := by decide +kernel
theorem d_M_copy_95 : decode prog_5_method_36_code 95 = .ok (.invokevirtual 145, 3) := by decide +kernel
theorem d_M_copy_98 : decode prog_5_method_36_code 98 = .ok (.lastore, 1) := by decide +kernel
theorem d_M_copy_99 : decode prog_5_method_36_code 99 = .ok (.iinc 5 1, 3) := by decide +kernel
theorem d_M_copy_102 : decode prog_5_method_36_code 102 = .ok (.goto (-25), 3) := by decide +kernel
theorem d_M_copy_105 : decode prog_5_method_36_code 105 = .ok (.aload_n 0, 1) := by decide +kernel
theorem d_M_copy_106 : decode prog_5_method_36_code 106 = .ok (.iload_n 2, 1) := by decide +kernel
theorem d_M_copy_107 : decode prog_5_method_36_code 107 = .ok (.invokevirtual 149, 3) := by decide +kernel
theorem d_M_copy_110 : decode prog_5_method_36_code 110 = .ok (.ireturn, 1) := by decide +kernel
theorem d_M_goesTo_0 : decode prog_5_method_33_code 0 = .ok (.aload_n 0, 1) := by decide +kernel
theorem d_M_goesTo_1 : decode prog_5_method_33_code 1 = .ok (.getfield 26, 3) := by decide +kernel
theorem d_M_goesTo_4 : decode prog_5_method_33_code 4 = .ok (.iload_n 1, 1) := by decide +kernel
theorem d_M_goesTo_5 : decode prog_5_method_33_code 5 = .ok (.iaload, 1) := by decide +kernel
theorem d_M_goesTo_6 : decode prog_5_method_33_code 6 = .ok (.aload_n 0, 1) := by decide +kernel
theorem d_M_goesTo_7 : decode prog_5_method_33_code 7 = .ok (.getfield 26, 3) := by decide +kernel
theorem d_M_goesTo_10 : decode prog_5_method_33_code 10 = .ok (.iload_n 2, 1) := by decide +kernel
theorem d_M_goesTo_11 : decode prog_5_method_33_code 11 = .ok (.iaload, 1) := by decide +kernel
theorem d_M_goesTo_12 : decode prog_5_method_33_code 12 = .ok (.if_icmp .gt 7, 3) := by decide +kernel
theorem d_M_goesTo_15 : decode prog_5_method_33_code 15 = .ok (.iconst 1, 1) := by decide +kernel
theorem d_M_goesTo_16 : decode prog_5_method_33_code 16 = .ok (.goto 4, 3) := by decide +kernel
theorem d_M_goesTo_19 : decode prog_5_method_33_code 19 = .ok (.iconst 0, 1) := by decide +kernel
theorem d_M_goesTo_20 : decode prog_5_method_33_code 20 = .ok (.istore_n 3, 1) := by decide +kernel
theorem d_M_goesTo_21 : decode prog_5_method_33_code 21 = .ok (.iconst 1, 1) := by decide +kernel
theorem d_M_goesTo_22 : decode prog_5_method_33_code 22 = .ok (.istore 4, 2) := by decide +kernel
theorem d_M_goesTo_24 : decode prog_5_method_33_code 24 = .ok (.iload 4, 2) := by decide +kernel
theorem d_M_goesTo_26 : decode prog_5_method_33_code 26 = .ok (.aload_n 0, 1) := by decide +kernel
theorem d_M_goesTo_27 : decode prog_5_method_33_code 27 = .ok (.getfield 26, 3) := by decide +kernel
theorem d_M_goesTo_30 : decode prog_5_method_33_code 30 = .ok (.iload_n 1, 1) := by decide +kernel
theorem d_M_goesTo_31 : decode prog_5_method_33_code 31 = .ok (.iaload, 1) := by decide +kernel
theorem d_M_goesTo_32 : decode prog_5_method_33_code 32 = .ok (.if_icmp .gt 68, 3) := by decide +kernel
theorem d_M_goesTo_35 : decode prog_5_method_33_code 35 = .ok (.iload_n 3, 1) := by decide +kernel
theorem d_M_goesTo_36 : decode prog_5_method_33_code 36 = .ok (.ifCond .eq 64, 3) := by decide +kernel
theorem d_M_goesTo_39 : decode prog_5_method_33_code 39 = .ok (.aload_n 0, 1) := by decide +kernel
theorem d_M_goesTo_40 : decode prog_5_method_33_code 40 = .ok (.getfield 29, 3) := by decide +kernel
theorem d_M_goesTo_43 : decode prog_5_method_33_code 43 = .ok (.iconst 4, 1) := by decide +kernel
theorem d_M_goesTo_44 : decode prog_5_method_33_code 44 = .ok (.iload_n 1, 1) := by decide +kernel
theorem d_M_goesTo_45 : decode prog_5_method_33_code 45 = .ok (.imul, 1) := by decide +kernel
theorem d_M_goesTo_46 : decode prog_5_method_33_code 46 = .ok (.aload_n 0, 1) := by decide +kernel
theorem d_M_goesTo_47 : decode prog_5_method_33_code 47 = .ok (.getfield 26, 3) := by decide +kernel
theorem d_M_goesTo_50 : decode prog_5_method_33_code 50 = .ok (.iload_n 1, 1) := by decide +kernel
theorem d_M_goesTo_51 : decode prog_5_method_33_code 51 = .ok (.iaload, 1) := by decide +kernel
theorem d_M_goesTo_52 : decode prog_5_method_33_code 52 = .ok (.iadd, 1) := by decide +kernel
theorem d_M_goesTo_53 : decode prog_5_method_33_code 53 = .ok (.iload 4, 2) := by decide +kernel
theorem d_M_goesTo_55 : decode prog_5_method_33_code 55 = .ok (.isub, 1) := by decide +kernel
theorem d_M_goesTo_56 : decode prog_5_method_33_code 56 = .ok (.iaload, 1) := by decide +kernel
theorem d_M_goesTo_57 : decode prog_5_method_33_code 57 = .ok (.istore 5, 2) := by decide +kernel
theorem d_M_goesTo_59 : decode prog_5_method_33_code 59 = .ok (.iload 5, 2) := by decide +kernel
theorem d_M_goesTo_61 : decode prog_5_method_33_code 61 = .ok (.iconst 1, 1) := by decide +kernel
theorem d_M_goesTo_62 : decode prog_5_method_33_code 62 = .ok (.if_icmp .eq 26, 3) := by decide +kernel
theorem d_M_goesTo_65 : decode prog_5_method_33_code 65 = .ok (.iload 5, 2) := by decide +kernel
theorem d_M_goesTo_67 : decode prog_5_method_33_code 67 = .ok (.aload_n 0, 1) := by decide +kernel
theorem d_M_goesTo_68 : decode prog_5_method_33_code 68 = .ok (.getfield 29, 3) := by decide +kernel
theorem d_M_goesTo_71 : decode prog_5_method_33_code 71 = .ok (.iconst 4, 1) := by decide +kernel
theorem d_M_goesTo_72 : decode prog_5_method_33_code 72 = .ok (.iload_n 2, 1) := by decide +kernel
theorem d_M_goesTo_73 : decode prog_5_method_33_code 73 = .ok (.imul, 1) := by decide +kernel
theorem d_M_goesTo_74 : decode prog_5_method_33_code 74 = .ok (.aload_n 0, 1) := by decide +kernel
theorem d_M_goesTo_75 : decode prog_5_method_33_code 75 = .ok (.getfield 26, 3) := by decide +kernel
theorem d_M_goesTo_78 : decode prog_5_method_33_code 78 = .ok (.iload_n 2, 1) := by decide +kernel
theorem d_M_goesTo_79 : decode prog_5_method_33_code 79 = .ok (.iaload, 1) := by decide +kernel
theorem d_M_goesTo_80 : decode prog_5_method_33_code 80 = .ok (.iadd, 1) := by decide +kernel
theorem d_M_goesTo_81 : decode prog_5_method_33_code 81 = .ok (.iload 4, 2) := by decide +kernel
theorem d_M_goesTo_83 : decode prog_5_method_33_code 83 = .ok (.isub, 1) := by decide +kernel
theorem d_M_goesTo_84 : decode prog_5_method_33_code 84 = .ok (.iaload, 1) := by decide +kernel
theorem d_M_goesTo_85 : decode prog_5_method_33_code 85 = .ok (.if_icmp .ne 7, 3) := by decide +kernel
theorem d_M_goesTo_88 : decode prog_5_method_33_code 88 = .ok (.iconst 1, 1) := by decide +kernel
theorem d_M_goesTo_89 : decode prog_5_method_33_code 89 = .ok (.goto 4, 3) := by decide +kernel
theorem d_M_goesTo_92 : decode prog_5_method_33_code 92 = .ok (.iconst 0, 1) := by decide +kernel
theorem d_M_goesTo_93 : decode prog_5_method_33_code 93 = .ok (.istore_n 3, 1) := by decide +kernel
theorem d_M_goesTo_94 : decode prog_5_method_33_code 94 = .ok (.iinc 4 1, 3) := by decide +kernel
theorem d_M_goesTo_97 : decode prog_5_method_33_code 97 = .ok (.goto (-73), 3) := by decide +kernel
theorem d_M_goesTo_100 : decode prog_5_method_33_code 100 = .ok (.iload_n 3, 1) := by decide +kernel
theorem d_M_goesTo_101 : decode prog_5_method_33_code 101 = .ok (.ireturn, 1) := by decide +kernel
theorem d_M_gone_0 : decode prog_5_method_34_code 0 = .ok (.iconst 0, 1) := by decide +kernel
theorem d_M_gone_1 : decode prog_5_method_34_code 1 = .ok (.istore 4, 2) := by decide +kernel
theorem d_M_gone_3 : decode prog_5_method_34_code 3 = .ok (.aload_n 0, 1) := by decide +kernel
theorem d_M_gone_4 : decode prog_5_method_34_code 4 = .ok (.getfield 26, 3) := by decide +kernel
theorem d_M_gone_7 : decode prog_5_method_34_code 7 = .ok (.iload_n 2, 1) := by decide +kernel
theorem d_M_gone_8 : decode prog_5_method_34_code 8 = .ok (.iaload, 1) := by decide +kernel
theorem d_M_gone_9 : decode prog_5_method_34_code 9 = .ok (.aload_n 0, 1) := by decide +kernel
theorem d_M_gone_10 : decode prog_5_method_34_code 10 = .ok (.getfield 26, 3) := by decide +kernel
theorem d_M_gone_13 : decode prog_5_method_34_code 13 = .ok (.iload_n 1, 1) := by decide +kernel
theorem d_M_gone_14 : decode prog_5_method_34_code 14 = .ok (.iaload, 1) := by decide +kernel
theorem d_M_gone_15 : decode prog_5_method_34_code 15 = .ok (.isub, 1) := by decide +kernel
theorem d_M_gone_16 : decode prog_5_method_34_code 16 = .ok (.istore 5, 2) := by decide +kernel
theorem d_M_gone_18 : decode prog_5_method_34_code 18 = .ok (.iconst 0, 1) := by decide +kernel
theorem d_M_gone_19 : decode prog_5_method_34_code 19 = .ok (.istore 6, 2) := by decide +kernel
theorem d_M_gone_21 : decode prog_5_method_34_code 21 = .ok (.iload 6, 2) := by decide +kernel
theorem d_M_gone_23 : decode prog_5_method_34_code 23 = .ok (.aload_n 0, 1) := by decide +kernel
theorem d_M_gone_24 : decode prog_5_method_34_code 24 = .ok (.getfield 26, 3) := by decide +kernel
theorem d_M_gone_27 : decode prog_5_method_34_code 27 = .ok (.iload_n 1, 1) := by decide +kernel
theorem d_M_gone_28 : decode prog_5_method_34_code 28 = .ok (.iaload, 1) := by decide +kernel
theorem d_M_gone_29 : decode prog_5_method_34_code 29 = .ok (.if_icmp .ge 51, 3) := by decide +kernel
theorem d_M_gone_32 : decode prog_5_method_34_code 32 = .ok (.aload_n 0, 1) := by decide +kernel
theorem d_M_gone_33 : decode prog_5_method_34_code 33 = .ok (.getfield 29, 3) := by decide +kernel
theorem d_M_gone_36 : decode prog_5_method_34_code 36 = .ok (.iconst 4, 1) := by decide +kernel
theorem d_M_gone_37 : decode prog_5_method_34_code 37 = .ok (.iload_n 1, 1) := by decide +kernel
theorem d_M_gone_38 : decode prog_5_method_34_code 38 = .ok (.imul, 1) := by decide +kernel
theorem d_M_gone_39 : decode prog_5_method_34_code 39 = .ok (.iload 6, 2) := by decide +kernel
theorem d_M_gone_41 : decode prog_5_method_34_code 41 = .ok (.iadd, 1) := by decide +kernel
theorem d_M_gone_42 : decode prog_5_method_34_code 42 = .ok (.iaload, 1) := by decide +kernel
theorem d_M_gone_43 : decode prog_5_method_34_code 43 = .ok (.istore 7, 2) := by decide +kernel
theorem d_M_gone_45 : decode prog_5_method_34_code 45 = .ok (.iload 4, 2) := by decide +kernel
theorem d_M_gone_47 : decode prog_5_method_34_code 47 = .ok (.iload 7, 2) := by decide +kernel
theorem d_M_gone_49 : decode prog_5_method_34_code 49 = .ok (.imul, 1) := by decide +kernel
theorem d_M_gone_50 : decode prog_5_method_34_code 50 = .ok (.iload 7, 2) := by decide +kernel
theorem d_M_gone_52 : decode prog_5_method_34_code 52 = .ok (.iconst 1, 1) := by decide +kernel
theorem d_M_gone_53 : decode prog_5_method_34_code 53 = .ok (.if_icmp .ne 7, 3) := by decide +kernel
theorem d_M_gone_56 : decode prog_5_method_34_code 56 = .ok (.iconst 0, 1) := by decide +kernel
theorem d_M_gone_57 : decode prog_5_method_34_code 57 = .ok (.goto 14, 3) := by decide +kernel
theorem d_M_gone_60 : decode prog_5_method_34_code 60 = .ok (.aload_n 0, 1) := by decide +kernel
theorem d_M_gone_61 : decode prog_5_method_34_code 61 = .ok (.iload_n 2, 1) := by decide +kernel
theorem d_M_gone_62 : decode prog_5_method_34_code 62 = .ok (.iload 5, 2) := by decide +kernel
theorem d_M_gone_64 : decode prog_5_method_34_code 64 = .ok (.iload 6, 2) := by decide +kernel
theorem d_M_gone_66 : decode prog_5_method_34_code 66 = .ok (.iadd, 1) := by decide +kernel
theorem d_M_gone_67 : decode prog_5_method_34_code 67 = .ok (.iload_n 3, 1) := by decide +kernel
theorem d_M_gone_68 : decode prog_5_method_34_code 68 = .ok (.invokevirtual 66, 3) := by decide +kernel
theorem d_M_gone_71 : decode prog_5_method_34_code 71 = .ok (.iadd, 1) := by decide +kernel
theorem d_M_gone_72 : decode prog_5_method_34_code 72 = .ok (.istore 4, 2) := by decide +kernel
theorem d_M_gone_74 : decode prog_5_method_34_code 74 = .ok (.iinc 6 1, 3) := by decide +kernel
theorem d_M_gone_77 : decode prog_5_method_34_code 77 = .ok (.goto (-56), 3) := by decide +kernel
theorem d_M_gone_80 : decode prog_5_method_34_code 80 = .ok (.aload_n 0, 1) := by decide +kernel
theorem d_M_gone_81 : decode prog_5_method_34_code 81 = .ok (.iload_n 1, 1) := by decide +kernel
theorem d_M_gone_82 : decode prog_5_method_34_code 82 = .ok (.iload 4, 2) := by decide +kernel
theorem d_M_gone_84 : decode prog_5_method_34_code 84 = .ok (.invokevirtual 128, 3) := by decide +kernel
theorem d_M_gone_87 : decode prog_5_method_34_code 87 = .ok (.lreturn, 1) := by decide +kernel
theorem d_M_putAll_0 : decode prog_5_method_35_code 0 = .ok (.iconst 0, 1) := by decide +kernel
theorem d_M_putAll_1 : decode prog_5_method_35_code 1 = .ok (.istore_n 2, 1) := by decide +kernel
theorem d_M_putAll_2 : decode prog_5_method_35_code 2 = .ok (.aload_n 0, 1) := by decide +kernel
theorem d_M_putAll_3 : decode prog_5_method_35_code 3 = .ok (.iload_n 1, 1) := by decide +kernel
theorem d_M_putAll_4 : decode prog_5_method_35_code 4 = .ok (.invokevirtual 117, 3) := by decide +kernel
theorem d_M_putAll_7 : decode prog_5_method_35_code 7 = .ok (.istore_n 3, 1) := by decide +kernel
theorem d_M_putAll_8 : decode prog_5_method_35_code 8 = .ok (.iconst 0, 1) := by decide +kernel
theorem d_M_putAll_9 : decode prog_5_method_35_code 9 = .ok (.istore 4, 2) := by decide +kernel
theorem d_M_putAll_11 : decode prog_5_method_35_code 11 = .ok (.iload 4, 2) := by decide +kernel
theorem d_M_putAll_13 : decode prog_5_method_35_code 13 = .ok (.iload_n 3, 1) := by decide +kernel
theorem d_M_putAll_14 : decode prog_5_method_35_code 14 = .ok (.if_icmp .ge 53, 3) := by decide +kernel
theorem d_M_putAll_17 : decode prog_5_method_35_code 17 = .ok (.aload_n 0, 1) := by decide +kernel
theorem d_M_putAll_18 : decode prog_5_method_35_code 18 = .ok (.iload_n 1, 1) := by decide +kernel
theorem d_M_putAll_19 : decode prog_5_method_35_code 19 = .ok (.iload 4, 2) := by decide +kernel
theorem d_M_putAll_21 : decode prog_5_method_35_code 21 = .ok (.invokevirtual 128, 3) := by decide +kernel
theorem d_M_putAll_24 : decode prog_5_method_35_code 24 = .ok (.lstore 5, 2) := by decide +kernel
theorem d_M_putAll_26 : decode prog_5_method_35_code 26 = .ok (.aload_n 0, 1) := by decide +kernel
theorem d_M_putAll_27 : decode prog_5_method_35_code 27 = .ok (.iload_n 1, 1) := by decide +kernel
theorem d_M_putAll_28 : decode prog_5_method_35_code 28 = .ok (.iload 4, 2) := by decide +kernel
theorem d_M_putAll_30 : decode prog_5_method_35_code 30 = .ok (.aload_n 0, 1) := by decide +kernel
theorem d_M_putAll_31 : decode prog_5_method_35_code 31 = .ok (.getfield 41, 3) := by decide +kernel
theorem d_M_putAll_34 : decode prog_5_method_35_code 34 = .ok (.iload 4, 2) := by decide +kernel
theorem d_M_putAll_36 : decode prog_5_method_35_code 36 = .ok (.laload, 1) := by decide +kernel
theorem d_M_putAll_37 : decode prog_5_method_35_code 37 = .ok (.invokevirtual 138, 3) := by decide +kernel
theorem d_M_putAll_40 : decode prog_5_method_35_code 40 = .ok (.iload_n 2, 1) := by decide +kernel
theorem d_M_putAll_41 : decode prog_5_method_35_code 41 = .ok (.aload_n 0, 1) := by decide +kernel
theorem d_M_putAll_42 : decode prog_5_method_35_code 42 = .ok (.iload_n 1, 1) := by decide +kernel
theorem d_M_putAll_43 : decode prog_5_method_35_code 43 = .ok (.iload 4, 2) := by decide +kernel
theorem d_M_putAll_45 : decode prog_5_method_35_code 45 = .ok (.invokevirtual 128, 3) := by decide +kernel
theorem d_M_putAll_48 : decode prog_5_method_35_code 48 = .ok (.lload 5, 2) := by decide +kernel
theorem d_M_putAll_50 : decode prog_5_method_35_code 50 = .ok (.lcmp, 1) := by decide +kernel
theorem d_M_putAll_51 : decode prog_5_method_35_code 51 = .ok (.ifCond .ne 7, 3) := by decide +kernel
theorem d_M_putAll_54 : decode prog_5_method_35_code 54 = .ok (.iconst 0, 1) := by decide +kernel
theorem d_M_putAll_55 : decode prog_5_method_35_code 55 = .ok (.goto 4, 3) := by decide +kernel
theorem d_M_putAll_58 : decode prog_5_method_35_code 58 = .ok (.iconst 1, 1) := by decide +kernel
theorem d_M_putAll_59 : decode prog_5_method_35_code 59 = .ok (.iadd, 1) := by decide +kernel
theorem d_M_putAll_60 : decode prog_5_method_35_code 60 = .ok (.istore_n 2, 1) := by decide +kernel
theorem d_M_putAll_61 : decode prog_5_method_35_code 61 = .ok (.iinc 4 1, 3) := by decide +kernel
theorem d_M_putAll_64 : decode prog_5_method_35_code 64 = .ok (.goto (-53), 3) := by decide +kernel
theorem d_M_putAll_67 : decode prog_5_method_35_code 67 = .ok (.iload_n 2, 1) := by decide +kernel
theorem d_M_putAll_68 : decode prog_5_method_35_code 68 = .ok (.ireturn, 1) := by decide +kernel
theorem d_M_act_0 : decode prog_5_method_38_code 0 = .ok (.aload_n 0, 1) := by decide +kernel
theorem d_M_act_1 : decode prog_5_method_38_code 1 = .ok (.iload_n 2, 1) := by decide +kernel
theorem d_M_act_2 : decode prog_5_method_38_code 2 = .ok (.invokevirtual 55, 3) := by decide +kernel
theorem d_M_act_5 : decode prog_5_method_38_code 5 = .ok (.ifCond .eq 24, 3) := by decide +kernel
theorem d_M_act_8 : decode prog_5_method_38_code 8 = .ok (.aload_n 0, 1) := by decide +kernel
theorem d_M_act_9 : decode prog_5_method_38_code 9 = .ok (.iload_n 3, 1) := by decide +kernel
theorem d_M_act_10 : decode prog_5_method_38_code 10 = .ok (.invokevirtual 55, 3) := by decide +kernel
theorem d_M_act_13 : decode prog_5_method_38_code 13 = .ok (.ifCond .eq 16, 3) := by decide +kernel
theorem d_M_act_16 : decode prog_5_method_38_code 16 = .ok (.aload_n 0, 1) := by decide +kernel
theorem d_M_act_17 : decode prog_5_method_38_code 17 = .ok (.iload 4, 2) := by decide +kernel
theorem d_M_act_19 : decode prog_5_method_38_code 19 = .ok (.invokevirtual 55, 3) := by decide +kernel
theorem d_M_act_22 : decode prog_5_method_38_code 22 = .ok (.ifCond .eq 7, 3) := by decide +kernel
theorem d_M_act_25 : decode prog_5_method_38_code 25 = .ok (.iconst 1, 1) := by decide +kernel
theorem d_M_act_26 : decode prog_5_method_38_code 26 = .ok (.goto 4, 3) := by decide +kernel
theorem d_M_act_29 : decode prog_5_method_38_code 29 = .ok (.iconst 0, 1) := by decide +kernel
theorem d_M_act_30 : decode prog_5_method_38_code 30 = .ok (.istore 5, 2) := by decide +kernel
theorem d_M_act_32 : decode prog_5_method_38_code 32 = .ok (.iload 5, 2) := by decide +kernel
theorem d_M_act_34 : decode prog_5_method_38_code 34 = .ok (.ifCond .eq 36, 3) := by decide +kernel
theorem d_M_act_37 : decode prog_5_method_38_code 37 = .ok (.iload_n 1, 1) := by decide +kernel
theorem d_M_act_38 : decode prog_5_method_38_code 38 = .ok (.ifCond .lt 32, 3) := by decide +kernel
theorem d_M_act_41 : decode prog_5_method_38_code 41 = .ok (.iload_n 1, 1) := by decide +kernel
theorem d_M_act_42 : decode prog_5_method_38_code 42 = .ok (.iconst 5, 1) := by decide +kernel
theorem d_M_act_43 : decode prog_5_method_38_code 43 = .ok (.if_icmp .ge 27, 3) := by decide +kernel
theorem d_M_act_46 : decode prog_5_method_38_code 46 = .ok (.aload_n 0, 1) := by decide +kernel
theorem d_M_act_47 : decode prog_5_method_38_code 47 = .ok (.iload_n 2, 1) := by decide +kernel
theorem d_M_act_48 : decode prog_5_method_38_code 48 = .ok (.iload 4, 2) := by decide +kernel
theorem d_M_act_50 : decode prog_5_method_38_code 50 = .ok (.invokevirtual 142, 3) := by decide +kernel
theorem d_M_act_53 : decode prog_5_method_38_code 53 = .ok (.ifCond .eq 17, 3) := by decide +kernel
theorem d_M_act_56 : decode prog_5_method_38_code 56 = .ok (.aload_n 0, 1) := by decide +kernel
theorem d_M_act_57 : decode prog_5_method_38_code 57 = .ok (.iload_n 3, 1) := by decide +kernel
theorem d_M_act_58 : decode prog_5_method_38_code 58 = .ok (.iload 4, 2) := by decide +kernel
theorem d_M_act_60 : decode prog_5_method_38_code 60 = .ok (.invokevirtual 142, 3) := by decide +kernel
theorem d_M_act_63 : decode prog_5_method_38_code 63 = .ok (.ifCond .eq 7, 3) := by decide +kernel
theorem d_M_act_66 : decode prog_5_method_38_code 66 = .ok (.iconst 1, 1) := by decide +kernel
theorem d_M_act_67 : decode prog_5_method_38_code 67 = .ok (.goto 4, 3) := by decide +kernel
theorem d_M_act_70 : decode prog_5_method_38_code 70 = .ok (.iconst 0, 1) := by decide +kernel
theorem d_M_act_71 : decode prog_5_method_38_code 71 = .ok (.istore 6, 2) := by decide +kernel
theorem d_M_act_73 : decode prog_5_method_38_code 73 = .ok (.aload_n 0, 1) := by decide +kernel
theorem d_M_act_74 : decode prog_5_method_38_code 74 = .ok (.iload 5, 2) := by decide +kernel
theorem d_M_act_76 : decode prog_5_method_38_code 76 = .ok (.iload 6, 2) := by decide +kernel
theorem d_M_act_78 : decode prog_5_method_38_code 78 = .ok (.iload 5, 2) := by decide +kernel
theorem d_M_act_80 : decode prog_5_method_38_code 80 = .ok (.ifCond .eq 16, 3) := by decide +kernel
theorem d_M_act_83 : decode prog_5_method_38_code 83 = .ok (.aload_n 0, 1) := by decide +kernel
theorem d_M_act_84 : decode prog_5_method_38_code 84 = .ok (.iload 4, 2) := by decide +kernel
theorem d_M_act_86 : decode prog_5_method_38_code 86 = .ok (.invokevirtual 135, 3) := by decide +kernel
theorem d_M_act_89 : decode prog_5_method_38_code 89 = .ok (.ifCond .ne 7, 3) := by decide +kernel
theorem d_M_act_92 : decode prog_5_method_38_code 92 = .ok (.iconst 1, 1) := by decide +kernel
theorem d_M_act_93 : decode prog_5_method_38_code 93 = .ok (.goto 4, 3) := by decide +kernel
theorem d_M_act_96 : decode prog_5_method_38_code 96 = .ok (.iconst 0, 1) := by decide +kernel
theorem d_M_act_97 : decode prog_5_method_38_code 97 = .ok (.invokevirtual 109, 3) := by decide +kernel
theorem d_M_act_100 : decode prog_5_method_38_code 100 = .ok (.ifCond .ne 5, 3) := by decide +kernel
theorem d_M_act_103 : decode prog_5_method_38_code 103 = .ok (.iconst 0, 1) := by decide +kernel
theorem d_M_act_104 : decode prog_5_method_38_code 104 = .ok (.ireturn, 1) := by decide +kernel
theorem d_M_act_105 : decode prog_5_method_38_code 105 = .ok (.aload_n 0, 1) := by decide +kernel
theorem d_M_act_106 : decode prog_5_method_38_code 106 = .ok (.iload 4, 2) := by decide +kernel
theorem d_M_act_108 : decode prog_5_method_38_code 108 = .ok (.invokevirtual 117, 3) := by decide +kernel
theorem d_M_act_111 : decode prog_5_method_38_code 111 = .ok (.istore 7, 2) := by decide +kernel
theorem d_M_act_113 : decode prog_5_method_38_code 113 = .ok (.iconst 0, 1) := by decide +kernel
theorem d_M_act_114 : decode prog_5_method_38_code 114 = .ok (.istore 8, 2) := by decide +kernel
theorem d_M_act_116 : decode prog_5_method_38_code 116 = .ok (.iload 8, 2) := by decide +kernel
theorem d_M_act_118 : decode prog_5_method_38_code 118 = .ok (.iload 7, 2) := by decide +kernel
theorem d_M_act_120 : decode prog_5_method_38_code 120 = .ok (.if_icmp .ge 38, 3) := by decide +kernel
theorem d_M_act_123 : decode prog_5_method_38_code 123 = .ok (.aload_n 0, 1) := by decide +kernel
theorem d_M_act_124 : decode prog_5_method_38_code 124 = .ok (.getfield 41, 3) := by decide +kernel
theorem d_M_act_127 : decode prog_5_method_38_code 127 = .ok (.iload 8, 2) := by decide +kernel
theorem d_M_act_129 : decode prog_5_method_38_code 129 = .ok (.iload_n 1, 1) := by decide +kernel
theorem d_M_act_130 : decode prog_5_method_38_code 130 = .ok (.aload_n 0, 1) := by decide +kernel
theorem d_M_act_131 : decode prog_5_method_38_code 131 = .ok (.iload_n 2, 1) := by decide +kernel
theorem d_M_act_132 : decode prog_5_method_38_code 132 = .ok (.iload 4, 2) := by decide +kernel
theorem d_M_act_134 : decode prog_5_method_38_code 134 = .ok (.iload 8, 2) := by decide +kernel
theorem d_M_act_136 : decode prog_5_method_38_code 136 = .ok (.invokevirtual 145, 3) := by decide +kernel
theorem d_M_act_139 : decode prog_5_method_38_code 139 = .ok (.aload_n 0, 1) := by decide +kernel
theorem d_M_act_140 : decode prog_5_method_38_code 140 = .ok (.iload_n 3, 1) := by decide +kernel
theorem d_M_act_141 : decode prog_5_method_38_code 141 = .ok (.iload 4, 2) := by decide +kernel
theorem d_M_act_143 : decode prog_5_method_38_code 143 = .ok (.iload 8, 2) := by decide +kernel
theorem d_M_act_145 : decode prog_5_method_38_code 145 = .ok (.invokevirtual 145, 3) := by decide +kernel
theorem d_M_act_148 : decode prog_5_method_38_code 148 = .ok (.invokestatic 152, 3) := by decide +kernel
theorem d_M_act_151 : decode prog_5_method_38_code 151 = .ok (.lastore, 1) := by decide +kernel
theorem d_M_act_152 : decode prog_5_method_38_code 152 = .ok (.iinc 8 1, 3) := by decide +kernel
theorem d_M_act_155 : decode prog_5_method_38_code 155 = .ok (.goto (-39), 3) := by decide +kernel
theorem d_M_act_158 : decode prog_5_method_38_code 158 = .ok (.aload_n 0, 1) := by decide +kernel
theorem d_M_act_159 : decode prog_5_method_38_code 159 = .ok (.iload 4, 2) := by decide +kernel
theorem d_M_act_161 : decode prog_5_method_38_code 161 = .ok (.invokevirtual 149, 3) := by decide +kernel
theorem d_M_act_164 : decode prog_5_method_38_code 164 = .ok (.ireturn, 1) := by decide +kernel
theorem d_M_acted_0 : decode prog_5_method_37_code 0 = .ok (.iload_n 0, 1) := by decide +kernel
theorem d_M_acted_1 : decode prog_5_method_37_code 1 = .ok (.tableswitch 55 0 3 #[31, 35, 39, 43], 31) := by decide +kernel
theorem d_M_acted_32 : decode prog_5_method_37_code 32 = .ok (.lload_n 1, 1) := by decide +kernel
theorem d_M_acted_33 : decode prog_5_method_37_code 33 = .ok (.lload_n 3, 1) := by decide +kernel
theorem d_M_acted_34 : decode prog_5_method_37_code 34 = .ok (.ladd, 1) := by decide +kernel
theorem d_M_acted_35 : decode prog_5_method_37_code 35 = .ok (.lreturn, 1) := by decide +kernel
theorem d_M_acted_36 : decode prog_5_method_37_code 36 = .ok (.lload_n 1, 1) := by decide +kernel
theorem d_M_acted_37 : decode prog_5_method_37_code 37 = .ok (.lload_n 3, 1) := by decide +kernel
theorem d_M_acted_38 : decode prog_5_method_37_code 38 = .ok (.lsub, 1) := by decide +kernel
theorem d_M_acted_39 : decode prog_5_method_37_code 39 = .ok (.lreturn, 1) := by decide +kernel
theorem d_M_acted_40 : decode prog_5_method_37_code 40 = .ok (.lload_n 1, 1) := by decide +kernel
theorem d_M_acted_41 : decode prog_5_method_37_code 41 = .ok (.lload_n 3, 1) := by decide +kernel
theorem d_M_acted_42 : decode prog_5_method_37_code 42 = .ok (.lmul, 1) := by decide +kernel
theorem d_M_acted_43 : decode prog_5_method_37_code 43 = .ok (.lreturn, 1) := by decide +kernel
theorem d_M_acted_44 : decode prog_5_method_37_code 44 = .ok (.lload_n 1, 1) := by decide +kernel
theorem d_M_acted_45 : decode prog_5_method_37_code 45 = .ok (.lload_n 3, 1) := by decide +kernel
theorem d_M_acted_46 : decode prog_5_method_37_code 46 = .ok (.lcmp, 1) := by decide +kernel
theorem d_M_acted_47 : decode prog_5_method_37_code 47 = .ok (.ifCond .le 7, 3) := by decide +kernel
theorem d_M_acted_50 : decode prog_5_method_37_code 50 = .ok (.lload_n 1, 1) := by decide +kernel
theorem d_M_acted_51 : decode prog_5_method_37_code 51 = .ok (.goto 4, 3) := by decide +kernel
theorem d_M_acted_54 : decode prog_5_method_37_code 54 = .ok (.lload_n 3, 1) := by decide +kernel
theorem d_M_acted_55 : decode prog_5_method_37_code 55 = .ok (.lreturn, 1) := by decide +kernel
theorem d_M_acted_56 : decode prog_5_method_37_code 56 = .ok (.lload_n 1, 1) := by decide +kernel
theorem d_M_acted_57 : decode prog_5_method_37_code 57 = .ok (.lload_n 3, 1) := by decide +kernel
theorem d_M_acted_58 : decode prog_5_method_37_code 58 = .ok (.lcmp, 1) := by decide +kernel
theorem d_M_acted_59 : decode prog_5_method_37_code 59 = .ok (.ifCond .ge 7, 3) := by decide +kernel
theorem d_M_acted_62 : decode prog_5_method_37_code 62 = .ok (.lload_n 1, 1) := by decide +kernel
theorem d_M_acted_63 : decode prog_5_method_37_code 63 = .ok (.goto 4, 3) := by decide +kernel
theorem d_M_acted_66 : decode prog_5_method_37_code 66 = .ok (.lload_n 3, 1) := by decide +kernel
theorem d_M_acted_67 : decode prog_5_method_37_code 67 = .ok (.lreturn, 1) := by decide +kernel
theorem d_M_fold_0 : decode prog_5_method_39_code 0 = .ok (.aload_n 0, 1) := by decide +kernel
theorem d_M_fold_1 : decode prog_5_method_39_code 1 = .ok (.iload_n 2, 1) := by decide +kernel
theorem d_M_fold_2 : decode prog_5_method_39_code 2 = .ok (.iload_n 3, 1) := by decide +kernel
theorem d_M_fold_3 : decode prog_5_method_39_code 3 = .ok (.invokevirtual 105, 3) := by decide +kernel
theorem d_M_fold_6 : decode prog_5_method_39_code 6 = .ok (.istore 4, 2) := by decide +kernel
theorem d_M_fold_8 : decode prog_5_method_39_code 8 = .ok (.iload_n 1, 1) := by decide +kernel
theorem d_M_fold_9 : decode prog_5_method_39_code 9 = .ok (.ifCond .eq 13, 3) := by decide +kernel
theorem d_M_fold_12 : decode prog_5_method_39_code 12 = .ok (.iload_n 1, 1) := by decide +kernel
theorem d_M_fold_13 : decode prog_5_method_39_code 13 = .ok (.iconst 1, 1) := by decide +kernel
theorem d_M_fold_14 : decode prog_5_method_39_code 14 = .ok (.if_icmp .le 12, 3) := by decide +kernel
theorem d_M_fold_17 : decode prog_5_method_39_code 17 = .ok (.iload_n 1, 1) := by decide +kernel
theorem d_M_fold_18 : decode prog_5_method_39_code 18 = .ok (.iconst 5, 1) := by decide +kernel
theorem d_M_fold_19 : decode prog_5_method_39_code 19 = .ok (.if_icmp .ge 7, 3) := by decide +kernel
theorem d_M_fold_22 : decode prog_5_method_39_code 22 = .ok (.iconst 1, 1) := by decide +kernel
theorem d_M_fold_23 : decode prog_5_method_39_code 23 = .ok (.goto 4, 3) := by decide +kernel
theorem d_M_fold_26 : decode prog_5_method_39_code 26 = .ok (.iconst 0, 1) := by decide +kernel
theorem d_M_fold_27 : decode prog_5_method_39_code 27 = .ok (.istore 5, 2) := by decide +kernel
theorem d_M_fold_29 : decode prog_5_method_39_code 29 = .ok (.aload_n 0, 1) := by decide +kernel
theorem d_M_fold_30 : decode prog_5_method_39_code 30 = .ok (.getfield 84, 3) := by decide +kernel
theorem d_M_fold_33 : decode prog_5_method_39_code 33 = .ok (.bipush 12, 2) := by decide +kernel
theorem d_M_fold_35 : decode prog_5_method_39_code 35 = .ok (.if_icmp .ge 16, 3) := by decide +kernel
theorem d_M_fold_38 : decode prog_5_method_39_code 38 = .ok (.aload_n 0, 1) := by decide +kernel
theorem d_M_fold_39 : decode prog_5_method_39_code 39 = .ok (.getfield 52, 3) := by decide +kernel
theorem d_M_fold_42 : decode prog_5_method_39_code 42 = .ok (.bipush 80, 2) := by decide +kernel
theorem d_M_fold_44 : decode prog_5_method_39_code 44 = .ok (.if_icmp .ge 7, 3) := by decide +kernel
theorem d_M_fold_47 : decode prog_5_method_39_code 47 = .ok (.iconst 1, 1) := by decide +kernel
theorem d_M_fold_48 : decode prog_5_method_39_code 48 = .ok (.goto 4, 3) := by decide +kernel
theorem d_M_fold_51 : decode prog_5_method_39_code 51 = .ok (.iconst 0, 1) := by decide +kernel
theorem d_M_fold_52 : decode prog_5_method_39_code 52 = .ok (.istore 6, 2) := by decide +kernel
theorem d_M_fold_54 : decode prog_5_method_39_code 54 = .ok (.iload 4, 2) := by decide +kernel
theorem d_M_fold_56 : decode prog_5_method_39_code 56 = .ok (.ifCond .eq 33, 3) := by decide +kernel
theorem d_M_fold_59 : decode prog_5_method_39_code 59 = .ok (.aload_n 0, 1) := by decide +kernel
theorem d_M_fold_60 : decode prog_5_method_39_code 60 = .ok (.iload_n 2, 1) := by decide +kernel
theorem d_M_fold_61 : decode prog_5_method_39_code 61 = .ok (.iload_n 3, 1) := by decide +kernel
theorem d_M_fold_62 : decode prog_5_method_39_code 62 = .ok (.iconst (-1), 1) := by decide +kernel
theorem d_M_fold_63 : decode prog_5_method_39_code 63 = .ok (.invokevirtual 113, 3) := by decide +kernel
theorem d_M_fold_66 : decode prog_5_method_39_code 66 = .ok (.iload 6, 2) := by decide +kernel
theorem d_M_fold_68 : decode prog_5_method_39_code 68 = .ok (.ifCond .eq 18, 3) := by decide +kernel
theorem d_M_fold_71 : decode prog_5_method_39_code 71 = .ok (.aload_n 0, 1) := by decide +kernel
theorem d_M_fold_72 : decode prog_5_method_39_code 72 = .ok (.invokevirtual 78, 3) := by decide +kernel
theorem d_M_fold_75 : decode prog_5_method_39_code 75 = .ok (.ldc2_w 156, 3) := by decide +kernel
theorem d_M_fold_78 : decode prog_5_method_39_code 78 = .ok (.lcmp, 1) := by decide +kernel
theorem d_M_fold_79 : decode prog_5_method_39_code 79 = .ok (.ifCond .gt 7, 3) := by decide +kernel
theorem d_M_fold_82 : decode prog_5_method_39_code 82 = .ok (.iconst 1, 1) := by decide +kernel
theorem d_M_fold_83 : decode prog_5_method_39_code 83 = .ok (.goto 4, 3) := by decide +kernel
theorem d_M_fold_86 : decode prog_5_method_39_code 86 = .ok (.iconst 0, 1) := by decide +kernel
theorem d_M_fold_87 : decode prog_5_method_39_code 87 = .ok (.istore 6, 2) := by decide +kernel
theorem d_M_fold_89 : decode prog_5_method_39_code 89 = .ok (.aload_n 0, 1) := by decide +kernel
theorem d_M_fold_90 : decode prog_5_method_39_code 90 = .ok (.iload 4, 2) := by decide +kernel
theorem d_M_fold_92 : decode prog_5_method_39_code 92 = .ok (.iload 5, 2) := by decide +kernel
theorem d_M_fold_94 : decode prog_5_method_39_code 94 = .ok (.iload 6, 2) := by decide +kernel
theorem d_M_fold_96 : decode prog_5_method_39_code 96 = .ok (.invokevirtual 109, 3) := by decide +kernel
theorem d_M_fold_99 : decode prog_5_method_39_code 99 = .ok (.ifCond .ne 5, 3) := by decide +kernel
theorem d_M_fold_102 : decode prog_5_method_39_code 102 = .ok (.iconst 0, 1) := by decide +kernel
theorem d_M_fold_103 : decode prog_5_method_39_code 103 = .ok (.ireturn, 1) := by decide +kernel
theorem d_M_fold_104 : decode prog_5_method_39_code 104 = .ok (.aload_n 0, 1) := by decide +kernel
theorem d_M_fold_105 : decode prog_5_method_39_code 105 = .ok (.invokevirtual 78, 3) := by decide +kernel
theorem d_M_fold_108 : decode prog_5_method_39_code 108 = .ok (.l2i, 1) := by decide +kernel
theorem d_M_fold_109 : decode prog_5_method_39_code 109 = .ok (.istore 7, 2) := by decide +kernel
theorem d_M_fold_111 : decode prog_5_method_39_code 111 = .ok (.aload_n 0, 1) := by decide +kernel
theorem d_M_fold_112 : decode prog_5_method_39_code 112 = .ok (.iconst 3, 1) := by decide +kernel
theorem d_M_fold_113 : decode prog_5_method_39_code 113 = .ok (.iload 7, 2) := by decide +kernel
theorem d_M_fold_115 : decode prog_5_method_39_code 115 = .ok (.invokevirtual 98, 3) := by decide +kernel
theorem d_M_fold_118 : decode prog_5_method_39_code 118 = .ok (.istore 8, 2) := by decide +kernel
theorem d_M_fold_120 : decode prog_5_method_39_code 120 = .ok (.iconst 0, 1) := by decide +kernel
theorem d_M_fold_121 : decode prog_5_method_39_code 121 = .ok (.istore 9, 2) := by decide +kernel
theorem d_M_fold_123 : decode prog_5_method_39_code 123 = .ok (.iload 9, 2) := by decide +kernel
theorem d_M_fold_125 : decode prog_5_method_39_code 125 = .ok (.iload 7, 2) := by decide +kernel
theorem d_M_fold_127 : decode prog_5_method_39_code 127 = .ok (.if_icmp .ge 54, 3) := by decide +kernel
theorem d_M_fold_130 : decode prog_5_method_39_code 130 = .ok (.aload_n 0, 1) := by decide +kernel
theorem d_M_fold_131 : decode prog_5_method_39_code 131 = .ok (.getfield 16, 3) := by decide +kernel
theorem d_M_fold_134 : decode prog_5_method_39_code 134 = .ok (.sipush 300, 3) := by decide +kernel
theorem d_M_fold_137 : decode prog_5_method_39_code 137 = .ok (.iload 8, 2) := by decide +kernel
theorem d_M_fold_139 : decode prog_5_method_39_code 139 = .ok (.imul, 1) := by decide +kernel
theorem d_M_fold_140 : decode prog_5_method_39_code 140 = .ok (.iload 9, 2) := by decide +kernel
theorem d_M_fold_142 : decode prog_5_method_39_code 142 = .ok (.iadd, 1) := by decide +kernel
theorem d_M_fold_143 : decode prog_5_method_39_code 143 = .ok (.iload_n 1, 1) := by decide +kernel
theorem d_M_fold_144 : decode prog_5_method_39_code 144 = .ok (.ifCond .ne 7, 3) := by decide +kernel
theorem d_M_fold_147 : decode prog_5_method_39_code 147 = .ok (.lconst 0, 1) := by decide +kernel
theorem d_M_fold_148 : decode prog_5_method_39_code 148 = .ok (.goto 26, 3) := by decide +kernel
theorem d_M_fold_151 : decode prog_5_method_39_code 151 = .ok (.iload_n 1, 1) := by decide +kernel
theorem d_M_fold_152 : decode prog_5_method_39_code 152 = .ok (.iconst 2, 1) := by decide +kernel
theorem d_M_fold_153 : decode prog_5_method_39_code 153 = .ok (.if_icmp .ne 7, 3) := by decide +kernel
theorem d_M_fold_156 : decode prog_5_method_39_code 156 = .ok (.lconst 1, 1) := by decide +kernel
theorem d_M_fold_157 : decode prog_5_method_39_code 157 = .ok (.goto 17, 3) := by decide +kernel
theorem d_M_fold_160 : decode prog_5_method_39_code 160 = .ok (.iload_n 1, 1) := by decide +kernel
theorem d_M_fold_161 : decode prog_5_method_39_code 161 = .ok (.iconst 3, 1) := by decide +kernel
theorem d_M_fold_162 : decode prog_5_method_39_code 162 = .ok (.if_icmp .ne 9, 3) := by decide +kernel
theorem d_M_fold_165 : decode prog_5_method_39_code 165 = .ok (.ldc2_w 158, 3) := by decide +kernel
theorem d_M_fold_168 : decode prog_5_method_39_code 168 = .ok (.goto 6, 3) := by decide +kernel
theorem d_M_fold_171 : decode prog_5_method_39_code 171 = .ok (.ldc2_w 160, 3) := by decide +kernel
theorem d_M_fold_174 : decode prog_5_method_39_code 174 = .ok (.lastore, 1) := by decide +kernel
theorem d_M_fold_175 : decode prog_5_method_39_code 175 = .ok (.iinc 9 1, 3) := by decide +kernel
theorem d_M_fold_178 : decode prog_5_method_39_code 178 = .ok (.goto (-55), 3) := by decide +kernel
theorem d_M_fold_181 : decode prog_5_method_39_code 181 = .ok (.aload_n 0, 1) := by decide +kernel
theorem d_M_fold_182 : decode prog_5_method_39_code 182 = .ok (.iload_n 2, 1) := by decide +kernel
theorem d_M_fold_183 : decode prog_5_method_39_code 183 = .ok (.invokevirtual 117, 3) := by decide +kernel
theorem d_M_fold_186 : decode prog_5_method_39_code 186 = .ok (.istore 9, 2) := by decide +kernel
theorem d_M_fold_188 : decode prog_5_method_39_code 188 = .ok (.iconst 0, 1) := by decide +kernel
theorem d_M_fold_189 : decode prog_5_method_39_code 189 = .ok (.istore 10, 2) := by decide +kernel
theorem d_M_fold_191 : decode prog_5_method_39_code 191 = .ok (.iload 10, 2) := by decide +kernel
theorem d_M_fold_193 : decode prog_5_method_39_code 193 = .ok (.iload 9, 2) := by decide +kernel
theorem d_M_fold_195 : decode prog_5_method_39_code 195 = .ok (.if_icmp .ge 108, 3) := by decide +kernel
theorem d_M_fold_198 : decode prog_5_method_39_code 198 = .ok (.iconst 0, 1) := by decide +kernel
theorem d_M_fold_199 : decode prog_5_method_39_code 199 = .ok (.istore 11, 2) := by decide +kernel
theorem d_M_fold_201 : decode prog_5_method_39_code 201 = .ok (.iconst 0, 1) := by decide +kernel
theorem d_M_fold_202 : decode prog_5_method_39_code 202 = .ok (.istore 12, 2) := by decide +kernel
theorem d_M_fold_204 : decode prog_5_method_39_code 204 = .ok (.iload 12, 2) := by decide +kernel
theorem d_M_fold_206 : decode prog_5_method_39_code 206 = .ok (.aload_n 0, 1) := by decide +kernel
theorem d_M_fold_207 : decode prog_5_method_39_code 207 = .ok (.getfield 26, 3) := by decide +kernel
theorem d_M_fold_210 : decode prog_5_method_39_code 210 = .ok (.iload_n 2, 1) := by decide +kernel
theorem d_M_fold_211 : decode prog_5_method_39_code 211 = .ok (.iaload, 1) := by decide +kernel
theorem d_M_fold_212 : decode prog_5_method_39_code 212 = .ok (.if_icmp .ge 46, 3) := by decide +kernel
theorem d_M_fold_215 : decode prog_5_method_39_code 215 = .ok (.iload 12, 2) := by decide +kernel
theorem d_M_fold_217 : decode prog_5_method_39_code 217 = .ok (.iload_n 3, 1) := by decide +kernel
theorem d_M_fold_218 : decode prog_5_method_39_code 218 = .ok (.if_icmp .ne 8, 3) := by decide +kernel
theorem d_M_fold_221 : decode prog_5_method_39_code 221 = .ok (.iload 11, 2) := by decide +kernel
theorem d_M_fold_223 : decode prog_5_method_39_code 223 = .ok (.goto 27, 3) := by decide +kernel
theorem d_M_fold_226 : decode prog_5_method_39_code 226 = .ok (.iload 11, 2) := by decide +kernel
theorem d_M_fold_228 : decode prog_5_method_39_code 228 = .ok (.aload_n 0, 1) := by decide +kernel
theorem d_M_fold_229 : decode prog_5_method_39_code 229 = .ok (.getfield 29, 3) := by decide +kernel
theorem d_M_fold_232 : decode prog_5_method_39_code 232 = .ok (.iconst 4, 1) := by decide +kernel
theorem d_M_fold_233 : decode prog_5_method_39_code 233 = .ok (.iload_n 2, 1) := by decide +kernel
theorem d_M_fold_234 : decode prog_5_method_39_code 234 = .ok (.imul, 1) := by decide +kernel
theorem d_M_fold_235 : decode prog_5_method_39_code 235 = .ok (.iload 12, 2) := by decide +kernel
theorem d_M_fold_237 : decode prog_5_method_39_code 237 = .ok (.iadd, 1) := by decide +kernel
theorem d_M_fold_238 : decode prog_5_method_39_code 238 = .ok (.iaload, 1) := by decide +kernel
theorem d_M_fold_239 : decode prog_5_method_39_code 239 = .ok (.imul, 1) := by decide +kernel
theorem d_M_fold_240 : decode prog_5_method_39_code 240 = .ok (.aload_n 0, 1) := by decide +kernel
theorem d_M_fold_241 : decode prog_5_method_39_code 241 = .ok (.iload_n 2, 1) := by decide +kernel
theorem d_M_fold_242 : decode prog_5_method_39_code 242 = .ok (.iload 12, 2) := by decide +kernel
theorem d_M_fold_244 : decode prog_5_method_39_code 244 = .ok (.iload 10, 2) := by decide +kernel
theorem d_M_fold_246 : decode prog_5_method_39_code 246 = .ok (.invokevirtual 66, 3) := by decide +kernel
theorem d_M_fold_249 : decode prog_5_method_39_code 249 = .ok (.iadd, 1) := by decide +kernel
theorem d_M_fold_250 : decode prog_5_method_39_code 250 = .ok (.istore 11, 2) := by decide +kernel
theorem d_M_fold_252 : decode prog_5_method_39_code 252 = .ok (.iinc 12 1, 3) := by decide +kernel
theorem d_M_fold_255 : decode prog_5_method_39_code 255 = .ok (.goto (-51), 3) := by decide +kernel
theorem d_M_fold_258 : decode prog_5_method_39_code 258 = .ok (.aload_n 0, 1) := by decide +kernel
theorem d_M_fold_259 : decode prog_5_method_39_code 259 = .ok (.getfield 16, 3) := by decide +kernel
theorem d_M_fold_262 : decode prog_5_method_39_code 262 = .ok (.sipush 300, 3) := by decide +kernel
theorem d_M_fold_265 : decode prog_5_method_39_code 265 = .ok (.iload 8, 2) := by decide +kernel
theorem d_M_fold_267 : decode prog_5_method_39_code 267 = .ok (.imul, 1) := by decide +kernel
theorem d_M_fold_268 : decode prog_5_method_39_code 268 = .ok (.iload 11, 2) := by decide +kernel
theorem d_M_fold_270 : decode prog_5_method_39_code 270 = .ok (.iadd, 1) := by decide +kernel
theorem d_M_fold_271 : decode prog_5_method_39_code 271 = .ok (.iload_n 1, 1) := by decide +kernel
theorem d_M_fold_272 : decode prog_5_method_39_code 272 = .ok (.aload_n 0, 1) := by decide +kernel
theorem d_M_fold_273 : decode prog_5_method_39_code 273 = .ok (.getfield 16, 3) := by decide +kernel
theorem d_M_fold_276 : decode prog_5_method_39_code 276 = .ok (.sipush 300, 3) := by decide +kernel
theorem d_M_fold_279 : decode prog_5_method_39_code 279 = .ok (.iload 8, 2) := by decide +kernel
theorem d_M_fold_281 : decode prog_5_method_39_code 281 = .ok (.imul, 1) := by decide +kernel
theorem d_M_fold_282 : decode prog_5_method_39_code 282 = .ok (.iload 11, 2) := by decide +kernel
theorem d_M_fold_284 : decode prog_5_method_39_code 284 = .ok (.iadd, 1) := by decide +kernel
theorem d_M_fold_285 : decode prog_5_method_39_code 285 = .ok (.laload, 1) := by decide +kernel
theorem d_M_fold_286 : decode prog_5_method_39_code 286 = .ok (.aload_n 0, 1) := by decide +kernel
theorem d_M_fold_287 : decode prog_5_method_39_code 287 = .ok (.iload_n 2, 1) := by decide +kernel
theorem d_M_fold_288 : decode prog_5_method_39_code 288 = .ok (.iload 10, 2) := by decide +kernel
theorem d_M_fold_290 : decode prog_5_method_39_code 290 = .ok (.invokevirtual 128, 3) := by decide +kernel
theorem d_M_fold_293 : decode prog_5_method_39_code 293 = .ok (.invokestatic 152, 3) := by decide +kernel
theorem d_M_fold_296 : decode prog_5_method_39_code 296 = .ok (.lastore, 1) := by decide +kernel
theorem d_M_fold_297 : decode prog_5_method_39_code 297 = .ok (.iinc 10 1, 3) := by decide +kernel
theorem d_M_fold_300 : decode prog_5_method_39_code 300 = .ok (.goto (-109), 3) := by decide +kernel
theorem d_M_fold_303 : decode prog_5_method_39_code 303 = .ok (.aload_n 0, 1) := by decide +kernel
theorem d_M_fold_304 : decode prog_5_method_39_code 304 = .ok (.invokevirtual 132, 3) := by decide +kernel
theorem d_M_fold_307 : decode prog_5_method_39_code 307 = .ok (.aload_n 0, 1) := by decide +kernel
theorem d_M_fold_308 : decode prog_5_method_39_code 308 = .ok (.iload 8, 2) := by decide +kernel
theorem d_M_fold_310 : decode prog_5_method_39_code 310 = .ok (.lconst 0, 1) := by decide +kernel
theorem d_M_fold_311 : decode prog_5_method_39_code 311 = .ok (.invokevirtual 101, 3) := by decide +kernel
theorem d_M_fold_314 : decode prog_5_method_39_code 314 = .ok (.ireturn, 1) := by decide +kernel
theorem d_M_shared_0 : decode prog_5_method_40_code 0 = .ok (.aload_n 0, 1) := by decide +kernel
theorem d_M_shared_1 : decode prog_5_method_40_code 1 = .ok (.aload_n 0, 1) := by decide +kernel
theorem d_M_shared_2 : decode prog_5_method_40_code 2 = .ok (.iload_n 1, 1) := by decide +kernel
theorem d_M_shared_3 : decode prog_5_method_40_code 3 = .ok (.invokevirtual 55, 3) := by decide +kernel
theorem d_M_shared_6 : decode prog_5_method_40_code 6 = .ok (.ifCond .eq 15, 3) := by decide +kernel
theorem d_M_shared_9 : decode prog_5_method_40_code 9 = .ok (.aload_n 0, 1) := by decide +kernel
theorem d_M_shared_10 : decode prog_5_method_40_code 10 = .ok (.iload_n 2, 1) := by decide +kernel
theorem d_M_shared_11 : decode prog_5_method_40_code 11 = .ok (.invokevirtual 55, 3) := by decide +kernel
theorem d_M_shared_14 : decode prog_5_method_40_code 14 = .ok (.ifCond .eq 7, 3) := by decide +kernel
theorem d_M_shared_17 : decode prog_5_method_40_code 17 = .ok (.iconst 0, 1) := by decide +kernel
theorem d_M_shared_18 : decode prog_5_method_40_code 18 = .ok (.goto 4, 3) := by decide +kernel
theorem d_M_shared_21 : decode prog_5_method_40_code 21 = .ok (.iconst 1, 1) := by decide +kernel
theorem d_M_shared_22 : decode prog_5_method_40_code 22 = .ok (.putfield 48, 3) := by decide +kernel
theorem d_M_shared_25 : decode prog_5_method_40_code 25 = .ok (.aload_n 0, 1) := by decide +kernel
theorem d_M_shared_26 : decode prog_5_method_40_code 26 = .ok (.getfield 48, 3) := by decide +kernel
theorem d_M_shared_29 : decode prog_5_method_40_code 29 = .ok (.ifCond .gt 18, 3) := by decide +kernel
theorem d_M_shared_32 : decode prog_5_method_40_code 32 = .ok (.aload_n 0, 1) := by decide +kernel
theorem d_M_shared_33 : decode prog_5_method_40_code 33 = .ok (.getfield 20, 3) := by decide +kernel
theorem d_M_shared_36 : decode prog_5_method_40_code 36 = .ok (.iload_n 1, 1) := by decide +kernel
theorem d_M_shared_37 : decode prog_5_method_40_code 37 = .ok (.iaload, 1) := by decide +kernel
theorem d_M_shared_38 : decode prog_5_method_40_code 38 = .ok (.aload_n 0, 1) := by decide +kernel
theorem d_M_shared_39 : decode prog_5_method_40_code 39 = .ok (.getfield 20, 3) := by decide +kernel
theorem d_M_shared_42 : decode prog_5_method_40_code 42 = .ok (.iload_n 2, 1) := by decide +kernel
theorem d_M_shared_43 : decode prog_5_method_40_code 43 = .ok (.iaload, 1) := by decide +kernel
theorem d_M_shared_44 : decode prog_5_method_40_code 44 = .ok (.if_icmp .eq 5, 3) := by decide +kernel
theorem d_M_shared_47 : decode prog_5_method_40_code 47 = .ok (.iconst 0, 1) := by decide +kernel
theorem d_M_shared_48 : decode prog_5_method_40_code 48 = .ok (.ireturn, 1) := by decide +kernel
theorem d_M_shared_49 : decode prog_5_method_40_code 49 = .ok (.iconst 0, 1) := by decide +kernel
theorem d_M_shared_50 : decode prog_5_method_40_code 50 = .ok (.istore_n 3, 1) := by decide +kernel
theorem d_M_shared_51 : decode prog_5_method_40_code 51 = .ok (.iload_n 3, 1) := by decide +kernel
theorem d_M_shared_52 : decode prog_5_method_40_code 52 = .ok (.sipush 300, 3) := by decide +kernel
theorem d_M_shared_55 : decode prog_5_method_40_code 55 = .ok (.if_icmp .ge 16, 3) := by decide +kernel
theorem d_M_shared_58 : decode prog_5_method_40_code 58 = .ok (.aload_n 0, 1) := by decide +kernel
theorem d_M_shared_59 : decode prog_5_method_40_code 59 = .ok (.getfield 44, 3) := by decide +kernel
theorem d_M_shared_62 : decode prog_5_method_40_code 62 = .ok (.iload_n 3, 1) := by decide +kernel
theorem d_M_shared_63 : decode prog_5_method_40_code 63 = .ok (.iconst 0, 1) := by decide +kernel
theorem d_M_shared_64 : decode prog_5_method_40_code 64 = .ok (.bastore, 1) := by decide +kernel
theorem d_M_shared_65 : decode prog_5_method_40_code 65 = .ok (.iinc 3 1, 3) := by decide +kernel
theorem d_M_shared_68 : decode prog_5_method_40_code 68 = .ok (.goto (-17), 3) := by decide +kernel
theorem d_M_shared_71 : decode prog_5_method_40_code 71 = .ok (.aload_n 0, 1) := by decide +kernel
theorem d_M_shared_72 : decode prog_5_method_40_code 72 = .ok (.iload_n 1, 1) := by decide +kernel
theorem d_M_shared_73 : decode prog_5_method_40_code 73 = .ok (.invokevirtual 117, 3) := by decide +kernel
theorem d_M_shared_76 : decode prog_5_method_40_code 76 = .ok (.istore_n 3, 1) := by decide +kernel
theorem d_M_shared_77 : decode prog_5_method_40_code 77 = .ok (.iconst 0, 1) := by decide +kernel
theorem d_M_shared_78 : decode prog_5_method_40_code 78 = .ok (.istore 4, 2) := by decide +kernel
theorem d_M_shared_80 : decode prog_5_method_40_code 80 = .ok (.iload 4, 2) := by decide +kernel
theorem d_M_shared_82 : decode prog_5_method_40_code 82 = .ok (.iload_n 3, 1) := by decide +kernel
theorem d_M_shared_83 : decode prog_5_method_40_code 83 = .ok (.if_icmp .ge 22, 3) := by decide +kernel
theorem d_M_shared_86 : decode prog_5_method_40_code 86 = .ok (.aload_n 0, 1) := by decide +kernel
theorem d_M_shared_87 : decode prog_5_method_40_code 87 = .ok (.getfield 44, 3) := by decide +kernel
theorem d_M_shared_90 : decode prog_5_method_40_code 90 = .ok (.aload_n 0, 1) := by decide +kernel
theorem d_M_shared_91 : decode prog_5_method_40_code 91 = .ok (.iload_n 1, 1) := by decide +kernel
theorem d_M_shared_92 : decode prog_5_method_40_code 92 = .ok (.iload 4, 2) := by decide +kernel
theorem d_M_shared_94 : decode prog_5_method_40_code 94 = .ok (.invokevirtual 70, 3) := by decide +kernel
theorem d_M_shared_97 : decode prog_5_method_40_code 97 = .ok (.iconst 1, 1) := by decide +kernel
theorem d_M_shared_98 : decode prog_5_method_40_code 98 = .ok (.bastore, 1) := by decide +kernel
theorem d_M_shared_99 : decode prog_5_method_40_code 99 = .ok (.iinc 4 1, 3) := by decide +kernel
theorem d_M_shared_102 : decode prog_5_method_40_code 102 = .ok (.goto (-22), 3) := by decide +kernel
theorem d_M_shared_105 : decode prog_5_method_40_code 105 = .ok (.iconst 0, 1) := by decide +kernel
theorem d_M_shared_106 : decode prog_5_method_40_code 106 = .ok (.istore 4, 2) := by decide +kernel
theorem d_M_shared_108 : decode prog_5_method_40_code 108 = .ok (.aload_n 0, 1) := by decide +kernel
theorem d_M_shared_109 : decode prog_5_method_40_code 109 = .ok (.iload_n 2, 1) := by decide +kernel
theorem d_M_shared_110 : decode prog_5_method_40_code 110 = .ok (.invokevirtual 117, 3) := by decide +kernel
theorem d_M_shared_113 : decode prog_5_method_40_code 113 = .ok (.istore_n 3, 1) := by decide +kernel
theorem d_M_shared_114 : decode prog_5_method_40_code 114 = .ok (.iconst 0, 1) := by decide +kernel
theorem d_M_shared_115 : decode prog_5_method_40_code 115 = .ok (.istore 5, 2) := by decide +kernel
theorem d_M_shared_117 : decode prog_5_method_40_code 117 = .ok (.iload 5, 2) := by decide +kernel
theorem d_M_shared_119 : decode prog_5_method_40_code 119 = .ok (.iload_n 3, 1) := by decide +kernel
theorem d_M_shared_120 : decode prog_5_method_40_code 120 = .ok (.if_icmp .ge 46, 3) := by decide +kernel
theorem d_M_shared_123 : decode prog_5_method_40_code 123 = .ok (.aload_n 0, 1) := by decide +kernel
theorem d_M_shared_124 : decode prog_5_method_40_code 124 = .ok (.iload_n 2, 1) := by decide +kernel
theorem d_M_shared_125 : decode prog_5_method_40_code 125 = .ok (.iload 5, 2) := by decide +kernel
theorem d_M_shared_127 : decode prog_5_method_40_code 127 = .ok (.invokevirtual 70, 3) := by decide +kernel
theorem d_M_shared_130 : decode prog_5_method_40_code 130 = .ok (.istore 6, 2) := by decide +kernel
theorem d_M_shared_132 : decode prog_5_method_40_code 132 = .ok (.iload 4, 2) := by decide +kernel
theorem d_M_shared_134 : decode prog_5_method_40_code 134 = .ok (.aload_n 0, 1) := by decide +kernel
theorem d_M_shared_135 : decode prog_5_method_40_code 135 = .ok (.getfield 44, 3) := by decide +kernel
theorem d_M_shared_138 : decode prog_5_method_40_code 138 = .ok (.iload 6, 2) := by decide +kernel
theorem d_M_shared_140 : decode prog_5_method_40_code 140 = .ok (.baload, 1) := by decide +kernel
theorem d_M_shared_141 : decode prog_5_method_40_code 141 = .ok (.ifCond .eq 7, 3) := by decide +kernel
theorem d_M_shared_144 : decode prog_5_method_40_code 144 = .ok (.iconst 1, 1) := by decide +kernel
theorem d_M_shared_145 : decode prog_5_method_40_code 145 = .ok (.goto 4, 3) := by decide +kernel
theorem d_M_shared_148 : decode prog_5_method_40_code 148 = .ok (.iconst 0, 1) := by decide +kernel
theorem d_M_shared_149 : decode prog_5_method_40_code 149 = .ok (.iadd, 1) := by decide +kernel
theorem d_M_shared_150 : decode prog_5_method_40_code 150 = .ok (.istore 4, 2) := by decide +kernel
theorem d_M_shared_152 : decode prog_5_method_40_code 152 = .ok (.aload_n 0, 1) := by decide +kernel
theorem d_M_shared_153 : decode prog_5_method_40_code 153 = .ok (.getfield 44, 3) := by decide +kernel
theorem d_M_shared_156 : decode prog_5_method_40_code 156 = .ok (.iload 6, 2) := by decide +kernel
theorem d_M_shared_158 : decode prog_5_method_40_code 158 = .ok (.iconst 0, 1) := by decide +kernel
theorem d_M_shared_159 : decode prog_5_method_40_code 159 = .ok (.bastore, 1) := by decide +kernel
theorem d_M_shared_160 : decode prog_5_method_40_code 160 = .ok (.iinc 5 1, 3) := by decide +kernel
theorem d_M_shared_163 : decode prog_5_method_40_code 163 = .ok (.goto (-46), 3) := by decide +kernel
theorem d_M_shared_166 : decode prog_5_method_40_code 166 = .ok (.iload 4, 2) := by decide +kernel
theorem d_M_shared_168 : decode prog_5_method_40_code 168 = .ok (.ireturn, 1) := by decide +kernel
theorem d_M_same_0 : decode prog_5_method_41_code 0 = .ok (.aload_n 0, 1) := by decide +kernel
theorem d_M_same_1 : decode prog_5_method_41_code 1 = .ok (.aload_n 0, 1) := by decide +kernel
theorem d_M_same_2 : decode prog_5_method_41_code 2 = .ok (.iload_n 1, 1) := by decide +kernel
theorem d_M_same_3 : decode prog_5_method_41_code 3 = .ok (.invokevirtual 55, 3) := by decide +kernel
theorem d_M_same_6 : decode prog_5_method_41_code 6 = .ok (.ifCond .eq 15, 3) := by decide +kernel
theorem d_M_same_9 : decode prog_5_method_41_code 9 = .ok (.aload_n 0, 1) := by decide +kernel
theorem d_M_same_10 : decode prog_5_method_41_code 10 = .ok (.iload_n 2, 1) := by decide +kernel
theorem d_M_same_11 : decode prog_5_method_41_code 11 = .ok (.invokevirtual 55, 3) := by decide +kernel
theorem d_M_same_14 : decode prog_5_method_41_code 14 = .ok (.ifCond .eq 7, 3) := by decide +kernel
theorem d_M_same_17 : decode prog_5_method_41_code 17 = .ok (.iconst 0, 1) := by decide +kernel
theorem d_M_same_18 : decode prog_5_method_41_code 18 = .ok (.goto 4, 3) := by decide +kernel
theorem d_M_same_21 : decode prog_5_method_41_code 21 = .ok (.iconst 1, 1) := by decide +kernel
theorem d_M_same_22 : decode prog_5_method_41_code 22 = .ok (.putfield 48, 3) := by decide +kernel
theorem d_M_same_25 : decode prog_5_method_41_code 25 = .ok (.aload_n 0, 1) := by decide +kernel
theorem d_M_same_26 : decode prog_5_method_41_code 26 = .ok (.getfield 48, 3) := by decide +kernel
theorem d_M_same_29 : decode prog_5_method_41_code 29 = .ok (.ifCond .ne 22, 3) := by decide +kernel
theorem d_M_same_32 : decode prog_5_method_41_code 32 = .ok (.aload_n 0, 1) := by decide +kernel
theorem d_M_same_33 : decode prog_5_method_41_code 33 = .ok (.getfield 26, 3) := by decide +kernel
theorem d_M_same_36 : decode prog_5_method_41_code 36 = .ok (.iload_n 1, 1) := by decide +kernel
theorem d_M_same_37 : decode prog_5_method_41_code 37 = .ok (.iaload, 1) := by decide +kernel
theorem d_M_same_38 : decode prog_5_method_41_code 38 = .ok (.aload_n 0, 1) := by decide +kernel
theorem d_M_same_39 : decode prog_5_method_41_code 39 = .ok (.getfield 26, 3) := by decide +kernel
theorem d_M_same_42 : decode prog_5_method_41_code 42 = .ok (.iload_n 2, 1) := by decide +kernel
theorem d_M_same_43 : decode prog_5_method_41_code 43 = .ok (.iaload, 1) := by decide +kernel
theorem d_M_same_44 : decode prog_5_method_41_code 44 = .ok (.if_icmp .ne 7, 3) := by decide +kernel
theorem d_M_same_47 : decode prog_5_method_41_code 47 = .ok (.iconst 1, 1) := by decide +kernel
theorem d_M_same_48 : decode prog_5_method_41_code 48 = .ok (.goto 4, 3) := by decide +kernel
theorem d_M_same_51 : decode prog_5_method_41_code 51 = .ok (.iconst 0, 1) := by decide +kernel
theorem d_M_same_52 : decode prog_5_method_41_code 52 = .ok (.istore_n 3, 1) := by decide +kernel
theorem d_M_same_53 : decode prog_5_method_41_code 53 = .ok (.iconst 0, 1) := by decide +kernel
theorem d_M_same_54 : decode prog_5_method_41_code 54 = .ok (.istore 4, 2) := by decide +kernel
theorem d_M_same_56 : decode prog_5_method_41_code 56 = .ok (.iload_n 3, 1) := by decide +kernel
theorem d_M_same_57 : decode prog_5_method_41_code 57 = .ok (.ifCond .eq 51, 3) := by decide +kernel
theorem d_M_same_60 : decode prog_5_method_41_code 60 = .ok (.iload 4, 2) := by decide +kernel
theorem d_M_same_62 : decode prog_5_method_41_code 62 = .ok (.aload_n 0, 1) := by decide +kernel
theorem d_M_same_63 : decode prog_5_method_41_code 63 = .ok (.getfield 26, 3) := by decide +kernel
theorem d_M_same_66 : decode prog_5_method_41_code 66 = .ok (.iload_n 1, 1) := by decide +kernel
theorem d_M_same_67 : decode prog_5_method_41_code 67 = .ok (.iaload, 1) := by decide +kernel
theorem d_M_same_68 : decode prog_5_method_41_code 68 = .ok (.if_icmp .ge 40, 3) := by decide +kernel
theorem d_M_same_71 : decode prog_5_method_41_code 71 = .ok (.aload_n 0, 1) := by decide +kernel
theorem d_M_same_72 : decode prog_5_method_41_code 72 = .ok (.getfield 29, 3) := by decide +kernel
theorem d_M_same_75 : decode prog_5_method_41_code 75 = .ok (.iconst 4, 1) := by decide +kernel
theorem d_M_same_76 : decode prog_5_method_41_code 76 = .ok (.iload_n 1, 1) := by decide +kernel
theorem d_M_same_77 : decode prog_5_method_41_code 77 = .ok (.imul, 1) := by decide +kernel
theorem d_M_same_78 : decode prog_5_method_41_code 78 = .ok (.iload 4, 2) := by decide +kernel
theorem d_M_same_80 : decode prog_5_method_41_code 80 = .ok (.iadd, 1) := by decide +kernel
theorem d_M_same_81 : decode prog_5_method_41_code 81 = .ok (.iaload, 1) := by decide +kernel
theorem d_M_same_82 : decode prog_5_method_41_code 82 = .ok (.aload_n 0, 1) := by decide +kernel
theorem d_M_same_83 : decode prog_5_method_41_code 83 = .ok (.getfield 29, 3) := by decide +kernel
theorem d_M_same_86 : decode prog_5_method_41_code 86 = .ok (.iconst 4, 1) := by decide +kernel
theorem d_M_same_87 : decode prog_5_method_41_code 87 = .ok (.iload_n 2, 1) := by decide +kernel
theorem d_M_same_88 : decode prog_5_method_41_code 88 = .ok (.imul, 1) := by decide +kernel
theorem d_M_same_89 : decode prog_5_method_41_code 89 = .ok (.iload 4, 2) := by decide +kernel
theorem d_M_same_91 : decode prog_5_method_41_code 91 = .ok (.iadd, 1) := by decide +kernel
theorem d_M_same_92 : decode prog_5_method_41_code 92 = .ok (.iaload, 1) := by decide +kernel
theorem d_M_same_93 : decode prog_5_method_41_code 93 = .ok (.if_icmp .ne 7, 3) := by decide +kernel
theorem d_M_same_96 : decode prog_5_method_41_code 96 = .ok (.iconst 1, 1) := by decide +kernel
theorem d_M_same_97 : decode prog_5_method_41_code 97 = .ok (.goto 4, 3) := by decide +kernel
theorem d_M_same_100 : decode prog_5_method_41_code 100 = .ok (.iconst 0, 1) := by decide +kernel
theorem d_M_same_101 : decode prog_5_method_41_code 101 = .ok (.istore_n 3, 1) := by decide +kernel
theorem d_M_same_102 : decode prog_5_method_41_code 102 = .ok (.iinc 4 1, 3) := by decide +kernel
theorem d_M_same_105 : decode prog_5_method_41_code 105 = .ok (.goto (-49), 3) := by decide +kernel
theorem d_M_same_108 : decode prog_5_method_41_code 108 = .ok (.iconst 0, 1) := by decide +kernel
theorem d_M_same_109 : decode prog_5_method_41_code 109 = .ok (.istore 4, 2) := by decide +kernel
theorem d_M_same_111 : decode prog_5_method_41_code 111 = .ok (.iload_n 3, 1) := by decide +kernel
theorem d_M_same_112 : decode prog_5_method_41_code 112 = .ok (.ifCond .eq 43, 3) := by decide +kernel
theorem d_M_same_115 : decode prog_5_method_41_code 115 = .ok (.iload 4, 2) := by decide +kernel
theorem d_M_same_117 : decode prog_5_method_41_code 117 = .ok (.aload_n 0, 1) := by decide +kernel
theorem d_M_same_118 : decode prog_5_method_41_code 118 = .ok (.iload_n 1, 1) := by decide +kernel
theorem d_M_same_119 : decode prog_5_method_41_code 119 = .ok (.invokevirtual 117, 3) := by decide +kernel
theorem d_M_same_122 : decode prog_5_method_41_code 122 = .ok (.if_icmp .ge 33, 3) := by decide +kernel
theorem d_M_same_125 : decode prog_5_method_41_code 125 = .ok (.aload_n 0, 1) := by decide +kernel
theorem d_M_same_126 : decode prog_5_method_41_code 126 = .ok (.iload_n 1, 1) := by decide +kernel
theorem d_M_same_127 : decode prog_5_method_41_code 127 = .ok (.iload 4, 2) := by decide +kernel
theorem d_M_same_129 : decode prog_5_method_41_code 129 = .ok (.invokevirtual 128, 3) := by decide +kernel
theorem d_M_same_132 : decode prog_5_method_41_code 132 = .ok (.aload_n 0, 1) := by decide +kernel
theorem d_M_same_133 : decode prog_5_method_41_code 133 = .ok (.iload_n 2, 1) := by decide +kernel
theorem d_M_same_134 : decode prog_5_method_41_code 134 = .ok (.iload 4, 2) := by decide +kernel
theorem d_M_same_136 : decode prog_5_method_41_code 136 = .ok (.invokevirtual 128, 3) := by decide +kernel
theorem d_M_same_139 : decode prog_5_method_41_code 139 = .ok (.lcmp, 1) := by decide +kernel
theorem d_M_same_140 : decode prog_5_method_41_code 140 = .ok (.ifCond .ne 7, 3) := by decide +kernel
theorem d_M_same_143 : decode prog_5_method_41_code 143 = .ok (.iconst 1, 1) := by decide +kernel
theorem d_M_same_144 : decode prog_5_method_41_code 144 = .ok (.goto 4, 3) := by decide +kernel
theorem d_M_same_147 : decode prog_5_method_41_code 147 = .ok (.iconst 0, 1) := by decide +kernel
theorem d_M_same_148 : decode prog_5_method_41_code 148 = .ok (.istore_n 3, 1) := by decide +kernel
theorem d_M_same_149 : decode prog_5_method_41_code 149 = .ok (.iinc 4 1, 3) := by decide +kernel
theorem d_M_same_152 : decode prog_5_method_41_code 152 = .ok (.goto (-41), 3) := by decide +kernel
theorem d_M_same_155 : decode prog_5_method_41_code 155 = .ok (.iload_n 3, 1) := by decide +kernel
theorem d_M_same_156 : decode prog_5_method_41_code 156 = .ok (.ireturn, 1) := by decide +kernel
theorem d_M_runs_0 : decode prog_5_method_42_code 0 = .ok (.aload_n 0, 1) := by decide +kernel
theorem d_M_runs_1 : decode prog_5_method_42_code 1 = .ok (.aload_n 0, 1) := by decide +kernel
theorem d_M_runs_2 : decode prog_5_method_42_code 2 = .ok (.iload_n 1, 1) := by decide +kernel
theorem d_M_runs_3 : decode prog_5_method_42_code 3 = .ok (.invokevirtual 55, 3) := by decide +kernel
theorem d_M_runs_6 : decode prog_5_method_42_code 6 = .ok (.ifCond .eq 7, 3) := by decide +kernel
theorem d_M_runs_9 : decode prog_5_method_42_code 9 = .ok (.iconst 0, 1) := by decide +kernel
theorem d_M_runs_10 : decode prog_5_method_42_code 10 = .ok (.goto 4, 3) := by decide +kernel
theorem d_M_runs_13 : decode prog_5_method_42_code 13 = .ok (.iconst 1, 1) := by decide +kernel
theorem d_M_runs_14 : decode prog_5_method_42_code 14 = .ok (.putfield 48, 3) := by decide +kernel
theorem d_M_runs_17 : decode prog_5_method_42_code 17 = .ok (.aload_n 0, 1) := by decide +kernel
theorem d_M_runs_18 : decode prog_5_method_42_code 18 = .ok (.getfield 48, 3) := by decide +kernel
theorem d_M_runs_21 : decode prog_5_method_42_code 21 = .ok (.ifCond .le 5, 3) := by decide +kernel
theorem d_M_runs_24 : decode prog_5_method_42_code 24 = .ok (.iconst 0, 1) := by decide +kernel
theorem d_M_runs_25 : decode prog_5_method_42_code 25 = .ok (.ireturn, 1) := by decide +kernel
theorem d_M_runs_26 : decode prog_5_method_42_code 26 = .ok (.iconst 0, 1) := by decide +kernel
theorem d_M_runs_27 : decode prog_5_method_42_code 27 = .ok (.istore_n 2, 1) := by decide +kernel
theorem d_M_runs_28 : decode prog_5_method_42_code 28 = .ok (.aload_n 0, 1) := by decide +kernel
theorem d_M_runs_29 : decode prog_5_method_42_code 29 = .ok (.iload_n 1, 1) := by decide +kernel
theorem d_M_runs_30 : decode prog_5_method_42_code 30 = .ok (.invokevirtual 117, 3) := by decide +kernel
theorem d_M_runs_33 : decode prog_5_method_42_code 33 = .ok (.istore_n 3, 1) := by decide +kernel
theorem d_M_runs_34 : decode prog_5_method_42_code 34 = .ok (.iconst 0, 1) := by decide +kernel
theorem d_M_runs_35 : decode prog_5_method_42_code 35 = .ok (.istore 4, 2) := by decide +kernel
theorem d_M_runs_37 : decode prog_5_method_42_code 37 = .ok (.iload 4, 2) := by decide +kernel
theorem d_M_runs_39 : decode prog_5_method_42_code 39 = .ok (.iload_n 3, 1) := by decide +kernel
theorem d_M_runs_40 : decode prog_5_method_42_code 40 = .ok (.if_icmp .ge 43, 3) := by decide +kernel
theorem d_M_runs_43 : decode prog_5_method_42_code 43 = .ok (.iload_n 2, 1) := by decide +kernel
theorem d_M_runs_44 : decode prog_5_method_42_code 44 = .ok (.iload 4, 2) := by decide +kernel
theorem d_M_runs_46 : decode prog_5_method_42_code 46 = .ok (.ifCond .eq 24, 3) := by decide +kernel
theorem d_M_runs_49 : decode prog_5_method_42_code 49 = .ok (.aload_n 0, 1) := by decide +kernel
theorem d_M_runs_50 : decode prog_5_method_42_code 50 = .ok (.iload_n 1, 1) := by decide +kernel
theorem d_M_runs_51 : decode prog_5_method_42_code 51 = .ok (.iload 4, 2) := by decide +kernel
theorem d_M_runs_53 : decode prog_5_method_42_code 53 = .ok (.invokevirtual 70, 3) := by decide +kernel
theorem d_M_runs_56 : decode prog_5_method_42_code 56 = .ok (.aload_n 0, 1) := by decide +kernel
theorem d_M_runs_57 : decode prog_5_method_42_code 57 = .ok (.iload_n 1, 1) := by decide +kernel
theorem d_M_runs_58 : decode prog_5_method_42_code 58 = .ok (.iload 4, 2) := by decide +kernel
theorem d_M_runs_60 : decode prog_5_method_42_code 60 = .ok (.iconst 1, 1) := by decide +kernel
theorem d_M_runs_61 : decode prog_5_method_42_code 61 = .ok (.isub, 1) := by decide +kernel
theorem d_M_runs_62 : decode prog_5_method_42_code 62 = .ok (.invokevirtual 70, 3) := by decide +kernel
theorem d_M_runs_65 : decode prog_5_method_42_code 65 = .ok (.iconst 1, 1) := by decide +kernel
theorem d_M_runs_66 : decode prog_5_method_42_code 66 = .ok (.iadd, 1) := by decide +kernel
theorem d_M_runs_67 : decode prog_5_method_42_code 67 = .ok (.if_icmp .eq 7, 3) := by decide +kernel
theorem d_M_runs_70 : decode prog_5_method_42_code 70 = .ok (.iconst 1, 1) := by decide +kernel
theorem d_M_runs_71 : decode prog_5_method_42_code 71 = .ok (.goto 4, 3) := by decide +kernel
theorem d_M_runs_74 : decode prog_5_method_42_code 74 = .ok (.iconst 0, 1) := by decide +kernel
theorem d_M_runs_75 : decode prog_5_method_42_code 75 = .ok (.iadd, 1) := by decide +kernel
theorem d_M_runs_76 : decode prog_5_method_42_code 76 = .ok (.istore_n 2, 1) := by decide +kernel
theorem d_M_runs_77 : decode prog_5_method_42_code 77 = .ok (.iinc 4 1, 3) := by decide +kernel
theorem d_M_runs_80 : decode prog_5_method_42_code 80 = .ok (.goto (-43), 3) := by decide +kernel
theorem d_M_runs_83 : decode prog_5_method_42_code 83 = .ok (.iload_n 2, 1) := by decide +kernel
theorem d_M_runs_84 : decode prog_5_method_42_code 84 = .ok (.ireturn, 1) := by decide +kernel
theorem d_M_told_0 : decode prog_5_method_44_code 0 = .ok (.aload_n 0, 1) := by decide +kernel
theorem d_M_told_1 : decode prog_5_method_44_code 1 = .ok (.aload_n 0, 1) := by decide +kernel
theorem d_M_told_2 : decode prog_5_method_44_code 2 = .ok (.iload_n 1, 1) := by decide +kernel
theorem d_M_told_3 : decode prog_5_method_44_code 3 = .ok (.invokevirtual 55, 3) := by decide +kernel
theorem d_M_told_6 : decode prog_5_method_44_code 6 = .ok (.iload_n 2, 1) := by decide +kernel
theorem d_M_told_7 : decode prog_5_method_44_code 7 = .ok (.ifCond .lt 13, 3) := by decide +kernel
theorem d_M_told_10 : decode prog_5_method_44_code 10 = .ok (.iload_n 2, 1) := by decide +kernel
theorem d_M_told_11 : decode prog_5_method_44_code 11 = .ok (.bipush 7, 2) := by decide +kernel
theorem d_M_told_13 : decode prog_5_method_44_code 13 = .ok (.if_icmp .ge 7, 3) := by decide +kernel
theorem d_M_told_16 : decode prog_5_method_44_code 16 = .ok (.iconst 1, 1) := by decide +kernel
theorem d_M_told_17 : decode prog_5_method_44_code 17 = .ok (.goto 4, 3) := by decide +kernel
theorem d_M_told_20 : decode prog_5_method_44_code 20 = .ok (.iconst 0, 1) := by decide +kernel
theorem d_M_told_21 : decode prog_5_method_44_code 21 = .ok (.invokevirtual 90, 3) := by decide +kernel
theorem d_M_told_24 : decode prog_5_method_44_code 24 = .ok (.ifCond .ne 5, 3) := by decide +kernel
theorem d_M_told_27 : decode prog_5_method_44_code 27 = .ok (.iconst 0, 1) := by decide +kernel
theorem d_M_told_28 : decode prog_5_method_44_code 28 = .ok (.ireturn, 1) := by decide +kernel
theorem d_M_told_29 : decode prog_5_method_44_code 29 = .ok (.iload_n 2, 1) := by decide +kernel
theorem d_M_told_30 : decode prog_5_method_44_code 30 = .ok (.tableswitch 75 0 4 #[34, 41, 48, 55, 61], 34) := by decide +kernel
theorem d_M_told_64 : decode prog_5_method_44_code 64 = .ok (.aload_n 0, 1) := by decide +kernel
theorem d_M_told_65 : decode prog_5_method_44_code 65 = .ok (.getfield 20, 3) := by decide +kernel
theorem d_M_told_68 : decode prog_5_method_44_code 68 = .ok (.iload_n 1, 1) := by decide +kernel
theorem d_M_told_69 : decode prog_5_method_44_code 69 = .ok (.iaload, 1) := by decide +kernel
theorem d_M_told_70 : decode prog_5_method_44_code 70 = .ok (.ireturn, 1) := by decide +kernel
theorem d_M_told_71 : decode prog_5_method_44_code 71 = .ok (.aload_n 0, 1) := by decide +kernel
theorem d_M_told_72 : decode prog_5_method_44_code 72 = .ok (.getfield 23, 3) := by decide +kernel
theorem d_M_told_75 : decode prog_5_method_44_code 75 = .ok (.iload_n 1, 1) := by decide +kernel
theorem d_M_told_76 : decode prog_5_method_44_code 76 = .ok (.iaload, 1) := by decide +kernel
theorem d_M_told_77 : decode prog_5_method_44_code 77 = .ok (.ireturn, 1) := by decide +kernel
theorem d_M_told_78 : decode prog_5_method_44_code 78 = .ok (.aload_n 0, 1) := by decide +kernel
theorem d_M_told_79 : decode prog_5_method_44_code 79 = .ok (.getfield 26, 3) := by decide +kernel
theorem d_M_told_82 : decode prog_5_method_44_code 82 = .ok (.iload_n 1, 1) := by decide +kernel
theorem d_M_told_83 : decode prog_5_method_44_code 83 = .ok (.iaload, 1) := by decide +kernel
theorem d_M_told_84 : decode prog_5_method_44_code 84 = .ok (.ireturn, 1) := by decide +kernel
theorem d_M_told_85 : decode prog_5_method_44_code 85 = .ok (.aload_n 0, 1) := by decide +kernel
theorem d_M_told_86 : decode prog_5_method_44_code 86 = .ok (.iload_n 1, 1) := by decide +kernel
theorem d_M_told_87 : decode prog_5_method_44_code 87 = .ok (.invokevirtual 117, 3) := by decide +kernel
theorem d_M_told_90 : decode prog_5_method_44_code 90 = .ok (.ireturn, 1) := by decide +kernel
theorem d_M_told_91 : decode prog_5_method_44_code 91 = .ok (.aload_n 0, 1) := by decide +kernel
theorem d_M_told_92 : decode prog_5_method_44_code 92 = .ok (.iload_n 1, 1) := by decide +kernel
theorem d_M_told_93 : decode prog_5_method_44_code 93 = .ok (.invokevirtual 135, 3) := by decide +kernel
theorem d_M_told_96 : decode prog_5_method_44_code 96 = .ok (.ifCond .eq 7, 3) := by decide +kernel
theorem d_M_told_99 : decode prog_5_method_44_code 99 = .ok (.iconst 1, 1) := by decide +kernel
theorem d_M_told_100 : decode prog_5_method_44_code 100 = .ok (.goto 4, 3) := by decide +kernel
theorem d_M_told_103 : decode prog_5_method_44_code 103 = .ok (.iconst 0, 1) := by decide +kernel
theorem d_M_told_104 : decode prog_5_method_44_code 104 = .ok (.ireturn, 1) := by decide +kernel
theorem d_M_told_105 : decode prog_5_method_44_code 105 = .ok (.aload_n 0, 1) := by decide +kernel
theorem d_M_told_106 : decode prog_5_method_44_code 106 = .ok (.iload_n 1, 1) := by decide +kernel
theorem d_M_told_107 : decode prog_5_method_44_code 107 = .ok (.iload_n 2, 1) := by decide +kernel
theorem d_M_told_108 : decode prog_5_method_44_code 108 = .ok (.bipush 6, 2) := by decide +kernel
theorem d_M_told_110 : decode prog_5_method_44_code 110 = .ok (.if_icmp .ne 7, 3) := by decide +kernel
theorem d_M_told_113 : decode prog_5_method_44_code 113 = .ok (.iconst 1, 1) := by decide +kernel
theorem d_M_told_114 : decode prog_5_method_44_code 114 = .ok (.goto 4, 3) := by decide +kernel
theorem d_M_told_117 : decode prog_5_method_44_code 117 = .ok (.iconst 0, 1) := by decide +kernel
theorem d_M_told_118 : decode prog_5_method_44_code 118 = .ok (.invokevirtual 162, 3) := by decide +kernel
theorem d_M_told_121 : decode prog_5_method_44_code 121 = .ok (.ireturn, 1) := by decide +kernel
theorem d_M_end_0 : decode prog_5_method_43_code 0 = .ok (.iconst (-1), 1) := by decide +kernel
theorem d_M_end_1 : decode prog_5_method_43_code 1 = .ok (.istore_n 3, 1) := by decide +kernel
theorem d_M_end_2 : decode prog_5_method_43_code 2 = .ok (.aload_n 0, 1) := by decide +kernel
theorem d_M_end_3 : decode prog_5_method_43_code 3 = .ok (.iload_n 1, 1) := by decide +kernel
theorem d_M_end_4 : decode prog_5_method_43_code 4 = .ok (.invokevirtual 117, 3) := by decide +kernel
theorem d_M_end_7 : decode prog_5_method_43_code 7 = .ok (.istore 4, 2) := by decide +kernel
theorem d_M_end_9 : decode prog_5_method_43_code 9 = .ok (.iconst 0, 1) := by decide +kernel
theorem d_M_end_10 : decode prog_5_method_43_code 10 = .ok (.istore 5, 2) := by decide +kernel
theorem d_M_end_12 : decode prog_5_method_43_code 12 = .ok (.iload 5, 2) := by decide +kernel
theorem d_M_end_14 : decode prog_5_method_43_code 14 = .ok (.iload 4, 2) := by decide +kernel
theorem d_M_end_16 : decode prog_5_method_43_code 16 = .ok (.if_icmp .ge 49, 3) := by decide +kernel
theorem d_M_end_19 : decode prog_5_method_43_code 19 = .ok (.aload_n 0, 1) := by decide +kernel
theorem d_M_end_20 : decode prog_5_method_43_code 20 = .ok (.iload_n 1, 1) := by decide +kernel
theorem d_M_end_21 : decode prog_5_method_43_code 21 = .ok (.iload 5, 2) := by decide +kernel
theorem d_M_end_23 : decode prog_5_method_43_code 23 = .ok (.invokevirtual 70, 3) := by decide +kernel
theorem d_M_end_26 : decode prog_5_method_43_code 26 = .ok (.istore 6, 2) := by decide +kernel
theorem d_M_end_28 : decode prog_5_method_43_code 28 = .ok (.iload_n 3, 1) := by decide +kernel
theorem d_M_end_29 : decode prog_5_method_43_code 29 = .ok (.iconst (-1), 1) := by decide +kernel
theorem d_M_end_30 : decode prog_5_method_43_code 30 = .ok (.if_icmp .eq 22, 3) := by decide +kernel
theorem d_M_end_33 : decode prog_5_method_43_code 33 = .ok (.iload_n 2, 1) := by decide +kernel
theorem d_M_end_34 : decode prog_5_method_43_code 34 = .ok (.ifCond .eq 12, 3) := by decide +kernel
theorem d_M_end_37 : decode prog_5_method_43_code 37 = .ok (.iload 6, 2) := by decide +kernel
theorem d_M_end_39 : decode prog_5_method_43_code 39 = .ok (.iload_n 3, 1) := by decide +kernel
theorem d_M_end_40 : decode prog_5_method_43_code 40 = .ok (.if_icmp .le 17, 3) := by decide +kernel
theorem d_M_end_43 : decode prog_5_method_43_code 43 = .ok (.goto 9, 3) := by decide +kernel
theorem d_M_end_46 : decode prog_5_method_43_code 46 = .ok (.iload 6, 2) := by decide +kernel
theorem d_M_end_48 : decode prog_5_method_43_code 48 = .ok (.iload_n 3, 1) := by decide +kernel
theorem d_M_end_49 : decode prog_5_method_43_code 49 = .ok (.if_icmp .ge 8, 3) := by decide +kernel
theorem d_M_end_52 : decode prog_5_method_43_code 52 = .ok (.iload 6, 2) := by decide +kernel
theorem d_M_end_54 : decode prog_5_method_43_code 54 = .ok (.goto 4, 3) := by decide +kernel
theorem d_M_end_57 : decode prog_5_method_43_code 57 = .ok (.iload_n 3, 1) := by decide +kernel
theorem d_M_end_58 : decode prog_5_method_43_code 58 = .ok (.istore_n 3, 1) := by decide +kernel
theorem d_M_end_59 : decode prog_5_method_43_code 59 = .ok (.iinc 5 1, 3) := by decide +kernel
theorem d_M_end_62 : decode prog_5_method_43_code 62 = .ok (.goto (-50), 3) := by decide +kernel
theorem d_M_end_65 : decode prog_5_method_43_code 65 = .ok (.iload_n 3, 1) := by decide +kernel
theorem d_M_end_66 : decode prog_5_method_43_code 66 = .ok (.ireturn, 1) := by decide +kernel
theorem d_M_axis_0 : decode prog_5_method_45_code 0 = .ok (.aload_n 0, 1) := by decide +kernel
theorem d_M_axis_1 : decode prog_5_method_45_code 1 = .ok (.aload_n 0, 1) := by decide +kernel
theorem d_M_axis_2 : decode prog_5_method_45_code 2 = .ok (.iload_n 1, 1) := by decide +kernel
theorem d_M_axis_3 : decode prog_5_method_45_code 3 = .ok (.iload_n 2, 1) := by decide +kernel
theorem d_M_axis_4 : decode prog_5_method_45_code 4 = .ok (.invokevirtual 105, 3) := by decide +kernel
theorem d_M_axis_7 : decode prog_5_method_45_code 7 = .ok (.iload_n 3, 1) := by decide +kernel
theorem d_M_axis_8 : decode prog_5_method_45_code 8 = .ok (.ifCond .eq 8, 3) := by decide +kernel
theorem d_M_axis_11 : decode prog_5_method_45_code 11 = .ok (.iload_n 3, 1) := by decide +kernel
theorem d_M_axis_12 : decode prog_5_method_45_code 12 = .ok (.iconst 1, 1) := by decide +kernel
theorem d_M_axis_13 : decode prog_5_method_45_code 13 = .ok (.if_icmp .ne 7, 3) := by decide +kernel
theorem d_M_axis_16 : decode prog_5_method_45_code 16 = .ok (.iconst 1, 1) := by decide +kernel
theorem d_M_axis_17 : decode prog_5_method_45_code 17 = .ok (.goto 4, 3) := by decide +kernel
theorem d_M_axis_20 : decode prog_5_method_45_code 20 = .ok (.iconst 0, 1) := by decide +kernel
theorem d_M_axis_21 : decode prog_5_method_45_code 21 = .ok (.invokevirtual 90, 3) := by decide +kernel
theorem d_M_axis_24 : decode prog_5_method_45_code 24 = .ok (.ifCond .ne 5, 3) := by decide +kernel
theorem d_M_axis_27 : decode prog_5_method_45_code 27 = .ok (.iconst 0, 1) := by decide +kernel
theorem d_M_axis_28 : decode prog_5_method_45_code 28 = .ok (.ireturn, 1) := by decide +kernel
theorem d_M_axis_29 : decode prog_5_method_45_code 29 = .ok (.iload_n 3, 1) := by decide +kernel
theorem d_M_axis_30 : decode prog_5_method_45_code 30 = .ok (.ifCond .ne 16, 3) := by decide +kernel
theorem d_M_axis_33 : decode prog_5_method_45_code 33 = .ok (.aload_n 0, 1) := by decide +kernel
theorem d_M_axis_34 : decode prog_5_method_45_code 34 = .ok (.getfield 29, 3) := by decide +kernel
theorem d_M_axis_37 : decode prog_5_method_45_code 37 = .ok (.iconst 4, 1) := by decide +kernel
theorem d_M_axis_38 : decode prog_5_method_45_code 38 = .ok (.iload_n 1, 1) := by decide +kernel
theorem d_M_axis_39 : decode prog_5_method_45_code 39 = .ok (.imul, 1) := by decide +kernel
theorem d_M_axis_40 : decode prog_5_method_45_code 40 = .ok (.iload_n 2, 1) := by decide +kernel
theorem d_M_axis_41 : decode prog_5_method_45_code 41 = .ok (.iadd, 1) := by decide +kernel
theorem d_M_axis_42 : decode prog_5_method_45_code 42 = .ok (.iaload, 1) := by decide +kernel
theorem d_M_axis_43 : decode prog_5_method_45_code 43 = .ok (.goto 13, 3) := by decide +kernel
theorem d_M_axis_46 : decode prog_5_method_45_code 46 = .ok (.aload_n 0, 1) := by decide +kernel
theorem d_M_axis_47 : decode prog_5_method_45_code 47 = .ok (.getfield 32, 3) := by decide +kernel
theorem d_M_axis_50 : decode prog_5_method_45_code 50 = .ok (.iconst 4, 1) := by decide +kernel
theorem d_M_axis_51 : decode prog_5_method_45_code 51 = .ok (.iload_n 1, 1) := by decide +kernel
theorem d_M_axis_52 : decode prog_5_method_45_code 52 = .ok (.imul, 1) := by decide +kernel
theorem d_M_axis_53 : decode prog_5_method_45_code 53 = .ok (.iload_n 2, 1) := by decide +kernel
theorem d_M_axis_54 : decode prog_5_method_45_code 54 = .ok (.iadd, 1) := by decide +kernel
theorem d_M_axis_55 : decode prog_5_method_45_code 55 = .ok (.iaload, 1) := by decide +kernel
theorem d_M_axis_56 : decode prog_5_method_45_code 56 = .ok (.ireturn, 1) := by decide +kernel
theorem d_M_stored_0 : decode prog_5_method_46_code 0 = .ok (.aload_n 0, 1) := by decide +kernel
theorem d_M_stored_1 : decode prog_5_method_46_code 1 = .ok (.iload_n 1, 1) := by decide +kernel
theorem d_M_stored_2 : decode prog_5_method_46_code 2 = .ok (.ifCond .lt 15, 3) := by decide +kernel
theorem d_M_stored_5 : decode prog_5_method_46_code 5 = .ok (.iload_n 1, 1) := by decide +kernel
theorem d_M_stored_6 : decode prog_5_method_46_code 6 = .ok (.aload_n 0, 1) := by decide +kernel
theorem d_M_stored_7 : decode prog_5_method_46_code 7 = .ok (.getfield 84, 3) := by decide +kernel
theorem d_M_stored_10 : decode prog_5_method_46_code 10 = .ok (.if_icmp .ge 7, 3) := by decide +kernel
theorem d_M_stored_13 : decode prog_5_method_46_code 13 = .ok (.iconst 1, 1) := by decide +kernel
theorem d_M_stored_14 : decode prog_5_method_46_code 14 = .ok (.goto 4, 3) := by decide +kernel
theorem d_M_stored_17 : decode prog_5_method_46_code 17 = .ok (.iconst 0, 1) := by decide +kernel
theorem d_M_stored_18 : decode prog_5_method_46_code 18 = .ok (.iload_n 2, 1) := by decide +kernel
theorem d_M_stored_19 : decode prog_5_method_46_code 19 = .ok (.ifCond .lt 12, 3) := by decide +kernel
theorem d_M_stored_22 : decode prog_5_method_46_code 22 = .ok (.iload_n 2, 1) := by decide +kernel
theorem d_M_stored_23 : decode prog_5_method_46_code 23 = .ok (.iconst 3, 1) := by decide +kernel
theorem d_M_stored_24 : decode prog_5_method_46_code 24 = .ok (.if_icmp .ge 7, 3) := by decide +kernel
theorem d_M_stored_27 : decode prog_5_method_46_code 27 = .ok (.iconst 1, 1) := by decide +kernel
theorem d_M_stored_28 : decode prog_5_method_46_code 28 = .ok (.goto 4, 3) := by decide +kernel
theorem d_M_stored_31 : decode prog_5_method_46_code 31 = .ok (.iconst 0, 1) := by decide +kernel
theorem d_M_stored_32 : decode prog_5_method_46_code 32 = .ok (.invokevirtual 90, 3) := by decide +kernel
theorem d_M_stored_35 : decode prog_5_method_46_code 35 = .ok (.ifCond .ne 5, 3) := by decide +kernel
theorem d_M_stored_38 : decode prog_5_method_46_code 38 = .ok (.iconst 0, 1) := by decide +kernel
theorem d_M_stored_39 : decode prog_5_method_46_code 39 = .ok (.ireturn, 1) := by decide +kernel
theorem d_M_stored_40 : decode prog_5_method_46_code 40 = .ok (.iconst 0, 1) := by decide +kernel
theorem d_M_stored_41 : decode prog_5_method_46_code 41 = .ok (.istore_n 3, 1) := by decide +kernel
theorem d_M_stored_42 : decode prog_5_method_46_code 42 = .ok (.iconst 0, 1) := by decide +kernel
theorem d_M_stored_43 : decode prog_5_method_46_code 43 = .ok (.istore 4, 2) := by decide +kernel
theorem d_M_stored_45 : decode prog_5_method_46_code 45 = .ok (.iload 4, 2) := by decide +kernel
theorem d_M_stored_47 : decode prog_5_method_46_code 47 = .ok (.aload_n 0, 1) := by decide +kernel
theorem d_M_stored_48 : decode prog_5_method_46_code 48 = .ok (.getfield 52, 3) := by decide +kernel
theorem d_M_stored_51 : decode prog_5_method_46_code 51 = .ok (.if_icmp .ge 28, 3) := by decide +kernel
theorem d_M_stored_54 : decode prog_5_method_46_code 54 = .ok (.iload_n 3, 1) := by decide +kernel
theorem d_M_stored_55 : decode prog_5_method_46_code 55 = .ok (.aload_n 0, 1) := by decide +kernel
theorem d_M_stored_56 : decode prog_5_method_46_code 56 = .ok (.getfield 20, 3) := by decide +kernel
theorem d_M_stored_59 : decode prog_5_method_46_code 59 = .ok (.iload 4, 2) := by decide +kernel
theorem d_M_stored_61 : decode prog_5_method_46_code 61 = .ok (.iaload, 1) := by decide +kernel
theorem d_M_stored_62 : decode prog_5_method_46_code 62 = .ok (.iload_n 1, 1) := by decide +kernel
theorem d_M_stored_63 : decode prog_5_method_46_code 63 = .ok (.if_icmp .ne 7, 3) := by decide +kernel
theorem d_M_stored_66 : decode prog_5_method_46_code 66 = .ok (.iconst 1, 1) := by decide +kernel
theorem d_M_stored_67 : decode prog_5_method_46_code 67 = .ok (.goto 4, 3) := by decide +kernel
theorem d_M_stored_70 : decode prog_5_method_46_code 70 = .ok (.iconst 0, 1) := by decide +kernel
theorem d_M_stored_71 : decode prog_5_method_46_code 71 = .ok (.iadd, 1) := by decide +kernel
theorem d_M_stored_72 : decode prog_5_method_46_code 72 = .ok (.istore_n 3, 1) := by decide +kernel
theorem d_M_stored_73 : decode prog_5_method_46_code 73 = .ok (.iinc 4 1, 3) := by decide +kernel
theorem d_M_stored_76 : decode prog_5_method_46_code 76 = .ok (.goto (-31), 3) := by decide +kernel
theorem d_M_stored_79 : decode prog_5_method_46_code 79 = .ok (.iload_n 2, 1) := by decide +kernel
theorem d_M_stored_80 : decode prog_5_method_46_code 80 = .ok (.ifCond .ne 12, 3) := by decide +kernel
theorem d_M_stored_83 : decode prog_5_method_46_code 83 = .ok (.aload_n 0, 1) := by decide +kernel
theorem d_M_stored_84 : decode prog_5_method_46_code 84 = .ok (.getfield 7, 3) := by decide +kernel
theorem d_M_stored_87 : decode prog_5_method_46_code 87 = .ok (.iload_n 1, 1) := by decide +kernel
theorem d_M_stored_88 : decode prog_5_method_46_code 88 = .ok (.iaload, 1) := by decide +kernel
theorem d_M_stored_89 : decode prog_5_method_46_code 89 = .ok (.goto 18, 3) := by decide +kernel
theorem d_M_stored_92 : decode prog_5_method_46_code 92 = .ok (.iload_n 2, 1) := by decide +kernel
theorem d_M_stored_93 : decode prog_5_method_46_code 93 = .ok (.iconst 1, 1) := by decide +kernel
theorem d_M_stored_94 : decode prog_5_method_46_code 94 = .ok (.if_icmp .ne 12, 3) := by decide +kernel
theorem d_M_stored_97 : decode prog_5_method_46_code 97 = .ok (.aload_n 0, 1) := by decide +kernel
theorem d_M_stored_98 : decode prog_5_method_46_code 98 = .ok (.getfield 13, 3) := by decide +kernel
theorem d_M_stored_101 : decode prog_5_method_46_code 101 = .ok (.iload_n 1, 1) := by decide +kernel
theorem d_M_stored_102 : decode prog_5_method_46_code 102 = .ok (.iaload, 1) := by decide +kernel
theorem d_M_stored_103 : decode prog_5_method_46_code 103 = .ok (.goto 4, 3) := by decide +kernel
theorem d_M_stored_106 : decode prog_5_method_46_code 106 = .ok (.iload_n 3, 1) := by decide +kernel
theorem d_M_stored_107 : decode prog_5_method_46_code 107 = .ok (.ireturn, 1) := by decide +kernel
theorem d_M_count_0 : decode prog_5_method_47_code 0 = .ok (.aload_n 0, 1) := by decide +kernel
theorem d_M_count_1 : decode prog_5_method_47_code 1 = .ok (.iload_n 1, 1) := by decide +kernel
theorem d_M_count_2 : decode prog_5_method_47_code 2 = .ok (.ifCond .eq 8, 3) := by decide +kernel
theorem d_M_count_5 : decode prog_5_method_47_code 5 = .ok (.iload_n 1, 1) := by decide +kernel
theorem d_M_count_6 : decode prog_5_method_47_code 6 = .ok (.iconst 1, 1) := by decide +kernel
theorem d_M_count_7 : decode prog_5_method_47_code 7 = .ok (.if_icmp .ne 7, 3) := by decide +kernel
theorem d_M_count_10 : decode prog_5_method_47_code 10 = .ok (.iconst 0, 1) := by decide +kernel
theorem d_M_count_11 : decode prog_5_method_47_code 11 = .ok (.goto 4, 3) := by decide +kernel
theorem d_M_count_14 : decode prog_5_method_47_code 14 = .ok (.iconst 1, 1) := by decide +kernel
theorem d_M_count_15 : decode prog_5_method_47_code 15 = .ok (.putfield 48, 3) := by decide +kernel
theorem d_M_count_18 : decode prog_5_method_47_code 18 = .ok (.aload_n 0, 1) := by decide +kernel
theorem d_M_count_19 : decode prog_5_method_47_code 19 = .ok (.getfield 48, 3) := by decide +kernel
theorem d_M_count_22 : decode prog_5_method_47_code 22 = .ok (.ifCond .le 7, 3) := by decide +kernel
theorem d_M_count_25 : decode prog_5_method_47_code 25 = .ok (.iconst 0, 1) := by decide +kernel
theorem d_M_count_26 : decode prog_5_method_47_code 26 = .ok (.goto 18, 3) := by decide +kernel
theorem d_M_count_29 : decode prog_5_method_47_code 29 = .ok (.iload_n 1, 1) := by decide +kernel
theorem d_M_count_30 : decode prog_5_method_47_code 30 = .ok (.ifCond .ne 10, 3) := by decide +kernel
theorem d_M_count_33 : decode prog_5_method_47_code 33 = .ok (.aload_n 0, 1) := by decide +kernel
theorem d_M_count_34 : decode prog_5_method_47_code 34 = .ok (.getfield 84, 3) := by decide +kernel
theorem d_M_count_37 : decode prog_5_method_47_code 37 = .ok (.goto 7, 3) := by decide +kernel
theorem d_M_count_40 : decode prog_5_method_47_code 40 = .ok (.aload_n 0, 1) := by decide +kernel
theorem d_M_count_41 : decode prog_5_method_47_code 41 = .ok (.getfield 52, 3) := by decide +kernel
theorem d_M_count_44 : decode prog_5_method_47_code 44 = .ok (.ireturn, 1) := by decide +kernel
end
section
/-! decode rows -/
theorem d_L_store_0 : decode method_3_code 0 = .ok (.aload_n 3, 1) := by decide +kernel
theorem d_L_store_1 : decode method_3_code 1 = .ok (.iconst 0, 1) := by decide +kernel
theorem d_L_store_2 : decode method_3_code 2 = .ok (.aload_n 0, 1) := by decide +kernel
theorem d_L_store_3 : decode method_3_code 3 = .ok (.iload_n 1, 1) := by decide +kernel
theorem d_L_store_4 : decode method_3_code 4 = .ok (.iload_n 2, 1) := by decide +kernel
theorem d_L_store_5 : decode method_3_code 5 = .ok (.invokevirtual 7, 3) := by decide +kernel
theorem d_L_store_8 : decode method_3_code 8 = .ok (.i2l, 1) := by decide +kernel
theorem d_L_store_9 : decode method_3_code 9 = .ok (.lastore, 1) := by decide +kernel
theorem d_L_store_10 : decode method_3_code 10 = .ok (.goto 11, 3) := by decide +kernel
theorem d_L_store_13 : decode method_3_code 13 = .ok (.astore 4, 2) := by decide +kernel
theorem d_L_store_15 : decode method_3_code 15 = .ok (.iconst 1, 1) := by decide +kernel
theorem d_L_store_16 : decode method_3_code 16 = .ok (.ireturn, 1) := by decide +kernel
theorem d_L_store_17 : decode method_3_code 17 = .ok (.astore 4, 2) := by decide +kernel
theorem d_L_store_19 : decode method_3_code 19 = .ok (.iconst 2, 1) := by decide +kernel
theorem d_L_store_20 : decode method_3_code 20 = .ok (.ireturn, 1) := by decide +kernel
theorem d_L_store_21 : decode method_3_code 21 = .ok (.iconst 0, 1) := by decide +kernel
theorem d_L_store_22 : decode method_3_code 22 = .ok (.ireturn, 1) := by decide +kernel
theorem d_L_slice_0 : decode method_4_code 0 = .ok (.aload 6, 2) := by decide +kernel
theorem d_L_slice_2 : decode method_4_code 2 = .ok (.iconst 0, 1) := by decide +kernel
theorem d_L_slice_3 : decode method_4_code 3 = .ok (.aload_n 0, 1) := by decide +kernel
theorem d_L_slice_4 : decode method_4_code 4 = .ok (.iload_n 1, 1) := by decide +kernel
theorem d_L_slice_5 : decode method_4_code 5 = .ok (.iload_n 2, 1) := by decide +kernel
theorem d_L_slice_6 : decode method_4_code 6 = .ok (.iload_n 3, 1) := by decide +kernel
theorem d_L_slice_7 : decode method_4_code 7 = .ok (.iload 4, 2) := by decide +kernel
theorem d_L_slice_9 : decode method_4_code 9 = .ok (.iload 5, 2) := by decide +kernel
theorem d_L_slice_11 : decode method_4_code 11 = .ok (.invokevirtual 17, 3) := by decide +kernel
theorem d_L_slice_14 : decode method_4_code 14 = .ok (.i2l, 1) := by decide +kernel
theorem d_L_slice_15 : decode method_4_code 15 = .ok (.lastore, 1) := by decide +kernel
theorem d_L_slice_16 : decode method_4_code 16 = .ok (.goto 15, 3) := by decide +kernel
theorem d_L_slice_19 : decode method_4_code 19 = .ok (.astore 7, 2) := by decide +kernel
theorem d_L_slice_21 : decode method_4_code 21 = .ok (.iconst 1, 1) := by decide +kernel
theorem d_L_slice_22 : decode method_4_code 22 = .ok (.ireturn, 1) := by decide +kernel
theorem d_L_slice_23 : decode method_4_code 23 = .ok (.astore 7, 2) := by decide +kernel
theorem d_L_slice_25 : decode method_4_code 25 = .ok (.iconst 2, 1) := by decide +kernel
theorem d_L_slice_26 : decode method_4_code 26 = .ok (.ireturn, 1) := by decide +kernel
theorem d_L_slice_27 : decode method_4_code 27 = .ok (.astore 7, 2) := by decide +kernel
theorem d_L_slice_29 : decode method_4_code 29 = .ok (.iconst 3, 1) := by decide +kernel
theorem d_L_slice_30 : decode method_4_code 30 = .ok (.ireturn, 1) := by decide +kernel
theorem d_L_slice_31 : decode method_4_code 31 = .ok (.iconst 0, 1) := by decide +kernel
theorem d_L_slice_32 : decode method_4_code 32 = .ok (.ireturn, 1) := by decide +kernel
theorem d_L_pick_0 : decode method_5_code 0 = .ok (.aload 4, 2) := by decide +kernel
theorem d_L_pick_2 : decode method_5_code 2 = .ok (.iconst 0, 1) := by decide +kernel
theorem d_L_pick_3 : decode method_5_code 3 = .ok (.aload_n 0, 1) := by decide +kernel
theorem d_L_pick_4 : decode method_5_code 4 = .ok (.iload_n 1, 1) := by decide +kernel
theorem d_L_pick_5 : decode method_5_code 5 = .ok (.iload_n 2, 1) := by decide +kernel
theorem d_L_pick_6 : decode method_5_code 6 = .ok (.iload_n 3, 1) := by decide +kernel
theorem d_L_pick_7 : decode method_5_code 7 = .ok (.invokevirtual 23, 3) := by decide +kernel
theorem d_L_pick_10 : decode method_5_code 10 = .ok (.i2l, 1) := by decide +kernel
theorem d_L_pick_11 : decode method_5_code 11 = .ok (.lastore, 1) := by decide +kernel
theorem d_L_pick_12 : decode method_5_code 12 = .ok (.goto 11, 3) := by decide +kernel
theorem d_L_pick_15 : decode method_5_code 15 = .ok (.astore 5, 2) := by decide +kernel
theorem d_L_pick_17 : decode method_5_code 17 = .ok (.iconst 1, 1) := by decide +kernel
theorem d_L_pick_18 : decode method_5_code 18 = .ok (.ireturn, 1) := by decide +kernel
theorem d_L_pick_19 : decode method_5_code 19 = .ok (.astore 5, 2) := by decide +kernel
theorem d_L_pick_21 : decode method_5_code 21 = .ok (.iconst 2, 1) := by decide +kernel
theorem d_L_pick_22 : decode method_5_code 22 = .ok (.ireturn, 1) := by decide +kernel
theorem d_L_pick_23 : decode method_5_code 23 = .ok (.iconst 0, 1) := by decide +kernel
theorem d_L_pick_24 : decode method_5_code 24 = .ok (.ireturn, 1) := by decide +kernel
theorem d_L_turn_0 : decode method_6_code 0 = .ok (.aload 4, 2) := by decide +kernel
theorem d_L_turn_2 : decode method_6_code 2 = .ok (.iconst 0, 1) := by decide +kernel
theorem d_L_turn_3 : decode method_6_code 3 = .ok (.aload_n 0, 1) := by decide +kernel
theorem d_L_turn_4 : decode method_6_code 4 = .ok (.iload_n 1, 1) := by decide +kernel
theorem d_L_turn_5 : decode method_6_code 5 = .ok (.iload_n 2, 1) := by decide +kernel
theorem d_L_turn_6 : decode method_6_code 6 = .ok (.iload_n 3, 1) := by decide +kernel
theorem d_L_turn_7 : decode method_6_code 7 = .ok (.invokevirtual 27, 3) := by decide +kernel
theorem d_L_turn_10 : decode method_6_code 10 = .ok (.i2l, 1) := by decide +kernel
theorem d_L_turn_11 : decode method_6_code 11 = .ok (.lastore, 1) := by decide +kernel
theorem d_L_turn_12 : decode method_6_code 12 = .ok (.goto 11, 3) := by decide +kernel
theorem d_L_turn_15 : decode method_6_code 15 = .ok (.astore 5, 2) := by decide +kernel
theorem d_L_turn_17 : decode method_6_code 17 = .ok (.iconst 1, 1) := by decide +kernel
theorem d_L_turn_18 : decode method_6_code 18 = .ok (.ireturn, 1) := by decide +kernel
theorem d_L_turn_19 : decode method_6_code 19 = .ok (.astore 5, 2) := by decide +kernel
theorem d_L_turn_21 : decode method_6_code 21 = .ok (.iconst 2, 1) := by decide +kernel
theorem d_L_turn_22 : decode method_6_code 22 = .ok (.ireturn, 1) := by decide +kernel
theorem d_L_turn_23 : decode method_6_code 23 = .ok (.iconst 0, 1) := by decide +kernel
theorem d_L_turn_24 : decode method_6_code 24 = .ok (.ireturn, 1) := by decide +kernel
theorem d_L_spread_0 : decode method_7_code 0 = .ok (.aload 4, 2) := by decide +kernel
theorem d_L_spread_2 : decode method_7_code 2 = .ok (.iconst 0, 1) := by decide +kernel
theorem d_L_spread_3 : decode method_7_code 3 = .ok (.aload_n 0, 1) := by decide +kernel
theorem d_L_spread_4 : decode method_7_code 4 = .ok (.iload_n 1, 1) := by decide +kernel
theorem d_L_spread_5 : decode method_7_code 5 = .ok (.iload_n 2, 1) := by decide +kernel
theorem d_L_spread_6 : decode method_7_code 6 = .ok (.iload_n 3, 1) := by decide +kernel
theorem d_L_spread_7 : decode method_7_code 7 = .ok (.invokevirtual 30, 3) := by decide +kernel
theorem d_L_spread_10 : decode method_7_code 10 = .ok (.i2l, 1) := by decide +kernel
theorem d_L_spread_11 : decode method_7_code 11 = .ok (.lastore, 1) := by decide +kernel
theorem d_L_spread_12 : decode method_7_code 12 = .ok (.goto 15, 3) := by decide +kernel
theorem d_L_spread_15 : decode method_7_code 15 = .ok (.astore 5, 2) := by decide +kernel
theorem d_L_spread_17 : decode method_7_code 17 = .ok (.iconst 1, 1) := by decide +kernel
theorem d_L_spread_18 : decode method_7_code 18 = .ok (.ireturn, 1) := by decide +kernel
theorem d_L_spread_19 : decode method_7_code 19 = .ok (.astore 5, 2) := by decide +kernel
theorem d_L_spread_21 : decode method_7_code 21 = .ok (.iconst 2, 1) := by decide +kernel
theorem d_L_spread_22 : decode method_7_code 22 = .ok (.ireturn, 1) := by decide +kernel
theorem d_L_spread_23 : decode method_7_code 23 = .ok (.astore 5, 2) := by decide +kernel
theorem d_L_spread_25 : decode method_7_code 25 = .ok (.iconst 3, 1) := by decide +kernel
theorem d_L_spread_26 : decode method_7_code 26 = .ok (.ireturn, 1) := by decide +kernel
theorem d_L_spread_27 : decode method_7_code 27 = .ok (.iconst 0, 1) := by decide +kernel
theorem d_L_spread_28 : decode method_7_code 28 = .ok (.ireturn, 1) := by decide +kernel
theorem d_L_diagonal_0 : decode method_8_code 0 = .ok (.aload 4, 2) := by decide +kernel
theorem d_L_diagonal_2 : decode method_8_code 2 = .ok (.iconst 0, 1) := by decide +kernel
theorem d_L_diagonal_3 : decode method_8_code 3 = .ok (.aload_n 0, 1) := by decide +kernel
theorem d_L_diagonal_4 : decode method_8_code 4 = .ok (.iload_n 1, 1) := by decide +kernel
theorem d_L_diagonal_5 : decode method_8_code 5 = .ok (.iload_n 2, 1) := by decide +kernel
theorem d_L_diagonal_6 : decode method_8_code 6 = .ok (.iload_n 3, 1) := by decide +kernel
theorem d_L_diagonal_7 : decode method_8_code 7 = .ok (.invokevirtual 33, 3) := by decide +kernel
theorem d_L_diagonal_10 : decode method_8_code 10 = .ok (.i2l, 1) := by decide +kernel
theorem d_L_diagonal_11 : decode method_8_code 11 = .ok (.lastore, 1) := by decide +kernel
theorem d_L_diagonal_12 : decode method_8_code 12 = .ok (.goto 15, 3) := by decide +kernel
theorem d_L_diagonal_15 : decode method_8_code 15 = .ok (.astore 5, 2) := by decide +kernel
theorem d_L_diagonal_17 : decode method_8_code 17 = .ok (.iconst 1, 1) := by decide +kernel
theorem d_L_diagonal_18 : decode method_8_code 18 = .ok (.ireturn, 1) := by decide +kernel
theorem d_L_diagonal_19 : decode method_8_code 19 = .ok (.astore 5, 2) := by decide +kernel
theorem d_L_diagonal_21 : decode method_8_code 21 = .ok (.iconst 2, 1) := by decide +kernel
theorem d_L_diagonal_22 : decode method_8_code 22 = .ok (.ireturn, 1) := by decide +kernel
theorem d_L_diagonal_23 : decode method_8_code 23 = .ok (.astore 5, 2) := by decide +kernel
theorem d_L_diagonal_25 : decode method_8_code 25 = .ok (.iconst 3, 1) := by decide +kernel
theorem d_L_diagonal_26 : decode method_8_code 26 = .ok (.ireturn, 1) := by decide +kernel
theorem d_L_diagonal_27 : decode method_8_code 27 = .ok (.iconst 0, 1) := by decide +kernel
theorem d_L_diagonal_28 : decode method_8_code 28 = .ok (.ireturn, 1) := by decide +kernel
theorem d_L_shape_0 : decode method_9_code 0 = .ok (.aload 5, 2) := by decide +kernel
theorem d_L_shape_2 : decode method_9_code 2 = .ok (.iconst 0, 1) := by decide +kernel
theorem d_L_shape_3 : decode method_9_code 3 = .ok (.aload_n 0, 1) := by decide +kernel
theorem d_L_shape_4 : decode method_9_code 4 = .ok (.iload_n 1, 1) := by decide +kernel
theorem d_L_shape_5 : decode method_9_code 5 = .ok (.iload_n 2, 1) := by decide +kernel
theorem d_L_shape_6 : decode method_9_code 6 = .ok (.iload_n 3, 1) := by decide +kernel
theorem d_L_shape_7 : decode method_9_code 7 = .ok (.iload 4, 2) := by decide +kernel
theorem d_L_shape_9 : decode method_9_code 9 = .ok (.invokevirtual 36, 3) := by decide +kernel
theorem d_L_shape_12 : decode method_9_code 12 = .ok (.i2l, 1) := by decide +kernel
theorem d_L_shape_13 : decode method_9_code 13 = .ok (.lastore, 1) := by decide +kernel
theorem d_L_shape_14 : decode method_9_code 14 = .ok (.goto 15, 3) := by decide +kernel
theorem d_L_shape_17 : decode method_9_code 17 = .ok (.astore 6, 2) := by decide +kernel
theorem d_L_shape_19 : decode method_9_code 19 = .ok (.iconst 1, 1) := by decide +kernel
theorem d_L_shape_20 : decode method_9_code 20 = .ok (.ireturn, 1) := by decide +kernel
theorem d_L_shape_21 : decode method_9_code 21 = .ok (.astore 6, 2) := by decide +kernel
theorem d_L_shape_23 : decode method_9_code 23 = .ok (.iconst 2, 1) := by decide +kernel
theorem d_L_shape_24 : decode method_9_code 24 = .ok (.ireturn, 1) := by decide +kernel
theorem d_L_shape_25 : decode method_9_code 25 = .ok (.astore 6, 2) := by decide +kernel
theorem d_L_shape_27 : decode method_9_code 27 = .ok (.iconst 3, 1) := by decide +kernel
theorem d_L_shape_28 : decode method_9_code 28 = .ok (.ireturn, 1) := by decide +kernel
theorem d_L_shape_29 : decode method_9_code 29 = .ok (.iconst 0, 1) := by decide +kernel
theorem d_L_shape_30 : decode method_9_code 30 = .ok (.ireturn, 1) := by decide +kernel
theorem d_L_compact_0 : decode method_10_code 0 = .ok (.aload_n 3, 1) := by decide +kernel
theorem d_L_compact_1 : decode method_10_code 1 = .ok (.iconst 0, 1) := by decide +kernel
theorem d_L_compact_2 : decode method_10_code 2 = .ok (.aload_n 0, 1) := by decide +kernel
theorem d_L_compact_3 : decode method_10_code 3 = .ok (.iload_n 1, 1) := by decide +kernel
theorem d_L_compact_4 : decode method_10_code 4 = .ok (.iload_n 2, 1) := by decide +kernel
theorem d_L_compact_5 : decode method_10_code 5 = .ok (.invokevirtual 40, 3) := by decide +kernel
theorem d_L_compact_8 : decode method_10_code 8 = .ok (.i2l, 1) := by decide +kernel
theorem d_L_compact_9 : decode method_10_code 9 = .ok (.lastore, 1) := by decide +kernel
theorem d_L_compact_10 : decode method_10_code 10 = .ok (.goto 15, 3) := by decide +kernel
theorem d_L_compact_13 : decode method_10_code 13 = .ok (.astore 4, 2) := by decide +kernel
theorem d_L_compact_15 : decode method_10_code 15 = .ok (.iconst 1, 1) := by decide +kernel
theorem d_L_compact_16 : decode method_10_code 16 = .ok (.ireturn, 1) := by decide +kernel
theorem d_L_compact_17 : decode method_10_code 17 = .ok (.astore 4, 2) := by decide +kernel
theorem d_L_compact_19 : decode method_10_code 19 = .ok (.iconst 2, 1) := by decide +kernel
theorem d_L_compact_20 : decode method_10_code 20 = .ok (.ireturn, 1) := by decide +kernel
theorem d_L_compact_21 : decode method_10_code 21 = .ok (.astore 4, 2) := by decide +kernel
theorem d_L_compact_23 : decode method_10_code 23 = .ok (.iconst 3, 1) := by decide +kernel
theorem d_L_compact_24 : decode method_10_code 24 = .ok (.ireturn, 1) := by decide +kernel
theorem d_L_compact_25 : decode method_10_code 25 = .ok (.iconst 0, 1) := by decide +kernel
theorem d_L_compact_26 : decode method_10_code 26 = .ok (.ireturn, 1) := by decide +kernel
theorem d_L_at_0 : decode method_11_code 0 = .ok (.aload_n 3, 1) := by decide +kernel
theorem d_L_at_1 : decode method_11_code 1 = .ok (.iconst 0, 1) := by decide +kernel
theorem d_L_at_2 : decode method_11_code 2 = .ok (.aload_n 0, 1) := by decide +kernel
theorem d_L_at_3 : decode method_11_code 3 = .ok (.iload_n 1, 1) := by decide +kernel
theorem d_L_at_4 : decode method_11_code 4 = .ok (.iload_n 2, 1) := by decide +kernel
theorem d_L_at_5 : decode method_11_code 5 = .ok (.invokevirtual 43, 3) := by decide +kernel
theorem d_L_at_8 : decode method_11_code 8 = .ok (.lastore, 1) := by decide +kernel
theorem d_L_at_9 : decode method_11_code 9 = .ok (.goto 7, 3) := by decide +kernel
theorem d_L_at_12 : decode method_11_code 12 = .ok (.astore 4, 2) := by decide +kernel
theorem d_L_at_14 : decode method_11_code 14 = .ok (.iconst 1, 1) := by decide +kernel
theorem d_L_at_15 : decode method_11_code 15 = .ok (.ireturn, 1) := by decide +kernel
theorem d_L_at_16 : decode method_11_code 16 = .ok (.iconst 0, 1) := by decide +kernel
theorem d_L_at_17 : decode method_11_code 17 = .ok (.ireturn, 1) := by decide +kernel
theorem d_L_put_0 : decode method_12_code 0 = .ok (.aload 5, 2) := by decide +kernel
theorem d_L_put_2 : decode method_12_code 2 = .ok (.iconst 0, 1) := by decide +kernel
theorem d_L_put_3 : decode method_12_code 3 = .ok (.aload_n 0, 1) := by decide +kernel
theorem d_L_put_4 : decode method_12_code 4 = .ok (.iload_n 1, 1) := by decide +kernel
theorem d_L_put_5 : decode method_12_code 5 = .ok (.iload_n 2, 1) := by decide +kernel
theorem d_L_put_6 : decode method_12_code 6 = .ok (.lload_n 3, 1) := by decide +kernel
theorem d_L_put_7 : decode method_12_code 7 = .ok (.invokevirtual 47, 3) := by decide +kernel
theorem d_L_put_10 : decode method_12_code 10 = .ok (.lastore, 1) := by decide +kernel
theorem d_L_put_11 : decode method_12_code 11 = .ok (.goto 11, 3) := by decide +kernel
theorem d_L_put_14 : decode method_12_code 14 = .ok (.astore 6, 2) := by decide +kernel
theorem d_L_put_16 : decode method_12_code 16 = .ok (.iconst 1, 1) := by decide +kernel
theorem d_L_put_17 : decode method_12_code 17 = .ok (.ireturn, 1) := by decide +kernel
theorem d_L_put_18 : decode method_12_code 18 = .ok (.astore 6, 2) := by decide +kernel
theorem d_L_put_20 : decode method_12_code 20 = .ok (.iconst 2, 1) := by decide +kernel
theorem d_L_put_21 : decode method_12_code 21 = .ok (.ireturn, 1) := by decide +kernel
theorem d_L_put_22 : decode method_12_code 22 = .ok (.iconst 0, 1) := by decide +kernel
theorem d_L_put_23 : decode method_12_code 23 = .ok (.ireturn, 1) := by decide +kernel
theorem d_L_copy_0 : decode method_13_code 0 = .ok (.aload_n 3, 1) := by decide +kernel
theorem d_L_copy_1 : decode method_13_code 1 = .ok (.iconst 0, 1) := by decide +kernel
theorem d_L_copy_2 : decode method_13_code 2 = .ok (.aload_n 0, 1) := by decide +kernel
theorem d_L_copy_3 : decode method_13_code 3 = .ok (.iload_n 1, 1) := by decide +kernel
theorem d_L_copy_4 : decode method_13_code 4 = .ok (.iload_n 2, 1) := by decide +kernel
theorem d_L_copy_5 : decode method_13_code 5 = .ok (.invokevirtual 51, 3) := by decide +kernel
theorem d_L_copy_8 : decode method_13_code 8 = .ok (.i2l, 1) := by decide +kernel
theorem d_L_copy_9 : decode method_13_code 9 = .ok (.lastore, 1) := by decide +kernel
theorem d_L_copy_10 : decode method_13_code 10 = .ok (.goto 15, 3) := by decide +kernel
theorem d_L_copy_13 : decode method_13_code 13 = .ok (.astore 4, 2) := by decide +kernel
theorem d_L_copy_15 : decode method_13_code 15 = .ok (.iconst 1, 1) := by decide +kernel
theorem d_L_copy_16 : decode method_13_code 16 = .ok (.ireturn, 1) := by decide +kernel
theorem d_L_copy_17 : decode method_13_code 17 = .ok (.astore 4, 2) := by decide +kernel
theorem d_L_copy_19 : decode method_13_code 19 = .ok (.iconst 2, 1) := by decide +kernel
theorem d_L_copy_20 : decode method_13_code 20 = .ok (.ireturn, 1) := by decide +kernel
theorem d_L_copy_21 : decode method_13_code 21 = .ok (.astore 4, 2) := by decide +kernel
theorem d_L_copy_23 : decode method_13_code 23 = .ok (.iconst 3, 1) := by decide +kernel
theorem d_L_copy_24 : decode method_13_code 24 = .ok (.ireturn, 1) := by decide +kernel
theorem d_L_copy_25 : decode method_13_code 25 = .ok (.iconst 0, 1) := by decide +kernel
theorem d_L_copy_26 : decode method_13_code 26 = .ok (.ireturn, 1) := by decide +kernel
theorem d_L_act_0 : decode method_14_code 0 = .ok (.aload 5, 2) := by decide +kernel
theorem d_L_act_2 : decode method_14_code 2 = .ok (.iconst 0, 1) := by decide +kernel
theorem d_L_act_3 : decode method_14_code 3 = .ok (.aload_n 0, 1) := by decide +kernel
theorem d_L_act_4 : decode method_14_code 4 = .ok (.iload_n 1, 1) := by decide +kernel
theorem d_L_act_5 : decode method_14_code 5 = .ok (.iload_n 2, 1) := by decide +kernel
theorem d_L_act_6 : decode method_14_code 6 = .ok (.iload_n 3, 1) := by decide +kernel
theorem d_L_act_7 : decode method_14_code 7 = .ok (.iload 4, 2) := by decide +kernel
theorem d_L_act_9 : decode method_14_code 9 = .ok (.invokevirtual 54, 3) := by decide +kernel
theorem d_L_act_12 : decode method_14_code 12 = .ok (.i2l, 1) := by decide +kernel
theorem d_L_act_13 : decode method_14_code 13 = .ok (.lastore, 1) := by decide +kernel
theorem d_L_act_14 : decode method_14_code 14 = .ok (.goto 15, 3) := by decide +kernel
theorem d_L_act_17 : decode method_14_code 17 = .ok (.astore 6, 2) := by decide +kernel
theorem d_L_act_19 : decode method_14_code 19 = .ok (.iconst 1, 1) := by decide +kernel
theorem d_L_act_20 : decode method_14_code 20 = .ok (.ireturn, 1) := by decide +kernel
theorem d_L_act_21 : decode method_14_code 21 = .ok (.astore 6, 2) := by decide +kernel
theorem d_L_act_23 : decode method_14_code 23 = .ok (.iconst 2, 1) := by decide +kernel
theorem d_L_act_24 : decode method_14_code 24 = .ok (.ireturn, 1) := by decide +kernel
theorem d_L_act_25 : decode method_14_code 25 = .ok (.astore 6, 2) := by decide +kernel
theorem d_L_act_27 : decode method_14_code 27 = .ok (.iconst 3, 1) := by decide +kernel
theorem d_L_act_28 : decode method_14_code 28 = .ok (.ireturn, 1) := by decide +kernel
theorem d_L_act_29 : decode method_14_code 29 = .ok (.iconst 0, 1) := by decide +kernel
theorem d_L_act_30 : decode method_14_code 30 = .ok (.ireturn, 1) := by decide +kernel
theorem d_L_fold_0 : decode method_15_code 0 = .ok (.aload 4, 2) := by decide +kernel
theorem d_L_fold_2 : decode method_15_code 2 = .ok (.iconst 0, 1) := by decide +kernel
theorem d_L_fold_3 : decode method_15_code 3 = .ok (.aload_n 0, 1) := by decide +kernel
theorem d_L_fold_4 : decode method_15_code 4 = .ok (.iload_n 1, 1) := by decide +kernel
theorem d_L_fold_5 : decode method_15_code 5 = .ok (.iload_n 2, 1) := by decide +kernel
theorem d_L_fold_6 : decode method_15_code 6 = .ok (.iload_n 3, 1) := by decide +kernel
theorem d_L_fold_7 : decode method_15_code 7 = .ok (.invokevirtual 57, 3) := by decide +kernel
theorem d_L_fold_10 : decode method_15_code 10 = .ok (.i2l, 1) := by decide +kernel
theorem d_L_fold_11 : decode method_15_code 11 = .ok (.lastore, 1) := by decide +kernel
theorem d_L_fold_12 : decode method_15_code 12 = .ok (.goto 15, 3) := by decide +kernel
theorem d_L_fold_15 : decode method_15_code 15 = .ok (.astore 5, 2) := by decide +kernel
theorem d_L_fold_17 : decode method_15_code 17 = .ok (.iconst 1, 1) := by decide +kernel
theorem d_L_fold_18 : decode method_15_code 18 = .ok (.ireturn, 1) := by decide +kernel
theorem d_L_fold_19 : decode method_15_code 19 = .ok (.astore 5, 2) := by decide +kernel
theorem d_L_fold_21 : decode method_15_code 21 = .ok (.iconst 2, 1) := by decide +kernel
theorem d_L_fold_22 : decode method_15_code 22 = .ok (.ireturn, 1) := by decide +kernel
theorem d_L_fold_23 : decode method_15_code 23 = .ok (.astore 5, 2) := by decide +kernel
theorem d_L_fold_25 : decode method_15_code 25 = .ok (.iconst 3, 1) := by decide +kernel
theorem d_L_fold_26 : decode method_15_code 26 = .ok (.ireturn, 1) := by decide +kernel
theorem d_L_fold_27 : decode method_15_code 27 = .ok (.iconst 0, 1) := by decide +kernel
theorem d_L_fold_28 : decode method_15_code 28 = .ok (.ireturn, 1) := by decide +kernel
theorem d_L_shared_0 : decode method_16_code 0 = .ok (.aload_n 3, 1) := by decide +kernel
theorem d_L_shared_1 : decode method_16_code 1 = .ok (.iconst 0, 1) := by decide +kernel
theorem d_L_shared_2 : decode method_16_code 2 = .ok (.aload_n 0, 1) := by decide +kernel
theorem d_L_shared_3 : decode method_16_code 3 = .ok (.iload_n 1, 1) := by decide +kernel
theorem d_L_shared_4 : decode method_16_code 4 = .ok (.iload_n 2, 1) := by decide +kernel
theorem d_L_shared_5 : decode method_16_code 5 = .ok (.invokevirtual 60, 3) := by decide +kernel
theorem d_L_shared_8 : decode method_16_code 8 = .ok (.i2l, 1) := by decide +kernel
theorem d_L_shared_9 : decode method_16_code 9 = .ok (.lastore, 1) := by decide +kernel
theorem d_L_shared_10 : decode method_16_code 10 = .ok (.goto 7, 3) := by decide +kernel
theorem d_L_shared_13 : decode method_16_code 13 = .ok (.astore 4, 2) := by decide +kernel
theorem d_L_shared_15 : decode method_16_code 15 = .ok (.iconst 1, 1) := by decide +kernel
theorem d_L_shared_16 : decode method_16_code 16 = .ok (.ireturn, 1) := by decide +kernel
theorem d_L_shared_17 : decode method_16_code 17 = .ok (.iconst 0, 1) := by decide +kernel
theorem d_L_shared_18 : decode method_16_code 18 = .ok (.ireturn, 1) := by decide +kernel
theorem d_L_same_0 : decode method_17_code 0 = .ok (.aload_n 3, 1) := by decide +kernel
theorem d_L_same_1 : decode method_17_code 1 = .ok (.iconst 0, 1) := by decide +kernel
theorem d_L_same_2 : decode method_17_code 2 = .ok (.aload_n 0, 1) := by decide +kernel
theorem d_L_same_3 : decode method_17_code 3 = .ok (.iload_n 1, 1) := by decide +kernel
theorem d_L_same_4 : decode method_17_code 4 = .ok (.iload_n 2, 1) := by decide +kernel
theorem d_L_same_5 : decode method_17_code 5 = .ok (.invokevirtual 63, 3) := by decide +kernel
theorem d_L_same_8 : decode method_17_code 8 = .ok (.ifCond .eq 7, 3) := by decide +kernel
theorem d_L_same_11 : decode method_17_code 11 = .ok (.lconst 1, 1) := by decide +kernel
theorem d_L_same_12 : decode method_17_code 12 = .ok (.goto 4, 3) := by decide +kernel
theorem d_L_same_15 : decode method_17_code 15 = .ok (.lconst 0, 1) := by decide +kernel
theorem d_L_same_16 : decode method_17_code 16 = .ok (.lastore, 1) := by decide +kernel
theorem d_L_same_17 : decode method_17_code 17 = .ok (.goto 7, 3) := by decide +kernel
theorem d_L_same_20 : decode method_17_code 20 = .ok (.astore 4, 2) := by decide +kernel
theorem d_L_same_22 : decode method_17_code 22 = .ok (.iconst 1, 1) := by decide +kernel
theorem d_L_same_23 : decode method_17_code 23 = .ok (.ireturn, 1) := by decide +kernel
theorem d_L_same_24 : decode method_17_code 24 = .ok (.iconst 0, 1) := by decide +kernel
theorem d_L_same_25 : decode method_17_code 25 = .ok (.ireturn, 1) := by decide +kernel
theorem d_L_runs_0 : decode method_18_code 0 = .ok (.aload_n 2, 1) := by decide +kernel
theorem d_L_runs_1 : decode method_18_code 1 = .ok (.iconst 0, 1) := by decide +kernel
theorem d_L_runs_2 : decode method_18_code 2 = .ok (.aload_n 0, 1) := by decide +kernel
theorem d_L_runs_3 : decode method_18_code 3 = .ok (.iload_n 1, 1) := by decide +kernel
theorem d_L_runs_4 : decode method_18_code 4 = .ok (.invokevirtual 67, 3) := by decide +kernel
theorem d_L_runs_7 : decode method_18_code 7 = .ok (.i2l, 1) := by decide +kernel
theorem d_L_runs_8 : decode method_18_code 8 = .ok (.lastore, 1) := by decide +kernel
theorem d_L_runs_9 : decode method_18_code 9 = .ok (.goto 6, 3) := by decide +kernel
theorem d_L_runs_12 : decode method_18_code 12 = .ok (.astore_n 3, 1) := by decide +kernel
theorem d_L_runs_13 : decode method_18_code 13 = .ok (.iconst 1, 1) := by decide +kernel
theorem d_L_runs_14 : decode method_18_code 14 = .ok (.ireturn, 1) := by decide +kernel
theorem d_L_runs_15 : decode method_18_code 15 = .ok (.iconst 0, 1) := by decide +kernel
theorem d_L_runs_16 : decode method_18_code 16 = .ok (.ireturn, 1) := by decide +kernel
theorem d_L_told_0 : decode method_19_code 0 = .ok (.aload_n 3, 1) := by decide +kernel
theorem d_L_told_1 : decode method_19_code 1 = .ok (.iconst 0, 1) := by decide +kernel
theorem d_L_told_2 : decode method_19_code 2 = .ok (.aload_n 0, 1) := by decide +kernel
theorem d_L_told_3 : decode method_19_code 3 = .ok (.iload_n 1, 1) := by decide +kernel
theorem d_L_told_4 : decode method_19_code 4 = .ok (.iload_n 2, 1) := by decide +kernel
theorem d_L_told_5 : decode method_19_code 5 = .ok (.invokevirtual 71, 3) := by decide +kernel
theorem d_L_told_8 : decode method_19_code 8 = .ok (.i2l, 1) := by decide +kernel
theorem d_L_told_9 : decode method_19_code 9 = .ok (.lastore, 1) := by decide +kernel
theorem d_L_told_10 : decode method_19_code 10 = .ok (.goto 11, 3) := by decide +kernel
theorem d_L_told_13 : decode method_19_code 13 = .ok (.astore 4, 2) := by decide +kernel
theorem d_L_told_15 : decode method_19_code 15 = .ok (.iconst 1, 1) := by decide +kernel
theorem d_L_told_16 : decode method_19_code 16 = .ok (.ireturn, 1) := by decide +kernel
theorem d_L_told_17 : decode method_19_code 17 = .ok (.astore 4, 2) := by decide +kernel
theorem d_L_told_19 : decode method_19_code 19 = .ok (.iconst 2, 1) := by decide +kernel
theorem d_L_told_20 : decode method_19_code 20 = .ok (.ireturn, 1) := by decide +kernel
theorem d_L_told_21 : decode method_19_code 21 = .ok (.iconst 0, 1) := by decide +kernel
theorem d_L_told_22 : decode method_19_code 22 = .ok (.ireturn, 1) := by decide +kernel
theorem d_L_axis_0 : decode method_20_code 0 = .ok (.aload 4, 2) := by decide +kernel
theorem d_L_axis_2 : decode method_20_code 2 = .ok (.iconst 0, 1) := by decide +kernel
theorem d_L_axis_3 : decode method_20_code 3 = .ok (.aload_n 0, 1) := by decide +kernel
theorem d_L_axis_4 : decode method_20_code 4 = .ok (.iload_n 1, 1) := by decide +kernel
theorem d_L_axis_5 : decode method_20_code 5 = .ok (.iload_n 2, 1) := by decide +kernel
theorem d_L_axis_6 : decode method_20_code 6 = .ok (.iload_n 3, 1) := by decide +kernel
theorem d_L_axis_7 : decode method_20_code 7 = .ok (.invokevirtual 74, 3) := by decide +kernel
theorem d_L_axis_10 : decode method_20_code 10 = .ok (.i2l, 1) := by decide +kernel
theorem d_L_axis_11 : decode method_20_code 11 = .ok (.lastore, 1) := by decide +kernel
theorem d_L_axis_12 : decode method_20_code 12 = .ok (.goto 11, 3) := by decide +kernel
theorem d_L_axis_15 : decode method_20_code 15 = .ok (.astore 5, 2) := by decide +kernel
theorem d_L_axis_17 : decode method_20_code 17 = .ok (.iconst 1, 1) := by decide +kernel
theorem d_L_axis_18 : decode method_20_code 18 = .ok (.ireturn, 1) := by decide +kernel
theorem d_L_axis_19 : decode method_20_code 19 = .ok (.astore 5, 2) := by decide +kernel
theorem d_L_axis_21 : decode method_20_code 21 = .ok (.iconst 2, 1) := by decide +kernel
theorem d_L_axis_22 : decode method_20_code 22 = .ok (.ireturn, 1) := by decide +kernel
theorem d_L_axis_23 : decode method_20_code 23 = .ok (.iconst 0, 1) := by decide +kernel
theorem d_L_axis_24 : decode method_20_code 24 = .ok (.ireturn, 1) := by decide +kernel
theorem d_L_stored_0 : decode method_21_code 0 = .ok (.aload_n 3, 1) := by decide +kernel
theorem d_L_stored_1 : decode method_21_code 1 = .ok (.iconst 0, 1) := by decide +kernel
theorem d_L_stored_2 : decode method_21_code 2 = .ok (.aload_n 0, 1) := by decide +kernel
theorem d_L_stored_3 : decode method_21_code 3 = .ok (.iload_n 1, 1) := by decide +kernel
theorem d_L_stored_4 : decode method_21_code 4 = .ok (.iload_n 2, 1) := by decide +kernel
theorem d_L_stored_5 : decode method_21_code 5 = .ok (.invokevirtual 77, 3) := by decide +kernel
theorem d_L_stored_8 : decode method_21_code 8 = .ok (.i2l, 1) := by decide +kernel
theorem d_L_stored_9 : decode method_21_code 9 = .ok (.lastore, 1) := by decide +kernel
theorem d_L_stored_10 : decode method_21_code 10 = .ok (.goto 11, 3) := by decide +kernel
theorem d_L_stored_13 : decode method_21_code 13 = .ok (.astore 4, 2) := by decide +kernel
theorem d_L_stored_15 : decode method_21_code 15 = .ok (.iconst 1, 1) := by decide +kernel
theorem d_L_stored_16 : decode method_21_code 16 = .ok (.ireturn, 1) := by decide +kernel
theorem d_L_stored_17 : decode method_21_code 17 = .ok (.astore 4, 2) := by decide +kernel
theorem d_L_stored_19 : decode method_21_code 19 = .ok (.iconst 2, 1) := by decide +kernel
theorem d_L_stored_20 : decode method_21_code 20 = .ok (.ireturn, 1) := by decide +kernel
theorem d_L_stored_21 : decode method_21_code 21 = .ok (.iconst 0, 1) := by decide +kernel
theorem d_L_stored_22 : decode method_21_code 22 = .ok (.ireturn, 1) := by decide +kernel
theorem d_L_count_0 : decode method_22_code 0 = .ok (.aload_n 2, 1) := by decide +kernel
theorem d_L_count_1 : decode method_22_code 1 = .ok (.iconst 0, 1) := by decide +kernel
theorem d_L_count_2 : decode method_22_code 2 = .ok (.aload_n 0, 1) := by decide +kernel
theorem d_L_count_3 : decode method_22_code 3 = .ok (.iload_n 1, 1) := by decide +kernel
theorem d_L_count_4 : decode method_22_code 4 = .ok (.invokevirtual 80, 3) := by decide +kernel
theorem d_L_count_7 : decode method_22_code 7 = .ok (.i2l, 1) := by decide +kernel
theorem d_L_count_8 : decode method_22_code 8 = .ok (.lastore, 1) := by decide +kernel
theorem d_L_count_9 : decode method_22_code 9 = .ok (.goto 6, 3) := by decide +kernel
theorem d_L_count_12 : decode method_22_code 12 = .ok (.astore_n 3, 1) := by decide +kernel
theorem d_L_count_13 : decode method_22_code 13 = .ok (.iconst 1, 1) := by decide +kernel
theorem d_L_count_14 : decode method_22_code 14 = .ok (.ireturn, 1) := by decide +kernel
theorem d_L_count_15 : decode method_22_code 15 = .ok (.iconst 0, 1) := by decide +kernel
theorem d_L_count_16 : decode method_22_code 16 = .ok (.ireturn, 1) := by decide +kernel
theorem d_L_law_0 : decode code 0 = .ok (.new 8, 3) := by decide +kernel
theorem d_L_law_3 : decode code 3 = .ok (.dup, 1) := by decide +kernel
theorem d_L_law_4 : decode code 4 = .ok (.invokespecial 83, 3) := by decide +kernel
theorem d_L_law_7 : decode code 7 = .ok (.astore_n 1, 1) := by decide +kernel
theorem d_L_law_8 : decode code 8 = .ok (.new 84, 3) := by decide +kernel
theorem d_L_law_11 : decode code 11 = .ok (.dup, 1) := by decide +kernel
theorem d_L_law_12 : decode code 12 = .ok (.invokespecial 86, 3) := by decide +kernel
theorem d_L_law_15 : decode code 15 = .ok (.astore_n 2, 1) := by decide +kernel
theorem d_L_law_16 : decode code 16 = .ok (.iconst 1, 1) := by decide +kernel
theorem d_L_law_17 : decode code 17 = .ok (.newarray .long, 2) := by decide +kernel
theorem d_L_law_19 : decode code 19 = .ok (.astore_n 3, 1) := by decide +kernel
theorem d_L_law_20 : decode code 20 = .ok (.iconst 0, 1) := by decide +kernel
theorem d_L_law_21 : decode code 21 = .ok (.istore 4, 2) := by decide +kernel
theorem d_L_law_23 : decode code 23 = .ok (.iload 4, 2) := by decide +kernel
theorem d_L_law_25 : decode code 25 = .ok (.aload_n 0, 1) := by decide +kernel
theorem d_L_law_26 : decode code 26 = .ok (.arraylength, 1) := by decide +kernel
theorem d_L_law_27 : decode code 27 = .ok (.bipush 6, 2) := by decide +kernel
theorem d_L_law_29 : decode code 29 = .ok (.isub, 1) := by decide +kernel
theorem d_L_law_30 : decode code 30 = .ok (.if_icmp .gt 1653, 3) := by decide +kernel
theorem d_L_law_33 : decode code 33 = .ok (.aload_n 0, 1) := by decide +kernel
theorem d_L_law_34 : decode code 34 = .ok (.iload 4, 2) := by decide +kernel
theorem d_L_law_36 : decode code 36 = .ok (.iaload, 1) := by decide +kernel
theorem d_L_law_37 : decode code 37 = .ok (.bipush 31, 2) := by decide +kernel
theorem d_L_law_39 : decode code 39 = .ok (.iand, 1) := by decide +kernel
theorem d_L_law_40 : decode code 40 = .ok (.tableswitch 1637 0 19 #[96, 164, 268, 348, 428, 508, 588, 680, 748, 815, 926, 994, 1086, 1166, 1234, 1309, 1365, 1433, 1513, 1581], 96) := by decide +kernel
theorem d_L_law_136 : decode code 136 = .ok (.aload_n 1, 1) := by decide +kernel
theorem d_L_law_137 : decode code 137 = .ok (.aload_n 0, 1) := by decide +kernel
theorem d_L_law_138 : decode code 138 = .ok (.iload 4, 2) := by decide +kernel
theorem d_L_law_140 : decode code 140 = .ok (.iconst 1, 1) := by decide +kernel
theorem d_L_law_141 : decode code 141 = .ok (.iadd, 1) := by decide +kernel
theorem d_L_law_142 : decode code 142 = .ok (.iaload, 1) := by decide +kernel
theorem d_L_law_143 : decode code 143 = .ok (.aload_n 0, 1) := by decide +kernel
theorem d_L_law_144 : decode code 144 = .ok (.iload 4, 2) := by decide +kernel
theorem d_L_law_146 : decode code 146 = .ok (.iconst 2, 1) := by decide +kernel
theorem d_L_law_147 : decode code 147 = .ok (.iadd, 1) := by decide +kernel
theorem d_L_law_148 : decode code 148 = .ok (.iaload, 1) := by decide +kernel
theorem d_L_law_149 : decode code 149 = .ok (.aload_n 3, 1) := by decide +kernel
theorem d_L_law_150 : decode code 150 = .ok (.invokestatic 87, 3) := by decide +kernel
theorem d_L_law_153 : decode code 153 = .ok (.istore 5, 2) := by decide +kernel
theorem d_L_law_155 : decode code 155 = .ok (.aload_n 2, 1) := by decide +kernel
theorem d_L_law_156 : decode code 156 = .ok (.aload_n 0, 1) := by decide +kernel
theorem d_L_law_157 : decode code 157 = .ok (.iload 4, 2) := by decide +kernel
theorem d_L_law_159 : decode code 159 = .ok (.iconst 1, 1) := by decide +kernel
theorem d_L_law_160 : decode code 160 = .ok (.iadd, 1) := by decide +kernel
theorem d_L_law_161 : decode code 161 = .ok (.iaload, 1) := by decide +kernel
theorem d_L_law_162 : decode code 162 = .ok (.aload_n 0, 1) := by decide +kernel
theorem d_L_law_163 : decode code 163 = .ok (.iload 4, 2) := by decide +kernel
theorem d_L_law_165 : decode code 165 = .ok (.iconst 2, 1) := by decide +kernel
theorem d_L_law_166 : decode code 166 = .ok (.iadd, 1) := by decide +kernel
theorem d_L_law_167 : decode code 167 = .ok (.iaload, 1) := by decide +kernel
theorem d_L_law_168 : decode code 168 = .ok (.invokevirtual 92, 3) := by decide +kernel
theorem d_L_law_171 : decode code 171 = .ok (.istore 6, 2) := by decide +kernel
theorem d_L_law_173 : decode code 173 = .ok (.aload_n 2, 1) := by decide +kernel
theorem d_L_law_174 : decode code 174 = .ok (.invokevirtual 93, 3) := by decide +kernel
theorem d_L_law_177 : decode code 177 = .ok (.iload 5, 2) := by decide +kernel
theorem d_L_law_179 : decode code 179 = .ok (.if_icmp .eq 5, 3) := by decide +kernel
theorem d_L_law_182 : decode code 182 = .ok (.iconst 0, 1) := by decide +kernel
theorem d_L_law_183 : decode code 183 = .ok (.ireturn, 1) := by decide +kernel
theorem d_L_law_184 : decode code 184 = .ok (.iload 5, 2) := by decide +kernel
theorem d_L_law_186 : decode code 186 = .ok (.ifCond .ne 15, 3) := by decide +kernel
theorem d_L_law_189 : decode code 189 = .ok (.aload_n 3, 1) := by decide +kernel
theorem d_L_law_190 : decode code 190 = .ok (.iconst 0, 1) := by decide +kernel
theorem d_L_law_191 : decode code 191 = .ok (.laload, 1) := by decide +kernel
theorem d_L_law_192 : decode code 192 = .ok (.iload 6, 2) := by decide +kernel
theorem d_L_law_194 : decode code 194 = .ok (.i2l, 1) := by decide +kernel
theorem d_L_law_195 : decode code 195 = .ok (.lcmp, 1) := by decide +kernel
theorem d_L_law_196 : decode code 196 = .ok (.ifCond .eq 5, 3) := by decide +kernel
theorem d_L_law_199 : decode code 199 = .ok (.iconst 0, 1) := by decide +kernel
theorem d_L_law_200 : decode code 200 = .ok (.ireturn, 1) := by decide +kernel
theorem d_L_law_201 : decode code 201 = .ok (.goto 1476, 3) := by decide +kernel
theorem d_L_law_204 : decode code 204 = .ok (.aload_n 1, 1) := by decide +kernel
theorem d_L_law_205 : decode code 205 = .ok (.aload_n 0, 1) := by decide +kernel
theorem d_L_law_206 : decode code 206 = .ok (.iload 4, 2) := by decide +kernel
theorem d_L_law_208 : decode code 208 = .ok (.iconst 1, 1) := by decide +kernel
theorem d_L_law_209 : decode code 209 = .ok (.iadd, 1) := by decide +kernel
theorem d_L_law_210 : decode code 210 = .ok (.iaload, 1) := by decide +kernel
theorem d_L_law_211 : decode code 211 = .ok (.aload_n 0, 1) := by decide +kernel
theorem d_L_law_212 : decode code 212 = .ok (.iload 4, 2) := by decide +kernel
theorem d_L_law_214 : decode code 214 = .ok (.iconst 2, 1) := by decide +kernel
theorem d_L_law_215 : decode code 215 = .ok (.iadd, 1) := by decide +kernel
theorem d_L_law_216 : decode code 216 = .ok (.iaload, 1) := by decide +kernel
theorem d_L_law_217 : decode code 217 = .ok (.aload_n 0, 1) := by decide +kernel
theorem d_L_law_218 : decode code 218 = .ok (.iload 4, 2) := by decide +kernel
theorem d_L_law_220 : decode code 220 = .ok (.iconst 3, 1) := by decide +kernel
theorem d_L_law_221 : decode code 221 = .ok (.iadd, 1) := by decide +kernel
theorem d_L_law_222 : decode code 222 = .ok (.iaload, 1) := by decide +kernel
theorem d_L_law_223 : decode code 223 = .ok (.aload_n 0, 1) := by decide +kernel
theorem d_L_law_224 : decode code 224 = .ok (.iload 4, 2) := by decide +kernel
theorem d_L_law_226 : decode code 226 = .ok (.iconst 4, 1) := by decide +kernel
theorem d_L_law_227 : decode code 227 = .ok (.iadd, 1) := by decide +kernel
theorem d_L_law_228 : decode code 228 = .ok (.iaload, 1) := by decide +kernel
theorem d_L_law_229 : decode code 229 = .ok (.aload_n 0, 1) := by decide +kernel
theorem d_L_law_230 : decode code 230 = .ok (.iload 4, 2) := by decide +kernel
theorem d_L_law_232 : decode code 232 = .ok (.iconst 5, 1) := by decide +kernel
theorem d_L_law_233 : decode code 233 = .ok (.iadd, 1) := by decide +kernel
theorem d_L_law_234 : decode code 234 = .ok (.iaload, 1) := by decide +kernel
theorem d_L_law_235 : decode code 235 = .ok (.aload_n 3, 1) := by decide +kernel
theorem d_L_law_236 : decode code 236 = .ok (.invokestatic 97, 3) := by decide +kernel
theorem d_L_law_239 : decode code 239 = .ok (.istore 5, 2) := by decide +kernel
theorem d_L_law_241 : decode code 241 = .ok (.aload_n 2, 1) := by decide +kernel
theorem d_L_law_242 : decode code 242 = .ok (.aload_n 0, 1) := by decide +kernel
theorem d_L_law_243 : decode code 243 = .ok (.iload 4, 2) := by decide +kernel
theorem d_L_law_245 : decode code 245 = .ok (.iconst 1, 1) := by decide +kernel
theorem d_L_law_246 : decode code 246 = .ok (.iadd, 1) := by decide +kernel
theorem d_L_law_247 : decode code 247 = .ok (.iaload, 1) := by decide +kernel
theorem d_L_law_248 : decode code 248 = .ok (.aload_n 0, 1) := by decide +kernel
theorem d_L_law_249 : decode code 249 = .ok (.iload 4, 2) := by decide +kernel
theorem d_L_law_251 : decode code 251 = .ok (.iconst 2, 1) := by decide +kernel
theorem d_L_law_252 : decode code 252 = .ok (.iadd, 1) := by decide +kernel
theorem d_L_law_253 : decode code 253 = .ok (.iaload, 1) := by decide +kernel
theorem d_L_law_254 : decode code 254 = .ok (.aload_n 0, 1) := by decide +kernel
theorem d_L_law_255 : decode code 255 = .ok (.iload 4, 2) := by decide +kernel
theorem d_L_law_257 : decode code 257 = .ok (.iconst 3, 1) := by decide +kernel
theorem d_L_law_258 : decode code 258 = .ok (.iadd, 1) := by decide +kernel
theorem d_L_law_259 : decode code 259 = .ok (.iaload, 1) := by decide +kernel
theorem d_L_law_260 : decode code 260 = .ok (.aload_n 0, 1) := by decide +kernel
theorem d_L_law_261 : decode code 261 = .ok (.iload 4, 2) := by decide +kernel
theorem d_L_law_263 : decode code 263 = .ok (.iconst 4, 1) := by decide +kernel
theorem d_L_law_264 : decode code 264 = .ok (.iadd, 1) := by decide +kernel
theorem d_L_law_265 : decode code 265 = .ok (.iaload, 1) := by decide +kernel
theorem d_L_law_266 : decode code 266 = .ok (.aload_n 0, 1) := by decide +kernel
theorem d_L_law_267 : decode code 267 = .ok (.iload 4, 2) := by decide +kernel
theorem d_L_law_269 : decode code 269 = .ok (.iconst 5, 1) := by decide +kernel
theorem d_L_law_270 : decode code 270 = .ok (.iadd, 1) := by decide +kernel
theorem d_L_law_271 : decode code 271 = .ok (.iaload, 1) := by decide +kernel
theorem d_L_law_272 : decode code 272 = .ok (.invokevirtual 100, 3) := by decide +kernel
theorem d_L_law_275 : decode code 275 = .ok (.istore 6, 2) := by decide +kernel
theorem d_L_law_277 : decode code 277 = .ok (.aload_n 2, 1) := by decide +kernel
theorem d_L_law_278 : decode code 278 = .ok (.invokevirtual 93, 3) := by decide +kernel
theorem d_L_law_281 : decode code 281 = .ok (.iload 5, 2) := by decide +kernel
theorem d_L_law_283 : decode code 283 = .ok (.if_icmp .eq 5, 3) := by decide +kernel
theorem d_L_law_286 : decode code 286 = .ok (.iconst 0, 1) := by decide +kernel
theorem d_L_law_287 : decode code 287 = .ok (.ireturn, 1) := by decide +kernel
theorem d_L_law_288 : decode code 288 = .ok (.iload 5, 2) := by decide +kernel
theorem d_L_law_290 : decode code 290 = .ok (.ifCond .ne 15, 3) := by decide +kernel
theorem d_L_law_293 : decode code 293 = .ok (.aload_n 3, 1) := by decide +kernel
theorem d_L_law_294 : decode code 294 = .ok (.iconst 0, 1) := by decide +kernel
theorem d_L_law_295 : decode code 295 = .ok (.laload, 1) := by decide +kernel
theorem d_L_law_296 : decode code 296 = .ok (.iload 6, 2) := by decide +kernel
theorem d_L_law_298 : decode code 298 = .ok (.i2l, 1) := by decide +kernel
theorem d_L_law_299 : decode code 299 = .ok (.lcmp, 1) := by decide +kernel
theorem d_L_law_300 : decode code 300 = .ok (.ifCond .eq 5, 3) := by decide +kernel
theorem d_L_law_303 : decode code 303 = .ok (.iconst 0, 1) := by decide +kernel
theorem d_L_law_304 : decode code 304 = .ok (.ireturn, 1) := by decide +kernel
theorem d_L_law_305 : decode code 305 = .ok (.goto 1372, 3) := by decide +kernel
theorem d_L_law_308 : decode code 308 = .ok (.aload_n 1, 1) := by decide +kernel
theorem d_L_law_309 : decode code 309 = .ok (.aload_n 0, 1) := by decide +kernel
theorem d_L_law_310 : decode code 310 = .ok (.iload 4, 2) := by decide +kernel
theorem d_L_law_312 : decode code 312 = .ok (.iconst 1, 1) := by decide +kernel
theorem d_L_law_313 : decode code 313 = .ok (.iadd, 1) := by decide +kernel
theorem d_L_law_314 : decode code 314 = .ok (.iaload, 1) := by decide +kernel
theorem d_L_law_315 : decode code 315 = .ok (.aload_n 0, 1) := by decide +kernel
theorem d_L_law_316 : decode code 316 = .ok (.iload 4, 2) := by decide +kernel
theorem d_L_law_318 : decode code 318 = .ok (.iconst 2, 1) := by decide +kernel
theorem d_L_law_319 : decode code 319 = .ok (.iadd, 1) := by decide +kernel
theorem d_L_law_320 : decode code 320 = .ok (.iaload, 1) := by decide +kernel
theorem d_L_law_321 : decode code 321 = .ok (.aload_n 0, 1) := by decide +kernel
theorem d_L_law_322 : decode code 322 = .ok (.iload 4, 2) := by decide +kernel
theorem d_L_law_324 : decode code 324 = .ok (.iconst 3, 1) := by decide +kernel
theorem d_L_law_325 : decode code 325 = .ok (.iadd, 1) := by decide +kernel
theorem d_L_law_326 : decode code 326 = .ok (.iaload, 1) := by decide +kernel
theorem d_L_law_327 : decode code 327 = .ok (.aload_n 3, 1) := by decide +kernel
theorem d_L_law_328 : decode code 328 = .ok (.invokestatic 101, 3) := by decide +kernel
theorem d_L_law_331 : decode code 331 = .ok (.istore 5, 2) := by decide +kernel
theorem d_L_law_333 : decode code 333 = .ok (.aload_n 2, 1) := by decide +kernel
theorem d_L_law_334 : decode code 334 = .ok (.aload_n 0, 1) := by decide +kernel
theorem d_L_law_335 : decode code 335 = .ok (.iload 4, 2) := by decide +kernel
theorem d_L_law_337 : decode code 337 = .ok (.iconst 1, 1) := by decide +kernel
theorem d_L_law_338 : decode code 338 = .ok (.iadd, 1) := by decide +kernel
theorem d_L_law_339 : decode code 339 = .ok (.iaload, 1) := by decide +kernel
theorem d_L_law_340 : decode code 340 = .ok (.aload_n 0, 1) := by decide +kernel
theorem d_L_law_341 : decode code 341 = .ok (.iload 4, 2) := by decide +kernel
theorem d_L_law_343 : decode code 343 = .ok (.iconst 2, 1) := by decide +kernel
theorem d_L_law_344 : decode code 344 = .ok (.iadd, 1) := by decide +kernel
theorem d_L_law_345 : decode code 345 = .ok (.iaload, 1) := by decide +kernel
theorem d_L_law_346 : decode code 346 = .ok (.aload_n 0, 1) := by decide +kernel
theorem d_L_law_347 : decode code 347 = .ok (.iload 4, 2) := by decide +kernel
theorem d_L_law_349 : decode code 349 = .ok (.iconst 3, 1) := by decide +kernel
theorem d_L_law_350 : decode code 350 = .ok (.iadd, 1) := by decide +kernel
theorem d_L_law_351 : decode code 351 = .ok (.iaload, 1) := by decide +kernel
theorem d_L_law_352 : decode code 352 = .ok (.invokevirtual 104, 3) := by decide +kernel
theorem d_L_law_355 : decode code 355 = .ok (.istore 6, 2) := by decide +kernel
theorem d_L_law_357 : decode code 357 = .ok (.aload_n 2, 1) := by decide +kernel
theorem d_L_law_358 : decode code 358 = .ok (.invokevirtual 93, 3) := by decide +kernel
theorem d_L_law_361 : decode code 361 = .ok (.iload 5, 2) := by decide +kernel
theorem d_L_law_363 : decode code 363 = .ok (.if_icmp .eq 5, 3) := by decide +kernel
theorem d_L_law_366 : decode code 366 = .ok (.iconst 0, 1) := by decide +kernel
theorem d_L_law_367 : decode code 367 = .ok (.ireturn, 1) := by decide +kernel
theorem d_L_law_368 : decode code 368 = .ok (.iload 5, 2) := by decide +kernel
theorem d_L_law_370 : decode code 370 = .ok (.ifCond .ne 15, 3) := by decide +kernel
theorem d_L_law_373 : decode code 373 = .ok (.aload_n 3, 1) := by decide +kernel
theorem d_L_law_374 : decode code 374 = .ok (.iconst 0, 1) := by decide +kernel
theorem d_L_law_375 : decode code 375 = .ok (.laload, 1) := by decide +kernel
theorem d_L_law_376 : decode code 376 = .ok (.iload 6, 2) := by decide +kernel
theorem d_L_law_378 : decode code 378 = .ok (.i2l, 1) := by decide +kernel
theorem d_L_law_379 : decode code 379 = .ok (.lcmp, 1) := by decide +kernel
theorem d_L_law_380 : decode code 380 = .ok (.ifCond .eq 5, 3) := by decide +kernel
theorem d_L_law_383 : decode code 383 = .ok (.iconst 0, 1) := by decide +kernel
theorem d_L_law_384 : decode code 384 = .ok (.ireturn, 1) := by decide +kernel
theorem d_L_law_385 : decode code 385 = .ok (.goto 1292, 3) := by decide +kernel
theorem d_L_law_388 : decode code 388 = .ok (.aload_n 1, 1) := by decide +kernel
theorem d_L_law_389 : decode code 389 = .ok (.aload_n 0, 1) := by decide +kernel
theorem d_L_law_390 : decode code 390 = .ok (.iload 4, 2) := by decide +kernel
theorem d_L_law_392 : decode code 392 = .ok (.iconst 1, 1) := by decide +kernel
theorem d_L_law_393 : decode code 393 = .ok (.iadd, 1) := by decide +kernel
theorem d_L_law_394 : decode code 394 = .ok (.iaload, 1) := by decide +kernel
theorem d_L_law_395 : decode code 395 = .ok (.aload_n 0, 1) := by decide +kernel
theorem d_L_law_396 : decode code 396 = .ok (.iload 4, 2) := by decide +kernel
theorem d_L_law_398 : decode code 398 = .ok (.iconst 2, 1) := by decide +kernel
theorem d_L_law_399 : decode code 399 = .ok (.iadd, 1) := by decide +kernel
theorem d_L_law_400 : decode code 400 = .ok (.iaload, 1) := by decide +kernel
theorem d_L_law_401 : decode code 401 = .ok (.aload_n 0, 1) := by decide +kernel
theorem d_L_law_402 : decode code 402 = .ok (.iload 4, 2) := by decide +kernel
theorem d_L_law_404 : decode code 404 = .ok (.iconst 3, 1) := by decide +kernel
theorem d_L_law_405 : decode code 405 = .ok (.iadd, 1) := by decide +kernel
theorem d_L_law_406 : decode code 406 = .ok (.iaload, 1) := by decide +kernel
theorem d_L_law_407 : decode code 407 = .ok (.aload_n 3, 1) := by decide +kernel
theorem d_L_law_408 : decode code 408 = .ok (.invokestatic 105, 3) := by decide +kernel
theorem d_L_law_411 : decode code 411 = .ok (.istore 5, 2) := by decide +kernel
theorem d_L_law_413 : decode code 413 = .ok (.aload_n 2, 1) := by decide +kernel
theorem d_L_law_414 : decode code 414 = .ok (.aload_n 0, 1) := by decide +kernel
theorem d_L_law_415 : decode code 415 = .ok (.iload 4, 2) := by decide +kernel
theorem d_L_law_417 : decode code 417 = .ok (.iconst 1, 1) := by decide +kernel
theorem d_L_law_418 : decode code 418 = .ok (.iadd, 1) := by decide +kernel
theorem d_L_law_419 : decode code 419 = .ok (.iaload, 1) := by decide +kernel
theorem d_L_law_420 : decode code 420 = .ok (.aload_n 0, 1) := by decide +kernel
theorem d_L_law_421 : decode code 421 = .ok (.iload 4, 2) := by decide +kernel
theorem d_L_law_423 : decode code 423 = .ok (.iconst 2, 1) := by decide +kernel
theorem d_L_law_424 : decode code 424 = .ok (.iadd, 1) := by decide +kernel
theorem d_L_law_425 : decode code 425 = .ok (.iaload, 1) := by decide +kernel
theorem d_L_law_426 : decode code 426 = .ok (.aload_n 0, 1) := by decide +kernel
theorem d_L_law_427 : decode code 427 = .ok (.iload 4, 2) := by decide +kernel
theorem d_L_law_429 : decode code 429 = .ok (.iconst 3, 1) := by decide +kernel
theorem d_L_law_430 : decode code 430 = .ok (.iadd, 1) := by decide +kernel
theorem d_L_law_431 : decode code 431 = .ok (.iaload, 1) := by decide +kernel
theorem d_L_law_432 : decode code 432 = .ok (.invokevirtual 107, 3) := by decide +kernel
theorem d_L_law_435 : decode code 435 = .ok (.istore 6, 2) := by decide +kernel
theorem d_L_law_437 : decode code 437 = .ok (.aload_n 2, 1) := by decide +kernel
theorem d_L_law_438 : decode code 438 = .ok (.invokevirtual 93, 3) := by decide +kernel
theorem d_L_law_441 : decode code 441 = .ok (.iload 5, 2) := by decide +kernel
theorem d_L_law_443 : decode code 443 = .ok (.if_icmp .eq 5, 3) := by decide +kernel
theorem d_L_law_446 : decode code 446 = .ok (.iconst 0, 1) := by decide +kernel
theorem d_L_law_447 : decode code 447 = .ok (.ireturn, 1) := by decide +kernel
theorem d_L_law_448 : decode code 448 = .ok (.iload 5, 2) := by decide +kernel
theorem d_L_law_450 : decode code 450 = .ok (.ifCond .ne 15, 3) := by decide +kernel
theorem d_L_law_453 : decode code 453 = .ok (.aload_n 3, 1) := by decide +kernel
theorem d_L_law_454 : decode code 454 = .ok (.iconst 0, 1) := by decide +kernel
theorem d_L_law_455 : decode code 455 = .ok (.laload, 1) := by decide +kernel
theorem d_L_law_456 : decode code 456 = .ok (.iload 6, 2) := by decide +kernel
theorem d_L_law_458 : decode code 458 = .ok (.i2l, 1) := by decide +kernel
theorem d_L_law_459 : decode code 459 = .ok (.lcmp, 1) := by decide +kernel
theorem d_L_law_460 : decode code 460 = .ok (.ifCond .eq 5, 3) := by decide +kernel
theorem d_L_law_463 : decode code 463 = .ok (.iconst 0, 1) := by decide +kernel
theorem d_L_law_464 : decode code 464 = .ok (.ireturn, 1) := by decide +kernel
theorem d_L_law_465 : decode code 465 = .ok (.goto 1212, 3) := by decide +kernel
theorem d_L_law_468 : decode code 468 = .ok (.aload_n 1, 1) := by decide +kernel
theorem d_L_law_469 : decode code 469 = .ok (.aload_n 0, 1) := by decide +kernel
theorem d_L_law_470 : decode code 470 = .ok (.iload 4, 2) := by decide +kernel
theorem d_L_law_472 : decode code 472 = .ok (.iconst 1, 1) := by decide +kernel
theorem d_L_law_473 : decode code 473 = .ok (.iadd, 1) := by decide +kernel
theorem d_L_law_474 : decode code 474 = .ok (.iaload, 1) := by decide +kernel
theorem d_L_law_475 : decode code 475 = .ok (.aload_n 0, 1) := by decide +kernel
theorem d_L_law_476 : decode code 476 = .ok (.iload 4, 2) := by decide +kernel
theorem d_L_law_478 : decode code 478 = .ok (.iconst 2, 1) := by decide +kernel
theorem d_L_law_479 : decode code 479 = .ok (.iadd, 1) := by decide +kernel
theorem d_L_law_480 : decode code 480 = .ok (.iaload, 1) := by decide +kernel
theorem d_L_law_481 : decode code 481 = .ok (.aload_n 0, 1) := by decide +kernel
theorem d_L_law_482 : decode code 482 = .ok (.iload 4, 2) := by decide +kernel
theorem d_L_law_484 : decode code 484 = .ok (.iconst 3, 1) := by decide +kernel
theorem d_L_law_485 : decode code 485 = .ok (.iadd, 1) := by decide +kernel
theorem d_L_law_486 : decode code 486 = .ok (.iaload, 1) := by decide +kernel
theorem d_L_law_487 : decode code 487 = .ok (.aload_n 3, 1) := by decide +kernel
theorem d_L_law_488 : decode code 488 = .ok (.invokestatic 108, 3) := by decide +kernel
theorem d_L_law_491 : decode code 491 = .ok (.istore 5, 2) := by decide +kernel
theorem d_L_law_493 : decode code 493 = .ok (.aload_n 2, 1) := by decide +kernel
theorem d_L_law_494 : decode code 494 = .ok (.aload_n 0, 1) := by decide +kernel
theorem d_L_law_495 : decode code 495 = .ok (.iload 4, 2) := by decide +kernel
theorem d_L_law_497 : decode code 497 = .ok (.iconst 1, 1) := by decide +kernel
theorem d_L_law_498 : decode code 498 = .ok (.iadd, 1) := by decide +kernel
theorem d_L_law_499 : decode code 499 = .ok (.iaload, 1) := by decide +kernel
theorem d_L_law_500 : decode code 500 = .ok (.aload_n 0, 1) := by decide +kernel
theorem d_L_law_501 : decode code 501 = .ok (.iload 4, 2) := by decide +kernel
theorem d_L_law_503 : decode code 503 = .ok (.iconst 2, 1) := by decide +kernel
theorem d_L_law_504 : decode code 504 = .ok (.iadd, 1) := by decide +kernel
theorem d_L_law_505 : decode code 505 = .ok (.iaload, 1) := by decide +kernel
theorem d_L_law_506 : decode code 506 = .ok (.aload_n 0, 1) := by decide +kernel
theorem d_L_law_507 : decode code 507 = .ok (.iload 4, 2) := by decide +kernel
theorem d_L_law_509 : decode code 509 = .ok (.iconst 3, 1) := by decide +kernel
theorem d_L_law_510 : decode code 510 = .ok (.iadd, 1) := by decide +kernel
theorem d_L_law_511 : decode code 511 = .ok (.iaload, 1) := by decide +kernel
theorem d_L_law_512 : decode code 512 = .ok (.invokevirtual 110, 3) := by decide +kernel
theorem d_L_law_515 : decode code 515 = .ok (.istore 6, 2) := by decide +kernel
theorem d_L_law_517 : decode code 517 = .ok (.aload_n 2, 1) := by decide +kernel
theorem d_L_law_518 : decode code 518 = .ok (.invokevirtual 93, 3) := by decide +kernel
theorem d_L_law_521 : decode code 521 = .ok (.iload 5, 2) := by decide +kernel
theorem d_L_law_523 : decode code 523 = .ok (.if_icmp .eq 5, 3) := by decide +kernel
theorem d_L_law_526 : decode code 526 = .ok (.iconst 0, 1) := by decide +kernel
theorem d_L_law_527 : decode code 527 = .ok (.ireturn, 1) := by decide +kernel
theorem d_L_law_528 : decode code 528 = .ok (.iload 5, 2) := by decide +kernel
theorem d_L_law_530 : decode code 530 = .ok (.ifCond .ne 15, 3) := by decide +kernel
theorem d_L_law_533 : decode code 533 = .ok (.aload_n 3, 1) := by decide +kernel
theorem d_L_law_534 : decode code 534 = .ok (.iconst 0, 1) := by decide +kernel
theorem d_L_law_535 : decode code 535 = .ok (.laload, 1) := by decide +kernel
theorem d_L_law_536 : decode code 536 = .ok (.iload 6, 2) := by decide +kernel
theorem d_L_law_538 : decode code 538 = .ok (.i2l, 1) := by decide +kernel
theorem d_L_law_539 : decode code 539 = .ok (.lcmp, 1) := by decide +kernel
theorem d_L_law_540 : decode code 540 = .ok (.ifCond .eq 5, 3) := by decide +kernel
theorem d_L_law_543 : decode code 543 = .ok (.iconst 0, 1) := by decide +kernel
theorem d_L_law_544 : decode code 544 = .ok (.ireturn, 1) := by decide +kernel
theorem d_L_law_545 : decode code 545 = .ok (.goto 1132, 3) := by decide +kernel
theorem d_L_law_548 : decode code 548 = .ok (.aload_n 1, 1) := by decide +kernel
theorem d_L_law_549 : decode code 549 = .ok (.aload_n 0, 1) := by decide +kernel
theorem d_L_law_550 : decode code 550 = .ok (.iload 4, 2) := by decide +kernel
theorem d_L_law_552 : decode code 552 = .ok (.iconst 1, 1) := by decide +kernel
theorem d_L_law_553 : decode code 553 = .ok (.iadd, 1) := by decide +kernel
theorem d_L_law_554 : decode code 554 = .ok (.iaload, 1) := by decide +kernel
theorem d_L_law_555 : decode code 555 = .ok (.aload_n 0, 1) := by decide +kernel
theorem d_L_law_556 : decode code 556 = .ok (.iload 4, 2) := by decide +kernel
theorem d_L_law_558 : decode code 558 = .ok (.iconst 2, 1) := by decide +kernel
theorem d_L_law_559 : decode code 559 = .ok (.iadd, 1) := by decide +kernel
theorem d_L_law_560 : decode code 560 = .ok (.iaload, 1) := by decide +kernel
theorem d_L_law_561 : decode code 561 = .ok (.aload_n 0, 1) := by decide +kernel
theorem d_L_law_562 : decode code 562 = .ok (.iload 4, 2) := by decide +kernel
theorem d_L_law_564 : decode code 564 = .ok (.iconst 3, 1) := by decide +kernel
theorem d_L_law_565 : decode code 565 = .ok (.iadd, 1) := by decide +kernel
theorem d_L_law_566 : decode code 566 = .ok (.iaload, 1) := by decide +kernel
theorem d_L_law_567 : decode code 567 = .ok (.aload_n 3, 1) := by decide +kernel
theorem d_L_law_568 : decode code 568 = .ok (.invokestatic 111, 3) := by decide +kernel
theorem d_L_law_571 : decode code 571 = .ok (.istore 5, 2) := by decide +kernel
theorem d_L_law_573 : decode code 573 = .ok (.aload_n 2, 1) := by decide +kernel
theorem d_L_law_574 : decode code 574 = .ok (.aload_n 0, 1) := by decide +kernel
theorem d_L_law_575 : decode code 575 = .ok (.iload 4, 2) := by decide +kernel
theorem d_L_law_577 : decode code 577 = .ok (.iconst 1, 1) := by decide +kernel
theorem d_L_law_578 : decode code 578 = .ok (.iadd, 1) := by decide +kernel
theorem d_L_law_579 : decode code 579 = .ok (.iaload, 1) := by decide +kernel
theorem d_L_law_580 : decode code 580 = .ok (.aload_n 0, 1) := by decide +kernel
theorem d_L_law_581 : decode code 581 = .ok (.iload 4, 2) := by decide +kernel
theorem d_L_law_583 : decode code 583 = .ok (.iconst 2, 1) := by decide +kernel
theorem d_L_law_584 : decode code 584 = .ok (.iadd, 1) := by decide +kernel
theorem d_L_law_585 : decode code 585 = .ok (.iaload, 1) := by decide +kernel
theorem d_L_law_586 : decode code 586 = .ok (.aload_n 0, 1) := by decide +kernel
theorem d_L_law_587 : decode code 587 = .ok (.iload 4, 2) := by decide +kernel
theorem d_L_law_589 : decode code 589 = .ok (.iconst 3, 1) := by decide +kernel
theorem d_L_law_590 : decode code 590 = .ok (.iadd, 1) := by decide +kernel
theorem d_L_law_591 : decode code 591 = .ok (.iaload, 1) := by decide +kernel
theorem d_L_law_592 : decode code 592 = .ok (.invokevirtual 113, 3) := by decide +kernel
theorem d_L_law_595 : decode code 595 = .ok (.istore 6, 2) := by decide +kernel
theorem d_L_law_597 : decode code 597 = .ok (.aload_n 2, 1) := by decide +kernel
theorem d_L_law_598 : decode code 598 = .ok (.invokevirtual 93, 3) := by decide +kernel
theorem d_L_law_601 : decode code 601 = .ok (.iload 5, 2) := by decide +kernel
theorem d_L_law_603 : decode code 603 = .ok (.if_icmp .eq 5, 3) := by decide +kernel
theorem d_L_law_606 : decode code 606 = .ok (.iconst 0, 1) := by decide +kernel
theorem d_L_law_607 : decode code 607 = .ok (.ireturn, 1) := by decide +kernel
theorem d_L_law_608 : decode code 608 = .ok (.iload 5, 2) := by decide +kernel
theorem d_L_law_610 : decode code 610 = .ok (.ifCond .ne 15, 3) := by decide +kernel
theorem d_L_law_613 : decode code 613 = .ok (.aload_n 3, 1) := by decide +kernel
theorem d_L_law_614 : decode code 614 = .ok (.iconst 0, 1) := by decide +kernel
theorem d_L_law_615 : decode code 615 = .ok (.laload, 1) := by decide +kernel
theorem d_L_law_616 : decode code 616 = .ok (.iload 6, 2) := by decide +kernel
theorem d_L_law_618 : decode code 618 = .ok (.i2l, 1) := by decide +kernel
theorem d_L_law_619 : decode code 619 = .ok (.lcmp, 1) := by decide +kernel
theorem d_L_law_620 : decode code 620 = .ok (.ifCond .eq 5, 3) := by decide +kernel
theorem d_L_law_623 : decode code 623 = .ok (.iconst 0, 1) := by decide +kernel
theorem d_L_law_624 : decode code 624 = .ok (.ireturn, 1) := by decide +kernel
theorem d_L_law_625 : decode code 625 = .ok (.goto 1052, 3) := by decide +kernel
theorem d_L_law_628 : decode code 628 = .ok (.aload_n 1, 1) := by decide +kernel
theorem d_L_law_629 : decode code 629 = .ok (.aload_n 0, 1) := by decide +kernel
theorem d_L_law_630 : decode code 630 = .ok (.iload 4, 2) := by decide +kernel
theorem d_L_law_632 : decode code 632 = .ok (.iconst 1, 1) := by decide +kernel
theorem d_L_law_633 : decode code 633 = .ok (.iadd, 1) := by decide +kernel
theorem d_L_law_634 : decode code 634 = .ok (.iaload, 1) := by decide +kernel
theorem d_L_law_635 : decode code 635 = .ok (.aload_n 0, 1) := by decide +kernel
theorem d_L_law_636 : decode code 636 = .ok (.iload 4, 2) := by decide +kernel
theorem d_L_law_638 : decode code 638 = .ok (.iconst 2, 1) := by decide +kernel
theorem d_L_law_639 : decode code 639 = .ok (.iadd, 1) := by decide +kernel
theorem d_L_law_640 : decode code 640 = .ok (.iaload, 1) := by decide +kernel
theorem d_L_law_641 : decode code 641 = .ok (.aload_n 0, 1) := by decide +kernel
theorem d_L_law_642 : decode code 642 = .ok (.iload 4, 2) := by decide +kernel
theorem d_L_law_644 : decode code 644 = .ok (.iconst 3, 1) := by decide +kernel
theorem d_L_law_645 : decode code 645 = .ok (.iadd, 1) := by decide +kernel
theorem d_L_law_646 : decode code 646 = .ok (.iaload, 1) := by decide +kernel
theorem d_L_law_647 : decode code 647 = .ok (.aload_n 0, 1) := by decide +kernel
theorem d_L_law_648 : decode code 648 = .ok (.iload 4, 2) := by decide +kernel
theorem d_L_law_650 : decode code 650 = .ok (.iconst 4, 1) := by decide +kernel
theorem d_L_law_651 : decode code 651 = .ok (.iadd, 1) := by decide +kernel
theorem d_L_law_652 : decode code 652 = .ok (.iaload, 1) := by decide +kernel
theorem d_L_law_653 : decode code 653 = .ok (.aload_n 3, 1) := by decide +kernel
theorem d_L_law_654 : decode code 654 = .ok (.invokestatic 114, 3) := by decide +kernel
theorem d_L_law_657 : decode code 657 = .ok (.istore 5, 2) := by decide +kernel
theorem d_L_law_659 : decode code 659 = .ok (.aload_n 2, 1) := by decide +kernel
theorem d_L_law_660 : decode code 660 = .ok (.aload_n 0, 1) := by decide +kernel
theorem d_L_law_661 : decode code 661 = .ok (.iload 4, 2) := by decide +kernel
theorem d_L_law_663 : decode code 663 = .ok (.iconst 1, 1) := by decide +kernel
theorem d_L_law_664 : decode code 664 = .ok (.iadd, 1) := by decide +kernel
theorem d_L_law_665 : decode code 665 = .ok (.iaload, 1) := by decide +kernel
theorem d_L_law_666 : decode code 666 = .ok (.aload_n 0, 1) := by decide +kernel
theorem d_L_law_667 : decode code 667 = .ok (.iload 4, 2) := by decide +kernel
theorem d_L_law_669 : decode code 669 = .ok (.iconst 2, 1) := by decide +kernel
theorem d_L_law_670 : decode code 670 = .ok (.iadd, 1) := by decide +kernel
theorem d_L_law_671 : decode code 671 = .ok (.iaload, 1) := by decide +kernel
theorem d_L_law_672 : decode code 672 = .ok (.aload_n 0, 1) := by decide +kernel
theorem d_L_law_673 : decode code 673 = .ok (.iload 4, 2) := by decide +kernel
theorem d_L_law_675 : decode code 675 = .ok (.iconst 3, 1) := by decide +kernel
theorem d_L_law_676 : decode code 676 = .ok (.iadd, 1) := by decide +kernel
theorem d_L_law_677 : decode code 677 = .ok (.iaload, 1) := by decide +kernel
theorem d_L_law_678 : decode code 678 = .ok (.aload_n 0, 1) := by decide +kernel
theorem d_L_law_679 : decode code 679 = .ok (.iload 4, 2) := by decide +kernel
theorem d_L_law_681 : decode code 681 = .ok (.iconst 4, 1) := by decide +kernel
theorem d_L_law_682 : decode code 682 = .ok (.iadd, 1) := by decide +kernel
theorem d_L_law_683 : decode code 683 = .ok (.iaload, 1) := by decide +kernel
theorem d_L_law_684 : decode code 684 = .ok (.invokevirtual 117, 3) := by decide +kernel
theorem d_L_law_687 : decode code 687 = .ok (.istore 6, 2) := by decide +kernel
theorem d_L_law_689 : decode code 689 = .ok (.aload_n 2, 1) := by decide +kernel
theorem d_L_law_690 : decode code 690 = .ok (.invokevirtual 93, 3) := by decide +kernel
theorem d_L_law_693 : decode code 693 = .ok (.iload 5, 2) := by decide +kernel
theorem d_L_law_695 : decode code 695 = .ok (.if_icmp .eq 5, 3) := by decide +kernel
theorem d_L_law_698 : decode code 698 = .ok (.iconst 0, 1) := by decide +kernel
theorem d_L_law_699 : decode code 699 = .ok (.ireturn, 1) := by decide +kernel
theorem d_L_law_700 : decode code 700 = .ok (.iload 5, 2) := by decide +kernel
theorem d_L_law_702 : decode code 702 = .ok (.ifCond .ne 15, 3) := by decide +kernel
theorem d_L_law_705 : decode code 705 = .ok (.aload_n 3, 1) := by decide +kernel
theorem d_L_law_706 : decode code 706 = .ok (.iconst 0, 1) := by decide +kernel
theorem d_L_law_707 : decode code 707 = .ok (.laload, 1) := by decide +kernel
theorem d_L_law_708 : decode code 708 = .ok (.iload 6, 2) := by decide +kernel
theorem d_L_law_710 : decode code 710 = .ok (.i2l, 1) := by decide +kernel
theorem d_L_law_711 : decode code 711 = .ok (.lcmp, 1) := by decide +kernel
theorem d_L_law_712 : decode code 712 = .ok (.ifCond .eq 5, 3) := by decide +kernel
theorem d_L_law_715 : decode code 715 = .ok (.iconst 0, 1) := by decide +kernel
theorem d_L_law_716 : decode code 716 = .ok (.ireturn, 1) := by decide +kernel
theorem d_L_law_717 : decode code 717 = .ok (.goto 960, 3) := by decide +kernel
theorem d_L_law_720 : decode code 720 = .ok (.aload_n 1, 1) := by decide +kernel
theorem d_L_law_721 : decode code 721 = .ok (.aload_n 0, 1) := by decide +kernel
theorem d_L_law_722 : decode code 722 = .ok (.iload 4, 2) := by decide +kernel
theorem d_L_law_724 : decode code 724 = .ok (.iconst 1, 1) := by decide +kernel
theorem d_L_law_725 : decode code 725 = .ok (.iadd, 1) := by decide +kernel
theorem d_L_law_726 : decode code 726 = .ok (.iaload, 1) := by decide +kernel
theorem d_L_law_727 : decode code 727 = .ok (.aload_n 0, 1) := by decide +kernel
theorem d_L_law_728 : decode code 728 = .ok (.iload 4, 2) := by decide +kernel
theorem d_L_law_730 : decode code 730 = .ok (.iconst 2, 1) := by decide +kernel
theorem d_L_law_731 : decode code 731 = .ok (.iadd, 1) := by decide +kernel
theorem d_L_law_732 : decode code 732 = .ok (.iaload, 1) := by decide +kernel
theorem d_L_law_733 : decode code 733 = .ok (.aload_n 3, 1) := by decide +kernel
theorem d_L_law_734 : decode code 734 = .ok (.invokestatic 118, 3) := by decide +kernel
theorem d_L_law_737 : decode code 737 = .ok (.istore 5, 2) := by decide +kernel
theorem d_L_law_739 : decode code 739 = .ok (.aload_n 2, 1) := by decide +kernel
theorem d_L_law_740 : decode code 740 = .ok (.aload_n 0, 1) := by decide +kernel
theorem d_L_law_741 : decode code 741 = .ok (.iload 4, 2) := by decide +kernel
theorem d_L_law_743 : decode code 743 = .ok (.iconst 1, 1) := by decide +kernel
theorem d_L_law_744 : decode code 744 = .ok (.iadd, 1) := by decide +kernel
theorem d_L_law_745 : decode code 745 = .ok (.iaload, 1) := by decide +kernel
theorem d_L_law_746 : decode code 746 = .ok (.aload_n 0, 1) := by decide +kernel
theorem d_L_law_747 : decode code 747 = .ok (.iload 4, 2) := by decide +kernel
theorem d_L_law_749 : decode code 749 = .ok (.iconst 2, 1) := by decide +kernel
theorem d_L_law_750 : decode code 750 = .ok (.iadd, 1) := by decide +kernel
theorem d_L_law_751 : decode code 751 = .ok (.iaload, 1) := by decide +kernel
theorem d_L_law_752 : decode code 752 = .ok (.invokevirtual 120, 3) := by decide +kernel
theorem d_L_law_755 : decode code 755 = .ok (.istore 6, 2) := by decide +kernel
theorem d_L_law_757 : decode code 757 = .ok (.aload_n 2, 1) := by decide +kernel
theorem d_L_law_758 : decode code 758 = .ok (.invokevirtual 93, 3) := by decide +kernel
theorem d_L_law_761 : decode code 761 = .ok (.iload 5, 2) := by decide +kernel
theorem d_L_law_763 : decode code 763 = .ok (.if_icmp .eq 5, 3) := by decide +kernel
theorem d_L_law_766 : decode code 766 = .ok (.iconst 0, 1) := by decide +kernel
theorem d_L_law_767 : decode code 767 = .ok (.ireturn, 1) := by decide +kernel
theorem d_L_law_768 : decode code 768 = .ok (.iload 5, 2) := by decide +kernel
theorem d_L_law_770 : decode code 770 = .ok (.ifCond .ne 15, 3) := by decide +kernel
theorem d_L_law_773 : decode code 773 = .ok (.aload_n 3, 1) := by decide +kernel
theorem d_L_law_774 : decode code 774 = .ok (.iconst 0, 1) := by decide +kernel
theorem d_L_law_775 : decode code 775 = .ok (.laload, 1) := by decide +kernel
theorem d_L_law_776 : decode code 776 = .ok (.iload 6, 2) := by decide +kernel
theorem d_L_law_778 : decode code 778 = .ok (.i2l, 1) := by decide +kernel
theorem d_L_law_779 : decode code 779 = .ok (.lcmp, 1) := by decide +kernel
theorem d_L_law_780 : decode code 780 = .ok (.ifCond .eq 5, 3) := by decide +kernel
theorem d_L_law_783 : decode code 783 = .ok (.iconst 0, 1) := by decide +kernel
theorem d_L_law_784 : decode code 784 = .ok (.ireturn, 1) := by decide +kernel
theorem d_L_law_785 : decode code 785 = .ok (.goto 892, 3) := by decide +kernel
theorem d_L_law_788 : decode code 788 = .ok (.aload_n 1, 1) := by decide +kernel
theorem d_L_law_789 : decode code 789 = .ok (.aload_n 0, 1) := by decide +kernel
theorem d_L_law_790 : decode code 790 = .ok (.iload 4, 2) := by decide +kernel
theorem d_L_law_792 : decode code 792 = .ok (.iconst 1, 1) := by decide +kernel
theorem d_L_law_793 : decode code 793 = .ok (.iadd, 1) := by decide +kernel
theorem d_L_law_794 : decode code 794 = .ok (.iaload, 1) := by decide +kernel
theorem d_L_law_795 : decode code 795 = .ok (.aload_n 0, 1) := by decide +kernel
theorem d_L_law_796 : decode code 796 = .ok (.iload 4, 2) := by decide +kernel
theorem d_L_law_798 : decode code 798 = .ok (.iconst 2, 1) := by decide +kernel
theorem d_L_law_799 : decode code 799 = .ok (.iadd, 1) := by decide +kernel
theorem d_L_law_800 : decode code 800 = .ok (.iaload, 1) := by decide +kernel
theorem d_L_law_801 : decode code 801 = .ok (.aload_n 3, 1) := by decide +kernel
theorem d_L_law_802 : decode code 802 = .ok (.invokestatic 121, 3) := by decide +kernel
theorem d_L_law_805 : decode code 805 = .ok (.istore 5, 2) := by decide +kernel
theorem d_L_law_807 : decode code 807 = .ok (.aload_n 2, 1) := by decide +kernel
theorem d_L_law_808 : decode code 808 = .ok (.aload_n 0, 1) := by decide +kernel
theorem d_L_law_809 : decode code 809 = .ok (.iload 4, 2) := by decide +kernel
theorem d_L_law_811 : decode code 811 = .ok (.iconst 1, 1) := by decide +kernel
theorem d_L_law_812 : decode code 812 = .ok (.iadd, 1) := by decide +kernel
theorem d_L_law_813 : decode code 813 = .ok (.iaload, 1) := by decide +kernel
theorem d_L_law_814 : decode code 814 = .ok (.aload_n 0, 1) := by decide +kernel
theorem d_L_law_815 : decode code 815 = .ok (.iload 4, 2) := by decide +kernel
theorem d_L_law_817 : decode code 817 = .ok (.iconst 2, 1) := by decide +kernel
theorem d_L_law_818 : decode code 818 = .ok (.iadd, 1) := by decide +kernel
theorem d_L_law_819 : decode code 819 = .ok (.iaload, 1) := by decide +kernel
theorem d_L_law_820 : decode code 820 = .ok (.invokevirtual 123, 3) := by decide +kernel
theorem d_L_law_823 : decode code 823 = .ok (.lstore 6, 2) := by decide +kernel
theorem d_L_law_825 : decode code 825 = .ok (.aload_n 2, 1) := by decide +kernel
theorem d_L_law_826 : decode code 826 = .ok (.invokevirtual 93, 3) := by decide +kernel
theorem d_L_law_829 : decode code 829 = .ok (.iload 5, 2) := by decide +kernel
theorem d_L_law_831 : decode code 831 = .ok (.if_icmp .eq 5, 3) := by decide +kernel
theorem d_L_law_834 : decode code 834 = .ok (.iconst 0, 1) := by decide +kernel
theorem d_L_law_835 : decode code 835 = .ok (.ireturn, 1) := by decide +kernel
theorem d_L_law_836 : decode code 836 = .ok (.iload 5, 2) := by decide +kernel
theorem d_L_law_838 : decode code 838 = .ok (.ifCond .ne 14, 3) := by decide +kernel
theorem d_L_law_841 : decode code 841 = .ok (.aload_n 3, 1) := by decide +kernel
theorem d_L_law_842 : decode code 842 = .ok (.iconst 0, 1) := by decide +kernel
theorem d_L_law_843 : decode code 843 = .ok (.laload, 1) := by decide +kernel
theorem d_L_law_844 : decode code 844 = .ok (.lload 6, 2) := by decide +kernel
theorem d_L_law_846 : decode code 846 = .ok (.lcmp, 1) := by decide +kernel
theorem d_L_law_847 : decode code 847 = .ok (.ifCond .eq 5, 3) := by decide +kernel
theorem d_L_law_850 : decode code 850 = .ok (.iconst 0, 1) := by decide +kernel
theorem d_L_law_851 : decode code 851 = .ok (.ireturn, 1) := by decide +kernel
theorem d_L_law_852 : decode code 852 = .ok (.goto 825, 3) := by decide +kernel
theorem d_L_law_855 : decode code 855 = .ok (.aload_n 1, 1) := by decide +kernel
theorem d_L_law_856 : decode code 856 = .ok (.aload_n 0, 1) := by decide +kernel
theorem d_L_law_857 : decode code 857 = .ok (.iload 4, 2) := by decide +kernel
theorem d_L_law_859 : decode code 859 = .ok (.iconst 1, 1) := by decide +kernel
theorem d_L_law_860 : decode code 860 = .ok (.iadd, 1) := by decide +kernel
theorem d_L_law_861 : decode code 861 = .ok (.iaload, 1) := by decide +kernel
theorem d_L_law_862 : decode code 862 = .ok (.aload_n 0, 1) := by decide +kernel
theorem d_L_law_863 : decode code 863 = .ok (.iload 4, 2) := by decide +kernel
theorem d_L_law_865 : decode code 865 = .ok (.iconst 2, 1) := by decide +kernel
theorem d_L_law_866 : decode code 866 = .ok (.iadd, 1) := by decide +kernel
theorem d_L_law_867 : decode code 867 = .ok (.iaload, 1) := by decide +kernel
theorem d_L_law_868 : decode code 868 = .ok (.aload_n 0, 1) := by decide +kernel
theorem d_L_law_869 : decode code 869 = .ok (.iload 4, 2) := by decide +kernel
theorem d_L_law_871 : decode code 871 = .ok (.iconst 3, 1) := by decide +kernel
theorem d_L_law_872 : decode code 872 = .ok (.iadd, 1) := by decide +kernel
theorem d_L_law_873 : decode code 873 = .ok (.iaload, 1) := by decide +kernel
theorem d_L_law_874 : decode code 874 = .ok (.i2l, 1) := by decide +kernel
theorem d_L_law_875 : decode code 875 = .ok (.bipush 32, 2) := by decide +kernel
theorem d_L_law_877 : decode code 877 = .ok (.lshl, 1) := by decide +kernel
theorem d_L_law_878 : decode code 878 = .ok (.aload_n 0, 1) := by decide +kernel
theorem d_L_law_879 : decode code 879 = .ok (.iload 4, 2) := by decide +kernel
theorem d_L_law_881 : decode code 881 = .ok (.iconst 4, 1) := by decide +kernel
theorem d_L_law_882 : decode code 882 = .ok (.iadd, 1) := by decide +kernel
theorem d_L_law_883 : decode code 883 = .ok (.iaload, 1) := by decide +kernel
theorem d_L_law_884 : decode code 884 = .ok (.i2l, 1) := by decide +kernel
theorem d_L_law_885 : decode code 885 = .ok (.ldc2_w 124, 3) := by decide +kernel
theorem d_L_law_888 : decode code 888 = .ok (.land, 1) := by decide +kernel
theorem d_L_law_889 : decode code 889 = .ok (.lor, 1) := by decide +kernel
theorem d_L_law_890 : decode code 890 = .ok (.aload_n 3, 1) := by decide +kernel
theorem d_L_law_891 : decode code 891 = .ok (.invokestatic 126, 3) := by decide +kernel
theorem d_L_law_894 : decode code 894 = .ok (.istore 5, 2) := by decide +kernel
theorem d_L_law_896 : decode code 896 = .ok (.aload_n 2, 1) := by decide +kernel
theorem d_L_law_897 : decode code 897 = .ok (.aload_n 0, 1) := by decide +kernel
theorem d_L_law_898 : decode code 898 = .ok (.iload 4, 2) := by decide +kernel
theorem d_L_law_900 : decode code 900 = .ok (.iconst 1, 1) := by decide +kernel
theorem d_L_law_901 : decode code 901 = .ok (.iadd, 1) := by decide +kernel
theorem d_L_law_902 : decode code 902 = .ok (.iaload, 1) := by decide +kernel
theorem d_L_law_903 : decode code 903 = .ok (.aload_n 0, 1) := by decide +kernel
theorem d_L_law_904 : decode code 904 = .ok (.iload 4, 2) := by decide +kernel
theorem d_L_law_906 : decode code 906 = .ok (.iconst 2, 1) := by decide +kernel
theorem d_L_law_907 : decode code 907 = .ok (.iadd, 1) := by decide +kernel
theorem d_L_law_908 : decode code 908 = .ok (.iaload, 1) := by decide +kernel
theorem d_L_law_909 : decode code 909 = .ok (.aload_n 0, 1) := by decide +kernel
theorem d_L_law_910 : decode code 910 = .ok (.iload 4, 2) := by decide +kernel
theorem d_L_law_912 : decode code 912 = .ok (.iconst 3, 1) := by decide +kernel
theorem d_L_law_913 : decode code 913 = .ok (.iadd, 1) := by decide +kernel
theorem d_L_law_914 : decode code 914 = .ok (.iaload, 1) := by decide +kernel
theorem d_L_law_915 : decode code 915 = .ok (.i2l, 1) := by decide +kernel
theorem d_L_law_916 : decode code 916 = .ok (.bipush 32, 2) := by decide +kernel
theorem d_L_law_918 : decode code 918 = .ok (.lshl, 1) := by decide +kernel
theorem d_L_law_919 : decode code 919 = .ok (.aload_n 0, 1) := by decide +kernel
theorem d_L_law_920 : decode code 920 = .ok (.iload 4, 2) := by decide +kernel
theorem d_L_law_922 : decode code 922 = .ok (.iconst 4, 1) := by decide +kernel
theorem d_L_law_923 : decode code 923 = .ok (.iadd, 1) := by decide +kernel
theorem d_L_law_924 : decode code 924 = .ok (.iaload, 1) := by decide +kernel
theorem d_L_law_925 : decode code 925 = .ok (.i2l, 1) := by decide +kernel
theorem d_L_law_926 : decode code 926 = .ok (.ldc2_w 124, 3) := by decide +kernel
theorem d_L_law_929 : decode code 929 = .ok (.land, 1) := by decide +kernel
theorem d_L_law_930 : decode code 930 = .ok (.lor, 1) := by decide +kernel
theorem d_L_law_931 : decode code 931 = .ok (.invokevirtual 129, 3) := by decide +kernel
theorem d_L_law_934 : decode code 934 = .ok (.lstore 6, 2) := by decide +kernel
theorem d_L_law_936 : decode code 936 = .ok (.aload_n 2, 1) := by decide +kernel
theorem d_L_law_937 : decode code 937 = .ok (.invokevirtual 93, 3) := by decide +kernel
theorem d_L_law_940 : decode code 940 = .ok (.iload 5, 2) := by decide +kernel
theorem d_L_law_942 : decode code 942 = .ok (.if_icmp .eq 5, 3) := by decide +kernel
theorem d_L_law_945 : decode code 945 = .ok (.iconst 0, 1) := by decide +kernel
theorem d_L_law_946 : decode code 946 = .ok (.ireturn, 1) := by decide +kernel
theorem d_L_law_947 : decode code 947 = .ok (.iload 5, 2) := by decide +kernel
theorem d_L_law_949 : decode code 949 = .ok (.ifCond .ne 14, 3) := by decide +kernel
theorem d_L_law_952 : decode code 952 = .ok (.aload_n 3, 1) := by decide +kernel
theorem d_L_law_953 : decode code 953 = .ok (.iconst 0, 1) := by decide +kernel
theorem d_L_law_954 : decode code 954 = .ok (.laload, 1) := by decide +kernel
theorem d_L_law_955 : decode code 955 = .ok (.lload 6, 2) := by decide +kernel
theorem d_L_law_957 : decode code 957 = .ok (.lcmp, 1) := by decide +kernel
theorem d_L_law_958 : decode code 958 = .ok (.ifCond .eq 5, 3) := by decide +kernel
theorem d_L_law_961 : decode code 961 = .ok (.iconst 0, 1) := by decide +kernel
theorem d_L_law_962 : decode code 962 = .ok (.ireturn, 1) := by decide +kernel
theorem d_L_law_963 : decode code 963 = .ok (.goto 714, 3) := by decide +kernel
theorem d_L_law_966 : decode code 966 = .ok (.aload_n 1, 1) := by decide +kernel
theorem d_L_law_967 : decode code 967 = .ok (.aload_n 0, 1) := by decide +kernel
theorem d_L_law_968 : decode code 968 = .ok (.iload 4, 2) := by decide +kernel
theorem d_L_law_970 : decode code 970 = .ok (.iconst 1, 1) := by decide +kernel
theorem d_L_law_971 : decode code 971 = .ok (.iadd, 1) := by decide +kernel
theorem d_L_law_972 : decode code 972 = .ok (.iaload, 1) := by decide +kernel
theorem d_L_law_973 : decode code 973 = .ok (.aload_n 0, 1) := by decide +kernel
theorem d_L_law_974 : decode code 974 = .ok (.iload 4, 2) := by decide +kernel
theorem d_L_law_976 : decode code 976 = .ok (.iconst 2, 1) := by decide +kernel
theorem d_L_law_977 : decode code 977 = .ok (.iadd, 1) := by decide +kernel
theorem d_L_law_978 : decode code 978 = .ok (.iaload, 1) := by decide +kernel
theorem d_L_law_979 : decode code 979 = .ok (.aload_n 3, 1) := by decide +kernel
theorem d_L_law_980 : decode code 980 = .ok (.invokestatic 130, 3) := by decide +kernel
theorem d_L_law_983 : decode code 983 = .ok (.istore 5, 2) := by decide +kernel
theorem d_L_law_985 : decode code 985 = .ok (.aload_n 2, 1) := by decide +kernel
theorem d_L_law_986 : decode code 986 = .ok (.aload_n 0, 1) := by decide +kernel
theorem d_L_law_987 : decode code 987 = .ok (.iload 4, 2) := by decide +kernel
theorem d_L_law_989 : decode code 989 = .ok (.iconst 1, 1) := by decide +kernel
theorem d_L_law_990 : decode code 990 = .ok (.iadd, 1) := by decide +kernel
theorem d_L_law_991 : decode code 991 = .ok (.iaload, 1) := by decide +kernel
theorem d_L_law_992 : decode code 992 = .ok (.aload_n 0, 1) := by decide +kernel
theorem d_L_law_993 : decode code 993 = .ok (.iload 4, 2) := by decide +kernel
theorem d_L_law_995 : decode code 995 = .ok (.iconst 2, 1) := by decide +kernel
theorem d_L_law_996 : decode code 996 = .ok (.iadd, 1) := by decide +kernel
theorem d_L_law_997 : decode code 997 = .ok (.iaload, 1) := by decide +kernel
theorem d_L_law_998 : decode code 998 = .ok (.invokevirtual 132, 3) := by decide +kernel
theorem d_L_law_1001 : decode code 1001 = .ok (.istore 6, 2) := by decide +kernel
theorem d_L_law_1003 : decode code 1003 = .ok (.aload_n 2, 1) := by decide +kernel
theorem d_L_law_1004 : decode code 1004 = .ok (.invokevirtual 93, 3) := by decide +kernel
theorem d_L_law_1007 : decode code 1007 = .ok (.iload 5, 2) := by decide +kernel
theorem d_L_law_1009 : decode code 1009 = .ok (.if_icmp .eq 5, 3) := by decide +kernel
theorem d_L_law_1012 : decode code 1012 = .ok (.iconst 0, 1) := by decide +kernel
theorem d_L_law_1013 : decode code 1013 = .ok (.ireturn, 1) := by decide +kernel
theorem d_L_law_1014 : decode code 1014 = .ok (.iload 5, 2) := by decide +kernel
theorem d_L_law_1016 : decode code 1016 = .ok (.ifCond .ne 15, 3) := by decide +kernel
theorem d_L_law_1019 : decode code 1019 = .ok (.aload_n 3, 1) := by decide +kernel
theorem d_L_law_1020 : decode code 1020 = .ok (.iconst 0, 1) := by decide +kernel
theorem d_L_law_1021 : decode code 1021 = .ok (.laload, 1) := by decide +kernel
theorem d_L_law_1022 : decode code 1022 = .ok (.iload 6, 2) := by decide +kernel
theorem d_L_law_1024 : decode code 1024 = .ok (.i2l, 1) := by decide +kernel
theorem d_L_law_1025 : decode code 1025 = .ok (.lcmp, 1) := by decide +kernel
theorem d_L_law_1026 : decode code 1026 = .ok (.ifCond .eq 5, 3) := by decide +kernel
theorem d_L_law_1029 : decode code 1029 = .ok (.iconst 0, 1) := by decide +kernel
theorem d_L_law_1030 : decode code 1030 = .ok (.ireturn, 1) := by decide +kernel
theorem d_L_law_1031 : decode code 1031 = .ok (.goto 646, 3) := by decide +kernel
theorem d_L_law_1034 : decode code 1034 = .ok (.aload_n 1, 1) := by decide +kernel
theorem d_L_law_1035 : decode code 1035 = .ok (.aload_n 0, 1) := by decide +kernel
theorem d_L_law_1036 : decode code 1036 = .ok (.iload 4, 2) := by decide +kernel
theorem d_L_law_1038 : decode code 1038 = .ok (.iconst 1, 1) := by decide +kernel
theorem d_L_law_1039 : decode code 1039 = .ok (.iadd, 1) := by decide +kernel
theorem d_L_law_1040 : decode code 1040 = .ok (.iaload, 1) := by decide +kernel
theorem d_L_law_1041 : decode code 1041 = .ok (.aload_n 0, 1) := by decide +kernel
theorem d_L_law_1042 : decode code 1042 = .ok (.iload 4, 2) := by decide +kernel
theorem d_L_law_1044 : decode code 1044 = .ok (.iconst 2, 1) := by decide +kernel
theorem d_L_law_1045 : decode code 1045 = .ok (.iadd, 1) := by decide +kernel
theorem d_L_law_1046 : decode code 1046 = .ok (.iaload, 1) := by decide +kernel
theorem d_L_law_1047 : decode code 1047 = .ok (.aload_n 0, 1) := by decide +kernel
theorem d_L_law_1048 : decode code 1048 = .ok (.iload 4, 2) := by decide +kernel
theorem d_L_law_1050 : decode code 1050 = .ok (.iconst 3, 1) := by decide +kernel
theorem d_L_law_1051 : decode code 1051 = .ok (.iadd, 1) := by decide +kernel
theorem d_L_law_1052 : decode code 1052 = .ok (.iaload, 1) := by decide +kernel
theorem d_L_law_1053 : decode code 1053 = .ok (.aload_n 0, 1) := by decide +kernel
theorem d_L_law_1054 : decode code 1054 = .ok (.iload 4, 2) := by decide +kernel
theorem d_L_law_1056 : decode code 1056 = .ok (.iconst 4, 1) := by decide +kernel
theorem d_L_law_1057 : decode code 1057 = .ok (.iadd, 1) := by decide +kernel
theorem d_L_law_1058 : decode code 1058 = .ok (.iaload, 1) := by decide +kernel
theorem d_L_law_1059 : decode code 1059 = .ok (.aload_n 3, 1) := by decide +kernel
theorem d_L_law_1060 : decode code 1060 = .ok (.invokestatic 133, 3) := by decide +kernel
theorem d_L_law_1063 : decode code 1063 = .ok (.istore 5, 2) := by decide +kernel
theorem d_L_law_1065 : decode code 1065 = .ok (.aload_n 2, 1) := by decide +kernel
theorem d_L_law_1066 : decode code 1066 = .ok (.aload_n 0, 1) := by decide +kernel
theorem d_L_law_1067 : decode code 1067 = .ok (.iload 4, 2) := by decide +kernel
theorem d_L_law_1069 : decode code 1069 = .ok (.iconst 1, 1) := by decide +kernel
theorem d_L_law_1070 : decode code 1070 = .ok (.iadd, 1) := by decide +kernel
theorem d_L_law_1071 : decode code 1071 = .ok (.iaload, 1) := by decide +kernel
theorem d_L_law_1072 : decode code 1072 = .ok (.aload_n 0, 1) := by decide +kernel
theorem d_L_law_1073 : decode code 1073 = .ok (.iload 4, 2) := by decide +kernel
theorem d_L_law_1075 : decode code 1075 = .ok (.iconst 2, 1) := by decide +kernel
theorem d_L_law_1076 : decode code 1076 = .ok (.iadd, 1) := by decide +kernel
theorem d_L_law_1077 : decode code 1077 = .ok (.iaload, 1) := by decide +kernel
theorem d_L_law_1078 : decode code 1078 = .ok (.aload_n 0, 1) := by decide +kernel
theorem d_L_law_1079 : decode code 1079 = .ok (.iload 4, 2) := by decide +kernel
theorem d_L_law_1081 : decode code 1081 = .ok (.iconst 3, 1) := by decide +kernel
theorem d_L_law_1082 : decode code 1082 = .ok (.iadd, 1) := by decide +kernel
theorem d_L_law_1083 : decode code 1083 = .ok (.iaload, 1) := by decide +kernel
theorem d_L_law_1084 : decode code 1084 = .ok (.aload_n 0, 1) := by decide +kernel
theorem d_L_law_1085 : decode code 1085 = .ok (.iload 4, 2) := by decide +kernel
theorem d_L_law_1087 : decode code 1087 = .ok (.iconst 4, 1) := by decide +kernel
theorem d_L_law_1088 : decode code 1088 = .ok (.iadd, 1) := by decide +kernel
theorem d_L_law_1089 : decode code 1089 = .ok (.iaload, 1) := by decide +kernel
theorem d_L_law_1090 : decode code 1090 = .ok (.invokevirtual 135, 3) := by decide +kernel
theorem d_L_law_1093 : decode code 1093 = .ok (.istore 6, 2) := by decide +kernel
theorem d_L_law_1095 : decode code 1095 = .ok (.aload_n 2, 1) := by decide +kernel
theorem d_L_law_1096 : decode code 1096 = .ok (.invokevirtual 93, 3) := by decide +kernel
theorem d_L_law_1099 : decode code 1099 = .ok (.iload 5, 2) := by decide +kernel
theorem d_L_law_1101 : decode code 1101 = .ok (.if_icmp .eq 5, 3) := by decide +kernel
theorem d_L_law_1104 : decode code 1104 = .ok (.iconst 0, 1) := by decide +kernel
theorem d_L_law_1105 : decode code 1105 = .ok (.ireturn, 1) := by decide +kernel
theorem d_L_law_1106 : decode code 1106 = .ok (.iload 5, 2) := by decide +kernel
theorem d_L_law_1108 : decode code 1108 = .ok (.ifCond .ne 15, 3) := by decide +kernel
theorem d_L_law_1111 : decode code 1111 = .ok (.aload_n 3, 1) := by decide +kernel
theorem d_L_law_1112 : decode code 1112 = .ok (.iconst 0, 1) := by decide +kernel
theorem d_L_law_1113 : decode code 1113 = .ok (.laload, 1) := by decide +kernel
theorem d_L_law_1114 : decode code 1114 = .ok (.iload 6, 2) := by decide +kernel
theorem d_L_law_1116 : decode code 1116 = .ok (.i2l, 1) := by decide +kernel
theorem d_L_law_1117 : decode code 1117 = .ok (.lcmp, 1) := by decide +kernel
theorem d_L_law_1118 : decode code 1118 = .ok (.ifCond .eq 5, 3) := by decide +kernel
theorem d_L_law_1121 : decode code 1121 = .ok (.iconst 0, 1) := by decide +kernel
theorem d_L_law_1122 : decode code 1122 = .ok (.ireturn, 1) := by decide +kernel
theorem d_L_law_1123 : decode code 1123 = .ok (.goto 554, 3) := by decide +kernel
theorem d_L_law_1126 : decode code 1126 = .ok (.aload_n 1, 1) := by decide +kernel
theorem d_L_law_1127 : decode code 1127 = .ok (.aload_n 0, 1) := by decide +kernel
theorem d_L_law_1128 : decode code 1128 = .ok (.iload 4, 2) := by decide +kernel
theorem d_L_law_1130 : decode code 1130 = .ok (.iconst 1, 1) := by decide +kernel
theorem d_L_law_1131 : decode code 1131 = .ok (.iadd, 1) := by decide +kernel
theorem d_L_law_1132 : decode code 1132 = .ok (.iaload, 1) := by decide +kernel
theorem d_L_law_1133 : decode code 1133 = .ok (.aload_n 0, 1) := by decide +kernel
theorem d_L_law_1134 : decode code 1134 = .ok (.iload 4, 2) := by decide +kernel
theorem d_L_law_1136 : decode code 1136 = .ok (.iconst 2, 1) := by decide +kernel
theorem d_L_law_1137 : decode code 1137 = .ok (.iadd, 1) := by decide +kernel
theorem d_L_law_1138 : decode code 1138 = .ok (.iaload, 1) := by decide +kernel
theorem d_L_law_1139 : decode code 1139 = .ok (.aload_n 0, 1) := by decide +kernel
theorem d_L_law_1140 : decode code 1140 = .ok (.iload 4, 2) := by decide +kernel
theorem d_L_law_1142 : decode code 1142 = .ok (.iconst 3, 1) := by decide +kernel
theorem d_L_law_1143 : decode code 1143 = .ok (.iadd, 1) := by decide +kernel
theorem d_L_law_1144 : decode code 1144 = .ok (.iaload, 1) := by decide +kernel
theorem d_L_law_1145 : decode code 1145 = .ok (.aload_n 3, 1) := by decide +kernel
theorem d_L_law_1146 : decode code 1146 = .ok (.invokestatic 136, 3) := by decide +kernel
theorem d_L_law_1149 : decode code 1149 = .ok (.istore 5, 2) := by decide +kernel
theorem d_L_law_1151 : decode code 1151 = .ok (.aload_n 2, 1) := by decide +kernel
theorem d_L_law_1152 : decode code 1152 = .ok (.aload_n 0, 1) := by decide +kernel
theorem d_L_law_1153 : decode code 1153 = .ok (.iload 4, 2) := by decide +kernel
theorem d_L_law_1155 : decode code 1155 = .ok (.iconst 1, 1) := by decide +kernel
theorem d_L_law_1156 : decode code 1156 = .ok (.iadd, 1) := by decide +kernel
theorem d_L_law_1157 : decode code 1157 = .ok (.iaload, 1) := by decide +kernel
theorem d_L_law_1158 : decode code 1158 = .ok (.aload_n 0, 1) := by decide +kernel
theorem d_L_law_1159 : decode code 1159 = .ok (.iload 4, 2) := by decide +kernel
theorem d_L_law_1161 : decode code 1161 = .ok (.iconst 2, 1) := by decide +kernel
theorem d_L_law_1162 : decode code 1162 = .ok (.iadd, 1) := by decide +kernel
theorem d_L_law_1163 : decode code 1163 = .ok (.iaload, 1) := by decide +kernel
theorem d_L_law_1164 : decode code 1164 = .ok (.aload_n 0, 1) := by decide +kernel
theorem d_L_law_1165 : decode code 1165 = .ok (.iload 4, 2) := by decide +kernel
theorem d_L_law_1167 : decode code 1167 = .ok (.iconst 3, 1) := by decide +kernel
theorem d_L_law_1168 : decode code 1168 = .ok (.iadd, 1) := by decide +kernel
theorem d_L_law_1169 : decode code 1169 = .ok (.iaload, 1) := by decide +kernel
theorem d_L_law_1170 : decode code 1170 = .ok (.invokevirtual 138, 3) := by decide +kernel
theorem d_L_law_1173 : decode code 1173 = .ok (.istore 6, 2) := by decide +kernel
theorem d_L_law_1175 : decode code 1175 = .ok (.aload_n 2, 1) := by decide +kernel
theorem d_L_law_1176 : decode code 1176 = .ok (.invokevirtual 93, 3) := by decide +kernel
theorem d_L_law_1179 : decode code 1179 = .ok (.iload 5, 2) := by decide +kernel
theorem d_L_law_1181 : decode code 1181 = .ok (.if_icmp .eq 5, 3) := by decide +kernel
theorem d_L_law_1184 : decode code 1184 = .ok (.iconst 0, 1) := by decide +kernel
theorem d_L_law_1185 : decode code 1185 = .ok (.ireturn, 1) := by decide +kernel
theorem d_L_law_1186 : decode code 1186 = .ok (.iload 5, 2) := by decide +kernel
theorem d_L_law_1188 : decode code 1188 = .ok (.ifCond .ne 15, 3) := by decide +kernel
theorem d_L_law_1191 : decode code 1191 = .ok (.aload_n 3, 1) := by decide +kernel
theorem d_L_law_1192 : decode code 1192 = .ok (.iconst 0, 1) := by decide +kernel
theorem d_L_law_1193 : decode code 1193 = .ok (.laload, 1) := by decide +kernel
theorem d_L_law_1194 : decode code 1194 = .ok (.iload 6, 2) := by decide +kernel
theorem d_L_law_1196 : decode code 1196 = .ok (.i2l, 1) := by decide +kernel
theorem d_L_law_1197 : decode code 1197 = .ok (.lcmp, 1) := by decide +kernel
theorem d_L_law_1198 : decode code 1198 = .ok (.ifCond .eq 5, 3) := by decide +kernel
theorem d_L_law_1201 : decode code 1201 = .ok (.iconst 0, 1) := by decide +kernel
theorem d_L_law_1202 : decode code 1202 = .ok (.ireturn, 1) := by decide +kernel
theorem d_L_law_1203 : decode code 1203 = .ok (.goto 474, 3) := by decide +kernel
theorem d_L_law_1206 : decode code 1206 = .ok (.aload_n 1, 1) := by decide +kernel
theorem d_L_law_1207 : decode code 1207 = .ok (.aload_n 0, 1) := by decide +kernel
theorem d_L_law_1208 : decode code 1208 = .ok (.iload 4, 2) := by decide +kernel
theorem d_L_law_1210 : decode code 1210 = .ok (.iconst 1, 1) := by decide +kernel
theorem d_L_law_1211 : decode code 1211 = .ok (.iadd, 1) := by decide +kernel
theorem d_L_law_1212 : decode code 1212 = .ok (.iaload, 1) := by decide +kernel
theorem d_L_law_1213 : decode code 1213 = .ok (.aload_n 0, 1) := by decide +kernel
theorem d_L_law_1214 : decode code 1214 = .ok (.iload 4, 2) := by decide +kernel
theorem d_L_law_1216 : decode code 1216 = .ok (.iconst 2, 1) := by decide +kernel
theorem d_L_law_1217 : decode code 1217 = .ok (.iadd, 1) := by decide +kernel
theorem d_L_law_1218 : decode code 1218 = .ok (.iaload, 1) := by decide +kernel
theorem d_L_law_1219 : decode code 1219 = .ok (.aload_n 3, 1) := by decide +kernel
theorem d_L_law_1220 : decode code 1220 = .ok (.invokestatic 139, 3) := by decide +kernel
theorem d_L_law_1223 : decode code 1223 = .ok (.istore 5, 2) := by decide +kernel
theorem d_L_law_1225 : decode code 1225 = .ok (.aload_n 2, 1) := by decide +kernel
theorem d_L_law_1226 : decode code 1226 = .ok (.aload_n 0, 1) := by decide +kernel
theorem d_L_law_1227 : decode code 1227 = .ok (.iload 4, 2) := by decide +kernel
theorem d_L_law_1229 : decode code 1229 = .ok (.iconst 1, 1) := by decide +kernel
theorem d_L_law_1230 : decode code 1230 = .ok (.iadd, 1) := by decide +kernel
theorem d_L_law_1231 : decode code 1231 = .ok (.iaload, 1) := by decide +kernel
theorem d_L_law_1232 : decode code 1232 = .ok (.aload_n 0, 1) := by decide +kernel
theorem d_L_law_1233 : decode code 1233 = .ok (.iload 4, 2) := by decide +kernel
theorem d_L_law_1235 : decode code 1235 = .ok (.iconst 2, 1) := by decide +kernel
theorem d_L_law_1236 : decode code 1236 = .ok (.iadd, 1) := by decide +kernel
theorem d_L_law_1237 : decode code 1237 = .ok (.iaload, 1) := by decide +kernel
theorem d_L_law_1238 : decode code 1238 = .ok (.invokevirtual 141, 3) := by decide +kernel
theorem d_L_law_1241 : decode code 1241 = .ok (.istore 6, 2) := by decide +kernel
theorem d_L_law_1243 : decode code 1243 = .ok (.aload_n 2, 1) := by decide +kernel
theorem d_L_law_1244 : decode code 1244 = .ok (.invokevirtual 93, 3) := by decide +kernel
theorem d_L_law_1247 : decode code 1247 = .ok (.iload 5, 2) := by decide +kernel
theorem d_L_law_1249 : decode code 1249 = .ok (.if_icmp .eq 5, 3) := by decide +kernel
theorem d_L_law_1252 : decode code 1252 = .ok (.iconst 0, 1) := by decide +kernel
theorem d_L_law_1253 : decode code 1253 = .ok (.ireturn, 1) := by decide +kernel
theorem d_L_law_1254 : decode code 1254 = .ok (.iload 5, 2) := by decide +kernel
theorem d_L_law_1256 : decode code 1256 = .ok (.ifCond .ne 15, 3) := by decide +kernel
theorem d_L_law_1259 : decode code 1259 = .ok (.aload_n 3, 1) := by decide +kernel
theorem d_L_law_1260 : decode code 1260 = .ok (.iconst 0, 1) := by decide +kernel
theorem d_L_law_1261 : decode code 1261 = .ok (.laload, 1) := by decide +kernel
theorem d_L_law_1262 : decode code 1262 = .ok (.iload 6, 2) := by decide +kernel
theorem d_L_law_1264 : decode code 1264 = .ok (.i2l, 1) := by decide +kernel
theorem d_L_law_1265 : decode code 1265 = .ok (.lcmp, 1) := by decide +kernel
theorem d_L_law_1266 : decode code 1266 = .ok (.ifCond .eq 5, 3) := by decide +kernel
theorem d_L_law_1269 : decode code 1269 = .ok (.iconst 0, 1) := by decide +kernel
theorem d_L_law_1270 : decode code 1270 = .ok (.ireturn, 1) := by decide +kernel
theorem d_L_law_1271 : decode code 1271 = .ok (.goto 406, 3) := by decide +kernel
theorem d_L_law_1274 : decode code 1274 = .ok (.aload_n 1, 1) := by decide +kernel
theorem d_L_law_1275 : decode code 1275 = .ok (.aload_n 0, 1) := by decide +kernel
theorem d_L_law_1276 : decode code 1276 = .ok (.iload 4, 2) := by decide +kernel
theorem d_L_law_1278 : decode code 1278 = .ok (.iconst 1, 1) := by decide +kernel
theorem d_L_law_1279 : decode code 1279 = .ok (.iadd, 1) := by decide +kernel
theorem d_L_law_1280 : decode code 1280 = .ok (.iaload, 1) := by decide +kernel
theorem d_L_law_1281 : decode code 1281 = .ok (.aload_n 0, 1) := by decide +kernel
theorem d_L_law_1282 : decode code 1282 = .ok (.iload 4, 2) := by decide +kernel
theorem d_L_law_1284 : decode code 1284 = .ok (.iconst 2, 1) := by decide +kernel
theorem d_L_law_1285 : decode code 1285 = .ok (.iadd, 1) := by decide +kernel
theorem d_L_law_1286 : decode code 1286 = .ok (.iaload, 1) := by decide +kernel
theorem d_L_law_1287 : decode code 1287 = .ok (.aload_n 3, 1) := by decide +kernel
theorem d_L_law_1288 : decode code 1288 = .ok (.invokestatic 142, 3) := by decide +kernel
theorem d_L_law_1291 : decode code 1291 = .ok (.istore 5, 2) := by decide +kernel
theorem d_L_law_1293 : decode code 1293 = .ok (.aload_n 2, 1) := by decide +kernel
theorem d_L_law_1294 : decode code 1294 = .ok (.aload_n 0, 1) := by decide +kernel
theorem d_L_law_1295 : decode code 1295 = .ok (.iload 4, 2) := by decide +kernel
theorem d_L_law_1297 : decode code 1297 = .ok (.iconst 1, 1) := by decide +kernel
theorem d_L_law_1298 : decode code 1298 = .ok (.iadd, 1) := by decide +kernel
theorem d_L_law_1299 : decode code 1299 = .ok (.iaload, 1) := by decide +kernel
theorem d_L_law_1300 : decode code 1300 = .ok (.aload_n 0, 1) := by decide +kernel
theorem d_L_law_1301 : decode code 1301 = .ok (.iload 4, 2) := by decide +kernel
theorem d_L_law_1303 : decode code 1303 = .ok (.iconst 2, 1) := by decide +kernel
theorem d_L_law_1304 : decode code 1304 = .ok (.iadd, 1) := by decide +kernel
theorem d_L_law_1305 : decode code 1305 = .ok (.iaload, 1) := by decide +kernel
theorem d_L_law_1306 : decode code 1306 = .ok (.invokevirtual 144, 3) := by decide +kernel
theorem d_L_law_1309 : decode code 1309 = .ok (.istore 6, 2) := by decide +kernel
theorem d_L_law_1311 : decode code 1311 = .ok (.aload_n 2, 1) := by decide +kernel
theorem d_L_law_1312 : decode code 1312 = .ok (.invokevirtual 93, 3) := by decide +kernel
theorem d_L_law_1315 : decode code 1315 = .ok (.iload 5, 2) := by decide +kernel
theorem d_L_law_1317 : decode code 1317 = .ok (.if_icmp .eq 5, 3) := by decide +kernel
theorem d_L_law_1320 : decode code 1320 = .ok (.iconst 0, 1) := by decide +kernel
theorem d_L_law_1321 : decode code 1321 = .ok (.ireturn, 1) := by decide +kernel
theorem d_L_law_1322 : decode code 1322 = .ok (.iload 5, 2) := by decide +kernel
theorem d_L_law_1324 : decode code 1324 = .ok (.ifCond .ne 22, 3) := by decide +kernel
theorem d_L_law_1327 : decode code 1327 = .ok (.aload_n 3, 1) := by decide +kernel
theorem d_L_law_1328 : decode code 1328 = .ok (.iconst 0, 1) := by decide +kernel
theorem d_L_law_1329 : decode code 1329 = .ok (.laload, 1) := by decide +kernel
theorem d_L_law_1330 : decode code 1330 = .ok (.iload 6, 2) := by decide +kernel
theorem d_L_law_1332 : decode code 1332 = .ok (.ifCond .eq 7, 3) := by decide +kernel
theorem d_L_law_1335 : decode code 1335 = .ok (.lconst 1, 1) := by decide +kernel
theorem d_L_law_1336 : decode code 1336 = .ok (.goto 4, 3) := by decide +kernel
theorem d_L_law_1339 : decode code 1339 = .ok (.lconst 0, 1) := by decide +kernel
theorem d_L_law_1340 : decode code 1340 = .ok (.lcmp, 1) := by decide +kernel
theorem d_L_law_1341 : decode code 1341 = .ok (.ifCond .eq 5, 3) := by decide +kernel
theorem d_L_law_1344 : decode code 1344 = .ok (.iconst 0, 1) := by decide +kernel
theorem d_L_law_1345 : decode code 1345 = .ok (.ireturn, 1) := by decide +kernel
theorem d_L_law_1346 : decode code 1346 = .ok (.goto 331, 3) := by decide +kernel
theorem d_L_law_1349 : decode code 1349 = .ok (.aload_n 1, 1) := by decide +kernel
theorem d_L_law_1350 : decode code 1350 = .ok (.aload_n 0, 1) := by decide +kernel
theorem d_L_law_1351 : decode code 1351 = .ok (.iload 4, 2) := by decide +kernel
theorem d_L_law_1353 : decode code 1353 = .ok (.iconst 1, 1) := by decide +kernel
theorem d_L_law_1354 : decode code 1354 = .ok (.iadd, 1) := by decide +kernel
theorem d_L_law_1355 : decode code 1355 = .ok (.iaload, 1) := by decide +kernel
theorem d_L_law_1356 : decode code 1356 = .ok (.aload_n 3, 1) := by decide +kernel
theorem d_L_law_1357 : decode code 1357 = .ok (.invokestatic 145, 3) := by decide +kernel
theorem d_L_law_1360 : decode code 1360 = .ok (.istore 5, 2) := by decide +kernel
theorem d_L_law_1362 : decode code 1362 = .ok (.aload_n 2, 1) := by decide +kernel
theorem d_L_law_1363 : decode code 1363 = .ok (.aload_n 0, 1) := by decide +kernel
theorem d_L_law_1364 : decode code 1364 = .ok (.iload 4, 2) := by decide +kernel
theorem d_L_law_1366 : decode code 1366 = .ok (.iconst 1, 1) := by decide +kernel
theorem d_L_law_1367 : decode code 1367 = .ok (.iadd, 1) := by decide +kernel
theorem d_L_law_1368 : decode code 1368 = .ok (.iaload, 1) := by decide +kernel
theorem d_L_law_1369 : decode code 1369 = .ok (.invokevirtual 148, 3) := by decide +kernel
theorem d_L_law_1372 : decode code 1372 = .ok (.istore 6, 2) := by decide +kernel
theorem d_L_law_1374 : decode code 1374 = .ok (.aload_n 2, 1) := by decide +kernel
theorem d_L_law_1375 : decode code 1375 = .ok (.invokevirtual 93, 3) := by decide +kernel
theorem d_L_law_1378 : decode code 1378 = .ok (.iload 5, 2) := by decide +kernel
theorem d_L_law_1380 : decode code 1380 = .ok (.if_icmp .eq 5, 3) := by decide +kernel
theorem d_L_law_1383 : decode code 1383 = .ok (.iconst 0, 1) := by decide +kernel
theorem d_L_law_1384 : decode code 1384 = .ok (.ireturn, 1) := by decide +kernel
theorem d_L_law_1385 : decode code 1385 = .ok (.iload 5, 2) := by decide +kernel
theorem d_L_law_1387 : decode code 1387 = .ok (.ifCond .ne 15, 3) := by decide +kernel
theorem d_L_law_1390 : decode code 1390 = .ok (.aload_n 3, 1) := by decide +kernel
theorem d_L_law_1391 : decode code 1391 = .ok (.iconst 0, 1) := by decide +kernel
theorem d_L_law_1392 : decode code 1392 = .ok (.laload, 1) := by decide +kernel
theorem d_L_law_1393 : decode code 1393 = .ok (.iload 6, 2) := by decide +kernel
theorem d_L_law_1395 : decode code 1395 = .ok (.i2l, 1) := by decide +kernel
theorem d_L_law_1396 : decode code 1396 = .ok (.lcmp, 1) := by decide +kernel
theorem d_L_law_1397 : decode code 1397 = .ok (.ifCond .eq 5, 3) := by decide +kernel
theorem d_L_law_1400 : decode code 1400 = .ok (.iconst 0, 1) := by decide +kernel
theorem d_L_law_1401 : decode code 1401 = .ok (.ireturn, 1) := by decide +kernel
theorem d_L_law_1402 : decode code 1402 = .ok (.goto 275, 3) := by decide +kernel
theorem d_L_law_1405 : decode code 1405 = .ok (.aload_n 1, 1) := by decide +kernel
theorem d_L_law_1406 : decode code 1406 = .ok (.aload_n 0, 1) := by decide +kernel
theorem d_L_law_1407 : decode code 1407 = .ok (.iload 4, 2) := by decide +kernel
theorem d_L_law_1409 : decode code 1409 = .ok (.iconst 1, 1) := by decide +kernel
theorem d_L_law_1410 : decode code 1410 = .ok (.iadd, 1) := by decide +kernel
theorem d_L_law_1411 : decode code 1411 = .ok (.iaload, 1) := by decide +kernel
theorem d_L_law_1412 : decode code 1412 = .ok (.aload_n 0, 1) := by decide +kernel
theorem d_L_law_1413 : decode code 1413 = .ok (.iload 4, 2) := by decide +kernel
theorem d_L_law_1415 : decode code 1415 = .ok (.iconst 2, 1) := by decide +kernel
theorem d_L_law_1416 : decode code 1416 = .ok (.iadd, 1) := by decide +kernel
theorem d_L_law_1417 : decode code 1417 = .ok (.iaload, 1) := by decide +kernel
theorem d_L_law_1418 : decode code 1418 = .ok (.aload_n 3, 1) := by decide +kernel
theorem d_L_law_1419 : decode code 1419 = .ok (.invokestatic 149, 3) := by decide +kernel
theorem d_L_law_1422 : decode code 1422 = .ok (.istore 5, 2) := by decide +kernel
theorem d_L_law_1424 : decode code 1424 = .ok (.aload_n 2, 1) := by decide +kernel
theorem d_L_law_1425 : decode code 1425 = .ok (.aload_n 0, 1) := by decide +kernel
theorem d_L_law_1426 : decode code 1426 = .ok (.iload 4, 2) := by decide +kernel
theorem d_L_law_1428 : decode code 1428 = .ok (.iconst 1, 1) := by decide +kernel
theorem d_L_law_1429 : decode code 1429 = .ok (.iadd, 1) := by decide +kernel
theorem d_L_law_1430 : decode code 1430 = .ok (.iaload, 1) := by decide +kernel
theorem d_L_law_1431 : decode code 1431 = .ok (.aload_n 0, 1) := by decide +kernel
theorem d_L_law_1432 : decode code 1432 = .ok (.iload 4, 2) := by decide +kernel
theorem d_L_law_1434 : decode code 1434 = .ok (.iconst 2, 1) := by decide +kernel
theorem d_L_law_1435 : decode code 1435 = .ok (.iadd, 1) := by decide +kernel
theorem d_L_law_1436 : decode code 1436 = .ok (.iaload, 1) := by decide +kernel
theorem d_L_law_1437 : decode code 1437 = .ok (.invokevirtual 151, 3) := by decide +kernel
theorem d_L_law_1440 : decode code 1440 = .ok (.istore 6, 2) := by decide +kernel
theorem d_L_law_1442 : decode code 1442 = .ok (.aload_n 2, 1) := by decide +kernel
theorem d_L_law_1443 : decode code 1443 = .ok (.invokevirtual 93, 3) := by decide +kernel
theorem d_L_law_1446 : decode code 1446 = .ok (.iload 5, 2) := by decide +kernel
theorem d_L_law_1448 : decode code 1448 = .ok (.if_icmp .eq 5, 3) := by decide +kernel
theorem d_L_law_1451 : decode code 1451 = .ok (.iconst 0, 1) := by decide +kernel
theorem d_L_law_1452 : decode code 1452 = .ok (.ireturn, 1) := by decide +kernel
theorem d_L_law_1453 : decode code 1453 = .ok (.iload 5, 2) := by decide +kernel
theorem d_L_law_1455 : decode code 1455 = .ok (.ifCond .ne 15, 3) := by decide +kernel
theorem d_L_law_1458 : decode code 1458 = .ok (.aload_n 3, 1) := by decide +kernel
theorem d_L_law_1459 : decode code 1459 = .ok (.iconst 0, 1) := by decide +kernel
theorem d_L_law_1460 : decode code 1460 = .ok (.laload, 1) := by decide +kernel
theorem d_L_law_1461 : decode code 1461 = .ok (.iload 6, 2) := by decide +kernel
theorem d_L_law_1463 : decode code 1463 = .ok (.i2l, 1) := by decide +kernel
theorem d_L_law_1464 : decode code 1464 = .ok (.lcmp, 1) := by decide +kernel
theorem d_L_law_1465 : decode code 1465 = .ok (.ifCond .eq 5, 3) := by decide +kernel
theorem d_L_law_1468 : decode code 1468 = .ok (.iconst 0, 1) := by decide +kernel
theorem d_L_law_1469 : decode code 1469 = .ok (.ireturn, 1) := by decide +kernel
theorem d_L_law_1470 : decode code 1470 = .ok (.goto 207, 3) := by decide +kernel
theorem d_L_law_1473 : decode code 1473 = .ok (.aload_n 1, 1) := by decide +kernel
theorem d_L_law_1474 : decode code 1474 = .ok (.aload_n 0, 1) := by decide +kernel
theorem d_L_law_1475 : decode code 1475 = .ok (.iload 4, 2) := by decide +kernel
theorem d_L_law_1477 : decode code 1477 = .ok (.iconst 1, 1) := by decide +kernel
theorem d_L_law_1478 : decode code 1478 = .ok (.iadd, 1) := by decide +kernel
theorem d_L_law_1479 : decode code 1479 = .ok (.iaload, 1) := by decide +kernel
theorem d_L_law_1480 : decode code 1480 = .ok (.aload_n 0, 1) := by decide +kernel
theorem d_L_law_1481 : decode code 1481 = .ok (.iload 4, 2) := by decide +kernel
theorem d_L_law_1483 : decode code 1483 = .ok (.iconst 2, 1) := by decide +kernel
theorem d_L_law_1484 : decode code 1484 = .ok (.iadd, 1) := by decide +kernel
theorem d_L_law_1485 : decode code 1485 = .ok (.iaload, 1) := by decide +kernel
theorem d_L_law_1486 : decode code 1486 = .ok (.aload_n 0, 1) := by decide +kernel
theorem d_L_law_1487 : decode code 1487 = .ok (.iload 4, 2) := by decide +kernel
theorem d_L_law_1489 : decode code 1489 = .ok (.iconst 3, 1) := by decide +kernel
theorem d_L_law_1490 : decode code 1490 = .ok (.iadd, 1) := by decide +kernel
theorem d_L_law_1491 : decode code 1491 = .ok (.iaload, 1) := by decide +kernel
theorem d_L_law_1492 : decode code 1492 = .ok (.aload_n 3, 1) := by decide +kernel
theorem d_L_law_1493 : decode code 1493 = .ok (.invokestatic 152, 3) := by decide +kernel
theorem d_L_law_1496 : decode code 1496 = .ok (.istore 5, 2) := by decide +kernel
theorem d_L_law_1498 : decode code 1498 = .ok (.aload_n 2, 1) := by decide +kernel
theorem d_L_law_1499 : decode code 1499 = .ok (.aload_n 0, 1) := by decide +kernel
theorem d_L_law_1500 : decode code 1500 = .ok (.iload 4, 2) := by decide +kernel
theorem d_L_law_1502 : decode code 1502 = .ok (.iconst 1, 1) := by decide +kernel
theorem d_L_law_1503 : decode code 1503 = .ok (.iadd, 1) := by decide +kernel
theorem d_L_law_1504 : decode code 1504 = .ok (.iaload, 1) := by decide +kernel
theorem d_L_law_1505 : decode code 1505 = .ok (.aload_n 0, 1) := by decide +kernel
theorem d_L_law_1506 : decode code 1506 = .ok (.iload 4, 2) := by decide +kernel
theorem d_L_law_1508 : decode code 1508 = .ok (.iconst 2, 1) := by decide +kernel
theorem d_L_law_1509 : decode code 1509 = .ok (.iadd, 1) := by decide +kernel
theorem d_L_law_1510 : decode code 1510 = .ok (.iaload, 1) := by decide +kernel
theorem d_L_law_1511 : decode code 1511 = .ok (.aload_n 0, 1) := by decide +kernel
theorem d_L_law_1512 : decode code 1512 = .ok (.iload 4, 2) := by decide +kernel
theorem d_L_law_1514 : decode code 1514 = .ok (.iconst 3, 1) := by decide +kernel
theorem d_L_law_1515 : decode code 1515 = .ok (.iadd, 1) := by decide +kernel
theorem d_L_law_1516 : decode code 1516 = .ok (.iaload, 1) := by decide +kernel
theorem d_L_law_1517 : decode code 1517 = .ok (.invokevirtual 154, 3) := by decide +kernel
theorem d_L_law_1520 : decode code 1520 = .ok (.istore 6, 2) := by decide +kernel
theorem d_L_law_1522 : decode code 1522 = .ok (.aload_n 2, 1) := by decide +kernel
theorem d_L_law_1523 : decode code 1523 = .ok (.invokevirtual 93, 3) := by decide +kernel
theorem d_L_law_1526 : decode code 1526 = .ok (.iload 5, 2) := by decide +kernel
theorem d_L_law_1528 : decode code 1528 = .ok (.if_icmp .eq 5, 3) := by decide +kernel
theorem d_L_law_1531 : decode code 1531 = .ok (.iconst 0, 1) := by decide +kernel
theorem d_L_law_1532 : decode code 1532 = .ok (.ireturn, 1) := by decide +kernel
theorem d_L_law_1533 : decode code 1533 = .ok (.iload 5, 2) := by decide +kernel
theorem d_L_law_1535 : decode code 1535 = .ok (.ifCond .ne 15, 3) := by decide +kernel
theorem d_L_law_1538 : decode code 1538 = .ok (.aload_n 3, 1) := by decide +kernel
theorem d_L_law_1539 : decode code 1539 = .ok (.iconst 0, 1) := by decide +kernel
theorem d_L_law_1540 : decode code 1540 = .ok (.laload, 1) := by decide +kernel
theorem d_L_law_1541 : decode code 1541 = .ok (.iload 6, 2) := by decide +kernel
theorem d_L_law_1543 : decode code 1543 = .ok (.i2l, 1) := by decide +kernel
theorem d_L_law_1544 : decode code 1544 = .ok (.lcmp, 1) := by decide +kernel
theorem d_L_law_1545 : decode code 1545 = .ok (.ifCond .eq 5, 3) := by decide +kernel
theorem d_L_law_1548 : decode code 1548 = .ok (.iconst 0, 1) := by decide +kernel
theorem d_L_law_1549 : decode code 1549 = .ok (.ireturn, 1) := by decide +kernel
theorem d_L_law_1550 : decode code 1550 = .ok (.goto 127, 3) := by decide +kernel
theorem d_L_law_1553 : decode code 1553 = .ok (.aload_n 1, 1) := by decide +kernel
theorem d_L_law_1554 : decode code 1554 = .ok (.aload_n 0, 1) := by decide +kernel
theorem d_L_law_1555 : decode code 1555 = .ok (.iload 4, 2) := by decide +kernel
theorem d_L_law_1557 : decode code 1557 = .ok (.iconst 1, 1) := by decide +kernel
theorem d_L_law_1558 : decode code 1558 = .ok (.iadd, 1) := by decide +kernel
theorem d_L_law_1559 : decode code 1559 = .ok (.iaload, 1) := by decide +kernel
theorem d_L_law_1560 : decode code 1560 = .ok (.aload_n 0, 1) := by decide +kernel
theorem d_L_law_1561 : decode code 1561 = .ok (.iload 4, 2) := by decide +kernel
theorem d_L_law_1563 : decode code 1563 = .ok (.iconst 2, 1) := by decide +kernel
theorem d_L_law_1564 : decode code 1564 = .ok (.iadd, 1) := by decide +kernel
theorem d_L_law_1565 : decode code 1565 = .ok (.iaload, 1) := by decide +kernel
theorem d_L_law_1566 : decode code 1566 = .ok (.aload_n 3, 1) := by decide +kernel
theorem d_L_law_1567 : decode code 1567 = .ok (.invokestatic 155, 3) := by decide +kernel
theorem d_L_law_1570 : decode code 1570 = .ok (.istore 5, 2) := by decide +kernel
theorem d_L_law_1572 : decode code 1572 = .ok (.aload_n 2, 1) := by decide +kernel
theorem d_L_law_1573 : decode code 1573 = .ok (.aload_n 0, 1) := by decide +kernel
theorem d_L_law_1574 : decode code 1574 = .ok (.iload 4, 2) := by decide +kernel
theorem d_L_law_1576 : decode code 1576 = .ok (.iconst 1, 1) := by decide +kernel
theorem d_L_law_1577 : decode code 1577 = .ok (.iadd, 1) := by decide +kernel
theorem d_L_law_1578 : decode code 1578 = .ok (.iaload, 1) := by decide +kernel
theorem d_L_law_1579 : decode code 1579 = .ok (.aload_n 0, 1) := by decide +kernel
theorem d_L_law_1580 : decode code 1580 = .ok (.iload 4, 2) := by decide +kernel
theorem d_L_law_1582 : decode code 1582 = .ok (.iconst 2, 1) := by decide +kernel
theorem d_L_law_1583 : decode code 1583 = .ok (.iadd, 1) := by decide +kernel
theorem d_L_law_1584 : decode code 1584 = .ok (.iaload, 1) := by decide +kernel
theorem d_L_law_1585 : decode code 1585 = .ok (.invokevirtual 157, 3) := by decide +kernel
theorem d_L_law_1588 : decode code 1588 = .ok (.istore 6, 2) := by decide +kernel
theorem d_L_law_1590 : decode code 1590 = .ok (.aload_n 2, 1) := by decide +kernel
theorem d_L_law_1591 : decode code 1591 = .ok (.invokevirtual 93, 3) := by decide +kernel
theorem d_L_law_1594 : decode code 1594 = .ok (.iload 5, 2) := by decide +kernel
theorem d_L_law_1596 : decode code 1596 = .ok (.if_icmp .eq 5, 3) := by decide +kernel
theorem d_L_law_1599 : decode code 1599 = .ok (.iconst 0, 1) := by decide +kernel
theorem d_L_law_1600 : decode code 1600 = .ok (.ireturn, 1) := by decide +kernel
theorem d_L_law_1601 : decode code 1601 = .ok (.iload 5, 2) := by decide +kernel
theorem d_L_law_1603 : decode code 1603 = .ok (.ifCond .ne 15, 3) := by decide +kernel
theorem d_L_law_1606 : decode code 1606 = .ok (.aload_n 3, 1) := by decide +kernel
theorem d_L_law_1607 : decode code 1607 = .ok (.iconst 0, 1) := by decide +kernel
theorem d_L_law_1608 : decode code 1608 = .ok (.laload, 1) := by decide +kernel
theorem d_L_law_1609 : decode code 1609 = .ok (.iload 6, 2) := by decide +kernel
theorem d_L_law_1611 : decode code 1611 = .ok (.i2l, 1) := by decide +kernel
theorem d_L_law_1612 : decode code 1612 = .ok (.lcmp, 1) := by decide +kernel
theorem d_L_law_1613 : decode code 1613 = .ok (.ifCond .eq 5, 3) := by decide +kernel
theorem d_L_law_1616 : decode code 1616 = .ok (.iconst 0, 1) := by decide +kernel
theorem d_L_law_1617 : decode code 1617 = .ok (.ireturn, 1) := by decide +kernel
theorem d_L_law_1618 : decode code 1618 = .ok (.goto 59, 3) := by decide +kernel
theorem d_L_law_1621 : decode code 1621 = .ok (.aload_n 1, 1) := by decide +kernel
theorem d_L_law_1622 : decode code 1622 = .ok (.aload_n 0, 1) := by decide +kernel
theorem d_L_law_1623 : decode code 1623 = .ok (.iload 4, 2) := by decide +kernel
theorem d_L_law_1625 : decode code 1625 = .ok (.iconst 1, 1) := by decide +kernel
theorem d_L_law_1626 : decode code 1626 = .ok (.iadd, 1) := by decide +kernel
theorem d_L_law_1627 : decode code 1627 = .ok (.iaload, 1) := by decide +kernel
theorem d_L_law_1628 : decode code 1628 = .ok (.aload_n 3, 1) := by decide +kernel
theorem d_L_law_1629 : decode code 1629 = .ok (.invokestatic 158, 3) := by decide +kernel
theorem d_L_law_1632 : decode code 1632 = .ok (.istore 5, 2) := by decide +kernel
theorem d_L_law_1634 : decode code 1634 = .ok (.aload_n 2, 1) := by decide +kernel
theorem d_L_law_1635 : decode code 1635 = .ok (.aload_n 0, 1) := by decide +kernel
theorem d_L_law_1636 : decode code 1636 = .ok (.iload 4, 2) := by decide +kernel
theorem d_L_law_1638 : decode code 1638 = .ok (.iconst 1, 1) := by decide +kernel
theorem d_L_law_1639 : decode code 1639 = .ok (.iadd, 1) := by decide +kernel
theorem d_L_law_1640 : decode code 1640 = .ok (.iaload, 1) := by decide +kernel
theorem d_L_law_1641 : decode code 1641 = .ok (.invokevirtual 160, 3) := by decide +kernel
theorem d_L_law_1644 : decode code 1644 = .ok (.istore 6, 2) := by decide +kernel
theorem d_L_law_1646 : decode code 1646 = .ok (.aload_n 2, 1) := by decide +kernel
theorem d_L_law_1647 : decode code 1647 = .ok (.invokevirtual 93, 3) := by decide +kernel
theorem d_L_law_1650 : decode code 1650 = .ok (.iload 5, 2) := by decide +kernel
theorem d_L_law_1652 : decode code 1652 = .ok (.if_icmp .eq 5, 3) := by decide +kernel
theorem d_L_law_1655 : decode code 1655 = .ok (.iconst 0, 1) := by decide +kernel
theorem d_L_law_1656 : decode code 1656 = .ok (.ireturn, 1) := by decide +kernel
theorem d_L_law_1657 : decode code 1657 = .ok (.iload 5, 2) := by decide +kernel
theorem d_L_law_1659 : decode code 1659 = .ok (.ifCond .ne 15, 3) := by decide +kernel
theorem d_L_law_1662 : decode code 1662 = .ok (.aload_n 3, 1) := by decide +kernel
theorem d_L_law_1663 : decode code 1663 = .ok (.iconst 0, 1) := by decide +kernel
theorem d_L_law_1664 : decode code 1664 = .ok (.laload, 1) := by decide +kernel
theorem d_L_law_1665 : decode code 1665 = .ok (.iload 6, 2) := by decide +kernel
theorem d_L_law_1667 : decode code 1667 = .ok (.i2l, 1) := by decide +kernel
theorem d_L_law_1668 : decode code 1668 = .ok (.lcmp, 1) := by decide +kernel
theorem d_L_law_1669 : decode code 1669 = .ok (.ifCond .eq 5, 3) := by decide +kernel
theorem d_L_law_1672 : decode code 1672 = .ok (.iconst 0, 1) := by decide +kernel
theorem d_L_law_1673 : decode code 1673 = .ok (.ireturn, 1) := by decide +kernel
theorem d_L_law_1674 : decode code 1674 = .ok (.goto 3, 3) := by decide +kernel
theorem d_L_law_1677 : decode code 1677 = .ok (.iinc 4 6, 3) := by decide +kernel
theorem d_L_law_1680 : decode code 1680 = .ok (.goto (-1657), 3) := by decide +kernel
theorem d_L_law_1683 : decode code 1683 = .ok (.iconst 1, 1) := by decide +kernel
theorem d_L_law_1684 : decode code 1684 = .ok (.ireturn, 1) := by decide +kernel
end
section
/-! rows that were wanting: a throw whose text has a wide index, shifts, Math; cells of other kinds are other cells -/
section AmMore
variable {g : am_G} {d : Nat} {y : am_I} {pc : Nat} {L : List (Option Value)} {st : List Value} {S : am_S} {P : am_O → am_S → Prop}
theorem am_thrW {ik is ic ci : Nat} {cls text : String} {names : List String} (d0 : decode y.2.1 pc = .ok (.new ik, 3)) (d3 : decode y.2.1 (pc + 3) = .ok (.dup, 1)) (d4 : decode y.2.1 (pc + 4) = .ok (.ldc_w is, 3)) (d6 : decode y.2.1 (pc + 7) = .ok (.invokespecial ic, 3)) (d9 : decode y.2.1 (pc + 10) = .ok (.athrow, 1)) (hw : am_tw y.1.cls ik is ic cls text names ci) (hh : y.2.2.2.2 = []) (hst : (st.map fun v => v.category).sum ≤ 8) (hc : S.2.1 + 1 ≤ g.2.2.2.1) (hz : S.2.2 + 6 ≤ g.2.2.2.2.1)
    (hP : P (.inr S.2.1) (am_up S.1 S.2.1 (.inr (ci, [])), S.2.1 + 1, S.2.2 + 6)) : am_W g d y (pc, L, st) S P := by
  intro p l e R s m args below meth c H locs cells slots ls hF hH hL T hT X
  obtain ⟨hx, hb, hml, -, -, hown, hts, hlocks, hex, hK, hfr, hlo, hl, hU, hN, -, hstrs, -⟩ := id hF
  obtain ⟨hM, htot, hsz, hS, hns, hcs, hcs1, hss, hss1, hbs, hX, hbb⟩ := id hH
  obtain ⟨hcls, hnames, hn3, w1, w2, w3, w4, hgood, TC, hcl⟩ := hw
  obtain ⟨sa, hstr⟩ := hstrs _ w3
  have hstr : vk_R y.1.cls is text sa s := hstr
  have hno : c.exceptionTable.toList = [] := List.map_eq_nil_iff.mp (hex.trans hh)
  have hsize : ls.size = c.maxLocals := hL.1.1.trans hml.symm
  have htr : e.platform.stackTraces = false := (show e.platform.stackTraces = l.stackTraces by rw [X.admits.platform]).trans hl
  have Y := vx_rebase X (R' := { frames := R.frames, locals := R.locals, cells := 1, slots := 6 }) (Nat.le_refl _) (Nat.le_refl _) (by show cells + 1 ≤ R.cells; omega) (by show slots + 6 ≤ R.slots; omega)
  obtain ⟨u, hA⟩ : ∃ z, z = (T.setVm s.vm).setFrames (.invoking m args :: below) := ⟨_, rfl⟩
  rw [← hA] at Y
  have hvm : u.vm = s.vm := by rw [hA]; rfl
  have hhp : u.heap = H := by rw [hA]; exact hT
  have hW0 : s.WarmedH u.vm := by rw [hvm]; exact State.WarmedH.refl s
  have wd : ∀ w ∈ Cond.classLink y.1.cls ik cls :: Cond.initialized cls :: vx_atS y.1.cls ic cls names, w.before args s = true → w.before args u = true := fun w hw => vx_ot_at hW0 hvm.symm (hgood w hw)
  have hU2 : vx_Zq Bundle.tN "UNASSIGNED_STACK" Bundle.steD (am_A g) u u.heap := by rw [hhp]; exact vx_Zq.moved hW0.alike (hU.kept hS.2.1)
  have hN2 : vx_Zq Bundle.tN "SUPPRESSED_SENTINEL" Bundle.listD (am_A g) u u.heap := by rw [hhp]; exact vx_Zq.moved hW0.alike (hN.kept hS.2.1)
  have hall : ∀ w ∈ Bundle.ownAtoms y.1.cls ic cls names, w.before args u = true := vx_own (fun w hw => wd w (List.mem_cons_of_mem _ (List.mem_cons_of_mem _ hw)) (hts w (w4 w hw))) (vx_isRefq hU2.1) (vx_isRefq hN2.1) hU2.2.word hN2.2.word
  have hown2 : u.vm.findClass y.1.cls = some m.cls := by rw [hvm]; exact hown
  obtain ⟨vm1, cX, kX, hfX, hkX, -, -, X1, st1⟩ := Y.newCold hx (own := y.1.cls) (C := cls) (index := ik) (n := 6) hown2 (wd _ List.mem_cons_self (hts _ w1)) (hall _ (by simp [Bundle.ownAtoms])) (wd _ (List.mem_cons_of_mem _ List.mem_cons_self) (hts _ w2)) (g := F0 m pc ls st) rfl (by rw [hb]; exact d0) (Nat.le_refl _) (Nat.le_refl _)
  generalize hT1 : (T.setVm vm1).pushCell { cls := cX, slots := kX.instanceTypes.map defaultValue, vm := .none } = T1 at X1 st1
  have hTs : T.heap.size = S.2.1 := by rw [hT]; exact hsz
  have hcat : (Value.ref T.heap.size).category = 1 := rfl
  have hcellA : T1.heap[T.heap.size]? = some (freshCell cX kX) := by rw [← hT1]; exact State.heap_pushCell_size _ _
  have d3c : decode c.code (pc + 3) = .ok (.dup, 1) := by rw [hb]; exact d3
  have d4c : decode c.code (pc + 4) = .ok (.ldc_w is, 3) := by rw [hb]; exact d4
  have hstr2 : vk_R y.1.cls is text sa u := vk_R.warm hW0 hstr
  obtain ⟨U, hsteps, hrun, hend, hWu, hsame, ce, hce, hO⟩ := X1.ctorThrowS hx htr (own := y.1.cls) (cls := cls) (names := names) (ic := ic) hown2 hcls hnames hall (fun x hx => nomatch hx) hfX hkX hcellA (by rw [hhp, hT]; exact Nat.le_refl _) (msg := .ref sa) rfl
    (g := { method := m, pc := pc + 7, locals := ls, stack := .ref sa :: .ref T.heap.size :: .ref T.heap.size :: st, locked := none }) rfl hsize rfl rfl (rest := st) rfl (by rw [hb]; exact d6) (by rw [hb]; exact d9) (fun x hx => by rw [hno] at hx; cases hx) (by show names.length + 3 < R.frames; omega)
    (by simp only [List.map_cons, List.sum_cons, hcat]; show 2 * 0 + _ + _ ≤ R.locals; omega) hlocks
  obtain ⟨f1, f2⟩ := vx_frame hsame
  rw [hhp] at f1 f2
  have hWs : s.WarmedH U.vm := State.WarmedH.trans hW0 hWu
  have hcc : s.vm.findClass cls = some ce.cls := by
    have h9 := hO.cls
    rw [hvm] at h9
    exact h9
  have hUs : U.heap.size = H.size + 1 := by
    have h1 : U.heap.size ≤ u.heap.size + 1 := hsame.2.2.1
    have h2 : T.heap.size < U.heap.size := (Array.getElem?_eq_some_iff.mp hce).1
    rw [hhp] at h1
    rw [hT] at h2
    omega
  have hsn : s.sameButNew ({ U with vm := s.vm } : State) locs (cells + 1) (slots + 6) := by
    subst hA
    obtain ⟨e1, e2⟩ := hsame
    rw [State.setFrames_setFrames] at e1
    have h2 : (T.setVm s.vm).sameButNew ({ U with vm := s.vm } : State) [] (0 + 1) (0 + 6) := ⟨e1, e2⟩
    have h3 := X.same.trans h2
    rw [List.append_nil] at h3
    exact h3.mono (by omega) (by omega)
  refine ⟨U, ?_, .inr S.2.1, _, locs, cells + 1, slots + 6, hP, hrun, by rw [← hTs]; exact hend, hWs, hsn, ?_⟩
  · refine st1 _ ?_
    show Steps p.tables e below (T1.setTop { method := m, pc := pc + 3, locals := ls, stack := .ref T.heap.size :: st, locked := none }) _
    jvm_step X1.here [X1.here.top, hx, d3c, Value.category]
    exact X1.ldcStringW hx (own := y.1.cls) (text := text) (index := is) (a := sa) hown2 hstr2.1 hstr2.2 (g := { method := m, pc := pc + 4, locals := ls, stack := .ref T.heap.size :: .ref T.heap.size :: st, locked := none }) rfl d4c _ hsteps
  · refine hH.new ⟨_, hcl, ce, ?_, ?_, hO.vm, fun k hk => absurd hk (Nat.not_lt_zero k)⟩ hUs (fun q hq => f2 q hq (fun z hz => nomatch hz)) hc hz
    · show U.heap[S.2.1]? = some ce
      rw [← hTs]; exact hce
    · exact Option.some.inj (hcc.symm.trans (hK.1 ci _ hcl).2.1)
theorem am_lshr {x : Int64} {z : Int32} (hd : decode y.2.1 pc = .ok (.lshr, 1)) (k : am_W g d y (pc + 1, L, .long (x >>> (z.toInt64 &&& 63)) :: st) S P) : am_W g d y (pc, L, .int z :: .long x :: st) S P := by
  intro p l e R s m args below meth c H locs cells slots ls hF hH hL
  exact lv_lshr hF.1 hF.2.1 hd rfl (k p l e R s m args below meth c H locs cells slots ls hF hH hL)
theorem am_mmax {ix : Nat} {x z : Int32} (hd : decode y.2.1 pc = .ok (.invokestatic ix, 3)) (h1 : Cond.methodLink y.1.cls ix Lib.Math.max.name ∈ am_tbl) (hr : (st.map fun v => v.category).sum ≤ 8) (k : am_W g d y (pc + 3, L, .int (if x < z then z else x) :: st) S P) : am_W g d y (pc, L, .int z :: .int x :: st) S P := by
  intro p l e R s m args below meth c H locs cells slots ls hF hH hL
  obtain ⟨hx, hb, hml, -, -, hown, hts, -, -, hK, hfr, hlo, -⟩ := id hF
  exact va_mmax hx hb (hml.trans hL.1.1.symm) hown (hts _ h1) (hts _ (am_in 309 (by decide +kernel) rfl)) (hts _ (am_in 10 (by decide +kernel) rfl)) (hts _ (am_in 310 (by decide +kernel) rfl)) (by omega) (by omega) hH.2.2.2.2.2.2.1 hH.2.2.2.2.2.2.2.2.1 hd (k p l e R s m args below meth c H locs cells slots ls hF hH hL)
theorem am_mmin {ix : Nat} {x z : Int32} (hd : decode y.2.1 pc = .ok (.invokestatic ix, 3)) (h1 : Cond.methodLink y.1.cls ix Lib.Math.min.name ∈ am_tbl) (hr : (st.map fun v => v.category).sum ≤ 8) (k : am_W g d y (pc + 3, L, .int (if z < x then z else x) :: st) S P) : am_W g d y (pc, L, .int z :: .int x :: st) S P := by
  intro p l e R s m args below meth c H locs cells slots ls hF hH hL
  obtain ⟨hx, hb, hml, -, -, hown, hts, -, -, hK, hfr, hlo, -⟩ := id hF
  exact va_mmin hx hb (hml.trans hL.1.1.symm) hown (hts _ h1) (hts _ (am_in 312 (by decide +kernel) rfl)) (hts _ (am_in 10 (by decide +kernel) rfl)) (hts _ (am_in 313 (by decide +kernel) rfl)) (by omega) (by omega) hH.2.2.2.2.2.2.1 hH.2.2.2.2.2.2.2.2.1 hd (k p l e R s m args below meth c H locs cells slots ls hF hH hL)
theorem am_mmax_long {ix : Nat} {x z : Int64} (hd : decode y.2.1 pc = .ok (.invokestatic ix, 3)) (h1 : Cond.methodLink y.1.cls ix Lib.MathLoose.max_long.x ∈ am_tbl) (hr : (st.map fun v => v.category).sum ≤ 8) (k : am_W g d y (pc + 3, L, .long (if z < x then x else z) :: st) S P) : am_W g d y (pc, L, .long z :: .long x :: st) S P := by
  intro p l e R s m args below meth c H locs cells slots ls hF hH hL
  obtain ⟨hx, hb, hml, -, -, hown, hts, -, -, hK, hfr, hlo, -⟩ := id hF
  exact va_mmax_long hx hb (hml.trans hL.1.1.symm) hown (hts _ h1) (hts _ (am_in 428 (by decide +kernel) rfl)) (hts _ (am_in 10 (by decide +kernel) rfl)) (hts _ (am_in 429 (by decide +kernel) rfl)) (by omega) (by omega) hH.2.2.2.2.2.2.1 hH.2.2.2.2.2.2.2.2.1 hd (k p l e R s m args below meth c H locs cells slots ls hF hH hL)
theorem am_mmin_long {ix : Nat} {x z : Int64} (hd : decode y.2.1 pc = .ok (.invokestatic ix, 3)) (h1 : Cond.methodLink y.1.cls ix Lib.MathLoose.min_long.x ∈ am_tbl) (hr : (st.map fun v => v.category).sum ≤ 8) (k : am_W g d y (pc + 3, L, .long (if z < x then z else x) :: st) S P) : am_W g d y (pc, L, .long z :: .long x :: st) S P := by
  intro p l e R s m args below meth c H locs cells slots ls hF hH hL
  obtain ⟨hx, hb, hml, -, -, hown, hts, -, -, hK, hfr, hlo, -⟩ := id hF
  exact va_mmin_long hx hb (hml.trans hL.1.1.symm) hown (hts _ h1) (hts _ (am_in 224 (by decide +kernel) rfl)) (hts _ (am_in 10 (by decide +kernel) rfl)) (hts _ (am_in 225 (by decide +kernel) rfl)) (by omega) (by omega) hH.2.2.2.2.2.2.1 hH.2.2.2.2.2.2.2.2.1 hd (k p l e R s m args below meth c H locs cells slots ls hF hH hL)
end AmMore
def am_kd (e : va_E) : Nat × Nat × Nat := match e with
  | .inr o => (0, o.1, 0)
  | .inl a => (1, a.1, a.2.1)
theorem am_nd {M : am_M} {a b : Nat} {e e0 : va_E} (hb : M b = some e) (ha : M a = some e0) (h : am_kd e ≠ am_kd e0) : b ≠ a := fun q => h (by rw [q] at hb; rw [Option.some.inj (hb.symm.trans ha)])
/-- what a throw of the class ci leaves -/
abbrev am_thrown (ci : Nat) (S : am_S) : am_S := (am_up S.1 S.2.1 (.inr (ci, [])), S.2.1 + 1, S.2.2 + 6)
end
section
set_option maxHeartbeats 4000000 in
set_option maxRecDepth 100000 in
/-- needAxis -/
theorem c_needAxis {g : am_G} {d : Nat} {S : am_S} {v st ex sp : Nat} {sa xs it : Int32} (hv : S.1 v = some (.inr (1, [.ref st, .int sa, .int xs, .int it, .ref ex, .ref sp]))) (ax : Int32) (hr1 : S.2.1 + 1 ≤ g.2.2.2.1) (hr2 : S.2.2 + 6 ≤ g.2.2.2.2.1) : am_W g d mm_X_needAxis (0, am_ent [.ref v, .int ax] 2, []) S (fun o S1 => ((ax < 0 ∨ xs ≤ ax) ∧ o = .inr S.2.1 ∧ S1 = am_thrown 4 S) ∨ (¬ (ax < 0 ∨ xs ≤ ax) ∧ o = .inl none ∧ S1 = S)) := by
  show am_W g d mm_X_needAxis (0, [some (.ref v), some (.int ax)], []) S _
  refine am_iloadn d_X_needAxis_0 rfl ?_
  refine am_iflt (tgt := 12) d_X_needAxis_1 (by decide) (fun hc_1 => ?_) (fun hc_1 => ?_)
  · exact am_thr d_X_needAxis_12 d_X_needAxis_15 d_X_needAxis_16 d_X_needAxis_18 d_X_needAxis_21 tw_X_96_246_100 rfl (Nat.le_of_ble_eq_true rfl) hr1 hr2 (by first | exact Or.inl ⟨by simp_all, rfl, rfl⟩ | exact Or.inr ⟨by simp_all, rfl, rfl⟩)
  · refine am_iloadn d_X_needAxis_4 rfl ?_
    refine am_aloadn d_X_needAxis_5 rfl ?_
    refine am_get d_X_needAxis_6 fl_X_104 hv rfl ?_
    refine am_iclt (tgt := 22) d_X_needAxis_9 (by decide) (fun hc_2 => ?_) (fun hc_2 => ?_)
    · exact am_vret d_X_needAxis_22 rfl (by first | exact Or.inl ⟨by simp_all, rfl, rfl⟩ | exact Or.inr ⟨by simp_all, rfl, rfl⟩)
    · exact am_thr d_X_needAxis_12 d_X_needAxis_15 d_X_needAxis_16 d_X_needAxis_18 d_X_needAxis_21 tw_X_96_246_100 rfl (Nat.le_of_ble_eq_true rfl) hr1 hr2 (by first | exact Or.inl ⟨by simp_all, rfl, rfl⟩ | exact Or.inr ⟨by simp_all, rfl, rfl⟩)
set_option maxHeartbeats 4000000 in
set_option maxRecDepth 100000 in
/-- needItem -/
theorem c_needItem {g : am_G} {d : Nat} {S : am_S} {v st ex sp : Nat} {sa xs it : Int32} (hv : S.1 v = some (.inr (1, [.ref st, .int sa, .int xs, .int it, .ref ex, .ref sp]))) (i : Int32) (hr1 : S.2.1 + 1 ≤ g.2.2.2.1) (hr2 : S.2.2 + 6 ≤ g.2.2.2.2.1) : am_W g d mm_X_needItem (0, am_ent [.ref v, .int i] 2, []) S (fun o S1 => ((i < 0 ∨ it ≤ i) ∧ o = .inr S.2.1 ∧ S1 = am_thrown 4 S) ∨ (¬ (i < 0 ∨ it ≤ i) ∧ o = .inl none ∧ S1 = S)) := by
  show am_W g d mm_X_needItem (0, [some (.ref v), some (.int i)], []) S _
  refine am_iloadn d_X_needItem_0 rfl ?_
  refine am_iflt (tgt := 12) d_X_needItem_1 (by decide) (fun hc_1 => ?_) (fun hc_1 => ?_)
  · exact am_thr d_X_needItem_12 d_X_needItem_15 d_X_needItem_16 d_X_needItem_18 d_X_needItem_21 tw_X_96_248_100 rfl (Nat.le_of_ble_eq_true rfl) hr1 hr2 (by first | exact Or.inl ⟨by simp_all, rfl, rfl⟩ | exact Or.inr ⟨by simp_all, rfl, rfl⟩)
  · refine am_iloadn d_X_needItem_4 rfl ?_
    refine am_aloadn d_X_needItem_5 rfl ?_
    refine am_get d_X_needItem_6 fl_X_139 hv rfl ?_
    refine am_iclt (tgt := 22) d_X_needItem_9 (by decide) (fun hc_2 => ?_) (fun hc_2 => ?_)
    · exact am_vret d_X_needItem_22 rfl (by first | exact Or.inl ⟨by simp_all, rfl, rfl⟩ | exact Or.inr ⟨by simp_all, rfl, rfl⟩)
    · exact am_thr d_X_needItem_12 d_X_needItem_15 d_X_needItem_16 d_X_needItem_18 d_X_needItem_21 tw_X_96_248_100 rfl (Nat.le_of_ble_eq_true rfl) hr1 hr2 (by first | exact Or.inl ⟨by simp_all, rfl, rfl⟩ | exact Or.inr ⟨by simp_all, rfl, rfl⟩)
set_option maxHeartbeats 4000000 in
set_option maxRecDepth 100000 in
/-- needLane -/
theorem c_needLane {g : am_G} {d : Nat} {S : am_S} (ln : Int32) (hr1 : S.2.1 + 1 ≤ g.2.2.2.1) (hr2 : S.2.2 + 6 ≤ g.2.2.2.2.1) : am_W g d mm_X_needLane (0, am_ent [.int ln] 1, []) S (fun o S1 => ((ln < 0 ∨ 3 < ln) ∧ o = .inr S.2.1 ∧ S1 = am_thrown 5 S) ∨ (¬ (ln < 0 ∨ 3 < ln) ∧ o = .inl none ∧ S1 = S)) := by
  show am_W g d mm_X_needLane (0, [some (.int ln)], []) S _
  refine am_iloadn d_X_needLane_0 rfl ?_
  refine am_iflt (tgt := 9) d_X_needLane_1 (by decide) (fun hc_1 => ?_) (fun hc_1 => ?_)
  · exact am_thr d_X_needLane_9 d_X_needLane_12 d_X_needLane_13 d_X_needLane_15 d_X_needLane_18 tw_X_44_250_48 rfl (Nat.le_of_ble_eq_true rfl) hr1 hr2 (by first | exact Or.inl ⟨by simp_all, rfl, rfl⟩ | exact Or.inr ⟨by simp_all, rfl, rfl⟩)
  · refine am_iloadn d_X_needLane_4 rfl ?_
    refine am_iconst 3 d_X_needLane_5 (by decide) ?_
    refine am_icle (tgt := 19) d_X_needLane_6 (by decide) (fun hc_2 => ?_) (fun hc_2 => ?_)
    · exact am_vret d_X_needLane_19 rfl (by first | exact Or.inl ⟨by simp_all, rfl, rfl⟩ | exact Or.inr ⟨by simp_all, rfl, rfl⟩)
    · exact am_thr d_X_needLane_9 d_X_needLane_12 d_X_needLane_13 d_X_needLane_15 d_X_needLane_18 tw_X_44_250_48 rfl (Nat.le_of_ble_eq_true rfl) hr1 hr2 (by first | exact Or.inl ⟨by simp_all, rfl, rfl⟩ | exact Or.inr ⟨by simp_all, rfl, rfl⟩)
set_option maxHeartbeats 4000000 in
set_option maxRecDepth 100000 in
/-- needFewNumbers -/
theorem c_needFew {g : am_G} {d : Nat} {S : am_S} (n : Int32) (hr1 : S.2.1 + 1 ≤ g.2.2.2.1) (hr2 : S.2.2 + 6 ≤ g.2.2.2.2.1) : am_W g d mm_X_needFewNumbers (0, am_ent [.int n] 1, []) S (fun o S1 => ((300 < n) ∧ o = .inr S.2.1 ∧ S1 = am_thrown 6 S) ∨ (¬ (300 < n) ∧ o = .inl none ∧ S1 = S)) := by
  show am_W g d mm_X_needFewNumbers (0, [some (.int n)], []) S _
  refine am_iloadn d_X_needFewNumbers_0 rfl ?_
  refine am_sipush 300 d_X_needFewNumbers_1 (by decide) ?_
  refine am_icle (tgt := 18) d_X_needFewNumbers_4 (by decide) (fun hc_1 => ?_) (fun hc_1 => ?_)
  · exact am_vret d_X_needFewNumbers_18 rfl (by first | exact Or.inl ⟨by simp_all, rfl, rfl⟩ | exact Or.inr ⟨by simp_all, rfl, rfl⟩)
  · exact am_thrW d_X_needFewNumbers_7 d_X_needFewNumbers_10 d_X_needFewNumbers_11 d_X_needFewNumbers_14 d_X_needFewNumbers_17 tw_X_111_263_115 rfl (Nat.le_of_ble_eq_true rfl) hr1 hr2 (by first | exact Or.inl ⟨by simp_all, rfl, rfl⟩ | exact Or.inr ⟨by simp_all, rfl, rfl⟩)
set_option maxHeartbeats 4000000 in
set_option maxRecDepth 100000 in
/-- needRoomForStore -/
theorem c_needRoom {g : am_G} {d : Nat} {S : am_S} {x B1 B2 B3 B4 B5 : Nat} {ns nv : Int32} (hx : S.1 x = some (.inr (2, [.ref B1, .ref B2, .int ns, .int nv, .ref B3, .ref B4, .ref B5]))) (hr1 : S.2.1 + 1 ≤ g.2.2.2.1) (hr2 : S.2.2 + 6 ≤ g.2.2.2.2.1) : am_W g d mm_X_needRoomForStore (0, am_ent [.ref x] 1, []) S (fun o S1 => ((12 ≤ ns ∨ 80 ≤ nv) ∧ o = .inr S.2.1 ∧ S1 = am_thrown 6 S) ∨ (¬ (12 ≤ ns ∨ 80 ≤ nv) ∧ o = .inl none ∧ S1 = S)) := by
  show am_W g d mm_X_needRoomForStore (0, [some (.ref x)], []) S _
  refine am_aloadn d_X_needRoomForStore_0 rfl ?_
  refine am_get d_X_needRoomForStore_1 fl_X_33 hx rfl ?_
  refine am_bipush 12 d_X_needRoomForStore_4 (by decide) ?_
  refine am_icge (tgt := 18) d_X_needRoomForStore_6 (by decide) (fun hc_1 => ?_) (fun hc_1 => ?_)
  · exact am_thrW d_X_needRoomForStore_18 d_X_needRoomForStore_21 d_X_needRoomForStore_22 d_X_needRoomForStore_25 d_X_needRoomForStore_28 tw_X_111_265_115 rfl (Nat.le_of_ble_eq_true rfl) hr1 hr2 (by first | exact Or.inl ⟨by simp_all, rfl, rfl⟩ | exact Or.inr ⟨by simp_all, rfl, rfl⟩)
  · refine am_aloadn d_X_needRoomForStore_9 rfl ?_
    refine am_get d_X_needRoomForStore_10 fl_X_37 hx rfl ?_
    refine am_bipush 80 d_X_needRoomForStore_13 (by decide) ?_
    refine am_iclt (tgt := 29) d_X_needRoomForStore_15 (by decide) (fun hc_2 => ?_) (fun hc_2 => ?_)
    · exact am_vret d_X_needRoomForStore_29 rfl (by first | exact Or.inl ⟨by simp_all, rfl, rfl⟩ | exact Or.inr ⟨by simp_all, rfl, rfl⟩)
    · exact am_thrW d_X_needRoomForStore_18 d_X_needRoomForStore_21 d_X_needRoomForStore_22 d_X_needRoomForStore_25 d_X_needRoomForStore_28 tw_X_111_265_115 rfl (Nat.le_of_ble_eq_true rfl) hr1 hr2 (by first | exact Or.inl ⟨by simp_all, rfl, rfl⟩ | exact Or.inr ⟨by simp_all, rfl, rfl⟩)
end
section
/-! numbers of views: products of extents, places; and rows that name the top of the stack -/
section AmTop
variable {g : am_G} {d : Nat} {y : am_I} {pc : Nat} {L : List (Option Value)} {st : List Value} {S : am_S} {P : am_O → am_S → Prop}
theorem am_tl {a b : Int64} (h : a = b) (k : am_W g d y (pc, L, .long b :: st) S P) : am_W g d y (pc, L, .long a :: st) S P := by rw [h]; exact k
theorem am_ti {a b : Int32} (h : a = b) (k : am_W g d y (pc, L, .int b :: st) S P) : am_W g d y (pc, L, .int a :: st) S P := by rw [h]; exact k
end AmTop
/-- the product of the first n extents, but for the axis b -/
def sv_prs (E : Nat → Nat) (b : Int32) : Nat → Nat
  | 0 => 1
  | n + 1 => if nI n = b then sv_prs E b n else sv_prs E b n * E n
def sv_pr (E : Nat → Nat) : Nat → Nat
  | 0 => 1
  | n + 1 => sv_pr E n * E n
/-- where the item i lies beyond the start: the last axis's index goes first -/
def sv_pl (E : Nat → Nat) (p : Nat → Int32) : Nat → Nat → Int32
  | 0, _ => 0
  | n + 1, i => nI (i % E n) * p n + sv_pl E p n (i / E n)
/-- the index of the item i along the axis k -/
def sv_ix (E : Nat → Nat) : Nat → Nat → Nat → Nat
  | 0, _, _ => 0
  | n + 1, k, i => if k = n then i % E n else sv_ix E n k (i / E n)
/-- extents that an int holds -/
abbrev sv_ok (E : Nat → Nat) (n : Nat) : Prop := ∀ k, k < n → E k < 2 ^ 31
theorem sv_neg1 {n : Nat} (h : n < 2 ^ 31) : ¬ nI n = -1 := by
  intro q
  have h1 := nI_toInt h
  rw [q] at h1
  have h2 : (-1 : Int32).toInt = -1 := by decide
  omega
theorem sv_prs_none (E : Nat → Nat) : ∀ n, n < 2 ^ 31 → sv_prs E (-1) n = sv_pr E n := by
  intro n
  induction n with
  | zero => intro _; rfl
  | succ n ih => intro h; simp only [sv_prs, sv_pr]; rw [if_neg (sv_neg1 (by omega)), ih (by omega)]
theorem sv_min_step {a e : Nat} (he : e < 2 ^ 31) : (if (2147483647 : Int64) < lN (min a 2147483647) * (nI e).toInt64 then (2147483647 : Int64) else lN (min a 2147483647) * (nI e).toInt64) = lN (min (a * e) 2147483647) := by
  have hm : min a 2147483647 ≤ 2147483647 := Nat.min_le_right _ _
  have h1 : min a 2147483647 * e < 2 ^ 63 := by
    have : min a 2147483647 * e ≤ 2147483647 * 2147483647 := Nat.mul_le_mul hm (by omega)
    omega
  rw [nI_l he, lN_mul]
  have h2 : (2147483647 : Int64) = lN 2147483647 := rfl
  rw [h2]
  by_cases hc : 2147483647 < min a 2147483647 * e
  · rw [if_pos ((pk_lLT (by decide) h1).mpr hc)]
    congr 1
    have : 2147483647 ≤ a * e := Nat.le_trans (Nat.le_of_lt hc) (Nat.mul_le_mul_right e (Nat.min_le_left _ _))
    omega
  · rw [if_neg (fun q => hc ((pk_lLT (by decide) h1).mp q))]
    congr 1
    rcases Nat.le_total a 2147483647 with h3 | h3
    · rw [Nat.min_eq_left h3] at hc ⊢
      omega
    · rw [Nat.min_eq_right h3] at hc ⊢
      rcases Nat.eq_zero_or_pos e with h4 | h4
      · subst h4; simp
      · have h5 : e = 1 := by
          rcases Nat.lt_or_ge 1 e with h6 | h6
          · have := Nat.mul_le_mul_left 2147483647 h6
            omega
          · omega
        subst h5
        omega
end
section
/-! array rows at an index that is a number; a view in cells -/
section AmN
variable {g : am_G} {d : Nat} {y : am_I} {pc : Nat} {L : List (Option Value)} {st : List Value} {S : am_S} {P : am_O → am_S → Prop}
theorem am_ialdN {a t n k : Nat} {f : Nat → Int32} (hd : decode y.2.1 pc = .ok (.iaload, 1)) (ht : am_tyl[t]? = some .int) (hM : S.1 a = some (.inl (t, n, .inl f))) (hk : k < n) (hn : n < 2 ^ 31) (kk : am_W g d y (pc + 1, L, .int (f k) :: st) S P) : am_W g d y (pc, L, .int (nI k) :: .ref a :: st) S P :=
  am_iald hd ht hM (vp_in_nI hk hn) (by rw [nI_clamp (Nat.lt_trans hk hn)]; exact kk)
theorem am_laldN {a t n k : Nat} {f : Nat → Int64} (hd : decode y.2.1 pc = .ok (.laload, 1)) (ht : am_tyl[t]? = some .long) (hM : S.1 a = some (.inl (t, n, .inr (.inl f)))) (hk : k < n) (hn : n < 2 ^ 31) (kk : am_W g d y (pc + 1, L, .long (f k) :: st) S P) : am_W g d y (pc, L, .int (nI k) :: .ref a :: st) S P :=
  am_lald hd ht hM (vp_in_nI hk hn) (by rw [nI_clamp (Nat.lt_trans hk hn)]; exact kk)
theorem am_zaldN {a t n k : Nat} {f : Nat → Int32} (hd : decode y.2.1 pc = .ok (.baload, 1)) (ht : am_tyl[t]? = some .boolean) (hM : S.1 a = some (.inl (t, n, .inl f))) (hk : k < n) (hn : n < 2 ^ 31) (kk : am_W g d y (pc + 1, L, .int (f k) :: st) S P) : am_W g d y (pc, L, .int (nI k) :: .ref a :: st) S P :=
  am_zald hd ht hM (vp_in_nI hk hn) (by rw [nI_clamp (Nat.lt_trans hk hn)]; exact kk)
theorem am_iastN {a t n k : Nat} {f : Nat → Int32} {x : Int32} (hd : decode y.2.1 pc = .ok (.iastore, 1)) (ht : am_tyl[t]? = some .int) (hM : S.1 a = some (.inl (t, n, .inl f))) (hk : k < n) (hn : n < 2 ^ 31) (kk : am_W g d y (pc + 1, L, st) (am_up S.1 a (.inl (t, n, .inl (upd f k x))), S.2) P) : am_W g d y (pc, L, .int x :: .int (nI k) :: .ref a :: st) S P :=
  am_iast hd ht hM (vp_in_nI hk hn) (by rw [nI_clamp (Nat.lt_trans hk hn)]; exact kk)
theorem am_lastN {a t n k : Nat} {f : Nat → Int64} {x : Int64} (hd : decode y.2.1 pc = .ok (.lastore, 1)) (ht : am_tyl[t]? = some .long) (hM : S.1 a = some (.inl (t, n, .inr (.inl f)))) (hk : k < n) (hn : n < 2 ^ 31) (kk : am_W g d y (pc + 1, L, st) (am_up S.1 a (.inl (t, n, .inr (.inl (vp_updL f k x)))), S.2) P) : am_W g d y (pc, L, .long x :: .int (nI k) :: .ref a :: st) S P :=
  am_last hd ht hM (vp_in_nI hk hn) (by rw [nI_clamp (Nat.lt_trans hk hn)]; exact kk)
theorem am_zastN {a t n k : Nat} {f : Nat → Int32} {x : Int32} (hd : decode y.2.1 pc = .ok (.bastore, 1)) (ht : am_tyl[t]? = some .boolean) (hM : S.1 a = some (.inl (t, n, .inl f))) (hk : k < n) (hn : n < 2 ^ 31) (kk : am_W g d y (pc + 1, L, st) (am_up S.1 a (.inl (t, n, .inl (upd f k (vp_nar .boolean x)))), S.2) P) : am_W g d y (pc, L, .int x :: .int (nI k) :: .ref a :: st) S P :=
  am_zast hd ht hM (vp_in_nI hk hn) (by rw [nI_clamp (Nat.lt_trans hk hn)]; exact kk)
theorem am_aaldN {a t n k : Nat} {C : String} {f : Nat → Option Nat} {v : Nat} (hd : decode y.2.1 pc = .ok (.aaload, 1)) (ht : am_tyl[t]? = some (.object C)) (hM : S.1 a = some (.inl (t, n, .inr (.inr (.inr (.inr f)))))) (hk : k < n) (hn : n < 2 ^ 31) (hv : f k = some v) (kk : am_W g d y (pc + 1, L, .ref v :: st) S P) : am_W g d y (pc, L, .int (nI k) :: .ref a :: st) S P :=
  am_aald hd ht hM (vp_in_nI hk hn) (by rw [nI_clamp (Nat.lt_trans hk hn)]; exact hv) kk
theorem am_aastN {a t n ci v k : Nat} {r : vw_C} {vs : List Value} {f : Nat → Option Nat} (hd : decode y.2.1 pc = .ok (.aastore, 1)) (ht : am_tyl[t]? = some (.object r.1)) (hM : S.1 a = some (.inl (t, n, .inr (.inr (.inr (.inr f)))))) (hv : S.1 v = some (.inr (ci, vs))) (hc : am_cl[ci]? = some r) (hk : k < n) (hn : n < 2 ^ 31) (kk : am_W g d y (pc + 1, L, st) (am_up S.1 a (.inl (t, n, .inr (.inr (.inr (.inr (va_up f k (some v))))))), S.2) P) : am_W g d y (pc, L, .ref v :: .int (nI k) :: .ref a :: st) S P :=
  am_aast hd ht hM hv hc (vp_in_nI hk hn) (by rw [nI_clamp (Nat.lt_trans hk hn)]; exact kk)
end AmN
/-- a view: its object, its two rows -/
def sv_V (M : am_M) (v st : Nat) (sa : Int32) (n : Nat) (it : Int32) (ex sp : Nat) (fe fs : Nat → Int32) : Prop :=
  M v = some (.inr (1, [.ref st, .int sa, .int (nI n), .int it, .ref ex, .ref sp])) ∧ M ex = some (.inl (0, 4, .inl fe)) ∧ M sp = some (.inl (0, 4, .inl fs)) ∧ ex ≠ sp ∧ n ≤ 4
theorem sv_V.of {M M' : am_M} {v st : Nat} {sa : Int32} {n : Nat} {it : Int32} {ex sp : Nat} {fe fs : Nat → Int32} (h : sv_V M v st sa n it ex sp fe fs) (h1 : M' v = M v) (h2 : M' ex = M ex) (h3 : M' sp = M sp) : sv_V M' v st sa n it ex sp fe fs :=
  ⟨h1.trans h.1, h2.trans h.2.1, h3.trans h.2.2.1, h.2.2.2⟩
theorem sv_V.ne {M : am_M} {v st : Nat} {sa : Int32} {n : Nat} {it : Int32} {ex sp : Nat} {fe fs : Nat → Int32} (h : sv_V M v st sa n it ex sp fe fs) : v ≠ ex ∧ v ≠ sp :=
  ⟨am_nd h.1 h.2.1 (by simp [am_kd]), am_nd h.1 h.2.2.1 (by simp [am_kd])⟩
/-- an axis more, at place j -/
def sv_ins {α : Type} (f : Nat → α) (j : Nat) (x : α) : Nat → α := fun k => if k < j then f k else if k = j then x else f (k - 1)
/-- an axis less -/
def sv_rem {α : Type} (f : Nat → α) (j : Nat) : Nat → α := fun k => if k < j then f k else f (k + 1)
/-- only the view's own cells have changed -/
def sv_fr (S S1 : am_S) (v ex sp : Nat) : Prop := S1.2 = S.2 ∧ ∀ q : Nat, q ≠ v → q ≠ ex → q ≠ sp → S1.1 q = S.1 q
theorem sv_fr.rf {S : am_S} {v ex sp : Nat} : sv_fr S S v ex sp := ⟨rfl, fun _ _ _ _ => rfl⟩
theorem sv_fr.tr {S S1 S2 : am_S} {v ex sp : Nat} (h : sv_fr S S1 v ex sp) (k : sv_fr S1 S2 v ex sp) : sv_fr S S2 v ex sp := ⟨k.1.trans h.1, fun q a b c => (k.2 q a b c).trans (h.2 q a b c)⟩
theorem sv_fr.u1 {S S1 : am_S} {v ex sp : Nat} {e : va_E} (h : sv_fr S S1 v ex sp) : sv_fr S (am_up S1.1 v e, S1.2) v ex sp := ⟨h.1, fun q a b c => (am_up_n a).trans (h.2 q a b c)⟩
theorem sv_fr.u2 {S S1 : am_S} {v ex sp : Nat} {e : va_E} (h : sv_fr S S1 v ex sp) : sv_fr S (am_up S1.1 ex e, S1.2) v ex sp := ⟨h.1, fun q a b c => (am_up_n b).trans (h.2 q a b c)⟩
theorem sv_fr.u3 {S S1 : am_S} {v ex sp : Nat} {e : va_E} (h : sv_fr S S1 v ex sp) : sv_fr S (am_up S1.1 sp e, S1.2) v ex sp := ⟨h.1, fun q a b c => (am_up_n c).trans (h.2 q a b c)⟩
/-- a view one of whose axes is spread -/
def sv_fx (fe fs : Nat → Int32) (n : Nat) : Prop := ∃ k, k < n ∧ fs k = 0 ∧ 2 ≤ fe k
def sv_go (n : Nat) (fe : Nat → Int32) (nt : Nat) (te : Nat → Int32) : Prop := n ≤ nt ∧ ∀ k, k < n → fe k = 1 ∨ fe k = te (k + (nt - n))
def sv_he (n : Nat) (fe : Nat → Int32) (nt : Nat) (te : Nat → Int32) : Prop := n = nt ∧ ∀ k, k < n → fe k = te k
theorem nI_subN {a b : Nat} (h : b ≤ a) {c : Int32} (hc : c = nI b) : nI a - c = nI (a - b) := by rw [hc]; exact pk_sub h
theorem nI_m1N {a : Nat} (h : 0 < a) : nI a - 1 = nI (a - 1) := by
  obtain ⟨b, rfl⟩ : ∃ q, a = q + 1 := ⟨a - 1, by omega⟩
  exact nI_pred b
theorem nI_d1N {a : Nat} (h : 0 < a) : nI a + (-1) = nI (a - 1) := by
  obtain ⟨b, rfl⟩ : ∃ q, a = q + 1 := ⟨a - 1, by omega⟩
  exact pk_m1 b
end
section
set_option maxHeartbeats 4000000 in
set_option maxRecDepth 100000 in
/-- the loop of itemsBut -/
theorem c_itemsBut_l {g : am_G} {d : Nat} {S : am_S} {v st : Nat} {sa : Int32} {n : Nat} {it : Int32} {ex sp : Nat} {fe fs : Nat → Int32} (hV : sv_V S.1 v st sa n it ex sp fe fs) (F : Nat → Nat) (hF : ∀ k, k < n → fe k = nI (F k)) (hO : sv_ok F n) (b : Int32) {P : am_O → am_S → Prop} (hP : P (.inl (some (.int (nI (min (sv_prs F b n) 2147483647))))) S) : ∀ (m k : Nat), k + m = n → am_W g d mm_V_itemsBut (5, [some (.ref v), some (.int b), some (.long (lN (min (sv_prs F b k) 2147483647))), none, some (.int (nI k))], []) S P := by
  obtain ⟨hv, he, hs, hne, hn4⟩ := id hV
  intro m
  induction m using Nat.strongRecOn with
  | ind m ih =>
    intro k hk
    refine am_iload d_V_itemsBut_5 rfl ?_
    refine am_aloadn d_V_itemsBut_7 rfl ?_
    refine am_get d_V_itemsBut_8 fl_V_26 hv rfl ?_
    refine am_icge (tgt := 43) d_V_itemsBut_11 (by decide) (fun hc => ?_) (fun hc => ?_)
    · have hk0 : n ≤ k := (nI_leI (by omega) (by omega)).mp hc
      obtain rfl : k = n := by omega
      refine am_lloadn d_V_itemsBut_43 rfl ?_
      refine am_l2i d_V_itemsBut_44 ?_
      refine am_ti (b := nI (min (sv_prs F b k) 2147483647)) (lN_i _) ?_
      exact am_iret d_V_itemsBut_45 rfl hP
    · have hlt : k < n := Nat.lt_of_not_le (fun q => hc (nI_le q (by omega)))
      obtain ⟨m, rfl⟩ : ∃ q, m = q + 1 := ⟨m - 1, by omega⟩
      refine am_iload d_V_itemsBut_14 rfl ?_
      refine am_iloadn d_V_itemsBut_16 rfl ?_
      refine am_iceq (tgt := 37) d_V_itemsBut_17 (by decide) (fun hq => ?_) (fun hq => ?_)
      · have h9 : sv_prs F b (k + 1) = sv_prs F b k := by show (if nI k = b then _ else _) = _; rw [if_pos hq]
        refine am_iinc (v := nI (k + 1)) (L' := [some (.ref v), some (.int b), some (.long (lN (min (sv_prs F b k) 2147483647))), none, some (.int (nI (k + 1)))]) d_V_itemsBut_37 rfl (nI_1 k) (by decide) rfl rfl ?_
        refine am_goto (tgt := 5) d_V_itemsBut_40 (by decide) ?_
        rw [← h9]
        exact ih m (by omega) (k + 1) (by omega)
      · have h9 : sv_prs F b (k + 1) = sv_prs F b k * F k := by show (if nI k = b then _ else _) = _; rw [if_neg hq]
        refine am_lloadn d_V_itemsBut_20 rfl ?_
        refine am_aloadn d_V_itemsBut_21 rfl ?_
        refine am_get d_V_itemsBut_22 fl_V_9 hv rfl ?_
        refine am_iload d_V_itemsBut_25 rfl ?_
        refine am_ialdN (t := 0) (k := k) d_V_itemsBut_27 rfl he (by omega) (by omega) ?_
        refine am_ti (b := nI (F k)) (hF k hlt) ?_
        refine am_i2l d_V_itemsBut_28 ?_
        refine am_lmul d_V_itemsBut_29 ?_
        refine am_ldc2 2147483647 d_V_itemsBut_30 (am_in 222 (by decide +kernel) rfl) ?_
        refine am_mmin_long d_V_itemsBut_33 (am_in 223 (by decide +kernel) rfl) (Nat.le_of_ble_eq_true rfl) ?_
        refine am_tl (b := lN (min (sv_prs F b (k + 1)) 2147483647)) (by rw [h9]; exact sv_min_step (hO k hlt)) ?_
        refine am_lstoren (L' := [some (.ref v), some (.int b), some (.long (lN (min (sv_prs F b (k + 1)) 2147483647))), none, some (.int (nI k))]) d_V_itemsBut_36 (by decide) rfl rfl ?_
        refine am_iinc (v := nI (k + 1)) (L' := [some (.ref v), some (.int b), some (.long (lN (min (sv_prs F b (k + 1)) 2147483647))), none, some (.int (nI (k + 1)))]) d_V_itemsBut_37 rfl (nI_1 k) (by decide) rfl rfl ?_
        refine am_goto (tgt := 5) d_V_itemsBut_40 (by decide) ?_
        exact ih m (by omega) (k + 1) (by omega)
set_option maxHeartbeats 4000000 in
set_option maxRecDepth 100000 in
/-- itemsBut: the product, at most the greatest int -/
theorem c_itemsBut {g : am_G} {d : Nat} {S : am_S} {v st : Nat} {sa : Int32} {n : Nat} {it : Int32} {ex sp : Nat} {fe fs : Nat → Int32} (hV : sv_V S.1 v st sa n it ex sp fe fs) (F : Nat → Nat) (hF : ∀ k, k < n → fe k = nI (F k)) (hO : sv_ok F n) (b : Int32) {P : am_O → am_S → Prop} (hP : P (.inl (some (.int (nI (min (sv_prs F b n) 2147483647))))) S) : am_W g d mm_V_itemsBut (0, am_ent [.ref v, .int b] 5, []) S (P) := by
  obtain ⟨hv, he, hs, hne, hn4⟩ := id hV
  show am_W g d mm_V_itemsBut (0, [some (.ref v), some (.int b), none, none, none], []) S _
  refine am_lconst 1 d_V_itemsBut_0 (by decide) ?_
  refine am_lstoren (L' := [some (.ref v), some (.int b), some (.long 1), none, none]) d_V_itemsBut_1 (by decide) rfl rfl ?_
  refine am_iconst 0 d_V_itemsBut_2 (by decide) ?_
  refine am_istore (L' := [some (.ref v), some (.int b), some (.long 1), none, some (.int 0)]) d_V_itemsBut_3 (by decide) rfl rfl ?_
  exact c_itemsBut_l hV F hF hO b hP n 0 (by omega)
end
section
set_option maxHeartbeats 4000000 in
set_option maxRecDepth 100000 in
/-- the loop of isFixed -/
theorem c_isFixed_l {g : am_G} {d : Nat} {S : am_S} {v st : Nat} {sa : Int32} {n : Nat} {it : Int32} {ex sp : Nat} {fe fs : Nat → Int32} (hV : sv_V S.1 v st sa n it ex sp fe fs) {P : am_O → am_S → Prop} (h1 : sv_fx fe fs n → P (.inl (some (.int 1))) S) (h0 : ¬ sv_fx fe fs n → P (.inl (some (.int 0))) S) : ∀ (m k : Nat), k + m = n → (∀ j, j < k → ¬ (fs j = 0 ∧ 2 ≤ fe j)) → am_W g d mm_V_isFixed (2, [some (.ref v), some (.int (nI k))], []) S P := by
  obtain ⟨hv, he, hs, hne, hn4⟩ := id hV
  intro m
  induction m using Nat.strongRecOn with
  | ind m ih =>
    intro k hk
    intro hb
    refine am_iloadn d_V_isFixed_2 rfl ?_
    refine am_aloadn d_V_isFixed_3 rfl ?_
    refine am_get d_V_isFixed_4 fl_V_26 hv rfl ?_
    refine am_icge (tgt := 37) d_V_isFixed_7 (by decide) (fun hc => ?_) (fun hc => ?_)
    · have hk0 : n ≤ k := (nI_leI (by omega) (by omega)).mp hc
      refine am_iconst 0 d_V_isFixed_37 (by decide) ?_
      exact am_zret d_V_isFixed_38 rfl rfl (h0 (fun ⟨j, h1, h2, h3⟩ => hb j (by omega) ⟨h2, h3⟩))
    · have hlt : k < n := Nat.lt_of_not_le (fun q => hc (nI_le q (by omega)))
      refine am_aloadn d_V_isFixed_10 rfl ?_
      refine am_get d_V_isFixed_11 fl_V_15 hv rfl ?_
      refine am_iloadn d_V_isFixed_14 rfl ?_
      refine am_ialdN (t := 0) (k := k) d_V_isFixed_15 rfl hs (by omega) (by omega) ?_
      refine am_ifne (tgt := 31) d_V_isFixed_16 (by decide) (fun hq => ?_) (fun hq => ?_)
      · refine am_iinc (v := nI (k + 1)) (L' := [some (.ref v), some (.int (nI (k + 1)))]) d_V_isFixed_31 rfl (nI_1 k) (by decide) rfl rfl ?_
        refine am_goto (tgt := 2) d_V_isFixed_34 (by decide) ?_
        refine ih (m - 1) (by omega) (k + 1) (by omega) (fun j hj hx => ?_)
        rcases Nat.lt_or_ge j k with h | h
        · exact hb j h hx
        · obtain rfl : j = k := by omega
          exact hq hx.1
      · refine am_aloadn d_V_isFixed_19 rfl ?_
        refine am_get d_V_isFixed_20 fl_V_9 hv rfl ?_
        refine am_iloadn d_V_isFixed_23 rfl ?_
        refine am_ialdN (t := 0) (k := k) d_V_isFixed_24 rfl he (by omega) (by omega) ?_
        refine am_iconst 2 d_V_isFixed_25 (by decide) ?_
        refine am_iclt (tgt := 31) d_V_isFixed_26 (by decide) (fun hz => ?_) (fun hz => ?_)
        · refine am_iinc (v := nI (k + 1)) (L' := [some (.ref v), some (.int (nI (k + 1)))]) d_V_isFixed_31 rfl (nI_1 k) (by decide) rfl rfl ?_
          refine am_goto (tgt := 2) d_V_isFixed_34 (by decide) ?_
          refine ih (m - 1) (by omega) (k + 1) (by omega) (fun j hj hx => ?_)
          rcases Nat.lt_or_ge j k with h | h
          · exact hb j h hx
          · obtain rfl : j = k := by omega
            exact absurd hx.2 (Int32.not_le.mpr hz)
        · refine am_iconst 1 d_V_isFixed_29 (by decide) ?_
          exact am_zret d_V_isFixed_30 rfl rfl (h1 ⟨k, hlt, hq, Int32.not_lt.mp hz⟩)
set_option maxHeartbeats 4000000 in
set_option maxRecDepth 100000 in
/-- isFixed -/
theorem c_isFixed {g : am_G} {d : Nat} {S : am_S} {v st : Nat} {sa : Int32} {n : Nat} {it : Int32} {ex sp : Nat} {fe fs : Nat → Int32} (hV : sv_V S.1 v st sa n it ex sp fe fs) {P : am_O → am_S → Prop} (h1 : sv_fx fe fs n → P (.inl (some (.int 1))) S) (h0 : ¬ sv_fx fe fs n → P (.inl (some (.int 0))) S) : am_W g d mm_V_isFixed (0, am_ent [.ref v] 2, []) S (P) := by
  obtain ⟨hv, he, hs, hne, hn4⟩ := id hV
  show am_W g d mm_V_isFixed (0, [some (.ref v), none], []) S _
  refine am_iconst 0 d_V_isFixed_0 (by decide) ?_
  refine am_istoren (L' := [some (.ref v), some (.int 0)]) d_V_isFixed_1 (by decide) rfl rfl ?_
  exact c_isFixed_l hV h1 h0 n 0 (by omega) (fun j hj => absurd hj (Nat.not_lt_zero j))
set_option maxHeartbeats 4000000 in
set_option maxRecDepth 100000 in
/-- the loop of hasExtentsOf -/
theorem c_hasExt_l {g : am_G} {d : Nat} {S : am_S} {v st : Nat} {sa : Int32} {n : Nat} {it : Int32} {ex sp : Nat} {fe fs : Nat → Int32} (hV : sv_V S.1 v st sa n it ex sp fe fs) {w st2 : Nat} {sa2 : Int32} {n2 : Nat} {it2 : Int32} {ex2 sp2 : Nat} {fe2 fs2 : Nat → Int32} (hV2 : sv_V S.1 w st2 sa2 n2 it2 ex2 sp2 fe2 fs2) {P : am_O → am_S → Prop} (h1 : sv_he n fe n2 fe2 → P (.inl (some (.int 1))) S) (h0 : ¬ sv_he n fe n2 fe2 → P (.inl (some (.int 0))) S) (hnn : n = n2) : ∀ (m k : Nat), k + m = n → (∀ j, j < k → fe j = fe2 j) → am_W g d mm_V_hasExtentsOf (15, [some (.ref v), some (.ref w), some (.int (nI k))], []) S P := by
  obtain ⟨hv, he, hs, hne, hn4⟩ := id hV
  obtain ⟨hv2, he2, hs2, hne2, hn42⟩ := id hV2
  intro m
  induction m using Nat.strongRecOn with
  | ind m ih =>
    intro k hk
    intro hb
    refine am_iloadn d_V_hasExtentsOf_15 rfl ?_
    refine am_aloadn d_V_hasExtentsOf_16 rfl ?_
    refine am_get d_V_hasExtentsOf_17 fl_V_26 hv rfl ?_
    refine am_icge (tgt := 46) d_V_hasExtentsOf_20 (by decide) (fun hc => ?_) (fun hc => ?_)
    · have hk0 : n ≤ k := (nI_leI (by omega) (by omega)).mp hc
      refine am_iconst 1 d_V_hasExtentsOf_46 (by decide) ?_
      exact am_zret d_V_hasExtentsOf_47 rfl rfl (h1 ⟨hnn, fun j hj => hb j (by omega)⟩)
    · have hlt : k < n := Nat.lt_of_not_le (fun q => hc (nI_le q (by omega)))
      refine am_aloadn d_V_hasExtentsOf_23 rfl ?_
      refine am_get d_V_hasExtentsOf_24 fl_V_9 hv rfl ?_
      refine am_iloadn d_V_hasExtentsOf_27 rfl ?_
      refine am_ialdN (t := 0) (k := k) d_V_hasExtentsOf_28 rfl he (by omega) (by omega) ?_
      refine am_aloadn d_V_hasExtentsOf_29 rfl ?_
      refine am_get d_V_hasExtentsOf_30 fl_V_9 hv2 rfl ?_
      refine am_iloadn d_V_hasExtentsOf_33 rfl ?_
      refine am_ialdN (t := 0) (k := k) d_V_hasExtentsOf_34 rfl he2 (by omega) (by omega) ?_
      refine am_iceq (tgt := 40) d_V_hasExtentsOf_35 (by decide) (fun hq => ?_) (fun hq => ?_)
      · refine am_iinc (v := nI (k + 1)) (L' := [some (.ref v), some (.ref w), some (.int (nI (k + 1)))]) d_V_hasExtentsOf_40 rfl (nI_1 k) (by decide) rfl rfl ?_
        refine am_goto (tgt := 15) d_V_hasExtentsOf_43 (by decide) ?_
        refine ih (m - 1) (by omega) (k + 1) (by omega) (fun j hj => ?_)
        rcases Nat.lt_or_ge j k with h | h
        · exact hb j h
        · obtain rfl : j = k := by omega
          exact hq
      · refine am_iconst 0 d_V_hasExtentsOf_38 (by decide) ?_
        exact am_zret d_V_hasExtentsOf_39 rfl rfl (h0 (fun hx => hq (hx.2 k hlt)))
set_option maxHeartbeats 4000000 in
set_option maxRecDepth 100000 in
/-- hasExtentsOf -/
theorem c_hasExt {g : am_G} {d : Nat} {S : am_S} {v st : Nat} {sa : Int32} {n : Nat} {it : Int32} {ex sp : Nat} {fe fs : Nat → Int32} (hV : sv_V S.1 v st sa n it ex sp fe fs) {w st2 : Nat} {sa2 : Int32} {n2 : Nat} {it2 : Int32} {ex2 sp2 : Nat} {fe2 fs2 : Nat → Int32} (hV2 : sv_V S.1 w st2 sa2 n2 it2 ex2 sp2 fe2 fs2) {P : am_O → am_S → Prop} (h1 : sv_he n fe n2 fe2 → P (.inl (some (.int 1))) S) (h0 : ¬ sv_he n fe n2 fe2 → P (.inl (some (.int 0))) S) : am_W g d mm_V_hasExtentsOf (0, am_ent [.ref v, .ref w] 3, []) S (P) := by
  obtain ⟨hv, he, hs, hne, hn4⟩ := id hV
  obtain ⟨hv2, he2, hs2, hne2, hn42⟩ := id hV2
  show am_W g d mm_V_hasExtentsOf (0, [some (.ref v), some (.ref w), none], []) S _
  refine am_aloadn d_V_hasExtentsOf_0 rfl ?_
  refine am_get d_V_hasExtentsOf_1 fl_V_26 hv rfl ?_
  refine am_aloadn d_V_hasExtentsOf_4 rfl ?_
  refine am_get d_V_hasExtentsOf_5 fl_V_26 hv2 rfl ?_
  refine am_iceq (tgt := 13) d_V_hasExtentsOf_8 (by decide) (fun hc => ?_) (fun hc => ?_)
  · have hnn : n = n2 := (nI_eq (by omega) (by omega)).mp hc
    refine am_iconst 0 d_V_hasExtentsOf_13 (by decide) ?_
    refine am_istoren (L' := [some (.ref v), some (.ref w), some (.int 0)]) d_V_hasExtentsOf_14 (by decide) rfl rfl ?_
    exact c_hasExt_l hV hV2 h1 h0 hnn n 0 (by omega) (fun j hj => absurd hj (Nat.not_lt_zero j))
  · refine am_iconst 0 d_V_hasExtentsOf_11 (by decide) ?_
    exact am_zret d_V_hasExtentsOf_12 rfl rfl (h0 (fun hx => hc (by rw [hx.1])))
set_option maxHeartbeats 4000000 in
set_option maxRecDepth 100000 in
/-- the loop of goesTo -/
theorem c_goesTo_l {g : am_G} {d : Nat} {S : am_S} {v st : Nat} {sa : Int32} {n : Nat} {it : Int32} {ex sp : Nat} {fe fs : Nat → Int32} (hV : sv_V S.1 v st sa n it ex sp fe fs) {w st2 : Nat} {sa2 : Int32} {n2 : Nat} {it2 : Int32} {ex2 sp2 : Nat} {fe2 fs2 : Nat → Int32} (hV2 : sv_V S.1 w st2 sa2 n2 it2 ex2 sp2 fe2 fs2) {P : am_O → am_S → Prop} (h1 : sv_go n fe n2 fe2 → P (.inl (some (.int 1))) S) (h0 : ¬ sv_go n fe n2 fe2 → P (.inl (some (.int 0))) S) (hnn : n ≤ n2) : ∀ (m k : Nat), k + m = n → (∀ j, j < k → fe j = 1 ∨ fe j = fe2 (j + (n2 - n))) → am_W g d mm_V_goesTo (18, [some (.ref v), some (.ref w), some (.int (nI (n2 - n))), some (.int (nI k))], []) S P := by
  obtain ⟨hv, he, hs, hne, hn4⟩ := id hV
  obtain ⟨hv2, he2, hs2, hne2, hn42⟩ := id hV2
  intro m
  induction m using Nat.strongRecOn with
  | ind m ih =>
    intro k hk
    intro hb
    refine am_iloadn d_V_goesTo_18 rfl ?_
    refine am_aloadn d_V_goesTo_19 rfl ?_
    refine am_get d_V_goesTo_20 fl_V_26 hv rfl ?_
    refine am_icge (tgt := 61) d_V_goesTo_23 (by decide) (fun hc => ?_) (fun hc => ?_)
    · have hk0 : n ≤ k := (nI_leI (by omega) (by omega)).mp hc
      refine am_iconst 1 d_V_goesTo_61 (by decide) ?_
      exact am_zret d_V_goesTo_62 rfl rfl (h1 ⟨hnn, fun j hj => hb j (by omega)⟩)
    · have hlt : k < n := Nat.lt_of_not_le (fun q => hc (nI_le q (by omega)))
      refine am_aloadn d_V_goesTo_26 rfl ?_
      refine am_get d_V_goesTo_27 fl_V_9 hv rfl ?_
      refine am_iloadn d_V_goesTo_30 rfl ?_
      refine am_ialdN (t := 0) (k := k) d_V_goesTo_31 rfl he (by omega) (by omega) ?_
      refine am_iconst 1 d_V_goesTo_32 (by decide) ?_
      refine am_iceq (tgt := 55) d_V_goesTo_33 (by decide) (fun hq => ?_) (fun hq => ?_)
      · refine am_iinc (v := nI (k + 1)) (L' := [some (.ref v), some (.ref w), some (.int (nI (n2 - n))), some (.int (nI (k + 1)))]) d_V_goesTo_55 rfl (nI_1 k) (by decide) rfl rfl ?_
        refine am_goto (tgt := 18) d_V_goesTo_58 (by decide) ?_
        refine ih (m - 1) (by omega) (k + 1) (by omega) (fun j hj => ?_)
        rcases Nat.lt_or_ge j k with h | h
        · exact hb j h
        · obtain rfl : j = k := by omega
          exact Or.inl hq
      · refine am_aloadn d_V_goesTo_36 rfl ?_
        refine am_get d_V_goesTo_37 fl_V_9 hv rfl ?_
        refine am_iloadn d_V_goesTo_40 rfl ?_
        refine am_ialdN (t := 0) (k := k) d_V_goesTo_41 rfl he (by omega) (by omega) ?_
        refine am_aloadn d_V_goesTo_42 rfl ?_
        refine am_get d_V_goesTo_43 fl_V_9 hv2 rfl ?_
        refine am_iloadn d_V_goesTo_46 rfl ?_
        refine am_iloadn d_V_goesTo_47 rfl ?_
        refine am_iadd d_V_goesTo_48 ?_
        refine am_ti (b := nI (k + (n2 - n))) (nI_add k (n2 - n)) ?_
        refine am_ialdN (t := 0) (k := k + (n2 - n)) d_V_goesTo_49 rfl he2 (by omega) (by omega) ?_
        refine am_iceq (tgt := 55) d_V_goesTo_50 (by decide) (fun hz => ?_) (fun hz => ?_)
        · refine am_iinc (v := nI (k + 1)) (L' := [some (.ref v), some (.ref w), some (.int (nI (n2 - n))), some (.int (nI (k + 1)))]) d_V_goesTo_55 rfl (nI_1 k) (by decide) rfl rfl ?_
          refine am_goto (tgt := 18) d_V_goesTo_58 (by decide) ?_
          refine ih (m - 1) (by omega) (k + 1) (by omega) (fun j hj => ?_)
          rcases Nat.lt_or_ge j k with h | h
          · exact hb j h
          · obtain rfl : j = k := by omega
            exact Or.inr hz
        · refine am_iconst 0 d_V_goesTo_53 (by decide) ?_
          exact am_zret d_V_goesTo_54 rfl rfl (h0 (fun hx => (hx.2 k hlt).elim hq hz))
set_option maxHeartbeats 4000000 in
set_option maxRecDepth 100000 in
/-- goesTo -/
theorem c_goesTo {g : am_G} {d : Nat} {S : am_S} {v st : Nat} {sa : Int32} {n : Nat} {it : Int32} {ex sp : Nat} {fe fs : Nat → Int32} (hV : sv_V S.1 v st sa n it ex sp fe fs) {w st2 : Nat} {sa2 : Int32} {n2 : Nat} {it2 : Int32} {ex2 sp2 : Nat} {fe2 fs2 : Nat → Int32} (hV2 : sv_V S.1 w st2 sa2 n2 it2 ex2 sp2 fe2 fs2) {P : am_O → am_S → Prop} (h1 : sv_go n fe n2 fe2 → P (.inl (some (.int 1))) S) (h0 : ¬ sv_go n fe n2 fe2 → P (.inl (some (.int 0))) S) : am_W g d mm_V_goesTo (0, am_ent [.ref v, .ref w] 4, []) S (P) := by
  obtain ⟨hv, he, hs, hne, hn4⟩ := id hV
  obtain ⟨hv2, he2, hs2, hne2, hn42⟩ := id hV2
  show am_W g d mm_V_goesTo (0, [some (.ref v), some (.ref w), none, none], []) S _
  refine am_aloadn d_V_goesTo_0 rfl ?_
  refine am_get d_V_goesTo_1 fl_V_26 hv2 rfl ?_
  refine am_aloadn d_V_goesTo_4 rfl ?_
  refine am_get d_V_goesTo_5 fl_V_26 hv rfl ?_
  refine am_isub d_V_goesTo_8 ?_
  refine am_istoren (L' := [some (.ref v), some (.ref w), some (.int ((nI n2) - (nI n))), none]) d_V_goesTo_9 (by decide) rfl rfl ?_
  refine am_iloadn d_V_goesTo_10 rfl ?_
  refine am_ifge (tgt := 16) d_V_goesTo_11 (by decide) (fun hc => ?_) (fun hc => ?_)
  · have hnn : n ≤ n2 := Nat.le_of_not_lt (fun q => absurd (pk_sneg (by omega) q) (Int32.not_lt.mpr hc))
    have h9 : nI n2 - nI n = nI (n2 - n) := pk_sub hnn
    rw [h9]
    refine am_iconst 0 d_V_goesTo_16 (by decide) ?_
    refine am_istoren (L' := [some (.ref v), some (.ref w), some (.int (nI (n2 - n))), some (.int 0)]) d_V_goesTo_17 (by decide) rfl rfl ?_
    exact c_goesTo_l hV hV2 h1 h0 hnn n 0 (by omega) (fun j hj => absurd hj (Nat.not_lt_zero j))
  · have hnn : n2 < n := Nat.lt_of_not_le (fun q => by rw [pk_sub q] at hc; exact hc (nI_pos' (by omega)))
    refine am_iconst 0 d_V_goesTo_14 (by decide) ?_
    exact am_zret d_V_goesTo_15 rfl rfl (h0 (fun hx => absurd hx.1 (by omega)))
end
section
/-- fewer locals known -/
def am_le : List (Option Value) → List (Option Value) → Prop
  | [], _ => True
  | none :: a, _ :: b => am_le a b
  | none :: a, [] => am_le a []
  | some v :: a, some w :: b => v = w ∧ am_le a b
  | some _ :: _, none :: _ => False
  | some _ :: _, [] => False
theorem am_le_at : ∀ {A B : List (Option Value)}, am_le A B → ∀ (i : Nat) (v : Value), A[i]? = some (some v) → B[i]? = some (some v) := by
  intro A
  induction A with
  | nil => intro B _ i v h; simp at h
  | cons x a ih =>
    intro B h i v hi
    cases x with
    | none =>
      cases B with
      | nil =>
        cases i with
        | zero => simp at hi
        | succ i =>
          have := ih (B := []) h i v (by simpa using hi)
          simp at this
      | cons y b =>
        cases i with
        | zero => simp at hi
        | succ i => simpa using ih (B := b) h i v (by simpa using hi)
    | some w =>
      cases B with
      | nil => exact absurd h (by simp [am_le])
      | cons y b =>
        cases y with
        | none => exact absurd h (by simp [am_le])
        | some z =>
          obtain ⟨rfl, h2⟩ : w = z ∧ am_le a b := h
          cases i with
          | zero => simpa using hi
          | succ i => simpa using ih (B := b) h2 i v (by simpa using hi)
theorem am_drop {g : am_G} {d : Nat} {y : am_I} {pc : Nat} {L L' : List (Option Value)} {st : List Value} {S : am_S} {P : am_O → am_S → Prop} (h : am_le L' L) (k : am_W g d y (pc, L', st) S P) : am_W g d y (pc, L, st) S P := by
  intro p l e R s m args below meth c H locs cells slots ls hF hH hL
  exact k p l e R s m args below meth c H locs cells slots ls hF hH ⟨hL.1, fun i v hi => hL.2 i v (am_le_at h i v hi)⟩
/-- a counter that goes down: one less than m -/
def sv_dn (m : Nat) : Int32 := nI m - 1
theorem sv_dn_0 : sv_dn 0 < 0 := by decide
theorem sv_dn_s (m : Nat) : sv_dn (m + 1) = nI m := nI_pred m
theorem sv_dn_n {m : Nat} (h : m < 2 ^ 31) : ¬ sv_dn (m + 1) < 0 := by rw [sv_dn_s]; exact nI_pos h
theorem sv_dn_d (m : Nat) : nI m + (-1) = sv_dn m := by
  show nI m + -1 = nI m - 1
  rw [Int32.sub_eq_add_neg]
theorem sv_dn_p {m : Nat} (hm : m < 2 ^ 31) (h : ¬ sv_dn m < 0) : ∃ q, m = q + 1 := by
  cases m with
  | zero => exact absurd sv_dn_0 h
  | succ q => exact ⟨q, rfl⟩
theorem sv_dn_z {m : Nat} (hm : m < 2 ^ 31) (h : sv_dn m < 0) : m = 0 := by
  cases m with
  | zero => rfl
  | succ q => exact absurd h (sv_dn_n (by omega))
theorem sv_dn_g {m : Nat} (hm : m < 2 ^ 31) (h : 0 ≤ sv_dn m) : ∃ q, m = q + 1 := sv_dn_p hm (Int32.not_lt.mpr h)
theorem sv_dn_gz {m : Nat} (hm : m < 2 ^ 31) (h : ¬ 0 ≤ sv_dn m) : m = 0 := sv_dn_z hm (Int32.not_le.mp h)
theorem sv_pl_1 (F : Nat → Nat) (p : Nat → Int32) {m r : Nat} (h : F m = 1) : sv_pl F p (m + 1) r = sv_pl F p m r := by
  show nI (r % F m) * p m + sv_pl F p m (r / F m) = _
  rw [h, Nat.mod_one, Nat.div_one, nI_0, Int32.zero_mul, Int32.zero_add]
end
section
/-- a sum of ints -/
def sv_sum (f : Nat → Int32) : Nat → Int32
  | 0 => 0
  | n + 1 => sv_sum f n + f n
set_option maxHeartbeats 4000000 in
set_option maxRecDepth 100000 in
/-- the loop of placeOf -/
theorem c_placeOf_l {g : am_G} {d : Nat} {S : am_S} {v st : Nat} {sa : Int32} {n : Nat} {it : Int32} {ex sp : Nat} {fe fs : Nat → Int32} (hV : sv_V S.1 v st sa n it ex sp fe fs) (F : Nat → Nat) (hF : ∀ k, k < n → fe k = nI (F k)) (hO : sv_ok F n) (hZ : ∀ k, k < n → 0 < F k) {i0 X : Int32} {P : am_O → am_S → Prop} (hP : P (.inl (some (.int X))) S) : ∀ (m : Nat), m ≤ n → ∀ (pl : Int32) (r : Nat), pl + sv_pl F fs m r = X → r < 2 ^ 31 → am_W g d mm_V_placeOf (15, [some (.ref v), some (.int i0), some (.int pl), some (.int (nI r)), some (.int (sv_dn m)), none], []) S P := by
  obtain ⟨hv, he, hs, hne, hn4⟩ := id hV
  intro m
  induction m with
  | zero =>
    intro hm pl r hX hr
    refine am_iload d_V_placeOf_15 rfl ?_
    refine am_iflt (tgt := 61) d_V_placeOf_17 (by decide) (fun hc => ?_) (fun hc => ?_)
    · have h9 : pl = X := by rw [← hX]; show pl = pl + 0; rw [Int32.add_zero]
      refine am_iloadn d_V_placeOf_61 rfl ?_
      rw [h9]
      exact am_iret d_V_placeOf_62 rfl hP
    · exact absurd sv_dn_0 hc
  | succ m ih =>
    intro hm pl r hX hr
    refine am_iload d_V_placeOf_15 rfl ?_
    refine am_iflt (tgt := 61) d_V_placeOf_17 (by decide) (fun hc => ?_) (fun hc => ?_)
    · exact absurd hc (sv_dn_n (by omega))
    · rw [sv_dn_s m]
      refine am_aloadn d_V_placeOf_20 rfl ?_
      refine am_get d_V_placeOf_21 fl_V_9 hv rfl ?_
      refine am_iload d_V_placeOf_24 rfl ?_
      refine am_ialdN (t := 0) (k := m) d_V_placeOf_26 rfl he (by omega) (by omega) ?_
      refine am_ti (b := nI (F m)) (hF m (by omega)) ?_
      refine am_istore (L' := [some (.ref v), some (.int i0), some (.int pl), some (.int (nI r)), some (.int (nI m)), some (.int (nI (F m)))]) d_V_placeOf_27 (by decide) rfl rfl ?_
      refine am_iload d_V_placeOf_29 rfl ?_
      refine am_iconst 1 d_V_placeOf_31 (by decide) ?_
      refine am_icle (tgt := 55) d_V_placeOf_32 (by decide) (fun hq => ?_) (fun hq => ?_)
      · have h1 : F m ≤ 1 := (nI_leI (hO m (by omega)) (by decide)).mp hq
        have h2 := hZ m (by omega)
        have hF1 : F m = 1 := by omega
        refine am_iinc (v := sv_dn m) (L' := [some (.ref v), some (.int i0), some (.int pl), some (.int (nI r)), some (.int (sv_dn m)), some (.int (nI (F m)))]) d_V_placeOf_55 rfl (sv_dn_d m) (by decide) rfl rfl ?_
        refine am_goto (tgt := 15) d_V_placeOf_58 (by decide) ?_
        refine am_drop (L' := [some (.ref v), some (.int i0), some (.int pl), some (.int (nI r)), some (.int (sv_dn m)), none]) (by simp [am_le]) ?_
        exact ih (by omega) pl r (by rw [← hX, sv_pl_1 F fs hF1]) hr
      · have hO9 := hO m (by omega)
        have hZ9 := hZ m (by omega)
        refine am_iloadn d_V_placeOf_35 rfl ?_
        refine am_iloadn d_V_placeOf_36 rfl ?_
        refine am_iload d_V_placeOf_37 rfl ?_
        refine am_irem d_V_placeOf_39 (nI_ne0 hZ9 hO9) ?_
        refine am_ti (b := nI (r % F m)) (pk_rem hr hZ9 hO9) ?_
        refine am_aloadn d_V_placeOf_40 rfl ?_
        refine am_get d_V_placeOf_41 fl_V_15 hv rfl ?_
        refine am_iload d_V_placeOf_44 rfl ?_
        refine am_ialdN (t := 0) (k := m) d_V_placeOf_46 rfl hs (by omega) (by omega) ?_
        refine am_imul d_V_placeOf_47 ?_
        refine am_iadd d_V_placeOf_48 ?_
        refine am_istoren (L' := [some (.ref v), some (.int i0), some (.int (pl + ((nI (r % F m)) * (fs m)))), some (.int (nI r)), some (.int (nI m)), some (.int (nI (F m)))]) d_V_placeOf_49 (by decide) rfl rfl ?_
        refine am_iloadn d_V_placeOf_50 rfl ?_
        refine am_iload d_V_placeOf_51 rfl ?_
        refine am_idiv d_V_placeOf_53 (nI_ne0 hZ9 hO9) ?_
        refine am_ti (b := nI (r / F m)) (pk_div hr hZ9 hO9) ?_
        refine am_istoren (L' := [some (.ref v), some (.int i0), some (.int (pl + ((nI (r % F m)) * (fs m)))), some (.int (nI (r / F m))), some (.int (nI m)), some (.int (nI (F m)))]) d_V_placeOf_54 (by decide) rfl rfl ?_
        refine am_iinc (v := sv_dn m) (L' := [some (.ref v), some (.int i0), some (.int (pl + ((nI (r % F m)) * (fs m)))), some (.int (nI (r / F m))), some (.int (sv_dn m)), some (.int (nI (F m)))]) d_V_placeOf_55 rfl (sv_dn_d m) (by decide) rfl rfl ?_
        refine am_goto (tgt := 15) d_V_placeOf_58 (by decide) ?_
        refine am_drop (L' := [some (.ref v), some (.int i0), some (.int (pl + ((nI (r % F m)) * (fs m)))), some (.int (nI (r / F m))), some (.int (sv_dn m)), none]) (by simp [am_le]) ?_
        exact ih (by omega) _ (r / F m) (by rw [← hX]; show _ = pl + (nI (r % F m) * fs m + sv_pl F fs m (r / F m)); rw [Int32.add_assoc]) (Nat.lt_of_le_of_lt (Nat.div_le_self r (F m)) hr)
set_option maxHeartbeats 4000000 in
set_option maxRecDepth 100000 in
/-- placeOf -/
theorem c_placeOf {g : am_G} {d : Nat} {S : am_S} {v st : Nat} {sa : Int32} {n : Nat} {it : Int32} {ex sp : Nat} {fe fs : Nat → Int32} (hV : sv_V S.1 v st sa n it ex sp fe fs) (F : Nat → Nat) (hF : ∀ k, k < n → fe k = nI (F k)) (hO : sv_ok F n) (hZ : ∀ k, k < n → 0 < F k) {i : Nat} (hi : i < 2 ^ 31) {P : am_O → am_S → Prop} (hP : P (.inl (some (.int (sa + sv_pl F fs n i)))) S) : am_W g d mm_V_placeOf (0, am_ent [.ref v, .int (nI i)] 6, []) S (P) := by
  obtain ⟨hv, he, hs, hne, hn4⟩ := id hV
  show am_W g d mm_V_placeOf (0, [some (.ref v), some (.int (nI i)), none, none, none, none], []) S _
  refine am_aloadn d_V_placeOf_0 rfl ?_
  refine am_get d_V_placeOf_1 fl_V_22 hv rfl ?_
  refine am_istoren (L' := [some (.ref v), some (.int (nI i)), some (.int sa), none, none, none]) d_V_placeOf_4 (by decide) rfl rfl ?_
  refine am_iloadn d_V_placeOf_5 rfl ?_
  refine am_istoren (L' := [some (.ref v), some (.int (nI i)), some (.int sa), some (.int (nI i)), none, none]) d_V_placeOf_6 (by decide) rfl rfl ?_
  refine am_aloadn d_V_placeOf_7 rfl ?_
  refine am_get d_V_placeOf_8 fl_V_26 hv rfl ?_
  refine am_iconst 1 d_V_placeOf_11 (by decide) ?_
  refine am_isub d_V_placeOf_12 ?_
  show am_W _ _ _ (_, _, [.int (sv_dn n)]) _ _
  refine am_istore (L' := [some (.ref v), some (.int (nI i)), some (.int sa), some (.int (nI i)), some (.int (sv_dn n)), none]) d_V_placeOf_13 (by decide) rfl rfl ?_
  exact c_placeOf_l hV F hF hO hZ hP n (Nat.le_refl n) sa i rfl hi
set_option maxHeartbeats 4000000 in
set_option maxRecDepth 100000 in
/-- the loop -/
theorem c_least_l {g : am_G} {d : Nat} {S : am_S} {v st : Nat} {sa : Int32} {n : Nat} {it : Int32} {ex sp : Nat} {fe fs : Nat → Int32} (hV : sv_V S.1 v st sa n it ex sp fe fs) {P : am_O → am_S → Prop} (hP : P (.inl (some (.int (sa + sv_sum (fun k => (if (fe k - 1) * fs k < 0 then (fe k - 1) * fs k else 0)) n)))) S) : ∀ (m k : Nat), k + m = n → ∀ pl : Int32, pl = sa + sv_sum (fun k => (if (fe k - 1) * fs k < 0 then (fe k - 1) * fs k else 0)) k → am_W g d mm_V_leastPlace (16, [some (.ref v), some (.int pl), some (.int (nI k))], []) S P := by
  obtain ⟨hv, he, hs, hne, hn4⟩ := id hV
  intro m
  induction m using Nat.strongRecOn with
  | ind m ih =>
    intro k hk pl hX
    refine am_iloadn d_V_leastPlace_16 rfl ?_
    refine am_aloadn d_V_leastPlace_17 rfl ?_
    refine am_get d_V_leastPlace_18 fl_V_26 hv rfl ?_
    refine am_icge (tgt := 52) d_V_leastPlace_21 (by decide) (fun hc => ?_) (fun hc => ?_)
    · have hk0 : n ≤ k := (nI_leI (by omega) (by omega)).mp hc
      obtain rfl : k = n := by omega
      refine am_iloadn d_V_leastPlace_52 rfl ?_
      rw [hX]
      exact am_iret d_V_leastPlace_53 rfl hP
    · have hlt : k < n := Nat.lt_of_not_le (fun q => hc (nI_le q (by omega)))
      refine am_iloadn d_V_leastPlace_24 rfl ?_
      refine am_iconst 0 d_V_leastPlace_25 (by decide) ?_
      refine am_aloadn d_V_leastPlace_26 rfl ?_
      refine am_get d_V_leastPlace_27 fl_V_9 hv rfl ?_
      refine am_iloadn d_V_leastPlace_30 rfl ?_
      refine am_ialdN (t := 0) (k := k) d_V_leastPlace_31 rfl he (by omega) (by omega) ?_
      refine am_iconst 1 d_V_leastPlace_32 (by decide) ?_
      refine am_isub d_V_leastPlace_33 ?_
      refine am_aloadn d_V_leastPlace_34 rfl ?_
      refine am_get d_V_leastPlace_35 fl_V_15 hv rfl ?_
      refine am_iloadn d_V_leastPlace_38 rfl ?_
      refine am_ialdN (t := 0) (k := k) d_V_leastPlace_39 rfl hs (by omega) (by omega) ?_
      refine am_imul d_V_leastPlace_40 ?_
      refine am_mmin d_V_leastPlace_41 (am_in 489 (by decide +kernel) rfl) (Nat.le_of_ble_eq_true rfl) ?_
      refine am_ti (b := (fun k => (if (fe k - 1) * fs k < 0 then (fe k - 1) * fs k else 0)) k) rfl ?_
      refine am_iadd d_V_leastPlace_44 ?_
      refine am_istoren (L' := [some (.ref v), some (.int (pl + ((fun k => (if (fe k - 1) * fs k < 0 then (fe k - 1) * fs k else 0)) k))), some (.int (nI k))]) d_V_leastPlace_45 (by decide) rfl rfl ?_
      refine am_iinc (v := nI (k + 1)) (L' := [some (.ref v), some (.int (pl + ((fun k => (if (fe k - 1) * fs k < 0 then (fe k - 1) * fs k else 0)) k))), some (.int (nI (k + 1)))]) d_V_leastPlace_46 rfl (nI_1 k) (by decide) rfl rfl ?_
      refine am_goto (tgt := 16) d_V_leastPlace_49 (by decide) ?_
      exact ih (m - 1) (by omega) (k + 1) (by omega) _ (by rw [hX, Int32.add_assoc]; rfl)
set_option maxHeartbeats 4000000 in
set_option maxRecDepth 100000 in
/-- V_leastPlace -/
theorem c_least {g : am_G} {d : Nat} {S : am_S} {v st : Nat} {sa : Int32} {n : Nat} {it : Int32} {ex sp : Nat} {fe fs : Nat → Int32} (hV : sv_V S.1 v st sa n it ex sp fe fs) {P : am_O → am_S → Prop} (h0 : it = 0 → P (.inl (some (.int (-1)))) S) (hP : ¬ it = 0 → P (.inl (some (.int (sa + sv_sum (fun k => (if (fe k - 1) * fs k < 0 then (fe k - 1) * fs k else 0)) n)))) S) : am_W g d mm_V_leastPlace (0, am_ent [.ref v] 3, []) S (P) := by
  obtain ⟨hv, he, hs, hne, hn4⟩ := id hV
  show am_W g d mm_V_leastPlace (0, [some (.ref v), none, none], []) S _
  refine am_aloadn d_V_leastPlace_0 rfl ?_
  refine am_get d_V_leastPlace_1 fl_V_29 hv rfl ?_
  refine am_ifne (tgt := 9) d_V_leastPlace_4 (by decide) (fun hc => ?_) (fun hc => ?_)
  · refine am_aloadn d_V_leastPlace_9 rfl ?_
    refine am_get d_V_leastPlace_10 fl_V_22 hv rfl ?_
    refine am_istoren (L' := [some (.ref v), some (.int sa), none]) d_V_leastPlace_13 (by decide) rfl rfl ?_
    refine am_iconst 0 d_V_leastPlace_14 (by decide) ?_
    refine am_istoren (L' := [some (.ref v), some (.int sa), some (.int 0)]) d_V_leastPlace_15 (by decide) rfl rfl ?_
    exact c_least_l hV (hP hc) n 0 (by omega) sa (by show sa = sa + 0; rw [Int32.add_zero])
  · refine am_iconst (-1) d_V_leastPlace_7 (by decide) ?_
    exact am_iret d_V_leastPlace_8 rfl (h0 hc)
set_option maxHeartbeats 4000000 in
set_option maxRecDepth 100000 in
/-- the loop -/
theorem c_greatest_l {g : am_G} {d : Nat} {S : am_S} {v st : Nat} {sa : Int32} {n : Nat} {it : Int32} {ex sp : Nat} {fe fs : Nat → Int32} (hV : sv_V S.1 v st sa n it ex sp fe fs) {P : am_O → am_S → Prop} (hP : P (.inl (some (.int (sa + sv_sum (fun k => (if 0 < (fe k - 1) * fs k then (fe k - 1) * fs k else 0)) n)))) S) : ∀ (m k : Nat), k + m = n → ∀ pl : Int32, pl = sa + sv_sum (fun k => (if 0 < (fe k - 1) * fs k then (fe k - 1) * fs k else 0)) k → am_W g d mm_V_greatestPlace (16, [some (.ref v), some (.int pl), some (.int (nI k))], []) S P := by
  obtain ⟨hv, he, hs, hne, hn4⟩ := id hV
  intro m
  induction m using Nat.strongRecOn with
  | ind m ih =>
    intro k hk pl hX
    refine am_iloadn d_V_greatestPlace_16 rfl ?_
    refine am_aloadn d_V_greatestPlace_17 rfl ?_
    refine am_get d_V_greatestPlace_18 fl_V_26 hv rfl ?_
    refine am_icge (tgt := 52) d_V_greatestPlace_21 (by decide) (fun hc => ?_) (fun hc => ?_)
    · have hk0 : n ≤ k := (nI_leI (by omega) (by omega)).mp hc
      obtain rfl : k = n := by omega
      refine am_iloadn d_V_greatestPlace_52 rfl ?_
      rw [hX]
      exact am_iret d_V_greatestPlace_53 rfl hP
    · have hlt : k < n := Nat.lt_of_not_le (fun q => hc (nI_le q (by omega)))
      refine am_iloadn d_V_greatestPlace_24 rfl ?_
      refine am_iconst 0 d_V_greatestPlace_25 (by decide) ?_
      refine am_aloadn d_V_greatestPlace_26 rfl ?_
      refine am_get d_V_greatestPlace_27 fl_V_9 hv rfl ?_
      refine am_iloadn d_V_greatestPlace_30 rfl ?_
      refine am_ialdN (t := 0) (k := k) d_V_greatestPlace_31 rfl he (by omega) (by omega) ?_
      refine am_iconst 1 d_V_greatestPlace_32 (by decide) ?_
      refine am_isub d_V_greatestPlace_33 ?_
      refine am_aloadn d_V_greatestPlace_34 rfl ?_
      refine am_get d_V_greatestPlace_35 fl_V_15 hv rfl ?_
      refine am_iloadn d_V_greatestPlace_38 rfl ?_
      refine am_ialdN (t := 0) (k := k) d_V_greatestPlace_39 rfl hs (by omega) (by omega) ?_
      refine am_imul d_V_greatestPlace_40 ?_
      refine am_mmax d_V_greatestPlace_41 (am_in 494 (by decide +kernel) rfl) (Nat.le_of_ble_eq_true rfl) ?_
      refine am_ti (b := (fun k => (if 0 < (fe k - 1) * fs k then (fe k - 1) * fs k else 0)) k) rfl ?_
      refine am_iadd d_V_greatestPlace_44 ?_
      refine am_istoren (L' := [some (.ref v), some (.int (pl + ((fun k => (if 0 < (fe k - 1) * fs k then (fe k - 1) * fs k else 0)) k))), some (.int (nI k))]) d_V_greatestPlace_45 (by decide) rfl rfl ?_
      refine am_iinc (v := nI (k + 1)) (L' := [some (.ref v), some (.int (pl + ((fun k => (if 0 < (fe k - 1) * fs k then (fe k - 1) * fs k else 0)) k))), some (.int (nI (k + 1)))]) d_V_greatestPlace_46 rfl (nI_1 k) (by decide) rfl rfl ?_
      refine am_goto (tgt := 16) d_V_greatestPlace_49 (by decide) ?_
      exact ih (m - 1) (by omega) (k + 1) (by omega) _ (by rw [hX, Int32.add_assoc]; rfl)
set_option maxHeartbeats 4000000 in
set_option maxRecDepth 100000 in
/-- V_greatestPlace -/
theorem c_greatest {g : am_G} {d : Nat} {S : am_S} {v st : Nat} {sa : Int32} {n : Nat} {it : Int32} {ex sp : Nat} {fe fs : Nat → Int32} (hV : sv_V S.1 v st sa n it ex sp fe fs) {P : am_O → am_S → Prop} (h0 : it = 0 → P (.inl (some (.int (-1)))) S) (hP : ¬ it = 0 → P (.inl (some (.int (sa + sv_sum (fun k => (if 0 < (fe k - 1) * fs k then (fe k - 1) * fs k else 0)) n)))) S) : am_W g d mm_V_greatestPlace (0, am_ent [.ref v] 3, []) S (P) := by
  obtain ⟨hv, he, hs, hne, hn4⟩ := id hV
  show am_W g d mm_V_greatestPlace (0, [some (.ref v), none, none], []) S _
  refine am_aloadn d_V_greatestPlace_0 rfl ?_
  refine am_get d_V_greatestPlace_1 fl_V_29 hv rfl ?_
  refine am_ifne (tgt := 9) d_V_greatestPlace_4 (by decide) (fun hc => ?_) (fun hc => ?_)
  · refine am_aloadn d_V_greatestPlace_9 rfl ?_
    refine am_get d_V_greatestPlace_10 fl_V_22 hv rfl ?_
    refine am_istoren (L' := [some (.ref v), some (.int sa), none]) d_V_greatestPlace_13 (by decide) rfl rfl ?_
    refine am_iconst 0 d_V_greatestPlace_14 (by decide) ?_
    refine am_istoren (L' := [some (.ref v), some (.int sa), some (.int 0)]) d_V_greatestPlace_15 (by decide) rfl rfl ?_
    exact c_greatest_l hV (hP hc) n 0 (by omega) sa (by show sa = sa + 0; rw [Int32.add_zero])
  · refine am_iconst (-1) d_V_greatestPlace_7 (by decide) ?_
    exact am_iret d_V_greatestPlace_8 rfl (h0 hc)
end
section
theorem sv_ins_end {fe fs Fe Fs : Nat → Int32} {j i : Nat} {xe xp : Int32} (h : Fe i = (if i ≤ j then fe i else fe (i - 1)) ∧ Fs i = (if i ≤ j then fs i else fs (i - 1))) (_ : 0 < 1) : (upd Fe j xe) i = sv_ins fe j xe i ∧ (upd Fs j xp) i = sv_ins fs j xp i := by
  by_cases hij : i = j
  · subst hij
    have a1 : sv_ins fe i xe i = xe := by simp [sv_ins]
    have a2 : sv_ins fs i xp i = xp := by simp [sv_ins]
    rw [a1, a2]
    exact ⟨pk_us, pk_us⟩
  · have h7 : (upd Fe j xe) i = Fe i := pk_un hij
    have h8 : (upd Fs j xp) i = Fs i := pk_un hij
    rw [h7, h8, h.1, h.2]
    simp only [sv_ins]
    rcases Nat.lt_or_ge i j with hl | hl
    · rw [if_pos (by omega), if_pos (by omega), if_pos (by omega), if_pos (by omega)]; exact ⟨rfl, rfl⟩
    · rw [if_neg (by omega), if_neg (by omega), if_neg (by omega), if_neg (by omega), if_neg (by omega), if_neg (by omega)]; exact ⟨rfl, rfl⟩
set_option maxHeartbeats 4000000 in
set_option maxRecDepth 100000 in
/-- the loop of insert -/
theorem c_insert_l {g : am_G} {d : Nat} {S : am_S} {v st : Nat} {sa : Int32} {n : Nat} {it : Int32} {ex sp : Nat} {fe fs : Nat → Int32} (hV : sv_V S.1 v st sa n it ex sp fe fs) {j : Nat} {xe xp : Int32} (hn3 : n < 4) {P : am_O → am_S → Prop} (hP : ∀ (S1 : am_S) (fe1 fs1 : Nat → Int32), sv_V S1.1 v st sa (n + 1) it ex sp fe1 fs1 → sv_fr S S1 v ex sp → (∀ i, i < n + 1 → fe1 i = sv_ins fe j xe i ∧ fs1 i = sv_ins fs j xp i) → P (.inl none) S1) : ∀ (k : Nat), j ≤ k → k ≤ n → k < 4 → ∀ (S0 : am_S) (Fe Fs : Nat → Int32), sv_V S0.1 v st sa n it ex sp Fe Fs → sv_fr S S0 v ex sp → (∀ i, i < n + 1 → Fe i = (if i ≤ k then fe i else fe (i - 1)) ∧ Fs i = (if i ≤ k then fs i else fs (i - 1))) → am_W g d mm_V_insert (6, [some (.ref v), some (.int (nI j)), some (.int xe), some (.int xp), some (.int (nI k))], []) S0 P := by
  intro k
  induction k using Nat.strongRecOn with
  | ind k ih =>
    intro hjk hkn hk4 S0 Fe Fs hV hfr hI
    obtain ⟨hv, he, hs, hne, hn4⟩ := id hV
    refine am_iload d_V_insert_6 rfl ?_
    refine am_iloadn d_V_insert_8 rfl ?_
    refine am_icle (tgt := 50) d_V_insert_9 (by decide) (fun hc => ?_) (fun hc => ?_)
    · have hk0 : k ≤ j := (nI_leI (by omega) (by omega)).mp hc
      obtain rfl : j = k := by omega
      refine am_aloadn d_V_insert_50 rfl ?_
      refine am_get d_V_insert_51 fl_V_9 hv rfl ?_
      refine am_iloadn d_V_insert_54 rfl ?_
      refine am_iloadn d_V_insert_55 rfl ?_
      refine am_iastN (t := 0) d_V_insert_56 rfl he (by omega) (by omega) ?_
      obtain ⟨S_1, eS_1⟩ : ∃ z : am_S, z = (am_up S0.1 ex (.inl (0, 4, .inl (upd Fe j xe))), S0.2) := ⟨_, rfl⟩
      change am_W _ _ _ _ (am_up S0.1 ex (.inl (0, 4, .inl (upd Fe j xe))), S0.2) _
      rw [← eS_1]
      have h_2 : S_1.1 v = some (.inr (1, [.ref st, .int sa, .int (nI n), .int it, .ref ex, .ref sp])) := by rw [eS_1]; exact (am_up_n hV.ne.1).trans hv
      have h_3 : S_1.1 sp = some (.inl (0, 4, .inl Fs)) := by rw [eS_1]; exact (am_up_n hne.symm).trans hs
      have hf_4 : sv_fr S S_1 v ex sp := by rw [eS_1]; exact hfr.u2
      have h_5 : S_1.1 ex = some (.inl (0, 4, .inl (upd Fe j xe))) := by rw [eS_1]; exact am_up_s
      have hn_6 : S_1.2 = S0.2 := by rw [eS_1]
      refine am_aloadn d_V_insert_57 rfl ?_
      refine am_get d_V_insert_58 fl_V_15 h_2 rfl ?_
      refine am_iloadn d_V_insert_61 rfl ?_
      refine am_iloadn d_V_insert_62 rfl ?_
      refine am_iastN (t := 0) d_V_insert_63 rfl h_3 (by omega) (by omega) ?_
      obtain ⟨S_7, eS_7⟩ : ∃ z : am_S, z = (am_up S_1.1 sp (.inl (0, 4, .inl (upd Fs j xp))), S_1.2) := ⟨_, rfl⟩
      change am_W _ _ _ _ (am_up S_1.1 sp (.inl (0, 4, .inl (upd Fs j xp))), S_1.2) _
      rw [← eS_7]
      have h_8 : S_7.1 v = some (.inr (1, [.ref st, .int sa, .int (nI n), .int it, .ref ex, .ref sp])) := by rw [eS_7]; exact (am_up_n hV.ne.2).trans h_2
      have h_9 : S_7.1 ex = some (.inl (0, 4, .inl (upd Fe j xe))) := by rw [eS_7]; exact (am_up_n hne).trans h_5
      have hf_10 : sv_fr S S_7 v ex sp := by rw [eS_7]; exact hf_4.u3
      have h_11 : S_7.1 sp = some (.inl (0, 4, .inl (upd Fs j xp))) := by rw [eS_7]; exact am_up_s
      have hn_12 : S_7.2 = S_1.2 := by rw [eS_7]
      refine am_aloadn d_V_insert_64 rfl ?_
      refine am_dup d_V_insert_65 rfl ?_
      refine am_get d_V_insert_66 fl_V_26 h_8 rfl ?_
      refine am_iconst 1 d_V_insert_69 (by decide) ?_
      refine am_iadd d_V_insert_70 ?_
      refine am_ti (b := nI (n + 1)) (nI_1 n) ?_
      refine am_put d_V_insert_71 fp_V_26 h_8 rfl rfl (Nat.le_of_ble_eq_true rfl) ?_
      obtain ⟨S_25, eS_25⟩ : ∃ z : am_S, z = (am_up S_7.1 v (.inr (1, [.ref st, .int sa, .int (nI (n + 1)), .int it, .ref ex, .ref sp])), S_7.2) := ⟨_, rfl⟩
      change am_W _ _ _ _ (am_up S_7.1 v (.inr (1, [.ref st, .int sa, .int (nI (n + 1)), .int it, .ref ex, .ref sp])), S_7.2) _
      rw [← eS_25]
      have h_26 : S_25.1 ex = some (.inl (0, 4, .inl (upd Fe j xe))) := by rw [eS_25]; exact (am_up_n hV.ne.1.symm).trans h_9
      have h_27 : S_25.1 sp = some (.inl (0, 4, .inl (upd Fs j xp))) := by rw [eS_25]; exact (am_up_n hV.ne.2.symm).trans h_11
      have hf_28 : sv_fr S S_25 v ex sp := by rw [eS_25]; exact hf_10.u1
      have h_29 : S_25.1 v = some (.inr (1, [.ref st, .int sa, .int (nI (n + 1)), .int it, .ref ex, .ref sp])) := by rw [eS_25]; exact am_up_s
      have hn_30 : S_25.2 = S_7.2 := by rw [eS_25]
      exact am_vret d_V_insert_74 rfl (hP _ _ _ ⟨h_29, h_26, h_27, hne, by omega⟩ hf_28 (fun i hi => sv_ins_end (hI i (by omega)) (by omega)))
    · have hlt : j < k := Nat.lt_of_not_le (fun q => hc (nI_le q (by omega)))
      refine am_aloadn d_V_insert_12 rfl ?_
      refine am_get d_V_insert_13 fl_V_9 hv rfl ?_
      refine am_iload d_V_insert_16 rfl ?_
      refine am_aloadn d_V_insert_18 rfl ?_
      refine am_get d_V_insert_19 fl_V_9 hv rfl ?_
      refine am_iload d_V_insert_22 rfl ?_
      refine am_iconst 1 d_V_insert_24 (by decide) ?_
      refine am_isub d_V_insert_25 ?_
      refine am_ti (b := nI (k - 1)) (nI_m1N (by omega)) ?_
      refine am_ialdN (t := 0) (k := k - 1) d_V_insert_26 rfl he (by omega) (by omega) ?_
      refine am_iastN (t := 0) d_V_insert_27 rfl he (by omega) (by omega) ?_
      obtain ⟨S_13, eS_13⟩ : ∃ z : am_S, z = (am_up S0.1 ex (.inl (0, 4, .inl (upd Fe k (Fe (k - 1))))), S0.2) := ⟨_, rfl⟩
      change am_W _ _ _ _ (am_up S0.1 ex (.inl (0, 4, .inl (upd Fe k (Fe (k - 1))))), S0.2) _
      rw [← eS_13]
      have h_14 : S_13.1 v = some (.inr (1, [.ref st, .int sa, .int (nI n), .int it, .ref ex, .ref sp])) := by rw [eS_13]; exact (am_up_n hV.ne.1).trans hv
      have h_15 : S_13.1 sp = some (.inl (0, 4, .inl Fs)) := by rw [eS_13]; exact (am_up_n hne.symm).trans hs
      have hf_16 : sv_fr S S_13 v ex sp := by rw [eS_13]; exact hfr.u2
      have h_17 : S_13.1 ex = some (.inl (0, 4, .inl (upd Fe k (Fe (k - 1))))) := by rw [eS_13]; exact am_up_s
      have hn_18 : S_13.2 = S0.2 := by rw [eS_13]
      refine am_aloadn d_V_insert_28 rfl ?_
      refine am_get d_V_insert_29 fl_V_15 h_14 rfl ?_
      refine am_iload d_V_insert_32 rfl ?_
      refine am_aloadn d_V_insert_34 rfl ?_
      refine am_get d_V_insert_35 fl_V_15 h_14 rfl ?_
      refine am_iload d_V_insert_38 rfl ?_
      refine am_iconst 1 d_V_insert_40 (by decide) ?_
      refine am_isub d_V_insert_41 ?_
      refine am_ti (b := nI (k - 1)) (nI_m1N (by omega)) ?_
      refine am_ialdN (t := 0) (k := k - 1) d_V_insert_42 rfl h_15 (by omega) (by omega) ?_
      refine am_iastN (t := 0) d_V_insert_43 rfl h_15 (by omega) (by omega) ?_
      obtain ⟨S_19, eS_19⟩ : ∃ z : am_S, z = (am_up S_13.1 sp (.inl (0, 4, .inl (upd Fs k (Fs (k - 1))))), S_13.2) := ⟨_, rfl⟩
      change am_W _ _ _ _ (am_up S_13.1 sp (.inl (0, 4, .inl (upd Fs k (Fs (k - 1))))), S_13.2) _
      rw [← eS_19]
      have h_20 : S_19.1 v = some (.inr (1, [.ref st, .int sa, .int (nI n), .int it, .ref ex, .ref sp])) := by rw [eS_19]; exact (am_up_n hV.ne.2).trans h_14
      have h_21 : S_19.1 ex = some (.inl (0, 4, .inl (upd Fe k (Fe (k - 1))))) := by rw [eS_19]; exact (am_up_n hne).trans h_17
      have hf_22 : sv_fr S S_19 v ex sp := by rw [eS_19]; exact hf_16.u3
      have h_23 : S_19.1 sp = some (.inl (0, 4, .inl (upd Fs k (Fs (k - 1))))) := by rw [eS_19]; exact am_up_s
      have hn_24 : S_19.2 = S_13.2 := by rw [eS_19]
      refine am_iinc (v := nI (k - 1)) (L' := [some (.ref v), some (.int (nI j)), some (.int xe), some (.int xp), some (.int (nI (k - 1)))]) d_V_insert_44 rfl (nI_d1N (by omega)) (by decide) rfl rfl ?_
      refine am_goto (tgt := 6) d_V_insert_47 (by decide) ?_
      refine ih (k - 1) (by omega) (by omega) (by omega) (by omega) _ _ _ ⟨h_20, h_21, h_23, hne, hn4⟩ hf_22 (fun i hi => ?_)
      have hi0 := hI i hi
      have hi1 := hI (k - 1) (by omega)
      rw [if_pos (by omega), if_pos (by omega)] at hi1
      by_cases hik : i = k
      · subst hik
        rw [if_neg (by omega), if_neg (by omega)]
        exact ⟨pk_us.trans hi1.1, pk_us.trans hi1.2⟩
      · have h7 : (upd Fe k (Fe (k - 1))) i = Fe i := pk_un hik
        have h8 : (upd Fs k (Fs (k - 1))) i = Fs i := pk_un hik
        rw [h7, h8, hi0.1, hi0.2]
        rcases Nat.lt_or_ge i k with h | h
        · rw [if_pos (by omega), if_pos (by omega), if_pos (by omega), if_pos (by omega)]; exact ⟨rfl, rfl⟩
        · rw [if_neg (by omega), if_neg (by omega), if_neg (by omega), if_neg (by omega)]; exact ⟨rfl, rfl⟩
set_option maxHeartbeats 4000000 in
set_option maxRecDepth 100000 in
/-- insert: an axis more -/
theorem c_insert {g : am_G} {d : Nat} {S : am_S} {v st : Nat} {sa : Int32} {n : Nat} {it : Int32} {ex sp : Nat} {fe fs : Nat → Int32} (hV : sv_V S.1 v st sa n it ex sp fe fs) {j : Nat} (xe xp : Int32) (hn3 : n < 4) (hj : j ≤ n) {P : am_O → am_S → Prop} (hP : ∀ (S1 : am_S) (fe1 fs1 : Nat → Int32), sv_V S1.1 v st sa (n + 1) it ex sp fe1 fs1 → sv_fr S S1 v ex sp → (∀ i, i < n + 1 → fe1 i = sv_ins fe j xe i ∧ fs1 i = sv_ins fs j xp i) → P (.inl none) S1) : am_W g d mm_V_insert (0, am_ent [.ref v, .int (nI j), .int xe, .int xp] 5, []) S (P) := by
  obtain ⟨hv, he, hs, hne, hn4⟩ := id hV
  show am_W g d mm_V_insert (0, [some (.ref v), some (.int (nI j)), some (.int xe), some (.int xp), none], []) S _
  refine am_aloadn d_V_insert_0 rfl ?_
  refine am_get d_V_insert_1 fl_V_26 hv rfl ?_
  refine am_istore (L' := [some (.ref v), some (.int (nI j)), some (.int xe), some (.int xp), some (.int (nI n))]) d_V_insert_4 (by decide) rfl rfl ?_
  exact c_insert_l hV hn3 hP n hj (Nat.le_refl n) hn3 S fe fs hV sv_fr.rf (fun i hi => by rw [if_pos (by omega), if_pos (by omega)]; exact ⟨rfl, rfl⟩)
set_option maxHeartbeats 4000000 in
set_option maxRecDepth 100000 in
/-- the loop of remove -/
theorem c_remove_l {g : am_G} {d : Nat} {S : am_S} {v st : Nat} {sa : Int32} {n : Nat} {it : Int32} {ex sp : Nat} {fe fs : Nat → Int32} {j : Nat} (hj : j ≤ n) (hn3 : n < 4) {P : am_O → am_S → Prop} (hP : ∀ (S1 : am_S) (fe1 fs1 : Nat → Int32), sv_V S1.1 v st sa n it ex sp fe1 fs1 → sv_fr S S1 v ex sp → (∀ i, i < n → fe1 i = sv_rem fe j i ∧ fs1 i = sv_rem fs j i) → P (.inl none) S1) : ∀ (m k : Nat), k + m = n → j ≤ k → ∀ (S0 : am_S) (Fe Fs : Nat → Int32), sv_V S0.1 v st sa n it ex sp Fe Fs → sv_fr S S0 v ex sp → (∀ i, i < n + 1 → Fe i = (if i < k then sv_rem fe j i else fe i) ∧ Fs i = (if i < k then sv_rem fs j i else fs i)) → am_W g d mm_V_remove (12, [some (.ref v), some (.int (nI j)), some (.int (nI k))], []) S0 P := by
  intro m
  induction m using Nat.strongRecOn with
  | ind m ih =>
    intro k hk hjk S0 Fe Fs hV hfr hI
    obtain ⟨hv, he, hs, hne, hn4⟩ := id hV
    refine am_iloadn d_V_remove_12 rfl ?_
    refine am_aloadn d_V_remove_13 rfl ?_
    refine am_get d_V_remove_14 fl_V_26 hv rfl ?_
    refine am_icge (tgt := 54) d_V_remove_17 (by decide) (fun hc => ?_) (fun hc => ?_)
    · have hk0 : n ≤ k := (nI_leI (by omega) (by omega)).mp hc
      exact am_vret d_V_remove_54 rfl (hP S0 Fe Fs hV hfr (fun i hi => ⟨((hI i (by omega)).1.trans (by rw [if_pos (by omega)])), ((hI i (by omega)).2.trans (by rw [if_pos (by omega)]))⟩))
    · have hlt : k < n := Nat.lt_of_not_le (fun q => hc (nI_le q (by omega)))
      refine am_aloadn d_V_remove_20 rfl ?_
      refine am_get d_V_remove_21 fl_V_9 hv rfl ?_
      refine am_iloadn d_V_remove_24 rfl ?_
      refine am_aloadn d_V_remove_25 rfl ?_
      refine am_get d_V_remove_26 fl_V_9 hv rfl ?_
      refine am_iloadn d_V_remove_29 rfl ?_
      refine am_iconst 1 d_V_remove_30 (by decide) ?_
      refine am_iadd d_V_remove_31 ?_
      refine am_ti (b := nI (k + 1)) (nI_1 k) ?_
      refine am_ialdN (t := 0) (k := k + 1) d_V_remove_32 rfl he (by omega) (by omega) ?_
      refine am_iastN (t := 0) d_V_remove_33 rfl he (by omega) (by omega) ?_
      obtain ⟨S_1, eS_1⟩ : ∃ z : am_S, z = (am_up S0.1 ex (.inl (0, 4, .inl (upd Fe k (Fe (k + 1))))), S0.2) := ⟨_, rfl⟩
      change am_W _ _ _ _ (am_up S0.1 ex (.inl (0, 4, .inl (upd Fe k (Fe (k + 1))))), S0.2) _
      rw [← eS_1]
      have h_2 : S_1.1 v = some (.inr (1, [.ref st, .int sa, .int (nI n), .int it, .ref ex, .ref sp])) := by rw [eS_1]; exact (am_up_n hV.ne.1).trans hv
      have h_3 : S_1.1 sp = some (.inl (0, 4, .inl Fs)) := by rw [eS_1]; exact (am_up_n hne.symm).trans hs
      have hf_4 : sv_fr S S_1 v ex sp := by rw [eS_1]; exact hfr.u2
      have h_5 : S_1.1 ex = some (.inl (0, 4, .inl (upd Fe k (Fe (k + 1))))) := by rw [eS_1]; exact am_up_s
      have hn_6 : S_1.2 = S0.2 := by rw [eS_1]
      refine am_aloadn d_V_remove_34 rfl ?_
      refine am_get d_V_remove_35 fl_V_15 h_2 rfl ?_
      refine am_iloadn d_V_remove_38 rfl ?_
      refine am_aloadn d_V_remove_39 rfl ?_
      refine am_get d_V_remove_40 fl_V_15 h_2 rfl ?_
      refine am_iloadn d_V_remove_43 rfl ?_
      refine am_iconst 1 d_V_remove_44 (by decide) ?_
      refine am_iadd d_V_remove_45 ?_
      refine am_ti (b := nI (k + 1)) (nI_1 k) ?_
      refine am_ialdN (t := 0) (k := k + 1) d_V_remove_46 rfl h_3 (by omega) (by omega) ?_
      refine am_iastN (t := 0) d_V_remove_47 rfl h_3 (by omega) (by omega) ?_
      obtain ⟨S_7, eS_7⟩ : ∃ z : am_S, z = (am_up S_1.1 sp (.inl (0, 4, .inl (upd Fs k (Fs (k + 1))))), S_1.2) := ⟨_, rfl⟩
      change am_W _ _ _ _ (am_up S_1.1 sp (.inl (0, 4, .inl (upd Fs k (Fs (k + 1))))), S_1.2) _
      rw [← eS_7]
      have h_8 : S_7.1 v = some (.inr (1, [.ref st, .int sa, .int (nI n), .int it, .ref ex, .ref sp])) := by rw [eS_7]; exact (am_up_n hV.ne.2).trans h_2
      have h_9 : S_7.1 ex = some (.inl (0, 4, .inl (upd Fe k (Fe (k + 1))))) := by rw [eS_7]; exact (am_up_n hne).trans h_5
      have hf_10 : sv_fr S S_7 v ex sp := by rw [eS_7]; exact hf_4.u3
      have h_11 : S_7.1 sp = some (.inl (0, 4, .inl (upd Fs k (Fs (k + 1))))) := by rw [eS_7]; exact am_up_s
      have hn_12 : S_7.2 = S_1.2 := by rw [eS_7]
      refine am_iinc (v := nI (k + 1)) (L' := [some (.ref v), some (.int (nI j)), some (.int (nI (k + 1)))]) d_V_remove_48 rfl (nI_1 k) (by decide) rfl rfl ?_
      refine am_goto (tgt := 12) d_V_remove_51 (by decide) ?_
      refine ih (m - 1) (by omega) (k + 1) (by omega) (by omega) _ _ _ ⟨h_8, h_9, h_11, hne, hn4⟩ hf_10 (fun i hi => ?_)
      have hi0 := hI i hi
      have hi1 := hI (k + 1) (by omega)
      rw [if_neg (by omega), if_neg (by omega)] at hi1
      by_cases hik : i = k
      · subst hik
        rw [if_pos (by omega), if_pos (by omega)]
        have h5 : sv_rem fe j i = fe (i + 1) := by simp only [sv_rem]; rw [if_neg (by omega)]
        have h6 : sv_rem fs j i = fs (i + 1) := by simp only [sv_rem]; rw [if_neg (by omega)]
        rw [h5, h6]
        exact ⟨pk_us.trans hi1.1, pk_us.trans hi1.2⟩
      · have h7 : (upd Fe k (Fe (k + 1))) i = Fe i := pk_un hik
        have h8 : (upd Fs k (Fs (k + 1))) i = Fs i := pk_un hik
        rw [h7, h8, hi0.1, hi0.2]
        rcases Nat.lt_or_ge i k with h | h
        · rw [if_pos (by omega), if_pos (by omega), if_pos (by omega), if_pos (by omega)]; exact ⟨rfl, rfl⟩
        · rw [if_neg (by omega), if_neg (by omega), if_neg (by omega), if_neg (by omega)]; exact ⟨rfl, rfl⟩
set_option maxHeartbeats 4000000 in
set_option maxRecDepth 100000 in
/-- remove: an axis less -/
theorem c_remove {g : am_G} {d : Nat} {S : am_S} {v st : Nat} {sa : Int32} {n : Nat} {it : Int32} {ex sp : Nat} {fe fs : Nat → Int32} (hV : sv_V S.1 v st sa (n + 1) it ex sp fe fs) {j : Nat} (hj : j ≤ n) {P : am_O → am_S → Prop} (hP : ∀ (S1 : am_S) (fe1 fs1 : Nat → Int32), sv_V S1.1 v st sa n it ex sp fe1 fs1 → sv_fr S S1 v ex sp → (∀ i, i < n → fe1 i = sv_rem fe j i ∧ fs1 i = sv_rem fs j i) → P (.inl none) S1) : am_W g d mm_V_remove (0, am_ent [.ref v, .int (nI j)] 3, []) S (P) := by
  obtain ⟨hv, he, hs, hne, hn4⟩ := id hV
  show am_W g d mm_V_remove (0, [some (.ref v), some (.int (nI j)), none], []) S _
  refine am_aloadn d_V_remove_0 rfl ?_
  refine am_dup d_V_remove_1 rfl ?_
  refine am_get d_V_remove_2 fl_V_26 hv rfl ?_
  refine am_iconst 1 d_V_remove_5 (by decide) ?_
  refine am_isub d_V_remove_6 ?_
  refine am_ti (b := nI n) (nI_pred n) ?_
  refine am_put d_V_remove_7 fp_V_26 hv rfl rfl (Nat.le_of_ble_eq_true rfl) ?_
  obtain ⟨S_1, eS_1⟩ : ∃ z : am_S, z = (am_up S.1 v (.inr (1, [.ref st, .int sa, .int (nI n), .int it, .ref ex, .ref sp])), S.2) := ⟨_, rfl⟩
  change am_W _ _ _ _ (am_up S.1 v (.inr (1, [.ref st, .int sa, .int (nI n), .int it, .ref ex, .ref sp])), S.2) _
  rw [← eS_1]
  have h_2 : S_1.1 ex = some (.inl (0, 4, .inl fe)) := by rw [eS_1]; exact (am_up_n hV.ne.1.symm).trans he
  have h_3 : S_1.1 sp = some (.inl (0, 4, .inl fs)) := by rw [eS_1]; exact (am_up_n hV.ne.2.symm).trans hs
  have hf_4 : sv_fr S S_1 v ex sp := by rw [eS_1]; exact sv_fr.rf.u1
  have h_5 : S_1.1 v = some (.inr (1, [.ref st, .int sa, .int (nI n), .int it, .ref ex, .ref sp])) := by rw [eS_1]; exact am_up_s
  have hn_6 : S_1.2 = S.2 := by rw [eS_1]
  refine am_iloadn d_V_remove_10 rfl ?_
  refine am_istoren (L' := [some (.ref v), some (.int (nI j)), some (.int (nI j))]) d_V_remove_11 (by decide) rfl rfl ?_
  refine c_remove_l hj (by omega) hP (n - j) j (by omega) (Nat.le_refl j) _ fe fs ⟨h_5, h_2, h_3, hne, by omega⟩ hf_4 (fun i hi => ?_)
  rcases Nat.lt_or_ge i j with h | h
  · have h5 : sv_rem fe j i = fe i := by simp only [sv_rem]; rw [if_pos h]
    have h6 : sv_rem fs j i = fs i := by simp only [sv_rem]; rw [if_pos h]
    rw [if_pos h, if_pos h, h5, h6]; exact ⟨rfl, rfl⟩
  · rw [if_neg (by omega), if_neg (by omega)]; exact ⟨rfl, rfl⟩
end
section
/-! arrays that are made -/
section AmMake
variable {g : am_G} {d : Nat} {y : am_I} {pc : Nat} {L : List (Option Value)} {st : List Value} {S : am_S} {P : am_O → am_S → Prop}
theorem am_newI {N : Nat} (hd : decode y.2.1 pc = .ok (.newarray .int, 2)) (hN : N ≤ 100000) (hc : S.2.1 + 1 ≤ g.2.2.2.1) (hz : S.2.2 + N ≤ g.2.2.2.2.1) (kk : am_W g d y (pc + 2, L, .ref S.2.1 :: st) (am_up S.1 S.2.1 (.inl (0, N, .inl (fun _ => 0))), S.2.1 + 1, S.2.2 + N) P) : am_W g d y (pc, L, .int (nI N) :: st) S P :=
  am_newa (t := 0) (N' := N) (ty := .int) (a0 := (N, .inl (fun _ => 0))) hd rfl (am_in 46 (by decide +kernel) rfl) rfl (fun cA => by rw [vp_cell_i]; rfl) (fun _ _ h => h) (nI_pos (by omega)) (nI_clamp (by omega)) (by show N * _ ≤ 536870912; simp [componentBytes]; omega) hc hz kk
theorem am_newL {N : Nat} (hd : decode y.2.1 pc = .ok (.newarray .long, 2)) (hN : N ≤ 100000) (hc : S.2.1 + 1 ≤ g.2.2.2.1) (hz : S.2.2 + N ≤ g.2.2.2.2.1) (kk : am_W g d y (pc + 2, L, .ref S.2.1 :: st) (am_up S.1 S.2.1 (.inl (1, N, .inr (.inl (fun _ => 0)))), S.2.1 + 1, S.2.2 + N) P) : am_W g d y (pc, L, .int (nI N) :: st) S P :=
  am_newa (t := 1) (N' := N) (ty := .long) (a0 := (N, .inr (.inl (fun _ => 0)))) hd rfl (am_in 47 (by decide +kernel) rfl) rfl (fun cA => by rw [vp_cell_l]; rfl) (fun _ _ h => h) (nI_pos (by omega)) (nI_clamp (by omega)) (by show N * _ ≤ 536870912; simp [componentBytes]; omega) hc hz kk
theorem am_newZ {N : Nat} (hd : decode y.2.1 pc = .ok (.newarray .boolean, 2)) (hN : N ≤ 100000) (hc : S.2.1 + 1 ≤ g.2.2.2.1) (hz : S.2.2 + N ≤ g.2.2.2.2.1) (kk : am_W g d y (pc + 2, L, .ref S.2.1 :: st) (am_up S.1 S.2.1 (.inl (2, N, .inl (fun _ => 0))), S.2.1 + 1, S.2.2 + N) P) : am_W g d y (pc, L, .int (nI N) :: st) S P :=
  am_newa (t := 2) (N' := N) (ty := .boolean) (a0 := (N, .inl (fun _ => 0))) hd rfl (am_in 48 (by decide +kernel) rfl) rfl (fun cA => by rw [vp_cell_i]; rfl) (fun _ _ h => h) (nI_pos (by omega)) (nI_clamp (by omega)) (by show N * _ ≤ 536870912; simp [componentBytes]; omega) hc hz kk
end AmMake
end
section
theorem sv_ifc {α : Type} {p q : Prop} [Decidable p] [Decidable q] {a b : α} (h : p ↔ q) : (if p then a else b) = (if q then a else b) := by
  by_cases hp : p
  · rw [if_pos hp, if_pos (h.mp hp)]
  · rw [if_neg hp, if_neg (fun z => hp (h.mpr z))]
set_option maxHeartbeats 4000000 in
set_option maxRecDepth 100000 in
/-- the loop of settle -/
theorem c_settle_l {g : am_G} {d : Nat} {S : am_S} {v st : Nat} {sa : Int32} {n : Nat} {ex sp : Nat} {fe fs : Nat → Int32} (F : Nat → Nat) (hF : ∀ k, k < n → fe k = nI (F k)) (hO : sv_ok F n) (q : Nat) (hq : q < 2 ^ 31) {P : am_O → am_S → Prop} (hP : ∀ (S1 : am_S) (fs1 : Nat → Int32), sv_V S1.1 v st (if q = 0 then 0 else sa) n (nI q) ex sp fe fs1 → sv_fr S S1 v ex sp → (∀ i, i < n → fs1 i = if (q = 0 ∨ F i < 2) then 0 else fs i) → P (.inl none) S1) : ∀ (m k : Nat), k + m = n → ∀ (S0 : am_S) (Fs : Nat → Int32), sv_V S0.1 v st sa n (nI q) ex sp fe Fs → sv_fr S S0 v ex sp → (∀ i, i < n → Fs i = if (i < k ∧ (q = 0 ∨ F i < 2)) then 0 else fs i) → am_W g d mm_V_settle (11, [some (.ref v), some (.int (nI k))], []) S0 P := by
  intro m
  induction m using Nat.strongRecOn with
  | ind m ih =>
    intro k hk S0 Fs hV hfr hI
    obtain ⟨hv, he, hs, hne, hn4⟩ := id hV
    refine am_iloadn d_V_settle_11 rfl ?_
    refine am_aloadn d_V_settle_12 rfl ?_
    refine am_get d_V_settle_13 fl_V_26 hv rfl ?_
    refine am_icge (tgt := 49) d_V_settle_16 (by decide) (fun hc => ?_) (fun hc => ?_)
    · have hk0 : n ≤ k := (nI_leI (by omega) (by omega)).mp hc
      refine am_aloadn d_V_settle_49 rfl ?_
      refine am_get d_V_settle_50 fl_V_29 hv rfl ?_
      refine am_ifne (tgt := 61) d_V_settle_53 (by decide) (fun hz => ?_) (fun hz => ?_)
      · have hq0 : ¬ q = 0 := fun h => hz (by rw [h]; exact nI_0)
        exact am_vret d_V_settle_61 rfl (hP S0 Fs (by rw [if_neg hq0]; exact hV) hfr (fun i hi => (hI i hi).trans (sv_ifc (and_iff_right (by omega)))))
      · have hq0 : q = 0 := (nI_eq hq (by decide)).mp (hz.trans nI_0.symm)
        refine am_aloadn d_V_settle_56 rfl ?_
        refine am_iconst 0 d_V_settle_57 (by decide) ?_
        refine am_put d_V_settle_58 fp_V_22 hv rfl rfl (Nat.le_of_ble_eq_true rfl) ?_
        obtain ⟨S_1, eS_1⟩ : ∃ z : am_S, z = (am_up S0.1 v (.inr (1, [.ref st, .int 0, .int (nI n), .int (nI q), .ref ex, .ref sp])), S0.2) := ⟨_, rfl⟩
        change am_W _ _ _ _ (am_up S0.1 v (.inr (1, [.ref st, .int 0, .int (nI n), .int (nI q), .ref ex, .ref sp])), S0.2) _
        rw [← eS_1]
        have h_2 : S_1.1 ex = some (.inl (0, 4, .inl fe)) := by rw [eS_1]; exact (am_up_n hV.ne.1.symm).trans he
        have h_3 : S_1.1 sp = some (.inl (0, 4, .inl Fs)) := by rw [eS_1]; exact (am_up_n hV.ne.2.symm).trans hs
        have hf_4 : sv_fr S S_1 v ex sp := by rw [eS_1]; exact hfr.u1
        have h_5 : S_1.1 v = some (.inr (1, [.ref st, .int 0, .int (nI n), .int (nI q), .ref ex, .ref sp])) := by rw [eS_1]; exact am_up_s
        have hnS_1 : S_1.2.1 = S0.2.1 := by rw [eS_1]
        have hzS_1 : S_1.2.2 = S0.2.2 := by rw [eS_1]
        exact am_vret d_V_settle_61 rfl (hP _ Fs (by rw [if_pos hq0]; exact ⟨h_5, h_2, h_3, hne, hn4⟩) hf_4 (fun i hi => (hI i hi).trans (sv_ifc (and_iff_right (by omega)))))
    · have hlt : k < n := Nat.lt_of_not_le (fun q => hc (nI_le q (by omega)))
      refine am_aloadn d_V_settle_19 rfl ?_
      refine am_get d_V_settle_20 fl_V_29 hv rfl ?_
      refine am_ifeq (tgt := 36) d_V_settle_23 (by decide) (fun hz => ?_) (fun hz => ?_)
      · refine am_aloadn d_V_settle_36 rfl ?_
        refine am_get d_V_settle_37 fl_V_15 hv rfl ?_
        refine am_iloadn d_V_settle_40 rfl ?_
        refine am_iconst 0 d_V_settle_41 (by decide) ?_
        refine am_iastN (t := 0) d_V_settle_42 rfl hs (by omega) (by omega) ?_
        obtain ⟨S_6, eS_6⟩ : ∃ z : am_S, z = (am_up S0.1 sp (.inl (0, 4, .inl (upd Fs k 0))), S0.2) := ⟨_, rfl⟩
        change am_W _ _ _ _ (am_up S0.1 sp (.inl (0, 4, .inl (upd Fs k 0))), S0.2) _
        rw [← eS_6]
        have h_7 : S_6.1 v = some (.inr (1, [.ref st, .int sa, .int (nI n), .int (nI q), .ref ex, .ref sp])) := by rw [eS_6]; exact (am_up_n hV.ne.2).trans hv
        have h_8 : S_6.1 ex = some (.inl (0, 4, .inl fe)) := by rw [eS_6]; exact (am_up_n hne).trans he
        have hf_9 : sv_fr S S_6 v ex sp := by rw [eS_6]; exact hfr.u3
        have h_10 : S_6.1 sp = some (.inl (0, 4, .inl (upd Fs k 0))) := by rw [eS_6]; exact am_up_s
        have hnS_6 : S_6.2.1 = S0.2.1 := by rw [eS_6]
        have hzS_6 : S_6.2.2 = S0.2.2 := by rw [eS_6]
        refine am_iinc (v := nI (k + 1)) (L' := [some (.ref v), some (.int (nI (k + 1)))]) d_V_settle_43 rfl (nI_1 k) (by decide) rfl rfl ?_
        refine am_goto (tgt := 11) d_V_settle_46 (by decide) ?_
        refine ih (m - 1) (by omega) (k + 1) (by omega) _ _ ⟨h_7, h_8, h_10, hne, hn4⟩ hf_9 (fun i hi => ?_)
        by_cases hik : i = k
        · subst hik
          rw [if_pos ⟨by omega, Or.inl ((nI_eq hq (by decide)).mp (hz.trans nI_0.symm))⟩]; exact pk_us
        · have h8 : (upd Fs k 0) i = Fs i := pk_un hik
          rw [h8, hI i hi]
          exact sv_ifc (and_congr_left (fun _ => by omega))
      · refine am_aloadn d_V_settle_26 rfl ?_
        refine am_get d_V_settle_27 fl_V_9 hv rfl ?_
        refine am_iloadn d_V_settle_30 rfl ?_
        refine am_ialdN (t := 0) (k := k) d_V_settle_31 rfl he (by omega) (by omega) ?_
        refine am_ti (b := nI (F k)) (hF k hlt) ?_
        refine am_iconst 2 d_V_settle_32 (by decide) ?_
        refine am_icge (tgt := 43) d_V_settle_33 (by decide) (fun hw => ?_) (fun hw => ?_)
        · have hF2 : 2 ≤ F k := (nI_leI (by decide) (hO k hlt)).mp hw
          have hq0 : ¬ q = 0 := fun h => hz (by rw [h]; exact nI_0)
          refine am_iinc (v := nI (k + 1)) (L' := [some (.ref v), some (.int (nI (k + 1)))]) d_V_settle_43 rfl (nI_1 k) (by decide) rfl rfl ?_
          refine am_goto (tgt := 11) d_V_settle_46 (by decide) ?_
          refine ih (m - 1) (by omega) (k + 1) (by omega) _ _ hV hfr (fun i hi => ?_)
          rw [hI i hi]
          by_cases hik : i = k
          · subst hik
            rw [if_neg (fun h => absurd h.1 (by omega)), if_neg (fun h => h.2.elim hq0 (by omega))]
          · exact sv_ifc (and_congr_left (fun _ => by omega))
        · have hF2 : F k < 2 := Nat.lt_of_not_le (fun z => hw (nI_le z (hO k hlt)))
          refine am_aloadn d_V_settle_36 rfl ?_
          refine am_get d_V_settle_37 fl_V_15 hv rfl ?_
          refine am_iloadn d_V_settle_40 rfl ?_
          refine am_iconst 0 d_V_settle_41 (by decide) ?_
          refine am_iastN (t := 0) d_V_settle_42 rfl hs (by omega) (by omega) ?_
          obtain ⟨S_11, eS_11⟩ : ∃ z : am_S, z = (am_up S0.1 sp (.inl (0, 4, .inl (upd Fs k 0))), S0.2) := ⟨_, rfl⟩
          change am_W _ _ _ _ (am_up S0.1 sp (.inl (0, 4, .inl (upd Fs k 0))), S0.2) _
          rw [← eS_11]
          have h_12 : S_11.1 v = some (.inr (1, [.ref st, .int sa, .int (nI n), .int (nI q), .ref ex, .ref sp])) := by rw [eS_11]; exact (am_up_n hV.ne.2).trans hv
          have h_13 : S_11.1 ex = some (.inl (0, 4, .inl fe)) := by rw [eS_11]; exact (am_up_n hne).trans he
          have hf_14 : sv_fr S S_11 v ex sp := by rw [eS_11]; exact hfr.u3
          have h_15 : S_11.1 sp = some (.inl (0, 4, .inl (upd Fs k 0))) := by rw [eS_11]; exact am_up_s
          have hnS_11 : S_11.2.1 = S0.2.1 := by rw [eS_11]
          have hzS_11 : S_11.2.2 = S0.2.2 := by rw [eS_11]
          refine am_iinc (v := nI (k + 1)) (L' := [some (.ref v), some (.int (nI (k + 1)))]) d_V_settle_43 rfl (nI_1 k) (by decide) rfl rfl ?_
          refine am_goto (tgt := 11) d_V_settle_46 (by decide) ?_
          refine ih (m - 1) (by omega) (k + 1) (by omega) _ _ ⟨h_12, h_13, h_15, hne, hn4⟩ hf_14 (fun i hi => ?_)
          by_cases hik : i = k
          · subst hik
            rw [if_pos ⟨by omega, Or.inr hF2⟩]; exact pk_us
          · have h8 : (upd Fs k 0) i = Fs i := pk_un hik
            rw [h8, hI i hi]
            exact sv_ifc (and_congr_left (fun _ => by omega))
set_option maxHeartbeats 4000000 in
set_option maxRecDepth 100000 in
/-- settle: the items are counted, steps that say nothing are 0 -/
theorem c_settle {g : am_G} {d : Nat} {S : am_S} {v st : Nat} {sa : Int32} {n : Nat} {it : Int32} {ex sp : Nat} {fe fs : Nat → Int32} (hV : sv_V S.1 v st sa n it ex sp fe fs) (F : Nat → Nat) (hF : ∀ k, k < n → fe k = nI (F k)) (hO : sv_ok F n) {P : am_O → am_S → Prop} (hP : ∀ (S1 : am_S) (fs1 : Nat → Int32), sv_V S1.1 v st (if min (sv_pr F n) 2147483647 = 0 then 0 else sa) n (nI (min (sv_pr F n) 2147483647)) ex sp fe fs1 → sv_fr S S1 v ex sp → (∀ i, i < n → fs1 i = if (min (sv_pr F n) 2147483647 = 0 ∨ F i < 2) then 0 else fs i) → P (.inl none) S1) : am_W g (d + 1) mm_V_settle (0, am_ent [.ref v] 2, []) S (P) := by
  obtain ⟨hv, he, hs, hne, hn4⟩ := id hV
  show am_W g (d + 1) mm_V_settle (0, [some (.ref v), none], []) S _
  refine am_aloadn d_V_settle_0 rfl ?_
  refine am_aloadn d_V_settle_1 rfl ?_
  refine am_iconst (-1) d_V_settle_2 (by decide) ?_
  refine am_callV [.int (-1)] [.ref v] d_V_settle_3 cV_V_39 hv rfl rfl (Nat.le_of_ble_eq_true rfl) (Nat.le_of_ble_eq_true rfl) (c_itemsBut hV F hF hO (-1) (P := fun o S1 => o = .inl (some (.int (nI (min (sv_prs F (-1) n) 2147483647)))) ∧ S1 = S) ⟨rfl, rfl⟩) ?_ ?_
  · intro r_1 Sx_2 hx_3
    obtain ⟨hx_3a, hx_3b⟩ := hx_3
    cases hx_3a
    rw [hx_3b]
    rw [sv_prs_none F n (by omega)]
    obtain ⟨q, hq⟩ : ∃ q, q = min (sv_pr F n) 2147483647 := ⟨_, rfl⟩
    rw [← hq] at hP ⊢
    show am_W g (d + 1) mm_V_settle (6, [some (.ref v), none], [.int (nI q), .ref v]) S _
    refine am_put d_V_settle_6 fp_V_29 hv rfl rfl (Nat.le_of_ble_eq_true rfl) ?_
    obtain ⟨S_4, eS_4⟩ : ∃ z : am_S, z = (am_up S.1 v (.inr (1, [.ref st, .int sa, .int (nI n), .int (nI q), .ref ex, .ref sp])), S.2) := ⟨_, rfl⟩
    change am_W _ _ _ _ (am_up S.1 v (.inr (1, [.ref st, .int sa, .int (nI n), .int (nI q), .ref ex, .ref sp])), S.2) _
    rw [← eS_4]
    have h_5 : S_4.1 ex = some (.inl (0, 4, .inl fe)) := by rw [eS_4]; exact (am_up_n hV.ne.1.symm).trans he
    have h_6 : S_4.1 sp = some (.inl (0, 4, .inl fs)) := by rw [eS_4]; exact (am_up_n hV.ne.2.symm).trans hs
    have hf_7 : sv_fr S S_4 v ex sp := by rw [eS_4]; exact sv_fr.rf.u1
    have h_8 : S_4.1 v = some (.inr (1, [.ref st, .int sa, .int (nI n), .int (nI q), .ref ex, .ref sp])) := by rw [eS_4]; exact am_up_s
    have hnS_4 : S_4.2.1 = S.2.1 := by rw [eS_4]
    have hzS_4 : S_4.2.2 = S.2.2 := by rw [eS_4]
    refine am_iconst 0 d_V_settle_9 (by decide) ?_
    refine am_istoren (L' := [some (.ref v), some (.int 0)]) d_V_settle_10 (by decide) rfl rfl ?_
    exact c_settle_l F hF hO q (by omega) hP n 0 (by omega) _ fs ⟨h_8, h_5, h_6, hne, hn4⟩ hf_7 (fun i hi => by rw [if_neg (fun h => absurd h.1 (Nat.not_lt_zero i))])
  · intro r_1 Sx_2 hx_3
    cases hx_3.1
set_option maxHeartbeats 4000000 in
set_option maxRecDepth 100000 in
/-- View(store, start) -/
theorem c_Vinit {g : am_G} {d : Nat} {S : am_S} {v st : Nat} {sa : Int32} (hv : S.1 v = some (.inr (1, [.null, .int 0, .int 0, .int 0, .null, .null]))) (hvl : v < S.2.1) (hr1 : S.2.1 + 2 ≤ g.2.2.2.1) (hr2 : S.2.2 + 8 ≤ g.2.2.2.2.1) {P : am_O → am_S → Prop} (hP : ∀ S1 : am_S, S1.1 v = some (.inr (1, [.ref st, .int sa, .int 0, .int 0, .ref S.2.1, .ref (S.2.1 + 1)])) → S1.1 S.2.1 = some (.inl (0, 4, .inl (fun _ => 0))) → S1.1 (S.2.1 + 1) = some (.inl (0, 4, .inl (fun _ => 0))) → S1.2 = (S.2.1 + 2, S.2.2 + 8) → (∀ q : Nat, q ≠ v → q < S.2.1 → S1.1 q = S.1 q) → P (.inl none) S1) : am_W g d mm_V_init (0, am_ent [.ref v, .ref st, .int sa] 3, []) S (P) := by
  have hfr0 : ∀ q : Nat, q ≠ v → q < S.2.1 → S.1 q = S.1 q := fun _ _ _ => rfl
  show am_W g d mm_V_init (0, [some (.ref v), some (.ref st), some (.int sa)], []) S _
  refine am_aloadn d_V_init_0 rfl ?_
  refine am_obj d_V_init_1 (am_in 176 (by decide +kernel) rfl) (am_in 18 (by decide +kernel) rfl) (am_in 19 (by decide +kernel) rfl) (Nat.le_of_ble_eq_true rfl) ?_
  refine am_aloadn d_V_init_4 rfl ?_
  refine am_iconst 4 d_V_init_5 (by decide) ?_
  refine am_ti (b := nI 4) rfl ?_
  obtain ⟨a_1, ea_1⟩ : ∃ z : Nat, z = S.2.1 := ⟨_, rfl⟩
  refine am_newI (N := 4) d_V_init_6 (by omega) (by omega) (by omega) ?_
  change am_W _ _ _ (_, _, .ref S.2.1 :: _) (am_up S.1 S.2.1 (.inl (0, 4, .inl (fun _ => 0))), S.2.1 + 1, S.2.2 + 4) _
  rw [← ea_1]
  obtain ⟨S_2, eS_2⟩ : ∃ z : am_S, z = (am_up S.1 a_1 (.inl (0, 4, .inl (fun _ => 0))), a_1 + 1, S.2.2 + 4) := ⟨_, rfl⟩
  rw [← eS_2]
  have h_3 : S_2.1 v = some (.inr (1, [.null, .int 0, .int 0, .int 0, .null, .null])) := by rw [eS_2]; exact (am_up_n (by omega)).trans hv
  have hf_4 : ∀ q : Nat, q ≠ v → q < S.2.1 → S_2.1 q = S.1 q := by rw [eS_2]; exact fun q h1 h2 => (am_up_n (by omega)).trans (hfr0 q h1 h2)
  have h_5 : S_2.1 a_1 = some (.inl (0, 4, .inl (fun _ => 0))) := by rw [eS_2]; exact am_up_s
  have hna_1 : S_2.2.1 = a_1 + 1 := by rw [eS_2]
  have hza_1 : S_2.2.2 = S.2.2 + 4 := by rw [eS_2]
  refine am_putF d_V_init_8 fp_V_9 rfl h_3 rfl rfl (Nat.le_of_ble_eq_true rfl) ?_
  obtain ⟨S_6, eS_6⟩ : ∃ z : am_S, z = (am_up S_2.1 v (.inr (1, [.null, .int 0, .int 0, .int 0, .ref a_1, .null])), S_2.2) := ⟨_, rfl⟩
  change am_W _ _ _ _ (am_up S_2.1 v (.inr (1, [.null, .int 0, .int 0, .int 0, .ref a_1, .null])), S_2.2) _
  rw [← eS_6]
  have h_7 : S_6.1 a_1 = some (.inl (0, 4, .inl (fun _ => 0))) := by rw [eS_6]; exact (am_up_n (by omega)).trans h_5
  have hf_8 : ∀ q : Nat, q ≠ v → q < S.2.1 → S_6.1 q = S.1 q := by rw [eS_6]; exact fun q h1 h2 => (am_up_n (by omega)).trans (hf_4 q h1 h2)
  have h_9 : S_6.1 v = some (.inr (1, [.null, .int 0, .int 0, .int 0, .ref a_1, .null])) := by rw [eS_6]; exact am_up_s
  have hnS_6 : S_6.2.1 = S_2.2.1 := by rw [eS_6]
  have hzS_6 : S_6.2.2 = S_2.2.2 := by rw [eS_6]
  refine am_aloadn d_V_init_11 rfl ?_
  refine am_iconst 4 d_V_init_12 (by decide) ?_
  refine am_ti (b := nI 4) rfl ?_
  obtain ⟨a_10, ea_10⟩ : ∃ z : Nat, z = S_6.2.1 := ⟨_, rfl⟩
  refine am_newI (N := 4) d_V_init_13 (by omega) (by omega) (by omega) ?_
  change am_W _ _ _ (_, _, .ref S_6.2.1 :: _) (am_up S_6.1 S_6.2.1 (.inl (0, 4, .inl (fun _ => 0))), S_6.2.1 + 1, S_6.2.2 + 4) _
  rw [← ea_10]
  obtain ⟨S_11, eS_11⟩ : ∃ z : am_S, z = (am_up S_6.1 a_10 (.inl (0, 4, .inl (fun _ => 0))), a_10 + 1, S_6.2.2 + 4) := ⟨_, rfl⟩
  rw [← eS_11]
  have h_12 : S_11.1 v = some (.inr (1, [.null, .int 0, .int 0, .int 0, .ref a_1, .null])) := by rw [eS_11]; exact (am_up_n (by omega)).trans h_9
  have h_13 : S_11.1 a_1 = some (.inl (0, 4, .inl (fun _ => 0))) := by rw [eS_11]; exact (am_up_n (by omega)).trans h_7
  have hf_14 : ∀ q : Nat, q ≠ v → q < S.2.1 → S_11.1 q = S.1 q := by rw [eS_11]; exact fun q h1 h2 => (am_up_n (by omega)).trans (hf_8 q h1 h2)
  have h_15 : S_11.1 a_10 = some (.inl (0, 4, .inl (fun _ => 0))) := by rw [eS_11]; exact am_up_s
  have hna_10 : S_11.2.1 = a_10 + 1 := by rw [eS_11]
  have hza_10 : S_11.2.2 = S_6.2.2 + 4 := by rw [eS_11]
  refine am_putF d_V_init_15 fp_V_15 rfl h_12 rfl rfl (Nat.le_of_ble_eq_true rfl) ?_
  obtain ⟨S_16, eS_16⟩ : ∃ z : am_S, z = (am_up S_11.1 v (.inr (1, [.null, .int 0, .int 0, .int 0, .ref a_1, .ref a_10])), S_11.2) := ⟨_, rfl⟩
  change am_W _ _ _ _ (am_up S_11.1 v (.inr (1, [.null, .int 0, .int 0, .int 0, .ref a_1, .ref a_10])), S_11.2) _
  rw [← eS_16]
  have h_17 : S_16.1 a_1 = some (.inl (0, 4, .inl (fun _ => 0))) := by rw [eS_16]; exact (am_up_n (by omega)).trans h_13
  have h_18 : S_16.1 a_10 = some (.inl (0, 4, .inl (fun _ => 0))) := by rw [eS_16]; exact (am_up_n (by omega)).trans h_15
  have hf_19 : ∀ q : Nat, q ≠ v → q < S.2.1 → S_16.1 q = S.1 q := by rw [eS_16]; exact fun q h1 h2 => (am_up_n (by omega)).trans (hf_14 q h1 h2)
  have h_20 : S_16.1 v = some (.inr (1, [.null, .int 0, .int 0, .int 0, .ref a_1, .ref a_10])) := by rw [eS_16]; exact am_up_s
  have hnS_16 : S_16.2.1 = S_11.2.1 := by rw [eS_16]
  have hzS_16 : S_16.2.2 = S_11.2.2 := by rw [eS_16]
  refine am_aloadn d_V_init_18 rfl ?_
  refine am_aloadn d_V_init_19 rfl ?_
  refine am_putF d_V_init_20 fp_V_18 rfl h_20 rfl rfl (Nat.le_of_ble_eq_true rfl) ?_
  obtain ⟨S_21, eS_21⟩ : ∃ z : am_S, z = (am_up S_16.1 v (.inr (1, [.ref st, .int 0, .int 0, .int 0, .ref a_1, .ref a_10])), S_16.2) := ⟨_, rfl⟩
  change am_W _ _ _ _ (am_up S_16.1 v (.inr (1, [.ref st, .int 0, .int 0, .int 0, .ref a_1, .ref a_10])), S_16.2) _
  rw [← eS_21]
  have h_22 : S_21.1 a_1 = some (.inl (0, 4, .inl (fun _ => 0))) := by rw [eS_21]; exact (am_up_n (by omega)).trans h_17
  have h_23 : S_21.1 a_10 = some (.inl (0, 4, .inl (fun _ => 0))) := by rw [eS_21]; exact (am_up_n (by omega)).trans h_18
  have hf_24 : ∀ q : Nat, q ≠ v → q < S.2.1 → S_21.1 q = S.1 q := by rw [eS_21]; exact fun q h1 h2 => (am_up_n (by omega)).trans (hf_19 q h1 h2)
  have h_25 : S_21.1 v = some (.inr (1, [.ref st, .int 0, .int 0, .int 0, .ref a_1, .ref a_10])) := by rw [eS_21]; exact am_up_s
  have hnS_21 : S_21.2.1 = S_16.2.1 := by rw [eS_21]
  have hzS_21 : S_21.2.2 = S_16.2.2 := by rw [eS_21]
  refine am_aloadn d_V_init_23 rfl ?_
  refine am_iloadn d_V_init_24 rfl ?_
  refine am_put d_V_init_25 fp_V_22 h_25 rfl rfl (Nat.le_of_ble_eq_true rfl) ?_
  obtain ⟨S_26, eS_26⟩ : ∃ z : am_S, z = (am_up S_21.1 v (.inr (1, [.ref st, .int sa, .int 0, .int 0, .ref a_1, .ref a_10])), S_21.2) := ⟨_, rfl⟩
  change am_W _ _ _ _ (am_up S_21.1 v (.inr (1, [.ref st, .int sa, .int 0, .int 0, .ref a_1, .ref a_10])), S_21.2) _
  rw [← eS_26]
  have h_27 : S_26.1 a_1 = some (.inl (0, 4, .inl (fun _ => 0))) := by rw [eS_26]; exact (am_up_n (by omega)).trans h_22
  have h_28 : S_26.1 a_10 = some (.inl (0, 4, .inl (fun _ => 0))) := by rw [eS_26]; exact (am_up_n (by omega)).trans h_23
  have hf_29 : ∀ q : Nat, q ≠ v → q < S.2.1 → S_26.1 q = S.1 q := by rw [eS_26]; exact fun q h1 h2 => (am_up_n (by omega)).trans (hf_24 q h1 h2)
  have h_30 : S_26.1 v = some (.inr (1, [.ref st, .int sa, .int 0, .int 0, .ref a_1, .ref a_10])) := by rw [eS_26]; exact am_up_s
  have hnS_26 : S_26.2.1 = S_21.2.1 := by rw [eS_26]
  have hzS_26 : S_26.2.2 = S_21.2.2 := by rw [eS_26]
  refine am_aloadn d_V_init_28 rfl ?_
  refine am_iconst 0 d_V_init_29 (by decide) ?_
  refine am_put d_V_init_30 fp_V_26 h_30 rfl rfl (Nat.le_of_ble_eq_true rfl) ?_
  obtain ⟨S_31, eS_31⟩ : ∃ z : am_S, z = (am_up S_26.1 v (.inr (1, [.ref st, .int sa, .int 0, .int 0, .ref a_1, .ref a_10])), S_26.2) := ⟨_, rfl⟩
  change am_W _ _ _ _ (am_up S_26.1 v (.inr (1, [.ref st, .int sa, .int 0, .int 0, .ref a_1, .ref a_10])), S_26.2) _
  rw [← eS_31]
  have h_32 : S_31.1 a_1 = some (.inl (0, 4, .inl (fun _ => 0))) := by rw [eS_31]; exact (am_up_n (by omega)).trans h_27
  have h_33 : S_31.1 a_10 = some (.inl (0, 4, .inl (fun _ => 0))) := by rw [eS_31]; exact (am_up_n (by omega)).trans h_28
  have hf_34 : ∀ q : Nat, q ≠ v → q < S.2.1 → S_31.1 q = S.1 q := by rw [eS_31]; exact fun q h1 h2 => (am_up_n (by omega)).trans (hf_29 q h1 h2)
  have h_35 : S_31.1 v = some (.inr (1, [.ref st, .int sa, .int 0, .int 0, .ref a_1, .ref a_10])) := by rw [eS_31]; exact am_up_s
  have hnS_31 : S_31.2.1 = S_26.2.1 := by rw [eS_31]
  have hzS_31 : S_31.2.2 = S_26.2.2 := by rw [eS_31]
  refine am_aloadn d_V_init_33 rfl ?_
  refine am_iconst 0 d_V_init_34 (by decide) ?_
  refine am_put d_V_init_35 fp_V_29 h_35 rfl rfl (Nat.le_of_ble_eq_true rfl) ?_
  obtain ⟨S_36, eS_36⟩ : ∃ z : am_S, z = (am_up S_31.1 v (.inr (1, [.ref st, .int sa, .int 0, .int 0, .ref a_1, .ref a_10])), S_31.2) := ⟨_, rfl⟩
  change am_W _ _ _ _ (am_up S_31.1 v (.inr (1, [.ref st, .int sa, .int 0, .int 0, .ref a_1, .ref a_10])), S_31.2) _
  rw [← eS_36]
  have h_37 : S_36.1 a_1 = some (.inl (0, 4, .inl (fun _ => 0))) := by rw [eS_36]; exact (am_up_n (by omega)).trans h_32
  have h_38 : S_36.1 a_10 = some (.inl (0, 4, .inl (fun _ => 0))) := by rw [eS_36]; exact (am_up_n (by omega)).trans h_33
  have hf_39 : ∀ q : Nat, q ≠ v → q < S.2.1 → S_36.1 q = S.1 q := by rw [eS_36]; exact fun q h1 h2 => (am_up_n (by omega)).trans (hf_34 q h1 h2)
  have h_40 : S_36.1 v = some (.inr (1, [.ref st, .int sa, .int 0, .int 0, .ref a_1, .ref a_10])) := by rw [eS_36]; exact am_up_s
  have hnS_36 : S_36.2.1 = S_31.2.1 := by rw [eS_36]
  have hzS_36 : S_36.2.2 = S_31.2.2 := by rw [eS_36]
  have ha2 : a_10 = S.2.1 + 1 := by omega
  have hfin : S_36.2 = (S.2.1 + 2, S.2.2 + 8) := by
    have q1 : S_36.2.1 = S.2.1 + 2 := by omega
    have q2 : S_36.2.2 = S.2.2 + 8 := by omega
    exact Prod.ext q1 q2
  refine am_vret d_V_init_38 rfl (hP S_36 ?_ ?_ ?_ hfin hf_39)
  · rw [← ha2, ← ea_1]; exact h_40
  · rw [← ea_1]; exact h_37
  · rw [← ha2]; exact h_38
end
section
set_option maxHeartbeats 4000000 in
set_option maxRecDepth 100000 in
/-- the loop of twin -/
theorem c_twin_l {g : am_G} {d : Nat} {S : am_S} {v st : Nat} {sa : Int32} {n : Nat} {it : Int32} {ex sp : Nat} {fe fs : Nat → Int32} (hV : sv_V S.1 v st sa n it ex sp fe fs) {w : Nat} {N : Nat × Nat} (hvw : v < w) (hew : ex < w) (hsw : sp < w) {P : am_O → am_S → Prop} (hP : ∀ (S1 : am_S) (fe1 fs1 : Nat → Int32), sv_V S1.1 w st sa n 0 (w + 1) (w + 2) fe1 fs1 → S1.2 = N → (∀ q, q < w → S1.1 q = S.1 q) → (∀ i, i < n → fe1 i = fe i ∧ fs1 i = fs i) → P (.inl (some (.ref w))) S1) : ∀ (m k : Nat), k + m = n → ∀ (S0 : am_S) (Fe Fs : Nat → Int32), sv_V S0.1 w st sa k 0 (w + 1) (w + 2) Fe Fs → S0.2 = N → (∀ q, q < w → S0.1 q = S.1 q) → (∀ i, i < k → Fe i = fe i ∧ Fs i = fs i) → am_W g (d + 1) mm_V_twin (18, [some (.ref v), some (.ref w), some (.int (nI k))], []) S0 P := by
  obtain ⟨hv0, he0, hs0, hne, hn4⟩ := id hV
  intro m
  induction m using Nat.strongRecOn with
  | ind m ih =>
    intro k hk S0 Fe Fs hW hn0 hfr hI
    have hv := (hfr v hvw).trans hv0
    have he := (hfr ex hew).trans he0
    have hs := (hfr sp hsw).trans hs0
    have hw := hW.1
    refine am_iloadn d_V_twin_18 rfl ?_
    refine am_aloadn d_V_twin_19 rfl ?_
    refine am_get d_V_twin_20 fl_V_26 hv rfl ?_
    refine am_icge (tgt := 49) d_V_twin_23 (by decide) (fun hc => ?_) (fun hc => ?_)
    · have hk0 : n ≤ k := (nI_leI (by omega) (by omega)).mp hc
      obtain rfl : n = k := by omega
      refine am_aloadn d_V_twin_49 rfl ?_
      exact am_aret d_V_twin_50 rfl (hP S0 Fe Fs hW hn0 hfr hI)
    · have hlt : k < n := Nat.lt_of_not_le (fun q => hc (nI_le q (by omega)))
      refine am_aloadn d_V_twin_26 rfl ?_
      refine am_iloadn d_V_twin_27 rfl ?_
      refine am_aloadn d_V_twin_28 rfl ?_
      refine am_get d_V_twin_29 fl_V_9 hv rfl ?_
      refine am_iloadn d_V_twin_32 rfl ?_
      refine am_ialdN (t := 0) (k := k) d_V_twin_33 rfl he (by omega) (by omega) ?_
      refine am_aloadn d_V_twin_34 rfl ?_
      refine am_get d_V_twin_35 fl_V_15 hv rfl ?_
      refine am_iloadn d_V_twin_38 rfl ?_
      refine am_ialdN (t := 0) (k := k) d_V_twin_39 rfl hs (by omega) (by omega) ?_
      refine am_callV [.int (nI k), .int (fe k), .int (fs k)] [] d_V_twin_40 cV_V_35 hw rfl rfl (Nat.le_of_ble_eq_true rfl) (Nat.le_of_ble_eq_true rfl) (c_insert hW (j := k) (fe k) (fs k) (by omega) (Nat.le_refl k) (P := fun o S1 => o = .inl none ∧ ∃ fe1 fs1 : Nat → Int32, sv_V S1.1 w st sa (k + 1) 0 (w + 1) (w + 2) fe1 fs1 ∧ sv_fr S0 S1 w (w + 1) (w + 2) ∧ ∀ i, i < k + 1 → fe1 i = sv_ins Fe k (fe k) i ∧ fs1 i = sv_ins Fs k (fs k) i) (fun S1 fe1 fs1 h1 h2 h3 => ⟨rfl, fe1, fs1, h1, h2, h3⟩)) ?_ ?_
      · intro r1 S1 hr1
        obtain ⟨hr2, fe1, fs1, hW1, hf1, hI1⟩ := hr1
        cases hr2
        show am_W g (d + 1) mm_V_twin (43, [some (.ref v), some (.ref w), some (.int (nI k))], []) S1 _
        refine am_iinc (v := nI (k + 1)) (L' := [some (.ref v), some (.ref w), some (.int (nI (k + 1)))]) d_V_twin_43 rfl (nI_1 k) (by decide) rfl rfl ?_
        refine am_goto (tgt := 18) d_V_twin_46 (by decide) ?_
        refine ih (m - 1) (by omega) (k + 1) (by omega) S1 fe1 fs1 hW1 (hf1.1.trans hn0) (fun q hq => (hf1.2 q (by omega) (by omega) (by omega)).trans (hfr q hq)) (fun i hi => ?_)
        obtain ⟨h5, h6⟩ := hI1 i hi
        rw [h5, h6]
        simp only [sv_ins]
        rcases Nat.lt_or_ge i k with h | h
        · rw [if_pos h, if_pos h]; exact hI i h
        · obtain rfl : i = k := by omega
          simp
      · intro r1 S1 hr1
        cases hr1.1
set_option maxHeartbeats 4000000 in
set_option maxRecDepth 100000 in
/-- twin: a view of the same -/
theorem c_twin {g : am_G} {d : Nat} {S : am_S} {v st : Nat} {sa : Int32} {n : Nat} {it : Int32} {ex sp : Nat} {fe fs : Nat → Int32} (hV : sv_V S.1 v st sa n it ex sp fe fs) (hvl : v < S.2.1) (hel : ex < S.2.1) (hsl : sp < S.2.1) (hr1 : S.2.1 + 3 ≤ g.2.2.2.1) (hr2 : S.2.2 + 14 ≤ g.2.2.2.2.1) {P : am_O → am_S → Prop} (hP : ∀ (S1 : am_S) (fe1 fs1 : Nat → Int32), sv_V S1.1 S.2.1 st sa n 0 (S.2.1 + 1) (S.2.1 + 2) fe1 fs1 → S1.2 = (S.2.1 + 3, S.2.2 + 14) → (∀ q, q < S.2.1 → S1.1 q = S.1 q) → (∀ i, i < n → fe1 i = fe i ∧ fs1 i = fs i) → P (.inl (some (.ref S.2.1))) S1) : am_W g (d + 1) mm_V_twin (0, am_ent [.ref v] 3, []) S (P) := by
  obtain ⟨hv, he, hs, hne, hn4⟩ := id hV
  show am_W g (d + 1) mm_V_twin (0, [some (.ref v), none, none], []) S _
  have hfr0 : ∀ q : Nat, q < S.2.1 → S.1 q = S.1 q := fun _ _ => rfl
  obtain ⟨a_1, ea_1⟩ : ∃ z : Nat, z = S.2.1 := ⟨_, rfl⟩
  refine am_new d_V_twin_0 nw_V_10 (by omega) (by simp only [List.length]; omega) ?_
  change am_W _ _ _ (_, _, .ref S.2.1 :: _) (am_up S.1 S.2.1 (.inr (1, [.null, .int 0, .int 0, .int 0, .null, .null])), S.2.1 + 1, S.2.2 + 6) _
  rw [← ea_1]
  obtain ⟨S_2, eS_2⟩ : ∃ z : am_S, z = (am_up S.1 a_1 (.inr (1, [.null, .int 0, .int 0, .int 0, .null, .null])), a_1 + 1, S.2.2 + 6) := ⟨_, rfl⟩
  rw [← eS_2]
  have h_3 : S_2.1 v = some (.inr (1, [.ref st, .int sa, .int (nI n), .int it, .ref ex, .ref sp])) := by rw [eS_2]; exact (am_up_n (by omega)).trans hv
  have h_4 : S_2.1 ex = some (.inl (0, 4, .inl fe)) := by rw [eS_2]; exact (am_up_n (by omega)).trans he
  have h_5 : S_2.1 sp = some (.inl (0, 4, .inl fs)) := by rw [eS_2]; exact (am_up_n (by omega)).trans hs
  have hf_6 : ∀ q : Nat, q < S.2.1 → S_2.1 q = S.1 q := by rw [eS_2]; exact fun q h1 => (am_up_n (by omega)).trans (hfr0 q h1)
  have h_7 : S_2.1 a_1 = some (.inr (1, [.null, .int 0, .int 0, .int 0, .null, .null])) := by rw [eS_2]; exact am_up_s
  have hna_1 : S_2.2.1 = a_1 + 1 := by rw [eS_2]
  have hza_1 : S_2.2.2 = S.2.2 + 6 := by rw [eS_2]
  refine am_dup d_V_twin_3 rfl ?_
  refine am_aloadn d_V_twin_4 rfl ?_
  refine am_get d_V_twin_5 fl_V_18 h_3 rfl ?_
  refine am_aloadn d_V_twin_8 rfl ?_
  refine am_get d_V_twin_9 fl_V_22 h_3 rfl ?_
  have hnw : S_2.2.1 = a_1 + 1 := hna_1
  refine am_callI [.ref st, .int sa] [.ref a_1] d_V_twin_12 cI_V_32 rfl rfl (Nat.le_of_ble_eq_true rfl) (Nat.le_of_ble_eq_true rfl) (c_Vinit h_7 (by omega) (by omega) (by omega) (P := fun o S1 => o = .inl none ∧ S1.1 a_1 = some (.inr (1, [.ref st, .int sa, .int 0, .int 0, .ref (a_1 + 1), .ref (a_1 + 1 + 1)])) ∧ S1.1 (a_1 + 1) = some (.inl (0, 4, .inl (fun _ => 0))) ∧ S1.1 (a_1 + 1 + 1) = some (.inl (0, 4, .inl (fun _ => 0))) ∧ S1.2 = (a_1 + 3, S.2.2 + 14) ∧ ∀ q, q < a_1 → S1.1 q = S.1 q) (fun S1 h1 h2 h3 h4 h5 => by rw [hnw] at h1 h2 h3 h4 h5; rw [hza_1] at h4; exact ⟨rfl, h1, h2, h3, h4.trans (by rw [Nat.add_assoc, Nat.add_assoc]), fun q hq => (h5 q (by omega) (by omega)).trans (hf_6 q (by omega))⟩)) ?_ ?_
  · intro r1 S1 hr1
    obtain ⟨hr2, g1, g2, g3, g4, g5⟩ := hr1
    cases hr2
    show am_W g (d + 1) mm_V_twin (15, [some (.ref v), none, none], [.ref a_1]) S1 _
    have hN : S1.2 = (a_1 + 3, S.2.2 + 14) := g4
    refine am_astoren (L' := [some (.ref v), some (.ref a_1), none]) d_V_twin_15 (by decide) rfl rfl ?_
    refine am_iconst 0 d_V_twin_16 (by decide) ?_
    refine am_istoren (L' := [some (.ref v), some (.ref a_1), some (.int 0)]) d_V_twin_17 (by decide) rfl rfl ?_
    refine c_twin_l hV (w := a_1) (by omega) (by omega) (by omega) (N := (a_1 + 3, S.2.2 + 14)) (fun S2 fe1 fs1 q1 q2 q3 q4 => ?_) n 0 (by omega) S1 (fun _ => 0) (fun _ => 0) ⟨g1, g2, g3, by omega, by omega⟩ hN g5 (fun i hi => absurd hi (Nat.not_lt_zero i))
    rw [ea_1] at q1 q2 q3 ⊢
    exact hP S2 fe1 fs1 q1 q2 q3 q4
  · intro r1 S1 hr1
    cases hr1.1
end
section
/-- what a lane keeps -/
def sv_low (ln : Int32) (x : Int64) : Int64 := if ln = 0 then x.toInt32.toInt8.toInt32.toInt64 else if ln = 1 then x.toInt32.toInt16.toInt32.toInt64 else if ln = 2 then x.toInt32.toInt64 else x
/-- the product of the last c extents, as an int -/
def sv_bk (fe : Nat → Int32) (n : Nat) : Nat → Int32
  | 0 => 1
  | c + 1 => sv_bk fe n c * fe (n - 1 - c)
theorem sv_bk_s (fe : Nat → Int32) {n m : Nat} (h : m < n) : sv_bk fe n (n - (m + 1)) * fe m = sv_bk fe n (n - m) := by
  rw [show n - m = (n - (m + 1)) + 1 by omega]
  show _ = sv_bk fe n (n - (m + 1)) * fe (n - 1 - (n - (m + 1)))
  rw [show n - 1 - (n - (m + 1)) = m by omega]
/-- how many axes ahead of k are not b -/
def sv_cnt (b : Int32) : Nat → Nat
  | 0 => 0
  | k + 1 => if nI k = b then sv_cnt b k else sv_cnt b k + 1
theorem sv_cnt_le (b : Int32) : ∀ k, sv_cnt b k ≤ k := by
  intro k
  induction k with
  | zero => exact Nat.le_refl 0
  | succ k ih => simp only [sv_cnt]; split <;> omega
theorem sv_cnt_mono (b : Int32) : ∀ {i k : Nat}, i ≤ k → sv_cnt b i ≤ sv_cnt b k := by
  intro i k h
  induction k with
  | zero => obtain rfl : i = 0 := by omega
            exact Nat.le_refl _
  | succ k ih =>
    rcases Nat.lt_or_ge i (k + 1) with q | q
    · have := ih (by omega)
      simp only [sv_cnt]; split <;> omega
    · obtain rfl : i = k + 1 := by omega
      exact Nat.le_refl _
theorem sv_cnt_lt (b : Int32) {i k : Nat} (hb : ¬ nI i = b) (h : i < k) : sv_cnt b i < sv_cnt b k := by
  have h1 : sv_cnt b (i + 1) = sv_cnt b i + 1 := by show (if nI i = b then _ else _) = _; rw [if_neg hb]
  have h2 : sv_cnt b (i + 1) ≤ sv_cnt b k := sv_cnt_mono b h
  omega
set_option maxHeartbeats 4000000 in
set_option maxRecDepth 100000 in
/-- lowestBits -/
theorem c_low {g : am_G} {d : Nat} {S : am_S} {s rw : Nat} {num ln vo : Int32} (hs : S.1 s = some (.inr (0, [.int num, .int ln, .ref rw, .int vo]))) (x : Int64) {P : am_O → am_S → Prop} (hP : P (.inl (some (.long (sv_low ln x)))) S) : am_W g d mm_S_lowestBits (0, am_ent [.ref s, .long x] 3, []) S (P) := by
  show am_W g d mm_S_lowestBits (0, [some (.ref s), some (.long x), none], []) S _
  refine am_aloadn d_S_lowestBits_0 rfl ?_
  refine am_get d_S_lowestBits_1 fl_S_15 hs rfl ?_
  by_cases hk0 : ln = 0
  · rw [hk0]
    refine am_tabIn (off := 28) (tgt := 32) d_S_lowestBits_4 (by decide) (by decide) (by decide) (by decide) ?_
    refine am_lloadn d_S_lowestBits_32 rfl ?_
    refine am_l2i d_S_lowestBits_33 ?_
    refine am_i2b d_S_lowestBits_34 ?_
    refine am_i2l d_S_lowestBits_35 ?_
    rw [hk0] at hP
    exact am_lret d_S_lowestBits_36 rfl (by simpa [sv_low] using hP)
  · by_cases hk1 : ln = 1
    · rw [hk1]
      refine am_tabIn (off := 33) (tgt := 37) d_S_lowestBits_4 (by decide) (by decide) (by decide) (by decide) ?_
      refine am_lloadn d_S_lowestBits_37 rfl ?_
      refine am_l2i d_S_lowestBits_38 ?_
      refine am_i2s d_S_lowestBits_39 ?_
      refine am_i2l d_S_lowestBits_40 ?_
      rw [hk1] at hP
      exact am_lret d_S_lowestBits_41 rfl (by simpa [sv_low] using hP)
    · by_cases hk2 : ln = 2
      · rw [hk2]
        refine am_tabIn (off := 38) (tgt := 42) d_S_lowestBits_4 (by decide) (by decide) (by decide) (by decide) ?_
        refine am_lloadn d_S_lowestBits_42 rfl ?_
        refine am_l2i d_S_lowestBits_43 ?_
        refine am_i2l d_S_lowestBits_44 ?_
        rw [hk2] at hP
        exact am_lret d_S_lowestBits_45 rfl (by simpa [sv_low] using hP)
      · refine am_tabOut (tgt := 46) d_S_lowestBits_4 (by have w0 := lv_neT hk0 (a := 0) (by decide); have w1 := lv_neT hk1 (a := 1) (by decide); have w2 := lv_neT hk2 (a := 2) (by decide); omega) (by decide) ?_
        refine am_lloadn d_S_lowestBits_46 rfl ?_
        exact am_lret d_S_lowestBits_47 rfl (by simpa [sv_low, hk0, hk1, hk2] using hP)
set_option maxHeartbeats 4000000 in
set_option maxRecDepth 100000 in
/-- Store(number, lane, n) -/
theorem c_Sinit {g : am_G} {d : Nat} {S : am_S} {s N : Nat} {num ln : Int32} (hs : S.1 s = some (.inr (0, [.int 0, .int 0, .null, .int 0]))) (hsl : s < S.2.1) (hN : N ≤ 100000) (hr1 : S.2.1 + 1 ≤ g.2.2.2.1) (hr2 : S.2.2 + N ≤ g.2.2.2.2.1) {P : am_O → am_S → Prop} (hP : ∀ S1 : am_S, S1.1 s = some (.inr (0, [.int num, .int ln, .ref S.2.1, .int 0])) → S1.1 S.2.1 = some (.inl (1, N, .inr (.inl (fun _ => 0)))) → S1.2 = (S.2.1 + 1, S.2.2 + N) → (∀ q : Nat, q ≠ s → q < S.2.1 → S1.1 q = S.1 q) → P (.inl none) S1) : am_W g d mm_S_init (0, am_ent [.ref s, .int num, .int ln, .int (nI N)] 4, []) S (P) := by
  have hfr0 : ∀ q : Nat, q ≠ s → q < S.2.1 → S.1 q = S.1 q := fun _ _ _ => rfl
  show am_W g d mm_S_init (0, [some (.ref s), some (.int num), some (.int ln), some (.int (nI N))], []) S _
  refine am_aloadn d_S_init_0 rfl ?_
  refine am_obj d_S_init_1 (am_in 154 (by decide +kernel) rfl) (am_in 18 (by decide +kernel) rfl) (am_in 19 (by decide +kernel) rfl) (Nat.le_of_ble_eq_true rfl) ?_
  refine am_aloadn d_S_init_4 rfl ?_
  refine am_iloadn d_S_init_5 rfl ?_
  refine am_putF d_S_init_6 fp_S_9 rfl hs rfl rfl (Nat.le_of_ble_eq_true rfl) ?_
  obtain ⟨S_1, eS_1⟩ : ∃ z : am_S, z = (am_up S.1 s (.inr (0, [.int num, .int 0, .null, .int 0])), S.2) := ⟨_, rfl⟩
  change am_W _ _ _ _ (am_up S.1 s (.inr (0, [.int num, .int 0, .null, .int 0])), S.2) _
  rw [← eS_1]
  have hf_2 : ∀ q : Nat, q ≠ s → q < S.2.1 → S_1.1 q = S.1 q := by rw [eS_1]; exact fun q h1 h2 => (am_up_n (by omega)).trans (hfr0 q h1 h2)
  have h_3 : S_1.1 s = some (.inr (0, [.int num, .int 0, .null, .int 0])) := by rw [eS_1]; exact am_up_s
  have hnS_1 : S_1.2.1 = S.2.1 := by rw [eS_1]
  have hzS_1 : S_1.2.2 = S.2.2 := by rw [eS_1]
  refine am_aloadn d_S_init_9 rfl ?_
  refine am_iloadn d_S_init_10 rfl ?_
  refine am_putF d_S_init_11 fp_S_15 rfl h_3 rfl rfl (Nat.le_of_ble_eq_true rfl) ?_
  obtain ⟨S_4, eS_4⟩ : ∃ z : am_S, z = (am_up S_1.1 s (.inr (0, [.int num, .int ln, .null, .int 0])), S_1.2) := ⟨_, rfl⟩
  change am_W _ _ _ _ (am_up S_1.1 s (.inr (0, [.int num, .int ln, .null, .int 0])), S_1.2) _
  rw [← eS_4]
  have hf_5 : ∀ q : Nat, q ≠ s → q < S.2.1 → S_4.1 q = S.1 q := by rw [eS_4]; exact fun q h1 h2 => (am_up_n (by omega)).trans (hf_2 q h1 h2)
  have h_6 : S_4.1 s = some (.inr (0, [.int num, .int ln, .null, .int 0])) := by rw [eS_4]; exact am_up_s
  have hnS_4 : S_4.2.1 = S_1.2.1 := by rw [eS_4]
  have hzS_4 : S_4.2.2 = S_1.2.2 := by rw [eS_4]
  refine am_aloadn d_S_init_14 rfl ?_
  refine am_iloadn d_S_init_15 rfl ?_
  obtain ⟨a_7, ea_7⟩ : ∃ z : Nat, z = S_4.2.1 := ⟨_, rfl⟩
  refine am_newL (N := N) d_S_init_16 (by omega) (by omega) (by omega) ?_
  change am_W _ _ _ (_, _, .ref S_4.2.1 :: _) (am_up S_4.1 S_4.2.1 (.inl (1, N, .inr (.inl (fun _ => 0)))), S_4.2.1 + 1, S_4.2.2 + N) _
  rw [← ea_7]
  obtain ⟨S_8, eS_8⟩ : ∃ z : am_S, z = (am_up S_4.1 a_7 (.inl (1, N, .inr (.inl (fun _ => 0)))), a_7 + 1, S_4.2.2 + N) := ⟨_, rfl⟩
  rw [← eS_8]
  have h_9 : S_8.1 s = some (.inr (0, [.int num, .int ln, .null, .int 0])) := by rw [eS_8]; exact (am_up_n (by omega)).trans h_6
  have hf_10 : ∀ q : Nat, q ≠ s → q < S.2.1 → S_8.1 q = S.1 q := by rw [eS_8]; exact fun q h1 h2 => (am_up_n (by omega)).trans (hf_5 q h1 h2)
  have h_11 : S_8.1 a_7 = some (.inl (1, N, .inr (.inl (fun _ => 0)))) := by rw [eS_8]; exact am_up_s
  have hna_7 : S_8.2.1 = a_7 + 1 := by rw [eS_8]
  have hza_7 : S_8.2.2 = S_4.2.2 + N := by rw [eS_8]
  refine am_putF d_S_init_18 fp_S_18 rfl h_9 rfl rfl (Nat.le_of_ble_eq_true rfl) ?_
  obtain ⟨S_12, eS_12⟩ : ∃ z : am_S, z = (am_up S_8.1 s (.inr (0, [.int num, .int ln, .ref a_7, .int 0])), S_8.2) := ⟨_, rfl⟩
  change am_W _ _ _ _ (am_up S_8.1 s (.inr (0, [.int num, .int ln, .ref a_7, .int 0])), S_8.2) _
  rw [← eS_12]
  have h_13 : S_12.1 a_7 = some (.inl (1, N, .inr (.inl (fun _ => 0)))) := by rw [eS_12]; exact (am_up_n (by omega)).trans h_11
  have hf_14 : ∀ q : Nat, q ≠ s → q < S.2.1 → S_12.1 q = S.1 q := by rw [eS_12]; exact fun q h1 h2 => (am_up_n (by omega)).trans (hf_10 q h1 h2)
  have h_15 : S_12.1 s = some (.inr (0, [.int num, .int ln, .ref a_7, .int 0])) := by rw [eS_12]; exact am_up_s
  have hnS_12 : S_12.2.1 = S_8.2.1 := by rw [eS_12]
  have hzS_12 : S_12.2.2 = S_8.2.2 := by rw [eS_12]
  refine am_aloadn d_S_init_21 rfl ?_
  refine am_iconst 0 d_S_init_22 (by decide) ?_
  refine am_put d_S_init_23 fp_S_22 h_15 rfl rfl (Nat.le_of_ble_eq_true rfl) ?_
  obtain ⟨S_16, eS_16⟩ : ∃ z : am_S, z = (am_up S_12.1 s (.inr (0, [.int num, .int ln, .ref a_7, .int 0])), S_12.2) := ⟨_, rfl⟩
  change am_W _ _ _ _ (am_up S_12.1 s (.inr (0, [.int num, .int ln, .ref a_7, .int 0])), S_12.2) _
  rw [← eS_16]
  have h_17 : S_16.1 a_7 = some (.inl (1, N, .inr (.inl (fun _ => 0)))) := by rw [eS_16]; exact (am_up_n (by omega)).trans h_13
  have hf_18 : ∀ q : Nat, q ≠ s → q < S.2.1 → S_16.1 q = S.1 q := by rw [eS_16]; exact fun q h1 h2 => (am_up_n (by omega)).trans (hf_14 q h1 h2)
  have h_19 : S_16.1 s = some (.inr (0, [.int num, .int ln, .ref a_7, .int 0])) := by rw [eS_16]; exact am_up_s
  have hnS_16 : S_16.2.1 = S_12.2.1 := by rw [eS_16]
  have hzS_16 : S_16.2.2 = S_12.2.2 := by rw [eS_16]
  have hrw : a_7 = S.2.1 := by omega
  have hfin : S_16.2 = (S.2.1 + 1, S.2.2 + N) := Prod.ext (by show S_16.2.1 = S.2.1 + 1; omega) (by show S_16.2.2 = S.2.2 + N; omega)
  refine am_vret d_S_init_26 rfl (hP S_16 ?_ ?_ hfin hf_18)
  · rw [← hrw]; exact h_19
  · rw [← hrw]; exact h_17
set_option maxHeartbeats 4000000 in
set_option maxRecDepth 100000 in
/-- addUnlessNone -/
theorem c_addUnless {g : am_G} {d : Nat} {S : am_S} {v st : Nat} {sa : Int32} {n : Nat} {it : Int32} {ex sp : Nat} {fe fs : Nat → Int32} (hV : sv_V S.1 v st sa n it ex sp fe fs) (xe : Int32) (hn3 : ¬ xe = -1 → n < 4) {P : am_O → am_S → Prop} (h0 : xe = -1 → P (.inl none) S) (hP : ¬ xe = -1 → ∀ (S1 : am_S) (fe1 fs1 : Nat → Int32), sv_V S1.1 v st sa (n + 1) it ex sp fe1 fs1 → sv_fr S S1 v ex sp → (∀ i, i < n + 1 → fe1 i = sv_ins fe n xe i ∧ fs1 i = sv_ins fs n 0 i) → P (.inl none) S1) : am_W g (d + 1) mm_V_addUnlessNone (0, am_ent [.ref v, .int xe] 2, []) S (P) := by
  obtain ⟨hv, he, hs, hne, hn4⟩ := id hV
  show am_W g (d + 1) mm_V_addUnlessNone (0, [some (.ref v), some (.int xe)], []) S _
  refine am_iloadn d_V_addUnlessNone_0 rfl ?_
  refine am_iconst (-1) d_V_addUnlessNone_1 (by decide) ?_
  refine am_iceq (tgt := 15) d_V_addUnlessNone_2 (by decide) (fun hc => ?_) (fun hc => ?_)
  · exact am_vret d_V_addUnlessNone_15 rfl (h0 hc)
  · refine am_aloadn d_V_addUnlessNone_5 rfl ?_
    refine am_aloadn d_V_addUnlessNone_6 rfl ?_
    refine am_get d_V_addUnlessNone_7 fl_V_26 hv rfl ?_
    refine am_iloadn d_V_addUnlessNone_10 rfl ?_
    refine am_iconst 0 d_V_addUnlessNone_11 (by decide) ?_
    refine am_callV [.int (nI n), .int xe, .int 0] [] d_V_addUnlessNone_12 cV_V_35 hv rfl rfl (Nat.le_of_ble_eq_true rfl) (Nat.le_of_ble_eq_true rfl) (c_insert hV (j := n) xe 0 (hn3 hc) (Nat.le_refl n) (P := fun o S1 => o = .inl none ∧ P (.inl none) S1) (fun S1 fe1 fs1 q1 q2 q3 => ⟨rfl, hP hc S1 fe1 fs1 q1 q2 q3⟩)) ?_ ?_
    · intro r1 S1 hr1
      obtain ⟨hr2, hr3⟩ := hr1
      cases hr2
      exact am_vret d_V_addUnlessNone_15 rfl hr3
    · intro r1 S1 hr1
      cases hr1.1
set_option maxHeartbeats 4000000 in
set_option maxRecDepth 100000 in
/-- the loop of lieInOrder -/
theorem c_lie_l {g : am_G} {d : Nat} {S : am_S} {v st : Nat} {sa : Int32} {n : Nat} {it : Int32} {ex sp : Nat} {fe fs : Nat → Int32} {P : am_O → am_S → Prop} (hP : ∀ (S1 : am_S) (fs1 : Nat → Int32), sv_V S1.1 v st sa n it ex sp fe fs1 → sv_fr S S1 v ex sp → (∀ i, i < n → fs1 i = sv_bk fe n (n - 1 - i)) → P (.inl none) S1) : ∀ (m : Nat), m ≤ n → ∀ (S0 : am_S) (Fs : Nat → Int32), sv_V S0.1 v st sa n it ex sp fe Fs → sv_fr S S0 v ex sp → (∀ i, i < n → Fs i = if m ≤ i then sv_bk fe n (n - 1 - i) else fs i) → am_W g d mm_V_lieInOrder (9, [some (.ref v), some (.int (sv_bk fe n (n - m))), some (.int (sv_dn m))], []) S0 P := by
  intro m
  induction m with
  | zero =>
    intro hm S0 Fs hV hfr hI
    obtain ⟨hv, he, hs, hne, hn4⟩ := id hV
    refine am_iloadn d_V_lieInOrder_9 rfl ?_
    refine am_iflt (tgt := 35) d_V_lieInOrder_10 (by decide) (fun hc => ?_) (fun hc => ?_)
    · exact am_vret d_V_lieInOrder_35 rfl (hP S0 Fs hV hfr (fun i hi => (hI i hi).trans (if_pos (Nat.zero_le i))))
    · exact absurd sv_dn_0 hc
  | succ m ih =>
    intro hm S0 Fs hV hfr hI
    obtain ⟨hv, he, hs, hne, hn4⟩ := id hV
    refine am_iloadn d_V_lieInOrder_9 rfl ?_
    refine am_iflt (tgt := 35) d_V_lieInOrder_10 (by decide) (fun hc => ?_) (fun hc => ?_)
    · exact absurd hc (sv_dn_n (by omega))
    · rw [sv_dn_s m]
      refine am_aloadn d_V_lieInOrder_13 rfl ?_
      refine am_get d_V_lieInOrder_14 fl_V_15 hv rfl ?_
      refine am_iloadn d_V_lieInOrder_17 rfl ?_
      refine am_iloadn d_V_lieInOrder_18 rfl ?_
      refine am_iastN (t := 0) d_V_lieInOrder_19 rfl hs (by omega) (by omega) ?_
      obtain ⟨S_1, eS_1⟩ : ∃ z : am_S, z = (am_up S0.1 sp (.inl (0, 4, .inl (upd Fs m (sv_bk fe n (n - (m + 1)))))), S0.2) := ⟨_, rfl⟩
      change am_W _ _ _ _ (am_up S0.1 sp (.inl (0, 4, .inl (upd Fs m (sv_bk fe n (n - (m + 1)))))), S0.2) _
      rw [← eS_1]
      have h_2 : S_1.1 v = some (.inr (1, [.ref st, .int sa, .int (nI n), .int it, .ref ex, .ref sp])) := by rw [eS_1]; exact (am_up_n hV.ne.2).trans hv
      have h_3 : S_1.1 ex = some (.inl (0, 4, .inl fe)) := by rw [eS_1]; exact (am_up_n hne).trans he
      have hf_4 : sv_fr S S_1 v ex sp := by rw [eS_1]; exact hfr.u3
      have h_5 : S_1.1 sp = some (.inl (0, 4, .inl (upd Fs m (sv_bk fe n (n - (m + 1)))))) := by rw [eS_1]; exact am_up_s
      have hnS_1 : S_1.2.1 = S0.2.1 := by rw [eS_1]
      have hzS_1 : S_1.2.2 = S0.2.2 := by rw [eS_1]
      refine am_iloadn d_V_lieInOrder_20 rfl ?_
      refine am_aloadn d_V_lieInOrder_21 rfl ?_
      refine am_get d_V_lieInOrder_22 fl_V_9 h_2 rfl ?_
      refine am_iloadn d_V_lieInOrder_25 rfl ?_
      refine am_ialdN (t := 0) (k := m) d_V_lieInOrder_26 rfl h_3 (by omega) (by omega) ?_
      refine am_imul d_V_lieInOrder_27 ?_
      refine am_ti (b := sv_bk fe n (n - m)) (sv_bk_s fe (by omega)) ?_
      refine am_istoren (L' := [some (.ref v), some (.int (sv_bk fe n (n - m))), some (.int (nI m))]) d_V_lieInOrder_28 (by decide) rfl rfl ?_
      refine am_iinc (v := sv_dn m) (L' := [some (.ref v), some (.int (sv_bk fe n (n - m))), some (.int (sv_dn m))]) d_V_lieInOrder_29 rfl (sv_dn_d m) (by decide) rfl rfl ?_
      refine am_goto (tgt := 9) d_V_lieInOrder_32 (by decide) ?_
      refine ih (by omega) _ _ ⟨h_2, h_3, h_5, hne, hn4⟩ hf_4 (fun i hi => ?_)
      by_cases him : i = m
      · subst him
        rw [if_pos (Nat.le_refl i), show n - 1 - i = n - (i + 1) by omega]; exact pk_us
      · rw [show (upd Fs m (sv_bk fe n (n - (m + 1)))) i = Fs i from pk_un him, hI i hi]
        exact sv_ifc (by omega)
set_option maxHeartbeats 4000000 in
set_option maxRecDepth 100000 in
/-- lieInOrder -/
theorem c_lie {g : am_G} {d : Nat} {S : am_S} {v st : Nat} {sa : Int32} {n : Nat} {it : Int32} {ex sp : Nat} {fe fs : Nat → Int32} (hV : sv_V S.1 v st sa n it ex sp fe fs) {P : am_O → am_S → Prop} (hP : ∀ (S1 : am_S) (fs1 : Nat → Int32), sv_V S1.1 v st sa n it ex sp fe fs1 → sv_fr S S1 v ex sp → (∀ i, i < n → fs1 i = sv_bk fe n (n - 1 - i)) → P (.inl none) S1) : am_W g d mm_V_lieInOrder (0, am_ent [.ref v] 3, []) S (P) := by
  obtain ⟨hv, he, hs, hne, hn4⟩ := id hV
  show am_W g d mm_V_lieInOrder (0, [some (.ref v), none, none], []) S _
  refine am_iconst 1 d_V_lieInOrder_0 (by decide) ?_
  refine am_istoren (L' := [some (.ref v), some (.int 1), none]) d_V_lieInOrder_1 (by decide) rfl rfl ?_
  refine am_aloadn d_V_lieInOrder_2 rfl ?_
  refine am_get d_V_lieInOrder_3 fl_V_26 hv rfl ?_
  refine am_iconst 1 d_V_lieInOrder_6 (by decide) ?_
  refine am_isub d_V_lieInOrder_7 ?_
  refine am_ti (b := sv_dn n) rfl ?_
  refine am_istoren (L' := [some (.ref v), some (.int 1), some (.int (sv_dn n))]) d_V_lieInOrder_8 (by decide) rfl rfl ?_
  have h9 : (1 : Int32) = sv_bk fe n (n - n) := by rw [Nat.sub_self]; rfl
  rw [h9]
  exact c_lie_l hP n (Nat.le_refl n) S fs hV sv_fr.rf (fun i hi => by rw [if_neg (by omega)])
set_option maxHeartbeats 4000000 in
set_option maxRecDepth 100000 in
/-- the loop of addExtentsBut -/
theorem c_addExt_l {g : am_G} {d : Nat} {S : am_S} {v st : Nat} {sa : Int32} {it : Int32} {ex sp : Nat} {w st2 : Nat} {sa2 : Int32} {n2 : Nat} {it2 : Int32} {ex2 sp2 : Nat} {fe2 fs2 : Nat → Int32} (hV2 : sv_V S.1 w st2 sa2 n2 it2 ex2 sp2 fe2 fs2) (hd1 : w ≠ v ∧ w ≠ ex ∧ w ≠ sp) (hd2 : ex2 ≠ v ∧ ex2 ≠ ex ∧ ex2 ≠ sp) (b : Int32) {P : am_O → am_S → Prop} (hP : ∀ (S1 : am_S) (fe1 fs1 : Nat → Int32), sv_V S1.1 v st sa (sv_cnt b n2) it ex sp fe1 fs1 → sv_fr S S1 v ex sp → (∀ i, i < n2 → ¬ nI i = b → fe1 (sv_cnt b i) = fe2 i ∧ fs1 (sv_cnt b i) = 0) → P (.inl none) S1) : ∀ (m k : Nat), k + m = n2 → ∀ (S0 : am_S) (Fe Fs : Nat → Int32), sv_V S0.1 v st sa (sv_cnt b k) it ex sp Fe Fs → sv_fr S S0 v ex sp → (∀ i, i < k → ¬ nI i = b → Fe (sv_cnt b i) = fe2 i ∧ Fs (sv_cnt b i) = 0) → am_W g (d + 1) mm_V_addExtentsBut (2, [some (.ref v), some (.ref w), some (.int b), some (.int (nI k))], []) S0 P := by
  obtain ⟨hv20, he20, hs20, hne2, hn42⟩ := id hV2
  intro m
  induction m using Nat.strongRecOn with
  | ind m ih =>
    intro k hk S0 Fe Fs hV hfr hI
    obtain ⟨hv, he, hs, hne, hn4⟩ := id hV
    have hv2 := (hfr.2 w hd1.1 hd1.2.1 hd1.2.2).trans hv20
    have he2 := (hfr.2 ex2 hd2.1 hd2.2.1 hd2.2.2).trans he20
    refine am_iloadn d_V_addExtentsBut_2 rfl ?_
    refine am_aloadn d_V_addExtentsBut_3 rfl ?_
    refine am_get d_V_addExtentsBut_4 fl_V_26 hv2 rfl ?_
    refine am_icge (tgt := 36) d_V_addExtentsBut_7 (by decide) (fun hc => ?_) (fun hc => ?_)
    · have hk0 : n2 ≤ k := (nI_leI (by omega) (by omega)).mp hc
      obtain rfl : n2 = k := by omega
      exact am_vret d_V_addExtentsBut_36 rfl (hP S0 Fe Fs hV hfr hI)
    · have hlt : k < n2 := Nat.lt_of_not_le (fun q => hc (nI_le q (by omega)))
      refine am_iloadn d_V_addExtentsBut_10 rfl ?_
      refine am_iloadn d_V_addExtentsBut_11 rfl ?_
      refine am_iceq (tgt := 30) d_V_addExtentsBut_12 (by decide) (fun hq => ?_) (fun hq => ?_)
      · have h9 : sv_cnt b (k + 1) = sv_cnt b k := by show (if nI k = b then _ else _) = _; rw [if_pos hq]
        refine am_iinc (v := nI (k + 1)) (L' := [some (.ref v), some (.ref w), some (.int b), some (.int (nI (k + 1)))]) d_V_addExtentsBut_30 rfl (nI_1 k) (by decide) rfl rfl ?_
        refine am_goto (tgt := 2) d_V_addExtentsBut_33 (by decide) ?_
        refine ih (m - 1) (by omega) (k + 1) (by omega) S0 Fe Fs (by rw [h9]; exact hV) hfr (fun i hi hib => ?_)
        rcases Nat.lt_or_ge i k with h | h
        · exact hI i h hib
        · obtain rfl : i = k := by omega
          exact absurd hq hib
      · have h9 : sv_cnt b (k + 1) = sv_cnt b k + 1 := by show (if nI k = b then _ else _) = _; rw [if_neg hq]
        have hck : sv_cnt b k ≤ k := sv_cnt_le b k
        refine am_aloadn d_V_addExtentsBut_15 rfl ?_
        refine am_aloadn d_V_addExtentsBut_16 rfl ?_
        refine am_get d_V_addExtentsBut_17 fl_V_26 hv rfl ?_
        refine am_aloadn d_V_addExtentsBut_20 rfl ?_
        refine am_get d_V_addExtentsBut_21 fl_V_9 hv2 rfl ?_
        refine am_iloadn d_V_addExtentsBut_24 rfl ?_
        refine am_ialdN (t := 0) (k := k) d_V_addExtentsBut_25 rfl he2 (by omega) (by omega) ?_
        refine am_iconst 0 d_V_addExtentsBut_26 (by decide) ?_
        refine am_callV [.int (nI (sv_cnt b k)), .int (fe2 k), .int 0] [] d_V_addExtentsBut_27 cV_V_35 hv rfl rfl (Nat.le_of_ble_eq_true rfl) (Nat.le_of_ble_eq_true rfl) (c_insert hV (j := sv_cnt b k) (fe2 k) 0 (by omega) (Nat.le_refl _) (P := fun o S1 => o = .inl none ∧ ∃ fe1 fs1 : Nat → Int32, sv_V S1.1 v st sa (sv_cnt b k + 1) it ex sp fe1 fs1 ∧ sv_fr S0 S1 v ex sp ∧ ∀ i, i < sv_cnt b k + 1 → fe1 i = sv_ins Fe (sv_cnt b k) (fe2 k) i ∧ fs1 i = sv_ins Fs (sv_cnt b k) 0 i) (fun S1 fe1 fs1 q1 q2 q3 => ⟨rfl, fe1, fs1, q1, q2, q3⟩)) ?_ ?_
        · intro r1 S1 hr1
          obtain ⟨hr2, fe1, fs1, hW1, hf1, hI1⟩ := hr1
          cases hr2
          show am_W g (d + 1) mm_V_addExtentsBut (30, [some (.ref v), some (.ref w), some (.int b), some (.int (nI k))], []) S1 _
          refine am_iinc (v := nI (k + 1)) (L' := [some (.ref v), some (.ref w), some (.int b), some (.int (nI (k + 1)))]) d_V_addExtentsBut_30 rfl (nI_1 k) (by decide) rfl rfl ?_
          refine am_goto (tgt := 2) d_V_addExtentsBut_33 (by decide) ?_
          refine ih (m - 1) (by omega) (k + 1) (by omega) S1 fe1 fs1 (by rw [h9]; exact hW1) (hfr.tr hf1) (fun i hi hib => ?_)
          have hil : sv_cnt b i < sv_cnt b k + 1 := Nat.lt_succ_of_le (sv_cnt_mono b (by omega))
          obtain ⟨h5, h6⟩ := hI1 _ hil
          rw [h5, h6]
          simp only [sv_ins]
          rcases Nat.lt_or_ge i k with h | h
          · have h10 : sv_cnt b i < sv_cnt b k := sv_cnt_lt b hib h
            rw [if_pos h10, if_pos h10]; exact hI i h hib
          · obtain rfl : i = k := by omega
            simp
        · intro r1 S1 hr1
          cases hr1.1
set_option maxHeartbeats 4000000 in
set_option maxRecDepth 100000 in
/-- addExtentsBut -/
theorem c_addExt {g : am_G} {d : Nat} {S : am_S} {v st : Nat} {sa : Int32} {it : Int32} {ex sp : Nat} {fe fs : Nat → Int32} (hV : sv_V S.1 v st sa 0 it ex sp fe fs) {w st2 : Nat} {sa2 : Int32} {n2 : Nat} {it2 : Int32} {ex2 sp2 : Nat} {fe2 fs2 : Nat → Int32} (hV2 : sv_V S.1 w st2 sa2 n2 it2 ex2 sp2 fe2 fs2) (hd1 : w ≠ v ∧ w ≠ ex ∧ w ≠ sp) (hd2 : ex2 ≠ v ∧ ex2 ≠ ex ∧ ex2 ≠ sp) (b : Int32) {P : am_O → am_S → Prop} (hP : ∀ (S1 : am_S) (fe1 fs1 : Nat → Int32), sv_V S1.1 v st sa (sv_cnt b n2) it ex sp fe1 fs1 → sv_fr S S1 v ex sp → (∀ i, i < n2 → ¬ nI i = b → fe1 (sv_cnt b i) = fe2 i ∧ fs1 (sv_cnt b i) = 0) → P (.inl none) S1) : am_W g (d + 1) mm_V_addExtentsBut (0, am_ent [.ref v, .ref w, .int b] 4, []) S (P) := by
  show am_W g (d + 1) mm_V_addExtentsBut (0, [some (.ref v), some (.ref w), some (.int b), none], []) S _
  refine am_iconst 0 d_V_addExtentsBut_0 (by decide) ?_
  refine am_istoren (L' := [some (.ref v), some (.ref w), some (.int b), some (.int 0)]) d_V_addExtentsBut_1 (by decide) rfl rfl ?_
  exact c_addExt_l hV2 hd1 hd2 b hP n2 0 (by omega) S fe fs hV sv_fr.rf (fun i hi => absurd hi (Nat.not_lt_zero i))
end
