section
-- ===== PART A: goes FIRST, ahead of the names: the tables' words, and 'selects' of the private methods out of them =====
/-- a private method of a class that the tables say can be made, by its rows of tables_1 -/
def lw_okq (q : MethodName × Nat) : Prop := (q.1.cls ≠ "java/lang/invoke/MethodHandle" ∧ q.1.cls ≠ "java/lang/invoke/VarHandle") ∧ Cond.instantiable q.1.cls q.2 ∈ tables_1 ∧ Cond.privateMethod q.1 ∈ tables_1 ∧ Cond.instanceMethod q.1 ∈ tables_1
theorem lw_p0 : lw_okq (⟨"java/lang/Throwable", "fillInStackTrace", "(I)Ljava/lang/Throwable;"⟩, 6) := ⟨⟨by decide +kernel, by decide +kernel⟩, List.mem_of_getElem? (i := 100) (by decide +kernel), List.mem_of_getElem? (i := 98) (by decide +kernel), List.mem_of_getElem? (i := 99) (by decide +kernel)⟩
theorem lw_p1 : lw_okq (⟨"StrideViews", "needRoomForStore", "()V"⟩, 7) := ⟨⟨by decide +kernel, by decide +kernel⟩, List.mem_of_getElem? (i := 13) (by decide +kernel), List.mem_of_getElem? (i := 131) (by decide +kernel), List.mem_of_getElem? (i := 132) (by decide +kernel)⟩
theorem lw_p2 : lw_okq (⟨"StrideViews", "keepStore", "(LStrideViews$Store;)V"⟩, 7) := ⟨⟨by decide +kernel, by decide +kernel⟩, List.mem_of_getElem? (i := 13) (by decide +kernel), List.mem_of_getElem? (i := 207) (by decide +kernel), List.mem_of_getElem? (i := 208) (by decide +kernel)⟩
theorem lw_p3 : lw_okq (⟨"StrideViews", "keepView", "(LStrideViews$View;)I"⟩, 7) := ⟨⟨by decide +kernel, by decide +kernel⟩, List.mem_of_getElem? (i := 13) (by decide +kernel), List.mem_of_getElem? (i := 211) (by decide +kernel), List.mem_of_getElem? (i := 212) (by decide +kernel)⟩
theorem lw_p4 : lw_okq (⟨"StrideViews", "viewAt", "(I)LStrideViews$View;"⟩, 7) := ⟨⟨by decide +kernel, by decide +kernel⟩, List.mem_of_getElem? (i := 13) (by decide +kernel), List.mem_of_getElem? (i := 236) (by decide +kernel), List.mem_of_getElem? (i := 237) (by decide +kernel)⟩
theorem lw_p5 : lw_okq (⟨"StrideViews", "layOut", "(LStrideViews$View;LStrideViews$View;)V"⟩, 7) := ⟨⟨by decide +kernel, by decide +kernel⟩, List.mem_of_getElem? (i := 13) (by decide +kernel), List.mem_of_getElem? (i := 328) (by decide +kernel), List.mem_of_getElem? (i := 329) (by decide +kernel)⟩
theorem lw_p6 : lw_okq (⟨"StrideViews", "guessSteps", "(LStrideViews$View;)V"⟩, 7) := ⟨⟨by decide +kernel, by decide +kernel⟩, List.mem_of_getElem? (i := 13) (by decide +kernel), List.mem_of_getElem? (i := 332) (by decide +kernel), List.mem_of_getElem? (i := 333) (by decide +kernel)⟩
theorem lw_p7 : lw_okq (⟨"StrideViews", "liesAsLaidOut", "(LStrideViews$View;)Z"⟩, 7) := ⟨⟨by decide +kernel, by decide +kernel⟩, List.mem_of_getElem? (i := 13) (by decide +kernel), List.mem_of_getElem? (i := 336) (by decide +kernel), List.mem_of_getElem? (i := 337) (by decide +kernel)⟩
theorem lw_p8 : lw_okq (⟨"StrideViews", "readItems", "(LStrideViews$View;LStrideViews$View;)V"⟩, 7) := ⟨⟨by decide +kernel, by decide +kernel⟩, List.mem_of_getElem? (i := 13) (by decide +kernel), List.mem_of_getElem? (i := 364) (by decide +kernel), List.mem_of_getElem? (i := 365) (by decide +kernel)⟩
theorem lw_p9 : lw_okq (⟨"StrideViews", "writeItems", "(LStrideViews$View;)I"⟩, 7) := ⟨⟨by decide +kernel, by decide +kernel⟩, List.mem_of_getElem? (i := 13) (by decide +kernel), List.mem_of_getElem? (i := 368) (by decide +kernel), List.mem_of_getElem? (i := 369) (by decide +kernel)⟩
theorem lw_p10 : lw_okq (⟨"StrideViews", "foldInto", "(LStrideViews$Store;ILStrideViews$View;LStrideViews$View;I)V"⟩, 7) := ⟨⟨by decide +kernel, by decide +kernel⟩, List.mem_of_getElem? (i := 13) (by decide +kernel), List.mem_of_getElem? (i := 441) (by decide +kernel), List.mem_of_getElem? (i := 442) (by decide +kernel)⟩
theorem lw_p11 : lw_okq (⟨"StrideViews", "clearMarks", "()V"⟩, 7) := ⟨⟨by decide +kernel, by decide +kernel⟩, List.mem_of_getElem? (i := 13) (by decide +kernel), List.mem_of_getElem? (i := 457) (by decide +kernel), List.mem_of_getElem? (i := 458) (by decide +kernel)⟩
theorem lw_p12 : lw_okq (⟨"StrideViewsModel", "goesOf", "(ZZ)Z"⟩, 16) := ⟨⟨by decide +kernel, by decide +kernel⟩, List.mem_of_getElem? (i := 522) (by decide +kernel), List.mem_of_getElem? (i := 588) (by decide +kernel), List.mem_of_getElem? (i := 589) (by decide +kernel)⟩
theorem lw_p13 : lw_okq (⟨"StrideViewsModel", "more", "(JJ)V"⟩, 16) := ⟨⟨by decide +kernel, by decide +kernel⟩, List.mem_of_getElem? (i := 522) (by decide +kernel), List.mem_of_getElem? (i := 592) (by decide +kernel), List.mem_of_getElem? (i := 593) (by decide +kernel)⟩
theorem lw_p14 : lw_okq (⟨"StrideViewsModel", "addStore", "(II)I"⟩, 16) := ⟨⟨by decide +kernel, by decide +kernel⟩, List.mem_of_getElem? (i := 522) (by decide +kernel), List.mem_of_getElem? (i := 596) (by decide +kernel), List.mem_of_getElem? (i := 597) (by decide +kernel)⟩
theorem lw_p15 : lw_okq (⟨"StrideViewsModel", "add", "(IJ)I"⟩, 16) := ⟨⟨by decide +kernel, by decide +kernel⟩, List.mem_of_getElem? (i := 522) (by decide +kernel), List.mem_of_getElem? (i := 600) (by decide +kernel), List.mem_of_getElem? (i := 601) (by decide +kernel)⟩
def lw_privs_1 : List (MethodName × Nat) := [(⟨"java/lang/Throwable", "fillInStackTrace", "(I)Ljava/lang/Throwable;"⟩, 6), (⟨"StrideViews", "needRoomForStore", "()V"⟩, 7), (⟨"StrideViews", "keepStore", "(LStrideViews$Store;)V"⟩, 7), (⟨"StrideViews", "keepView", "(LStrideViews$View;)I"⟩, 7), (⟨"StrideViews", "viewAt", "(I)LStrideViews$View;"⟩, 7), (⟨"StrideViews", "layOut", "(LStrideViews$View;LStrideViews$View;)V"⟩, 7), (⟨"StrideViews", "guessSteps", "(LStrideViews$View;)V"⟩, 7), (⟨"StrideViews", "liesAsLaidOut", "(LStrideViews$View;)Z"⟩, 7), (⟨"StrideViews", "readItems", "(LStrideViews$View;LStrideViews$View;)V"⟩, 7), (⟨"StrideViews", "writeItems", "(LStrideViews$View;)I"⟩, 7), (⟨"StrideViews", "foldInto", "(LStrideViews$Store;ILStrideViews$View;LStrideViews$View;I)V"⟩, 7), (⟨"StrideViews", "clearMarks", "()V"⟩, 7), (⟨"StrideViewsModel", "goesOf", "(ZZ)Z"⟩, 16), (⟨"StrideViewsModel", "more", "(JJ)V"⟩, 16), (⟨"StrideViewsModel", "addStore", "(II)I"⟩, 16), (⟨"StrideViewsModel", "add", "(IJ)I"⟩, 16)]
theorem lw_r1 : ∀ q ∈ lw_privs_1, lw_okq q := List.forall_mem_cons.mpr ⟨lw_p0, List.forall_mem_cons.mpr ⟨lw_p1, List.forall_mem_cons.mpr ⟨lw_p2, List.forall_mem_cons.mpr ⟨lw_p3, List.forall_mem_cons.mpr ⟨lw_p4, List.forall_mem_cons.mpr ⟨lw_p5, List.forall_mem_cons.mpr ⟨lw_p6, List.forall_mem_cons.mpr ⟨lw_p7, List.forall_mem_cons.mpr ⟨lw_p8, List.forall_mem_cons.mpr ⟨lw_p9, List.forall_mem_cons.mpr ⟨lw_p10, List.forall_mem_cons.mpr ⟨lw_p11, List.forall_mem_cons.mpr ⟨lw_p12, List.forall_mem_cons.mpr ⟨lw_p13, List.forall_mem_cons.mpr ⟨lw_p14, List.forall_mem_cons.mpr ⟨lw_p15, fun _ h => absurd h List.not_mem_nil⟩⟩⟩⟩⟩⟩⟩⟩⟩⟩⟩⟩⟩⟩⟩⟩
theorem lw_p16 : lw_okq (⟨"StrideViewsModel", "product", "()J"⟩, 16) := ⟨⟨by decide +kernel, by decide +kernel⟩, List.mem_of_getElem? (i := 522) (by decide +kernel), List.mem_of_getElem? (i := 604) (by decide +kernel), List.mem_of_getElem? (i := 605) (by decide +kernel)⟩
theorem lw_p17 : lw_okq (⟨"StrideViewsModel", "isAxis", "(II)Z"⟩, 16) := ⟨⟨by decide +kernel, by decide +kernel⟩, List.mem_of_getElem? (i := 522) (by decide +kernel), List.mem_of_getElem? (i := 615) (by decide +kernel), List.mem_of_getElem? (i := 616) (by decide +kernel)⟩
theorem lw_p18 : lw_okq (⟨"StrideViewsModel", "isView", "(I)Z"⟩, 16) := ⟨⟨by decide +kernel, by decide +kernel⟩, List.mem_of_getElem? (i := 522) (by decide +kernel), List.mem_of_getElem? (i := 619) (by decide +kernel), List.mem_of_getElem? (i := 620) (by decide +kernel)⟩
theorem lw_p19 : lw_okq (⟨"StrideViewsModel", "goes", "(ZZZ)Z"⟩, 16) := ⟨⟨by decide +kernel, by decide +kernel⟩, List.mem_of_getElem? (i := 522) (by decide +kernel), List.mem_of_getElem? (i := 623) (by decide +kernel), List.mem_of_getElem? (i := 624) (by decide +kernel)⟩
theorem lw_p20 : lw_okq (⟨"StrideViewsModel", "take", "(III)V"⟩, 16) := ⟨⟨by decide +kernel, by decide +kernel⟩, List.mem_of_getElem? (i := 522) (by decide +kernel), List.mem_of_getElem? (i := 627) (by decide +kernel), List.mem_of_getElem? (i := 628) (by decide +kernel)⟩
theorem lw_p21 : lw_okq (⟨"StrideViewsModel", "tells", "(III)Z"⟩, 16) := ⟨⟨by decide +kernel, by decide +kernel⟩, List.mem_of_getElem? (i := 522) (by decide +kernel), List.mem_of_getElem? (i := 651) (by decide +kernel), List.mem_of_getElem? (i := 652) (by decide +kernel)⟩
theorem lw_p22 : lw_okq (⟨"StrideViewsModel", "items", "(I)I"⟩, 16) := ⟨⟨by decide +kernel, by decide +kernel⟩, List.mem_of_getElem? (i := 522) (by decide +kernel), List.mem_of_getElem? (i := 655) (by decide +kernel), List.mem_of_getElem? (i := 656) (by decide +kernel)⟩
theorem lw_p23 : lw_okq (⟨"StrideViewsModel", "findSteps", "(I)Z"⟩, 16) := ⟨⟨by decide +kernel, by decide +kernel⟩, List.mem_of_getElem? (i := 522) (by decide +kernel), List.mem_of_getElem? (i := 659) (by decide +kernel), List.mem_of_getElem? (i := 660) (by decide +kernel)⟩
theorem lw_p24 : lw_okq (⟨"StrideViewsModel", "place", "(II)I"⟩, 16) := ⟨⟨by decide +kernel, by decide +kernel⟩, List.mem_of_getElem? (i := 522) (by decide +kernel), List.mem_of_getElem? (i := 663) (by decide +kernel), List.mem_of_getElem? (i := 664) (by decide +kernel)⟩
theorem lw_p25 : lw_okq (⟨"StrideViewsModel", "indexOf", "(III)I"⟩, 16) := ⟨⟨by decide +kernel, by decide +kernel⟩, List.mem_of_getElem? (i := 522) (by decide +kernel), List.mem_of_getElem? (i := 667) (by decide +kernel), List.mem_of_getElem? (i := 668) (by decide +kernel)⟩
theorem lw_p26 : lw_okq (⟨"StrideViewsModel", "item", "(II)J"⟩, 16) := ⟨⟨by decide +kernel, by decide +kernel⟩, List.mem_of_getElem? (i := 522) (by decide +kernel), List.mem_of_getElem? (i := 675) (by decide +kernel), List.mem_of_getElem? (i := 676) (by decide +kernel)⟩
theorem lw_p27 : lw_okq (⟨"StrideViewsModel", "inOrder", "()V"⟩, 16) := ⟨⟨by decide +kernel, by decide +kernel⟩, List.mem_of_getElem? (i := 522) (by decide +kernel), List.mem_of_getElem? (i := 682) (by decide +kernel), List.mem_of_getElem? (i := 683) (by decide +kernel)⟩
theorem lw_p28 : lw_okq (⟨"StrideViewsModel", "isFixed", "(I)Z"⟩, 16) := ⟨⟨by decide +kernel, by decide +kernel⟩, List.mem_of_getElem? (i := 522) (by decide +kernel), List.mem_of_getElem? (i := 694) (by decide +kernel), List.mem_of_getElem? (i := 695) (by decide +kernel)⟩
theorem lw_p29 : lw_okq (⟨"StrideViewsModel", "setItem", "(IIJ)V"⟩, 16) := ⟨⟨by decide +kernel, by decide +kernel⟩, List.mem_of_getElem? (i := 522) (by decide +kernel), List.mem_of_getElem? (i := 698) (by decide +kernel), List.mem_of_getElem? (i := 699) (by decide +kernel)⟩
theorem lw_p30 : lw_okq (⟨"StrideViewsModel", "goesTo", "(II)Z"⟩, 16) := ⟨⟨by decide +kernel, by decide +kernel⟩, List.mem_of_getElem? (i := 522) (by decide +kernel), List.mem_of_getElem? (i := 706) (by decide +kernel), List.mem_of_getElem? (i := 707) (by decide +kernel)⟩
theorem lw_p31 : lw_okq (⟨"StrideViewsModel", "gone", "(III)J"⟩, 16) := ⟨⟨by decide +kernel, by decide +kernel⟩, List.mem_of_getElem? (i := 522) (by decide +kernel), List.mem_of_getElem? (i := 710) (by decide +kernel), List.mem_of_getElem? (i := 711) (by decide +kernel)⟩
def lw_privs_2 : List (MethodName × Nat) := [(⟨"StrideViewsModel", "product", "()J"⟩, 16), (⟨"StrideViewsModel", "isAxis", "(II)Z"⟩, 16), (⟨"StrideViewsModel", "isView", "(I)Z"⟩, 16), (⟨"StrideViewsModel", "goes", "(ZZZ)Z"⟩, 16), (⟨"StrideViewsModel", "take", "(III)V"⟩, 16), (⟨"StrideViewsModel", "tells", "(III)Z"⟩, 16), (⟨"StrideViewsModel", "items", "(I)I"⟩, 16), (⟨"StrideViewsModel", "findSteps", "(I)Z"⟩, 16), (⟨"StrideViewsModel", "place", "(II)I"⟩, 16), (⟨"StrideViewsModel", "indexOf", "(III)I"⟩, 16), (⟨"StrideViewsModel", "item", "(II)J"⟩, 16), (⟨"StrideViewsModel", "inOrder", "()V"⟩, 16), (⟨"StrideViewsModel", "isFixed", "(I)Z"⟩, 16), (⟨"StrideViewsModel", "setItem", "(IIJ)V"⟩, 16), (⟨"StrideViewsModel", "goesTo", "(II)Z"⟩, 16), (⟨"StrideViewsModel", "gone", "(III)J"⟩, 16)]
theorem lw_r2 : ∀ q ∈ lw_privs_2, lw_okq q := List.forall_mem_cons.mpr ⟨lw_p16, List.forall_mem_cons.mpr ⟨lw_p17, List.forall_mem_cons.mpr ⟨lw_p18, List.forall_mem_cons.mpr ⟨lw_p19, List.forall_mem_cons.mpr ⟨lw_p20, List.forall_mem_cons.mpr ⟨lw_p21, List.forall_mem_cons.mpr ⟨lw_p22, List.forall_mem_cons.mpr ⟨lw_p23, List.forall_mem_cons.mpr ⟨lw_p24, List.forall_mem_cons.mpr ⟨lw_p25, List.forall_mem_cons.mpr ⟨lw_p26, List.forall_mem_cons.mpr ⟨lw_p27, List.forall_mem_cons.mpr ⟨lw_p28, List.forall_mem_cons.mpr ⟨lw_p29, List.forall_mem_cons.mpr ⟨lw_p30, List.forall_mem_cons.mpr ⟨lw_p31, fun _ h => absurd h List.not_mem_nil⟩⟩⟩⟩⟩⟩⟩⟩⟩⟩⟩⟩⟩⟩⟩⟩
theorem lw_p32 : lw_okq (⟨"StrideViewsModel", "putAll", "(I)I"⟩, 16) := ⟨⟨by decide +kernel, by decide +kernel⟩, List.mem_of_getElem? (i := 522) (by decide +kernel), List.mem_of_getElem? (i := 714) (by decide +kernel), List.mem_of_getElem? (i := 715) (by decide +kernel)⟩
theorem lw_p33 : lw_okq (⟨"StrideViewsModel", "end", "(IZ)I"⟩, 16) := ⟨⟨by decide +kernel, by decide +kernel⟩, List.mem_of_getElem? (i := 522) (by decide +kernel), List.mem_of_getElem? (i := 748) (by decide +kernel), List.mem_of_getElem? (i := 749) (by decide +kernel)⟩
def lw_privs_3 : List (MethodName × Nat) := [(⟨"StrideViewsModel", "putAll", "(I)I"⟩, 16), (⟨"StrideViewsModel", "end", "(IZ)I"⟩, 16)]
theorem lw_r3 : ∀ q ∈ lw_privs_3, lw_okq q := List.forall_mem_cons.mpr ⟨lw_p32, List.forall_mem_cons.mpr ⟨lw_p33, fun _ h => absurd h List.not_mem_nil⟩⟩
def lw_privs : List (MethodName × Nat) := lw_privs_1 ++ (lw_privs_2 ++ (lw_privs_3))
def lw_tbl : List Cond := k2_sels lw_privs ++ tables_1
theorem lw_privs_ok : ∀ q ∈ lw_privs, lw_okq q := by
  show ∀ q ∈ lw_privs_1 ++ (lw_privs_2 ++ (lw_privs_3)), lw_okq q
  exact List.forall_mem_append.mpr ⟨lw_r1, List.forall_mem_append.mpr ⟨lw_r2, lw_r3⟩⟩
end
section
/-! ===== BEGIN words of one list among another's, by their places ===== -/
theorem goodIn_r {big : List Cond} (ws : List Cond) (ps : List Nat) (hp : ws = ps.filterMap (fun i => big[i]?)) (h : ws.all goodWord = true) : GoodIn big ws := by
  intro w hw
  have h1 := List.all_eq_true.mp h w hw
  rw [hp] at hw
  obtain ⟨i, -, hi⟩ := List.mem_filterMap.mp hw
  have hm : w ∈ big := by first | exact List.mem_of_getElem? hi | exact List.getElem?_mem hi
  exact ⟨hm, good_of_word h1⟩
theorem goodIn_app {big a b : List Cond} (ha : GoodIn big a) (hb : GoodIn big b) : GoodIn big (a ++ b) := fun w h => (List.mem_append.mp h).elim (ha w) (hb w)
theorem goodIn_ca {big a b : List Cond} {c : Cond} (ha : GoodIn big (c :: a)) (hb : GoodIn big b) : GoodIn big (c :: (a ++ b)) := fun w h => (List.mem_cons.mp h).elim (fun e => ha w (List.mem_cons.mpr (Or.inl e))) (fun h => (List.mem_append.mp h).elim (fun h => ha w (List.mem_cons.mpr (Or.inr h))) (hb w))
theorem goodIn_sub {big ws : List Cond} (hm : ∀ w ∈ ws, w ∈ big) (h : ws.all goodWord = true) : GoodIn big ws := fun w hw => ⟨hm w hw, good_of_word (List.all_eq_true.mp h w hw)⟩
/-! ===== END ===== -/

/-! ===== BEGIN exceptions that leave a method, and their catching by the caller (launches without stack traces) ===== -/
section VXA
/-! The laws vx_back, vx_callV, vx_callS, vx_callSW, vx_throw0, vx_throwS follow proofs of the library, with one case more: JvmDerived/Free/Laws.lean (Back.of_free), Shelf42/LK1.lean (callV, callS), Shelf/KitTraced.lean (throwNew0V, throwNewS). -/
/-- where a method has thrown q: the class by its name, the cell, what was written, the world -/
def vx_T (XC : String → State → State → Prop) (st : State) (q : Addr) (t : State) (mc ms : Nat) (free : Addr → Prop) : Prop :=
  ∃ (E : String) (ce : Cell) (L : List Loc), XC E st t ∧ t.heap[q]? = some ce ∧ ce.vm = .none ∧ st.vm.findClass E = some ce.cls ∧ st.WarmedH t.vm ∧ st.sameButNew ({ t with vm := st.vm } : State) L mc ms ∧ ∀ z ∈ L, free z.base
def vx_Q (Qc : Array Value → State → Outcome → State → Prop) (XC : String → State → State → Prop) (mc ms : Nat) (free : Addr → Prop) : Array Value → State → Outcome → State → Prop := fun a st o t =>
  (Qc a st o t ∧ ∃ L, FrameEnd st o t L mc ms ∧ ∀ q ∈ L, free q.base) ∨ ∃ q, o = .threw q ∧ vx_T XC st q t mc ms free
/-- a callee that returns or throws -/
def vx_Met (l : Launch) (y : MethodName) (ws : List Cond) (rm : Room) (Pc : Array Value → State → Prop) (Qc : Array Value → State → Outcome → State → Prop) (XC : String → State → State → Prop) (mc ms : Nat) (free : Addr → Prop) : Prop :=
  MetFree l y (headSpec ws rm) Pc (fun _ _ _ _ _ => True) (vx_Q Qc XC mc ms free)
def vx_Post (XC : String → State → State → Prop) (mc ms : Nat) (free : Addr → Prop) : Pt → Array Value → Addr → Pt → Prop := fun A a q B =>
  ∃ (g : JFrame) (mk : MethodId) (t : State) (L : List Loc) (E : String) (ce : Cell), B.U.heap = t.heap ∧ B.U.vm = t.vm ∧ XC E (A.U.calling g mk a) t ∧ t.heap[q]? = some ce ∧ ce.vm = .none ∧ A.U.vm.findClass E = some ce.cls ∧ B.locs = A.locs ++ L ∧ (∀ z ∈ L, free z.base) ∧ B.cells = A.cells + mc ∧ B.slots = A.slots + ms
def vx_Back (l : Launch) (R : Room) (p : Program) (e : Env) (below : List Frame) (s : State) (sargs : Array Value) (y : MethodName) (len W9 : Nat)
    (Pre : Pt → Array Value → Prop) (Post : Pt → Array Value → Option Value → Pt → Prop) (PostX : Pt → Array Value → Addr → Pt → Prop) : Prop :=
  ∀ (m : MethodId) (meth : Method) (c : Code) (A : Pt) (g : JFrame) (ig : Instr) (mk : MethodId) (a : Array Value),
    Stand p l e R s m sargs below meth c A.U A.locs A.cells A.slots → g.method = m → g.locals.size = c.maxLocals → decode c.code g.pc = .ok (ig, len) →
    2 * g.monitorRoom + (g.stack.map fun v => v.category).sum ≤ W9 → A.U.methodNamed? y = some mk → Pre A a →
    (∃ (v : Option Value) (B : Pt), Stand p l e R s m sargs below meth c B.U B.locs B.cells B.slots ∧ Post A a v B ∧
      Steps p.tables e below (doInvoke e (A.U.setTop g) [] mk a).1 (B.U.setTop { g with pc := g.pc + len, stack := v.toList ++ g.stack })) ∨
    (∃ (q : Addr) (B : Pt), Stand p l e R s m sargs below meth c B.U B.locs B.cells B.slots ∧ PostX A a q B ∧
      Steps p.tables e below (doInvoke e (A.U.setTop g) [] mk a).1 ((B.U.setTop g).pushFrame (.throwing q)))
section Payer
variable {l : Launch} {R : Room} {p : Program} {e : Env} {below : List Frame} {s : State} {sargs : Array Value} {y : MethodName} {len W9 : Nat}
theorem vx_back {ws : List Cond} {rm : Room} {Pc : Array Value → State → Prop} {Qc : Array Value → State → Outcome → State → Prop} {XC : String → State → State → Prop} {mc ms : Nat} {free : Addr → Prop} {bytes : ByteArray} {maxL : Nat} {ret : Option FieldType}
    (hM : vx_Met l y ws rm Pc Qc XC mc ms free) (hblind : FrameBlind Pc) (hrc : rm.cells = mc) (hrs : rm.slots = ms)
    (hframes : rm.frames + 1 ≤ R.frames) (hlocals : W9 + (maxL + 11) + rm.locals ≤ R.locals)
    (hws : ∀ w ∈ ws, ∀ a' U, s.WarmedH U.vm → w.before a' U = true) (hcode : Cond.code y bytes maxL ret ∈ ws) (hinit : ∀ a' U, s.WarmedH U.vm → (Cond.initialized y.cls).before a' U = true) :
    vx_Back l R p e below s sargs y len W9 (PreOf R mc ms Pc) (PostOf Qc mc ms free) (vx_Post XC mc ms free) := by
  intro m meth c A g ig mk a X hg hsize hdg hW hn hp
  have h1 : (headSpec ws rm).pre.before a A.U = true := atoms_intro fun w hw => hws w hw _ _ X.warmed
  have h2 : (Cond.code y bytes maxL ret).before a A.U = true := hws _ hcode _ _ X.warmed
  have h3 : (Cond.initialized y.cls).before a A.U = true := hinit _ _ X.warmed
  have h4 : A.cells + (headSpec ws rm).room.cells ≤ R.cells := by rw [show (headSpec ws rm).room.cells = mc from hrc]; exact hp.1
  have h5 : A.slots + (headSpec ws rm).room.slots ≤ R.slots := by rw [show (headSpec ws rm).room.slots = ms from hrs]; exact hp.2.1
  have hPc : Pc a (A.U.calling g mk a) := hblind _ _ _ _ hp.2.2
  obtain ⟨U, Ls, c0, s0⟩ := A
  dsimp only [Pt.U, Pt.locs, Pt.cells, Pt.slots] at h1 h2 h3 h4 h5 X hn hPc ⊢
  obtain ⟨methY, cY, hmY, hcY, -, hlY, -, -, -, -⟩ := Cond.code_spec hn h2
  obtain ⟨kY, hkY, -⟩ := className_of_methodNamed hn
  have hinitY : kY.init = .initialized := Cond.initialized_spec (findClass_of_methodNamed hn) hkY h3
  have h : At U g.method c below := by rw [hg]; exact X.here
  have hlocals9 : W9 + (maxL + 11) + (headSpec ws rm).room.locals ≤ R.locals := hlocals
  have happ : (headSpec ws rm).appliesLoose y e.platform (U.calling g mk a) = true :=
    Spec.appliesLoose_calling (g := g) h hdg hn hkY hinitY
      (X.room_calling (g := g) (R' := (headSpec ws rm).room) hsize hmY hcY hframes (by rw [hlY]; omega) h4 h5) h1
  obtain ⟨mid, hmid⟩ := h.above
  have hfr : (U.setTop g).frames = (.java g :: mid) ++ below := by rw [State.frames_setTop' g h.top, hmid]; rfl
  obtain ⟨o, s₂, hsteps, -, hend, hq⟩ := Steps.callFree hM p X.admits X.cas X.clock (acts := []) hfr happ hPc trivial
  have hq' : vx_Q Qc XC mc ms free a (U.calling g mk a) o s₂ := hq
  rw [State.frames_setTop' g h.top] at hend
  obtain ⟨g₀, hg0⟩ := Option.isSome_iff_exists.mp h.top
  obtain ⟨r, hr⟩ := State.topJava?_eq_some.mp hg0
  have hr' : (({ U with heap := s₂.heap, slotsUsed := s₂.slotsUsed } : State).setVm s₂.vm).frames = .java g₀ :: r := hr
  rcases hq' with ⟨hqc, L, hfe, hL⟩ | ⟨q, rfl, E, ce, L, hx, hce, hcv, hcl, hW₂, hsm, hL⟩
  · obtain ⟨⟨v, rfl⟩, hW₂, e2, q2, q3, q4, q5, q6⟩ := id hfe
    have e3 : s₂ = ({ (U.calling g mk a).setFrames s₂.frames with heap := s₂.heap, slotsUsed := s₂.slotsUsed } : State).setVm s₂.vm := by
      have : s₂ = ({ s₂ with vm := (U.calling g mk a).vm } : State).setVm s₂.vm := rfl
      rw [e2] at this
      exact this
    obtain ⟨c₂, i₂, len₂, hc₂, hd₂, hf₂⟩ := hend
    have hW' : U.WarmedH s₂.vm := hW₂
    have hcc : c₂ = c := by
      have h1 : s₂.code? g.method = U.code? g.method := by
        rw [State.code?_eq, State.code?_eq, hW'.alike.method?]
      exact Option.some.inj (hc₂.symm.trans (h1.trans h.code))
    subst hcc
    have hlen : len₂ = len := by rw [hdg] at hd₂; cases hd₂; rfl
    subst hlen
    have hs₂ : s₂ = (({ U with heap := s₂.heap, slotsUsed := s₂.slotsUsed } : State).setVm s₂.vm).setTop { g with pc := g.pc + len₂, stack := v.toList ++ g.stack } := by
      refine e3.trans ?_
      rw [hf₂, State.calling_eq h.top, State.setFrames_setFrames, State.setTop_of_frames _ hr', hr]
      rfl
    have hsame : U.sameButNew ({ U with heap := s₂.heap, slotsUsed := s₂.slotsUsed } : State) L mc ms := by
      refine ⟨?_, q2, q3, q4, q5, q6⟩
      obtain ⟨t, ht, -⟩ := State.frames_cons hr
      show ({ U with heap := s₂.heap, slotsUsed := s₂.slotsUsed } : State) = { U.setFrames U.frames with heap := s₂.heap, slotsUsed := s₂.slotsUsed }
      rw [State.setFrames_self ht]
    subst hg
    refine Or.inl ⟨v, ⟨(({ U with heap := s₂.heap, slotsUsed := s₂.slotsUsed } : State).setVm s₂.vm), Ls ++ L, c0 + mc, s0 + ms⟩,
      ⟨X.admits, X.cas, X.clock, X.frames, X.room, X.hears, X.method, X.code, (X.here.setHeapUsed s₂.heap s₂.slotsUsed).setVm hW'.alike, X.tail, State.WarmedH.trans X.warmed hW', X.limits, X.bytes, X.same.trans (hsame.setVm s.vm)⟩,
      ⟨g, mk, s₂, L, rfl, rfl, hqc, rfl, hL, rfl, rfl⟩, ?_⟩
    show Steps p.tables e below _ ((({ U with heap := s₂.heap, slotsUsed := s₂.slotsUsed } : State).setVm s₂.vm).setTop { g with pc := g.pc + len₂, stack := v.toList ++ g.stack })
    rw [← hs₂]
    exact hsteps
  · obtain ⟨e2, q2, q3, q4, q5, q6⟩ := id hsm
    have e3 : s₂ = ({ (U.calling g mk a).setFrames s₂.frames with heap := s₂.heap, slotsUsed := s₂.slotsUsed } : State).setVm s₂.vm := by
      have : s₂ = ({ s₂ with vm := (U.calling g mk a).vm } : State).setVm s₂.vm := rfl
      rw [e2] at this
      exact this
    have hf₂ : s₂.frames = .throwing q :: .java g :: U.frames.tail := hend
    have hW' : U.WarmedH s₂.vm := hW₂
    have hs₂ : s₂ = ((({ U with heap := s₂.heap, slotsUsed := s₂.slotsUsed } : State).setVm s₂.vm).setTop g).pushFrame (.throwing q) := by
      refine e3.trans ?_
      rw [hf₂, State.calling_eq h.top, State.setFrames_setFrames, State.pushFrame, State.frames_setTop _ hr', State.setTop_of_frames _ hr', State.setFrames_setFrames, hr]
      rfl
    have hsame : U.sameButNew ({ U with heap := s₂.heap, slotsUsed := s₂.slotsUsed } : State) L mc ms := by
      refine ⟨?_, q2, q3, q4, q5, q6⟩
      obtain ⟨t, ht, -⟩ := State.frames_cons hr
      show ({ U with heap := s₂.heap, slotsUsed := s₂.slotsUsed } : State) = { U.setFrames U.frames with heap := s₂.heap, slotsUsed := s₂.slotsUsed }
      rw [State.setFrames_self ht]
    subst hg
    refine Or.inr ⟨q, ⟨(({ U with heap := s₂.heap, slotsUsed := s₂.slotsUsed } : State).setVm s₂.vm), Ls ++ L, c0 + mc, s0 + ms⟩,
      ⟨X.admits, X.cas, X.clock, X.frames, X.room, X.hears, X.method, X.code, (X.here.setHeapUsed s₂.heap s₂.slotsUsed).setVm hW'.alike, X.tail, State.WarmedH.trans X.warmed hW', X.limits, X.bytes, X.same.trans (hsame.setVm s.vm)⟩,
      ⟨g, mk, s₂, L, E, ce, rfl, rfl, hx, hce, hcv, hcl, rfl, hL, rfl, rfl⟩, ?_⟩
    show Steps p.tables e below _ (((({ U with heap := s₂.heap, slotsUsed := s₂.slotsUsed } : State).setVm s₂.vm).setTop g).pushFrame (.throwing q))
    rw [← hs₂]
    exact hsteps
end Payer
section Calls
variable {p : Program} {l : Launch} {e : Env} {R : Room} {s : State} {m : MethodId} {args : Array Value} {below : List Frame} {meth : Method} {c : Code} {T : State} {locs : List Loc} {cells slots : Nat}
theorem vx_callV (X : Stand p l e R s m args below meth c T locs cells slots) (hexec : p.tables.exec = Jvm.exec) {own C : String} {index : Nat} {y : MethodName} {bytes : ByteArray} {maxL : Nat} {ret : Option FieldType}
    (hown : s.vm.findClass own = some m.cls) (hlink : (Cond.methodLink own index y).before args s = true) (hinst : (Cond.instanceMethod y).before args s = true) (hsel : (Cond.selects C y y).before args s = true)
    (hcode : (Cond.code y bytes maxL ret).before args s = true) (hy : y.cls ≠ "java/lang/invoke/MethodHandle" ∧ y.cls ≠ "java/lang/invoke/VarHandle")
    {W9 : Nat} {Pre : Pt → Array Value → Prop} {Post : Pt → Array Value → Option Value → Pt → Prop} {PostX : Pt → Array Value → Addr → Pt → Prop} (hK : vx_Back l R p e below s args y 3 W9 Pre Post PostX)
    {b : Addr} {cellB : Cell} (hcell : T.heap[b]? = some cellB) (hobj : cellB.vm.isStatics = false) (hcls : s.vm.findClass C = some cellB.cls)
    {g : JFrame} (hg : g.method = m) (hsize : g.locals.size = c.maxLocals) {argsL rest : List Value} (hlen : ∀ sig, parseMethodDescriptor y.desc = some sig → argsL.length = sig.parameters.length)
    (hstack : g.stack = argsL.reverse ++ .ref b :: rest) (hW : 2 * g.monitorRoom + (rest.map fun v => v.category).sum ≤ W9) (hdg : decode c.code g.pc = .ok (.invokevirtual index, 3))
    (hpre : ∀ vm₁, s.WarmedH vm₁ → Pre ⟨T.setVm vm₁, locs, cells, slots⟩ (Value.ref b :: argsL).toArray) :
    (∃ (v : Option Value) (vm₁ : Vm) (B : Pt), s.WarmedH vm₁ ∧ Stand p l e R s m args below meth c B.U B.locs B.cells B.slots ∧ Post ⟨T.setVm vm₁, locs, cells, slots⟩ (Value.ref b :: argsL).toArray v B ∧
      ∀ target, Steps p.tables e below (B.U.setTop { g with pc := g.pc + 3, stack := v.toList ++ rest }) target → Steps p.tables e below (T.setTop g) target) ∨
    (∃ (q : Addr) (vm₁ : Vm) (B : Pt), s.WarmedH vm₁ ∧ Stand p l e R s m args below meth c B.U B.locs B.cells B.slots ∧ PostX ⟨T.setVm vm₁, locs, cells, slots⟩ (Value.ref b :: argsL).toArray q B ∧
      Steps p.tables e below (T.setTop g) ((B.U.setTop { g with stack := rest }).pushFrame (.throwing q))) := by
  obtain ⟨mk, methM, hnamed, hmethM, hstM, habM⟩ := Cond.instanceMethod_spec hinst
  obtain ⟨methM', cM, hmethM', -, -, -, -, -, -, hsigM⟩ := Cond.code_spec hnamed hcode
  cases hmethM.symm.trans hmethM'
  obtain ⟨c2, r2, m2, q1, q2, q3, q4, kP, hkP, hkPi⟩ := Cond.selects_spec hsel
  cases hcls.symm.trans q1
  cases (State.methodFound?_of_named hnamed hy).symm.trans q2
  cases hnamed.symm.trans q3
  have hselP : selectMethod e.platform s.vm cellB.cls mk = .method mk := by rw [Launch.admits_selectMethod X.admits]; exact q4
  obtain ⟨vm₁, X₁, hstep₁⟩ := X.invokevirtual hexec hown hlink hnamed hmethM hstM hkP hkPi hy (a := b) (cell := cellB) hcell
    (fun z h => by rw [h] at hobj; cases hobj) hselP hmethM habM hkP hkPi (g := g) hg (argsL := argsL) (rest := rest) (hlen _ hsigM) hstack hdg
  rcases hK m meth c ⟨T.setVm vm₁, locs, cells, slots⟩ { g with stack := rest } (.invokevirtual index) mk (Value.ref b :: argsL).toArray X₁ hg hsize hdg hW (X₁.named hnamed) (hpre vm₁ X₁.warmed) with ⟨v, B, X', hpost, hsteps⟩ | ⟨q, B, X', hpost, hsteps⟩
  · exact Or.inl ⟨v, vm₁, B, X₁.warmed, X', hpost, fun target h => hstep₁ _ fun acts => by rw [doInvoke_state]; exact hsteps.trans h⟩
  · exact Or.inr ⟨q, vm₁, B, X₁.warmed, X', hpost, hstep₁ _ fun acts => by rw [doInvoke_state]; exact hsteps⟩
theorem vx_callS (X : Stand p l e R s m args below meth c T locs cells slots) (hexec : p.tables.exec = Jvm.exec) {own : String} {index : Nat} {y : MethodName} {bytes : ByteArray} {maxL : Nat} {ret : Option FieldType}
    (hown : s.vm.findClass own = some m.cls) (hlink : (Cond.methodLink own index y).before args s = true) (hstat : (Cond.static y).before args s = true) (hinit : (Cond.initialized y.cls).before args s = true)
    (hcode : (Cond.code y bytes maxL ret).before args s = true) (hy : y.cls ≠ "java/lang/invoke/MethodHandle" ∧ y.cls ≠ "java/lang/invoke/VarHandle")
    {W9 : Nat} {Pre : Pt → Array Value → Prop} {Post : Pt → Array Value → Option Value → Pt → Prop} {PostX : Pt → Array Value → Addr → Pt → Prop} (hK : vx_Back l R p e below s args y 3 W9 Pre Post PostX)
    {g : JFrame} (hg : g.method = m) (hsize : g.locals.size = c.maxLocals) {argsL rest : List Value} (hlen : ∀ sig, parseMethodDescriptor y.desc = some sig → argsL.length = sig.parameters.length)
    (hstack : g.stack = argsL.reverse ++ rest) (hW : 2 * g.monitorRoom + (rest.map fun v => v.category).sum ≤ W9) (hdg : decode c.code g.pc = .ok (.invokestatic index, 3))
    (hpre : ∀ vm₁, s.WarmedH vm₁ → Pre ⟨T.setVm vm₁, locs, cells, slots⟩ argsL.toArray) :
    (∃ (v : Option Value) (vm₁ : Vm) (B : Pt), s.WarmedH vm₁ ∧ Stand p l e R s m args below meth c B.U B.locs B.cells B.slots ∧ Post ⟨T.setVm vm₁, locs, cells, slots⟩ argsL.toArray v B ∧
      ∀ target, Steps p.tables e below (B.U.setTop { g with pc := g.pc + 3, stack := v.toList ++ rest }) target → Steps p.tables e below (T.setTop g) target) ∨
    (∃ (q : Addr) (vm₁ : Vm) (B : Pt), s.WarmedH vm₁ ∧ Stand p l e R s m args below meth c B.U B.locs B.cells B.slots ∧ PostX ⟨T.setVm vm₁, locs, cells, slots⟩ argsL.toArray q B ∧
      Steps p.tables e below (T.setTop g) ((B.U.setTop { g with stack := rest }).pushFrame (.throwing q))) := by
  obtain ⟨mk, hnamed⟩ := Cond.code_named hcode
  obtain ⟨methM, cM, hmethM, -, -, -, -, -, -, hsigM⟩ := Cond.code_spec hnamed hcode
  have hstatic : methM.isStatic = true := Cond.static_spec hnamed hmethM hstat
  obtain ⟨kP, hkP, -⟩ := className_of_methodNamed hnamed
  have hinitP : kP.init = .initialized := Cond.initialized_spec (findClass_of_methodNamed hnamed) hkP hinit
  obtain ⟨vm₁, X₁, hstep₁⟩ := X.invokestatic hexec hown hlink hnamed hmethM hstatic hkP hinitP hy (g := g) hg (argsL := argsL) (rest := rest) (hlen _ hsigM) hstack hdg
  rcases hK m meth c ⟨T.setVm vm₁, locs, cells, slots⟩ { g with stack := rest } (.invokestatic index) mk argsL.toArray X₁ hg hsize hdg hW (X₁.named hnamed) (hpre vm₁ X₁.warmed) with ⟨v, B, X', hpost, hsteps⟩ | ⟨q, B, X', hpost, hsteps⟩
  · exact Or.inl ⟨v, vm₁, B, X₁.warmed, X', hpost, fun target h => hstep₁ _ fun acts => by rw [doInvoke_state]; exact hsteps.trans h⟩
  · exact Or.inr ⟨q, vm₁, B, X₁.warmed, X', hpost, hstep₁ _ fun acts => by rw [doInvoke_state]; exact hsteps⟩
end Calls
theorem vx_cls {s : State} {T : State} {vm₁ : Vm} {E : String} {k : ClassId} (hW : s.WarmedH vm₁) (h : (T.setVm vm₁).vm.findClass E = some k) : s.vm.findClass E = some k := by
  have h1 : vm₁.findClass E = some k := h
  rw [hW.alike.findClass] at h1
  exact h1
/-- the method's frame g, with q thrown over it -/
def vx_W (p : Program) (l : Launch) (e : Env) (R : Room) (s : State) (m : MethodId) (args : Array Value) (below : List Frame) (meth : Method) (c : Code) (H : Heap) (locs : List Loc) (cells slots : Nat) (Q : State → Prop) (g : JFrame) (q : Addr) : Prop :=
  ∀ T : State, T.heap = H → Stand p l e R s m args below meth c T locs cells slots → ∃ t, Steps p.tables e below ((T.setTop g).pushFrame (.throwing q)) t ∧ Q t
def vx_Run (p : Program) (l : Launch) (e : Env) (R : Room) (s : State) (m : MethodId) (args : Array Value) (below : List Frame) (meth : Method) (c : Code) (H : Heap) (locs : List Loc) (cells slots mc ms : Nat) (g : JFrame) (rest : List Value) (Qa : State → Outcome → State → Prop) (XC : String → State → State → Prop) (free : Addr → Prop) : Prop :=
  ∀ T : State, T.heap = H → Stand p l e R s m args below meth c T locs cells slots →
    (∃ (v : Option Value) (st₀ t T' : State) (L : List Loc), st₀.heap = H ∧ Stand p l e R s m args below meth c T' (locs ++ L) (cells + mc) (slots + ms) ∧ (∀ q ∈ L, free q.base) ∧ T'.heap = t.heap ∧ T'.vm = t.vm ∧ Qa st₀ (.returned v) t ∧
      Goes p e below T g T' { g with pc := g.pc + 3, stack := v.toList ++ rest }) ∨
    (∃ (q : Addr) (st₀ t T' : State) (L : List Loc) (E : String) (ce : Cell), st₀.heap = H ∧ Stand p l e R s m args below meth c T' (locs ++ L) (cells + mc) (slots + ms) ∧ (∀ z ∈ L, free z.base) ∧ T'.heap = t.heap ∧ T'.vm = t.vm ∧ XC E st₀ t ∧ t.heap[q]? = some ce ∧ ce.vm = .none ∧ s.vm.findClass E = some ce.cls ∧
      Steps p.tables e below (T.setTop g) ((T'.setTop { g with stack := rest }).pushFrame (.throwing q)))
def vx_X {S : Type} (px : S → Prop) (B : String → S → State → Prop) (A : Nat → Prop) : String → State → State → Prop := fun E st t => ∃ u : S, px u ∧ B E u t ∧ va_F A st t
section Runs
variable {p : Program} {l : Launch} {e : Env} {R : Room} {s : State} {m : MethodId} {args : Array Value} {below : List Frame} {meth : Method} {c : Code} {H : Heap} {locs : List Loc} {cells slots : Nat}
variable {y : MethodName} {bytes cc : ByteArray} {maxL nL mc ms n index : Nat} {ret : Option FieldType} {ws : List Cond} {rm : Room} {Pc : Array Value → State → Prop} {Qc : Array Value → State → Outcome → State → Prop} {XC : String → State → State → Prop} {free : Addr → Prop} {Ts : List Cond} {own C : String} {b : Addr} {As rest : List Value} {g : JFrame}
theorem vx_callBack (cb : CallB R s args own index y bytes maxL ret ws rm mc ms n) (hM : vx_Met l y ws rm Pc Qc XC mc ms free) (hbl : FrameBlind Pc) : vx_Back l R p e below s args y 3 8 (PreOf R mc ms Pc) (PostOf Qc mc ms free) (vx_Post XC mc ms free) := by
  obtain ⟨hrc, hrs, hfr, hlo, hws, hcw, -, hini, -⟩ := cb
  exact vx_back (bytes := bytes) (maxL := maxL) (ret := ret) hM hbl hrc hrs hfr hlo hws hcw (fun a' U hW => word_at hW (Or.inl (by first | rfl | simp [Cond.onTables, Cond.keeps, Cond.steady])) hini)
theorem vx_runV (S : CallFix p m c cc nL s args Ts own) (hM : vx_Met l y ws rm Pc Qc XC mc ms free) (cw : CallW R s args own C index y bytes maxL ret ws rm mc ms n) (hp : PreV s H C b Pc As)
    (hg : g.method = m) (hn : As.length = n) (hsize : g.locals.size = nL) (hstack : g.stack = As.reverse ++ .ref b :: rest) (hW : 2 * g.monitorRoom + (rest.map fun v => v.category).sum ≤ 8) (hdg : decode cc g.pc = .ok (.invokevirtual index, 3)) (hf : cells + mc ≤ R.cells ∧ slots + ms ≤ R.slots) :
    vx_Run p l e R s m args below meth c H locs cells slots mc ms g rest (Qc (Value.ref b :: As).toArray) XC free := by
  have hK : vx_Back l R p e below s args y 3 8 (PreOf R mc ms Pc) (PostOf Qc mc ms free) (vx_Post XC mc ms free) := vx_callBack cw.1 hM hp.1
  obtain ⟨⟨-, -, -, -, -, -, hcode, -, hy, hlen, hl⟩, hin, hse⟩ := cw
  obtain ⟨hx, hb, hml, ho, -⟩ := S
  obtain ⟨-, ⟨cellB, hcB, hoB, hclB⟩, hPc⟩ := hp
  intro T hT X
  rcases vx_callV X hx (C := C) (bytes := bytes) (maxL := maxL) (ret := ret) ho hl hin hse hcode hy hK (by rw [hT]; exact hcB) hoB hclB hg (hsize.trans hml.symm) (argsL := As) (rest := rest) (fun sig h => hn.trans (hlen sig h)) hstack hW (by rw [hb]; exact hdg)
    (fun vm₁ hW₁ => ⟨hf.1, hf.2, hPc (T.setVm vm₁) hT hW₁⟩) with ⟨v, vm₁, ⟨U', l2, c2, s2⟩, hW₁, X', ⟨g', mk, t, L, e1, e2, hq, h1, hL, h2, h3⟩, st⟩ | ⟨q, vm₁, ⟨U', l2, c2, s2⟩, hW₁, X', ⟨g', mk, t, L, E, ce, e1, e2, hq, hce, hcv, hcl, h1, hL, h2, h3⟩, st⟩
  · dsimp only [Pt.U, Pt.locs, Pt.cells, Pt.slots] at X' e1 e2 h1 h2 h3 st
    subst h1; subst h2; subst h3
    exact Or.inl ⟨v, (T.setVm vm₁).calling g' mk (Value.ref b :: As).toArray, t, U', L, hT, X', hL, e1, e2, hq, st⟩
  · dsimp only [Pt.U, Pt.locs, Pt.cells, Pt.slots] at X' e1 e2 h1 h2 h3 st hcl
    subst h1; subst h2; subst h3
    exact Or.inr ⟨q, (T.setVm vm₁).calling g' mk (Value.ref b :: As).toArray, t, U', L, E, ce, hT, X', hL, e1, e2, hq, hce, hcv, vx_cls hW₁ hcl, st⟩
theorem vx_runS (S : CallFix p m c cc nL s args Ts own) (hM : vx_Met l y ws rm Pc Qc XC mc ms free) (cw : CallB R s args own index y bytes maxL ret ws rm mc ms n ∧ (Cond.static y).before args s = true) (hp : PreS s H Pc As)
    (hg : g.method = m) (hn : As.length = n) (hsize : g.locals.size = nL) (hstack : g.stack = As.reverse ++ rest) (hW : 2 * g.monitorRoom + (rest.map fun v => v.category).sum ≤ 8) (hdg : decode cc g.pc = .ok (.invokestatic index, 3)) (hf : cells + mc ≤ R.cells ∧ slots + ms ≤ R.slots) :
    vx_Run p l e R s m args below meth c H locs cells slots mc ms g rest (Qc As.toArray) XC free := by
  have hK : vx_Back l R p e below s args y 3 8 (PreOf R mc ms Pc) (PostOf Qc mc ms free) (vx_Post XC mc ms free) := vx_callBack cw.1 hM hp.1
  obtain ⟨⟨-, -, -, -, -, -, hcode, hini, hy, hlen, hl⟩, hstt⟩ := cw
  obtain ⟨hx, hb, hml, ho, -⟩ := S
  intro T hT X
  rcases vx_callS X hx (bytes := bytes) (maxL := maxL) (ret := ret) ho hl hstt hini hcode hy hK hg (hsize.trans hml.symm) (argsL := As) (rest := rest) (fun sig h => hn.trans (hlen sig h)) hstack hW (by rw [hb]; exact hdg)
    (fun vm₁ hW₁ => ⟨hf.1, hf.2, hp.2 (T.setVm vm₁) hT hW₁⟩) with ⟨v, vm₁, ⟨U', l2, c2, s2⟩, hW₁, X', ⟨g', mk, t, L, e1, e2, hq, h1, hL, h2, h3⟩, st⟩ | ⟨q, vm₁, ⟨U', l2, c2, s2⟩, hW₁, X', ⟨g', mk, t, L, E, ce, e1, e2, hq, hce, hcv, hcl, h1, hL, h2, h3⟩, st⟩
  · dsimp only [Pt.U, Pt.locs, Pt.cells, Pt.slots] at X' e1 e2 h1 h2 h3 st
    subst h1; subst h2; subst h3
    exact Or.inl ⟨v, (T.setVm vm₁).calling g' mk As.toArray, t, U', L, hT, X', hL, e1, e2, hq, st⟩
  · dsimp only [Pt.U, Pt.locs, Pt.cells, Pt.slots] at X' e1 e2 h1 h2 h3 st hcl
    subst h1; subst h2; subst h3
    exact Or.inr ⟨q, (T.setVm vm₁).calling g' mk As.toArray, t, U', L, E, ce, hT, X', hL, e1, e2, hq, hce, hcv, vx_cls hW₁ hcl, st⟩
end Runs
section Rows
variable {p : Program} {l : Launch} {e : Env} {R : Room} {s : State} {m : MethodId} {args : Array Value} {below : List Frame} {meth : Method} {c : Code} {H : Heap} {locs : List Loc} {cells slots : Nat} {Q : State → Prop}
variable {mc ms : Nat} {free : Addr → Prop} {A0 A1 : Nat → Prop} {H0 : Heap} {a : Array Value} {pc : Nat} {ls : Array Slot} {st0 rest : List Value}
theorem vx_keep {st₀ t T' : State} {L : List Loc} (h0 : st₀.heap = H) (e1 : T'.heap = t.heap) (hS : va_S A0 H0 H locs) (hA : ∀ q, q < H.size → A1 q → A0 q) (hf : ∀ q, free q → A0 q) (hL : ∀ q ∈ L, free q.base) (hF : va_F A1 st₀ t) :
    H.size ≤ T'.heap.size ∧ (∀ q : Nat, q < H.size → ¬ A1 q → T'.heap[q]? = H[q]?) ∧ va_S A0 H0 T'.heap (locs ++ L) := by
  obtain ⟨hz, hk⟩ := hF
  rw [h0] at hz hk
  exact ⟨by rw [e1]; exact hz, fun q h1 h2 => by rw [e1]; exact hk q h1 h2,
    ⟨Nat.le_trans hS.1 (by rw [e1]; exact hz), fun q h1 h2 => by rw [e1, hk q (Nat.lt_of_lt_of_le h1 hS.1) (fun z => h2 (hA q (Nat.lt_of_lt_of_le h1 hS.1) z))]; exact hS.2.1 q h1 h2, fun q hq => by
      rcases List.mem_append.mp hq with h | h
      · exact hS.2.2 q h
      · exact hf _ (hL q h)⟩⟩
theorem vx_calli {S SX : Type} {post : Int32 → S → Prop} {px : SX → Prop} {B : S → State → Prop} {BX : String → SX → State → Prop} {AX : Nat → Prop} (hr : vx_Run p l e R s m args below meth c H locs cells slots mc ms (F0 m pc ls st0) rest (va_Qi post B A1 a) (vx_X px BX AX) free) (hS : va_S A0 H0 H locs) (hA : ∀ q, q < H.size → A1 q → A0 q) (hf : ∀ q, free q → A0 q) (hAX : ∀ q, q < H.size → AX q → A0 q)
    (kx : ∀ (E : String) (ce : Cell) (q9 : Addr) (u : SX) (t : State) (H1 : Heap) (locs1 : List Loc), t.heap = H1 → s.vm.Alike t.vm → px u → BX E u t → H.size ≤ H1.size → (∀ q : Nat, q < H.size → ¬ AX q → H1[q]? = H[q]?) → va_S A0 H0 H1 locs1 → H1[q9]? = some ce → ce.vm = .none → s.vm.findClass E = some ce.cls → vx_W p l e R s m args below meth c H1 locs1 (cells + mc) (slots + ms) Q (F0 m pc ls rest) q9)
    (kk : ∀ (r : Int32) (u : S) (t : State) (H1 : Heap) (locs1 : List Loc), t.heap = H1 → s.vm.Alike t.vm → post r u → B u t → H.size ≤ H1.size → (∀ q : Nat, q < H.size → ¬ A1 q → H1[q]? = H[q]?) → va_S A0 H0 H1 locs1 → W p l e R s m args below meth c H1 locs1 (cells + mc) (slots + ms) Q (F0 m (pc + 3) ls (.int r :: rest))) : W p l e R s m args below meth c H locs cells slots Q (F0 m pc ls st0) := by
  intro T hT X
  rcases hr T hT X with ⟨v, st₀, t, T', L, h0, X', hL, e1, e2, ⟨⟨r, u, hv, hp, hb⟩, hF⟩, st⟩ | ⟨q, st₀, t, T', L, E, ce, h0, X', hL, e1, e2, ⟨u, hp, hb, hF⟩, hce, hcv, hcl, st⟩
  · cases hv
    obtain ⟨k1, k2, k3⟩ := vx_keep h0 e1 hS hA hf hL hF
    obtain ⟨t2, a1, b1⟩ := kk r u t T'.heap (locs ++ L) e1.symm (by rw [← e2]; exact X'.warmed.alike) hp hb k1 k2 k3 T' rfl X'
    exact ⟨t2, st t2 a1, b1⟩
  · obtain ⟨k1, k2, k3⟩ := vx_keep h0 e1 hS hAX hf hL hF
    obtain ⟨t2, a1, b1⟩ := kx E ce q u t T'.heap (locs ++ L) e1.symm (by rw [← e2]; exact X'.warmed.alike) hp hb k1 k2 k3 (by rw [e1]; exact hce) hcv hcl T' rfl X'
    exact ⟨t2, st.trans a1, b1⟩
theorem vx_calll {S SX : Type} {post : Int64 → S → Prop} {px : SX → Prop} {B : S → State → Prop} {BX : String → SX → State → Prop} {AX : Nat → Prop} (hr : vx_Run p l e R s m args below meth c H locs cells slots mc ms (F0 m pc ls st0) rest (va_Ql post B A1 a) (vx_X px BX AX) free) (hS : va_S A0 H0 H locs) (hA : ∀ q, q < H.size → A1 q → A0 q) (hf : ∀ q, free q → A0 q) (hAX : ∀ q, q < H.size → AX q → A0 q)
    (kx : ∀ (E : String) (ce : Cell) (q9 : Addr) (u : SX) (t : State) (H1 : Heap) (locs1 : List Loc), t.heap = H1 → s.vm.Alike t.vm → px u → BX E u t → H.size ≤ H1.size → (∀ q : Nat, q < H.size → ¬ AX q → H1[q]? = H[q]?) → va_S A0 H0 H1 locs1 → H1[q9]? = some ce → ce.vm = .none → s.vm.findClass E = some ce.cls → vx_W p l e R s m args below meth c H1 locs1 (cells + mc) (slots + ms) Q (F0 m pc ls rest) q9)
    (kk : ∀ (r : Int64) (u : S) (t : State) (H1 : Heap) (locs1 : List Loc), t.heap = H1 → s.vm.Alike t.vm → post r u → B u t → H.size ≤ H1.size → (∀ q : Nat, q < H.size → ¬ A1 q → H1[q]? = H[q]?) → va_S A0 H0 H1 locs1 → W p l e R s m args below meth c H1 locs1 (cells + mc) (slots + ms) Q (F0 m (pc + 3) ls (.long r :: rest))) : W p l e R s m args below meth c H locs cells slots Q (F0 m pc ls st0) := by
  intro T hT X
  rcases hr T hT X with ⟨v, st₀, t, T', L, h0, X', hL, e1, e2, ⟨⟨r, u, hv, hp, hb⟩, hF⟩, st⟩ | ⟨q, st₀, t, T', L, E, ce, h0, X', hL, e1, e2, ⟨u, hp, hb, hF⟩, hce, hcv, hcl, st⟩
  · cases hv
    obtain ⟨k1, k2, k3⟩ := vx_keep h0 e1 hS hA hf hL hF
    obtain ⟨t2, a1, b1⟩ := kk r u t T'.heap (locs ++ L) e1.symm (by rw [← e2]; exact X'.warmed.alike) hp hb k1 k2 k3 T' rfl X'
    exact ⟨t2, st t2 a1, b1⟩
  · obtain ⟨k1, k2, k3⟩ := vx_keep h0 e1 hS hAX hf hL hF
    obtain ⟨t2, a1, b1⟩ := kx E ce q u t T'.heap (locs ++ L) e1.symm (by rw [← e2]; exact X'.warmed.alike) hp hb k1 k2 k3 (by rw [e1]; exact hce) hcv hcl T' rfl X'
    exact ⟨t2, st.trans a1, b1⟩
theorem vx_callf {S SX : Type} {post : UInt32 → S → Prop} {px : SX → Prop} {B : S → State → Prop} {BX : String → SX → State → Prop} {AX : Nat → Prop} (hr : vx_Run p l e R s m args below meth c H locs cells slots mc ms (F0 m pc ls st0) rest (va_Qf post B A1 a) (vx_X px BX AX) free) (hS : va_S A0 H0 H locs) (hA : ∀ q, q < H.size → A1 q → A0 q) (hf : ∀ q, free q → A0 q) (hAX : ∀ q, q < H.size → AX q → A0 q)
    (kx : ∀ (E : String) (ce : Cell) (q9 : Addr) (u : SX) (t : State) (H1 : Heap) (locs1 : List Loc), t.heap = H1 → s.vm.Alike t.vm → px u → BX E u t → H.size ≤ H1.size → (∀ q : Nat, q < H.size → ¬ AX q → H1[q]? = H[q]?) → va_S A0 H0 H1 locs1 → H1[q9]? = some ce → ce.vm = .none → s.vm.findClass E = some ce.cls → vx_W p l e R s m args below meth c H1 locs1 (cells + mc) (slots + ms) Q (F0 m pc ls rest) q9)
    (kk : ∀ (r : UInt32) (u : S) (t : State) (H1 : Heap) (locs1 : List Loc), t.heap = H1 → s.vm.Alike t.vm → post r u → B u t → H.size ≤ H1.size → (∀ q : Nat, q < H.size → ¬ A1 q → H1[q]? = H[q]?) → va_S A0 H0 H1 locs1 → W p l e R s m args below meth c H1 locs1 (cells + mc) (slots + ms) Q (F0 m (pc + 3) ls (.float r :: rest))) : W p l e R s m args below meth c H locs cells slots Q (F0 m pc ls st0) := by
  intro T hT X
  rcases hr T hT X with ⟨v, st₀, t, T', L, h0, X', hL, e1, e2, ⟨⟨r, u, hv, hp, hb⟩, hF⟩, st⟩ | ⟨q, st₀, t, T', L, E, ce, h0, X', hL, e1, e2, ⟨u, hp, hb, hF⟩, hce, hcv, hcl, st⟩
  · cases hv
    obtain ⟨k1, k2, k3⟩ := vx_keep h0 e1 hS hA hf hL hF
    obtain ⟨t2, a1, b1⟩ := kk r u t T'.heap (locs ++ L) e1.symm (by rw [← e2]; exact X'.warmed.alike) hp hb k1 k2 k3 T' rfl X'
    exact ⟨t2, st t2 a1, b1⟩
  · obtain ⟨k1, k2, k3⟩ := vx_keep h0 e1 hS hAX hf hL hF
    obtain ⟨t2, a1, b1⟩ := kx E ce q u t T'.heap (locs ++ L) e1.symm (by rw [← e2]; exact X'.warmed.alike) hp hb k1 k2 k3 (by rw [e1]; exact hce) hcv hcl T' rfl X'
    exact ⟨t2, st.trans a1, b1⟩
theorem vx_calld {S SX : Type} {post : UInt64 → S → Prop} {px : SX → Prop} {B : S → State → Prop} {BX : String → SX → State → Prop} {AX : Nat → Prop} (hr : vx_Run p l e R s m args below meth c H locs cells slots mc ms (F0 m pc ls st0) rest (va_Qd post B A1 a) (vx_X px BX AX) free) (hS : va_S A0 H0 H locs) (hA : ∀ q, q < H.size → A1 q → A0 q) (hf : ∀ q, free q → A0 q) (hAX : ∀ q, q < H.size → AX q → A0 q)
    (kx : ∀ (E : String) (ce : Cell) (q9 : Addr) (u : SX) (t : State) (H1 : Heap) (locs1 : List Loc), t.heap = H1 → s.vm.Alike t.vm → px u → BX E u t → H.size ≤ H1.size → (∀ q : Nat, q < H.size → ¬ AX q → H1[q]? = H[q]?) → va_S A0 H0 H1 locs1 → H1[q9]? = some ce → ce.vm = .none → s.vm.findClass E = some ce.cls → vx_W p l e R s m args below meth c H1 locs1 (cells + mc) (slots + ms) Q (F0 m pc ls rest) q9)
    (kk : ∀ (r : UInt64) (u : S) (t : State) (H1 : Heap) (locs1 : List Loc), t.heap = H1 → s.vm.Alike t.vm → post r u → B u t → H.size ≤ H1.size → (∀ q : Nat, q < H.size → ¬ A1 q → H1[q]? = H[q]?) → va_S A0 H0 H1 locs1 → W p l e R s m args below meth c H1 locs1 (cells + mc) (slots + ms) Q (F0 m (pc + 3) ls (.double r :: rest))) : W p l e R s m args below meth c H locs cells slots Q (F0 m pc ls st0) := by
  intro T hT X
  rcases hr T hT X with ⟨v, st₀, t, T', L, h0, X', hL, e1, e2, ⟨⟨r, u, hv, hp, hb⟩, hF⟩, st⟩ | ⟨q, st₀, t, T', L, E, ce, h0, X', hL, e1, e2, ⟨u, hp, hb, hF⟩, hce, hcv, hcl, st⟩
  · cases hv
    obtain ⟨k1, k2, k3⟩ := vx_keep h0 e1 hS hA hf hL hF
    obtain ⟨t2, a1, b1⟩ := kk r u t T'.heap (locs ++ L) e1.symm (by rw [← e2]; exact X'.warmed.alike) hp hb k1 k2 k3 T' rfl X'
    exact ⟨t2, st t2 a1, b1⟩
  · obtain ⟨k1, k2, k3⟩ := vx_keep h0 e1 hS hAX hf hL hF
    obtain ⟨t2, a1, b1⟩ := kx E ce q u t T'.heap (locs ++ L) e1.symm (by rw [← e2]; exact X'.warmed.alike) hp hb k1 k2 k3 (by rw [e1]; exact hce) hcv hcl T' rfl X'
    exact ⟨t2, st.trans a1, b1⟩
theorem vx_callv {S SX : Type} {post : S → Prop} {px : SX → Prop} {B : S → State → Prop} {BX : String → SX → State → Prop} {AX : Nat → Prop} (hr : vx_Run p l e R s m args below meth c H locs cells slots mc ms (F0 m pc ls st0) rest (va_Qv post B A1 a) (vx_X px BX AX) free) (hS : va_S A0 H0 H locs) (hA : ∀ q, q < H.size → A1 q → A0 q) (hf : ∀ q, free q → A0 q) (hAX : ∀ q, q < H.size → AX q → A0 q)
    (kx : ∀ (E : String) (ce : Cell) (q9 : Addr) (u : SX) (t : State) (H1 : Heap) (locs1 : List Loc), t.heap = H1 → s.vm.Alike t.vm → px u → BX E u t → H.size ≤ H1.size → (∀ q : Nat, q < H.size → ¬ AX q → H1[q]? = H[q]?) → va_S A0 H0 H1 locs1 → H1[q9]? = some ce → ce.vm = .none → s.vm.findClass E = some ce.cls → vx_W p l e R s m args below meth c H1 locs1 (cells + mc) (slots + ms) Q (F0 m pc ls rest) q9)
    (kk : ∀ (u : S) (t : State) (H1 : Heap) (locs1 : List Loc), t.heap = H1 → s.vm.Alike t.vm → post u → B u t → H.size ≤ H1.size → (∀ q : Nat, q < H.size → ¬ A1 q → H1[q]? = H[q]?) → va_S A0 H0 H1 locs1 → W p l e R s m args below meth c H1 locs1 (cells + mc) (slots + ms) Q (F0 m (pc + 3) ls (rest))) : W p l e R s m args below meth c H locs cells slots Q (F0 m pc ls st0) := by
  intro T hT X
  rcases hr T hT X with ⟨v, st₀, t, T', L, h0, X', hL, e1, e2, ⟨⟨u, hv, hp, hb⟩, hF⟩, st⟩ | ⟨q, st₀, t, T', L, E, ce, h0, X', hL, e1, e2, ⟨u, hp, hb, hF⟩, hce, hcv, hcl, st⟩
  · cases hv
    obtain ⟨k1, k2, k3⟩ := vx_keep h0 e1 hS hA hf hL hF
    obtain ⟨t2, a1, b1⟩ := kk u t T'.heap (locs ++ L) e1.symm (by rw [← e2]; exact X'.warmed.alike) hp hb k1 k2 k3 T' rfl X'
    exact ⟨t2, st t2 a1, b1⟩
  · obtain ⟨k1, k2, k3⟩ := vx_keep h0 e1 hS hAX hf hL hF
    obtain ⟨t2, a1, b1⟩ := kx E ce q u t T'.heap (locs ++ L) e1.symm (by rw [← e2]; exact X'.warmed.alike) hp hb k1 k2 k3 (by rw [e1]; exact hce) hcv hcl T' rfl X'
    exact ⟨t2, st.trans a1, b1⟩
/-- caught by the row x of this method's table; the rows ahead don't take it -/
theorem vx_catch {own name : String} {E : String} {ce : Cell} {q : Addr} (hown : s.vm.findClass own = some m.cls) (pre : List ExceptionTableEntry) (x : ExceptionTableEntry) (suf : List ExceptionTableEntry) (hsplit : c.exceptionTable.toList = pre ++ x :: suf)
    (hpass : ∀ z ∈ pre, covers z pc = false ∨ (z.catchType ≠ 0 ∧ ∃ nm : String, (Cond.classLink own z.catchType nm).before args s = true ∧ va_Nc E nm s)) (hx : covers x pc = true) (h0 : x.catchType ≠ 0)
    (hlink : (Cond.classLink own x.catchType name).before args s = true) (hcast : (Cond.castable E name).before args s = true) (hcell : H[q]? = some ce) (hv : ce.vm = .none) (hcl : s.vm.findClass E = some ce.cls)
    (kk : W p l e R s m args below meth c H locs cells slots Q (F0 m x.handlerPc ls [.ref q])) : vx_W p l e R s m args below meth c H locs cells slots Q (F0 m pc ls rest) q := by
  intro T hT X
  have hpl : e.platform.magicAccessors = ({} : Platform).magicAccessors := by rw [X.admits.platform]
  obtain ⟨c3, c4, hc3, hc4, hasg⟩ := Cond.castable_spec hcast
  cases Option.some.inj (hc3.symm.trans hcl)
  obtain ⟨c5, hc5, hcl5⟩ := Cond.classLink_spec hown hlink e.platform hpl
  cases Option.some.inj (hc4.symm.trans hc5)
  obtain ⟨vm', X', st⟩ := X.thenCaughtThrough q (g := F0 m pc ls rest) rfl (Steps.refl _) (by rw [hT]; exact hcell) (by rw [hv]; rfl) (by obtain ⟨k9, h9, -⟩ := Vm.findClass_spec hcl; exact ⟨k9, h9⟩) pre x suf hsplit
    (fun z hz => by
      rcases hpass z hz with h | ⟨hz0, nm, hl1, hn1⟩
      · exact Or.inl h
      · obtain ⟨c6, hc6, hcl6⟩ := Cond.classLink_spec hown hl1 e.platform hpl
        obtain ⟨a8, b8, h1, h2, h3⟩ := hn1
        cases Option.some.inj (h1.symm.trans hcl)
        cases Option.some.inj (h2.symm.trans hc6)
        exact Or.inr ⟨hz0, _, hcl6, h3⟩) hx (Or.inr ⟨h0, c4, hcl5, hasg⟩)
  obtain ⟨t, a1, b1⟩ := kk (T.setVm vm') hT X'
  exact ⟨t, st.trans a1, b1⟩
end Rows
section Ends
variable {p : Program} {l : Launch} {e : Env} {R : Room} {s : State} {m : MethodId} {args : Array Value} {below : List Frame} {meth : Method} {c : Code} {H : Heap} {locs : List Loc} {cells slots : Nat} {Q : State → Prop}
variable {mc ms : Nat} {free : Addr → Prop} {A0 A1 : Nat → Prop} {H0 : Heap} {a : Array Value} {ls : Array Slot} {st0 rest : List Value}
variable {Qc : Array Value → State → Outcome → State → Prop} {XC : String → State → State → Prop}
/-- what a body that may throw owes at its end -/
def vx_MQ (below : List Frame) (Qc : Array Value → State → Outcome → State → Prop) (XC : String → State → State → Prop) (a : Array Value) (s : State) (mc ms : Nat) (free : Addr → Prop) : State → Prop := fun t =>
  ∃ o, t.status = .running ∧ Ended t below o ∧ vx_Q Qc XC mc ms free a s o t
theorem vx_ret {g : JFrame} {mc ms : Nat} (k : W p l e R s m args below meth c H locs cells slots (MQ below Qc args s mc ms free) g) : W p l e R s m args below meth c H locs cells slots (vx_MQ below Qc XC args s mc ms free) g := by
  intro T hT X
  obtain ⟨t, a1, o, b1, b2, b3, b4⟩ := k T hT X
  exact ⟨t, a1, o, b1, b2, Or.inl ⟨b3, b4⟩⟩
/-- not caught here: it goes on to the caller -/
theorem vx_widen {g : JFrame} {q : Addr} {k n : Nat} (h1 : cells ≤ k) (h2 : slots ≤ n) (kk : vx_W p l e R s m args below meth c H locs k n Q g q) : vx_W p l e R s m args below meth c H locs cells slots Q g q := fun T hT X => kk T hT (stand_widen X h1 h2)
theorem vx_out {pc : Nat} {E : String} {ce : Cell} {q : Addr} {mc ms : Nat} (hout : ∀ x ∈ c.exceptionTable.toList, covers x pc = false) (hlocks : meth.locks = false) (hcell : H[q]? = some ce) (hv : ce.vm = .none) (hcl : s.vm.findClass E = some ce.cls)
    (hx : ∀ t : State, t.heap = H → s.vm.Alike t.vm → XC E s t) (hf : ∀ z ∈ locs, free z.base) (hc : cells ≤ mc) (hs : slots ≤ ms) :
    vx_W p l e R s m args below meth c H locs cells slots (vx_MQ below Qc XC args s mc ms free) (F0 m pc ls rest) q := by
  intro T hT X
  obtain ⟨st1, hrun, hend, hW, hsm⟩ := X.leaveThrown q (g := F0 m pc ls rest) rfl rfl rfl hout hlocks
  have hcell9 : (T.setFrames (.throwing q :: below)).heap[q]? = some ce := by
    show T.heap[q]? = some ce
    rw [hT]; exact hcell
  exact ⟨_, st1, .threw q, hrun, hend, Or.inr ⟨q, rfl, E, ce, locs, hx _ hT hW.alike, hcell9, hv, hcl, hW, hsm.mono hc hs, hf⟩⟩
theorem vx_frame {U : State} {k n : Nat} (h : s.sameButNew ({ U with vm := s.vm } : State) locs k n) : s.heap.size ≤ U.heap.size ∧ ∀ q : Nat, q < s.heap.size → (∀ z ∈ locs, z.base ≠ q) → U.heap[q]? = s.heap[q]? := by
  obtain ⟨-, h2, -, -, -, h6⟩ := h
  refine ⟨h2, fun q hq hz => ?_⟩
  obtain ⟨c9, e1, e2, e3, e4⟩ := h6 q _ (Array.getElem?_eq_getElem hq)
  have hs : c9.slots = (s.heap[q]).slots := Array.ext_getElem? fun i => e4 i fun hm => hz _ hm rfl
  have h9 : c9 = s.heap[q] := by
    rw [hs] at e2
    exact e2
  have e5 : U.heap[q]? = some c9 := e1
  rw [e5, h9, Array.getElem?_eq_getElem hq]
/-- the words of a throw but the four that speak of the heap -/
def vx_no (w : Cond) : Bool := decide (w ≠ .isRef (.static Bundle.tN "UNASSIGNED_STACK" Bundle.steD)) && decide (w ≠ .isRef (.static Bundle.tN "SUPPRESSED_SENTINEL" Bundle.listD)) && decide (w ≠ .laysStatic Bundle.tN "UNASSIGNED_STACK" Bundle.steD) && decide (w ≠ .laysStatic Bundle.tN "SUPPRESSED_SENTINEL" Bundle.listD)
def vx_at0 (own : String) (ic : Nat) (X : String) (names : List String) : List Cond := (Bundle.ownAtoms0 own ic X names).filter vx_no
def vx_atS (own : String) (ic : Nat) (X : String) (names : List String) : List Cond := (Bundle.ownAtoms own ic X names).filter vx_no
/-- a word that the tables alone decide, or a good one -/
def vx_ot (w : Cond) : Bool := w.onTables || goodWord w
theorem vx_ot_at {args a' : Array Value} {s U : State} {w : Cond} (hW : s.WarmedH U.vm) (hvm : s.vm = U.vm) (hg : vx_ot w = true) (h : w.before args s = true) : w.before a' U = true := by
  simp only [vx_ot, Bool.or_eq_true] at hg
  rcases hg with hg | hg
  · exact va_tabs hg hvm h
  · exact word_at hW (good_of_word hg) h
/-- a list's words: the good ones out of the method's own list, the others by premises of their own -/
theorem vx_hat {args : Array Value} {s : State} {L B : List Cond} (h1 : ∀ w ∈ L.filter goodWord, w.before args s = true) (h2 : ∀ w ∈ L.filter (fun w => !goodWord w), w ∈ B) (h3 : ∀ w ∈ B, w.before args s = true) : ∀ w ∈ L, w.before args s = true := by
  intro w hw
  by_cases g : goodWord w = true
  · exact h1 w (List.mem_filter.mpr ⟨hw, g⟩)
  · refine h3 w (h2 w (List.mem_filter.mpr ⟨hw, ?_⟩))
    show (!goodWord w) = true
    cases hgw : goodWord w
    · rfl
    · exact absurd hgw g
theorem vx_c {args : Array Value} {s : State} {w : Cond} {B : List Cond} (h : w.before args s = true) (t : ∀ w ∈ B, w.before args s = true) : ∀ w' ∈ w :: B, w'.before args s = true := fun w' h' => (List.mem_cons.mp h').elim (fun e => by rw [e]; exact h) (t w')
theorem vx_n {args : Array Value} {s : State} : ∀ w ∈ ([] : List Cond), w.before args s = true := fun _ h => nomatch h
theorem vx_own {args : Array Value} {s : State} {L : List Cond} (h1 : ∀ w ∈ L.filter vx_no, w.before args s = true)
    (hU : (Cond.isRef (.static Bundle.tN "UNASSIGNED_STACK" Bundle.steD)).before args s = true) (hN : (Cond.isRef (.static Bundle.tN "SUPPRESSED_SENTINEL" Bundle.listD)).before args s = true)
    (lU : (Cond.laysStatic Bundle.tN "UNASSIGNED_STACK" Bundle.steD).before args s = true) (lN : (Cond.laysStatic Bundle.tN "SUPPRESSED_SENTINEL" Bundle.listD).before args s = true) : ∀ w ∈ L, w.before args s = true := by
  intro w hw
  by_cases e1 : w = .isRef (.static Bundle.tN "UNASSIGNED_STACK" Bundle.steD)
  · rw [e1]; exact hU
  · by_cases e2 : w = .isRef (.static Bundle.tN "SUPPRESSED_SENTINEL" Bundle.listD)
    · rw [e2]; exact hN
    · by_cases e3 : w = .laysStatic Bundle.tN "UNASSIGNED_STACK" Bundle.steD
      · rw [e3]; exact lU
      · by_cases e4 : w = .laysStatic Bundle.tN "SUPPRESSED_SENTINEL" Bundle.listD
        · rw [e4]; exact lN
        · exact h1 w (List.mem_filter.mpr ⟨hw, by unfold vx_no; rw [decide_eq_true e1, decide_eq_true e2, decide_eq_true e3, decide_eq_true e4]; rfl⟩)
/-- where a static field lies, its class's statics cell in H -/
def vx_L (C n d : String) (A : Nat → Prop) (U : State) (H : Heap) : Prop := ∃ (c : ClassId) (k : Class) (i : Nat) (f : Field) (a : Nat) (cell : Cell), U.vm.findClass C = some c ∧ U.fieldFound? C n d = some (c, k, i, f) ∧ f.isStatic = true ∧ k.statics = some a ∧ H[a]? = some cell ∧ cell.vm.isStatics = true ∧ cell.cls = c ∧ f.slot < cell.slots.size ∧ k.staticTypes[f.slot]? = some f.type ∧ ¬ A a
theorem vx_L.moved {C n d : String} {A : Nat → Prop} {u U : State} {H : Heap} (hvm : u.vm.Alike U.vm) (h : vx_L C n d A u H) : vx_L C n d A U H := by
  obtain ⟨c, k, i, f, a, cell, h1, h2, h3, h4, h5, h6, h7, h8, h9, h10⟩ := h
  obtain ⟨k', hi', he⟩ := State.fieldFound?_setVm hvm h2
  exact ⟨c, k', i, f, a, cell, by rw [hvm.findClass]; exact h1, hi', h3, by rw [he]; exact h4, h5, h6, h7, h8, by rw [he]; exact h9, h10⟩
theorem vx_L.kept {C n d : String} {A : Nat → Prop} {U : State} {H H1 : Heap} (h : vx_L C n d A U H) (hq : ∀ a : Nat, a < H.size → ¬ A a → H1[a]? = H[a]?) : vx_L C n d A U H1 := by
  obtain ⟨c, k, i, f, a, cell, h1, h2, h3, h4, h5, h6, h7, h8, h9, h10⟩ := h
  exact ⟨c, k, i, f, a, cell, h1, h2, h3, h4, by rw [hq a (Array.getElem?_eq_some_iff.mp h5).1 h10]; exact h5, h6, h7, h8, h9, h10⟩
theorem vx_L.narrow {C n d : String} {A B : Nat → Prop} {U : State} {H : Heap} (h : vx_L C n d A U H) (hAB : ∀ q, B q → A q) : vx_L C n d B U H := by
  obtain ⟨c, k, i, f, a, cell, h1, h2, h3, h4, h5, h6, h7, h8, h9, h10⟩ := h
  exact ⟨c, k, i, f, a, cell, h1, h2, h3, h4, h5, h6, h7, h8, h9, fun z => h10 (hAB _ z)⟩
theorem vx_L.word {C n d : String} {A : Nat → Prop} {s : State} {args : Array Value} (h : vx_L C n d A s s.heap) : (Cond.laysStatic C n d).before args s = true := by
  obtain ⟨c, k, i, f, a, cell, h1, h2, h3, h4, h5, h6, h7, h8, h9, -⟩ := h
  show (Cond.laysStatic C n d).holds args s none s [] = true
  exact Cond.laysStatic_of h1 h2 h3 h4 h5 h6 h7 h8 h9
/-- .. and what it holds: null or some reference -/
def vx_Zq (C n d : String) (A : Nat → Prop) (U : State) (H : Heap) : Prop := va_Zq C n d A U H ∧ vx_L C n d A U H
theorem vx_Zq.moved {C n d : String} {A : Nat → Prop} {u U : State} {H : Heap} (hvm : u.vm.Alike U.vm) (h : vx_Zq C n d A u H) : vx_Zq C n d A U H := ⟨va_Zq.moved hvm h.1, vx_L.moved hvm h.2⟩
theorem vx_Zq.kept {C n d : String} {A : Nat → Prop} {U : State} {H H1 : Heap} (h : vx_Zq C n d A U H) (hq : ∀ a : Nat, a < H.size → ¬ A a → H1[a]? = H[a]?) : vx_Zq C n d A U H1 := ⟨va_Zq.kept h.1 hq, vx_L.kept h.2 hq⟩
theorem vx_Zq.narrow {C n d : String} {A B : Nat → Prop} {U : State} {H : Heap} (h : vx_Zq C n d A U H) (hAB : ∀ q, B q → A q) : vx_Zq C n d B U H := ⟨va_Zq.narrow h.1 hAB, vx_L.narrow h.2 hAB⟩
theorem vx_Zqof {args : Array Value} {s : State} {C n d : String} {A : Nat → Prop} (hl : (Cond.laysStatic C n d).before args s = true) (hini : (Cond.initialized C).before args s = true) (h : (Cond.isRef (.static C n d)).before args s = true) (hA : ∀ a : Nat, a < s.heap.size → ¬ A a) : vx_Zq C n d A s s.heap := by
  refine ⟨va_Zqof hl hini h hA, ?_⟩
  obtain ⟨c, k, i, f, a, cell, h1, h2, h3, h4, h5, h6, h7, h8, h9⟩ := Cond.laysStatic_spec hl
  exact ⟨c, k, i, f, a, cell, h1, h2, h3, h4, h5, h6, h7, h8, h9, hA a (Array.getElem?_eq_some_iff.mp h5).1⟩
theorem vx_isRef {C n d : String} {v : Value} {A : Nat → Prop} {s : State} {args : Array Value} (h : va_Z C n d v A s s.heap) (hv : v.isRef = true) : (Cond.isRef (.static C n d)).before args s = true := by
  obtain ⟨cf, kf, fi, f, a, cell, h1, h2, h3, h4, h5, h6, h7, -⟩ := h
  have he : (Term.static C n d).eval args s none [] s = some v := by
    simp [Term.eval, State.fieldNamed?, h1, h2, h4, h5, h6, h7]
  simp only [Cond.before, Cond.holds, Cond.value, he]
  cases v <;> simp_all [Value.isRef]
theorem vx_isRefq {C n d : String} {A : Nat → Prop} {s : State} {args : Array Value} (h : va_Zq C n d A s s.heap) : (Cond.isRef (.static C n d)).before args s = true := by
  rcases h with h | ⟨t, h⟩
  · exact vx_isRef h rfl
  · exact vx_isRef h rfl
/-- the same frame, seen from here: as if the method were called anew in this heap -/
theorem vx_rebase {T : State} (X : Stand p l e R s m args below meth c T locs cells slots) {R' : Room} (hf : R'.frames ≤ R.frames) (hl : R'.locals ≤ R.locals) (hc : cells + R'.cells ≤ R.cells) (hs : slots + R'.slots ≤ R.slots) :
    Stand p l e R' ((T.setVm s.vm).setFrames (.invoking m args :: below)) m args below meth c T [] 0 0 := by
  have htop : (T.setVm s.vm).topJava?.isSome := X.here.top
  have hF : ((T.setVm s.vm).setFrames (.invoking m args :: below)).frames = .invoking m args :: below := State.frames_setFrames _ (State.cur_lt_of_top htop)
  obtain ⟨g₀, hg0⟩ := Option.isSome_iff_exists.mp htop
  obtain ⟨r, hr⟩ := State.topJava?_eq_some.mp hg0
  have hl9 : e.platform.stackLimits (T.setVm s.vm).me = e.platform.stackLimits s.me := X.limits
  have hb9 : (T.setVm s.vm).me.stackBytes = s.me.stackBytes := X.bytes
  refine ⟨X.admits, X.cas, X.clock, hF, ?_, X.hears, X.method, X.code, X.here, X.tail, X.warmed, ?_, ?_, ?_⟩
  · have h := X.room
    have hU : ((T.setVm s.vm).setFrames (.invoking m args :: below)).localsInUse = s.localsInUse := by
      rw [State.localsInUse_invoking hF (meth := meth) (c := c) X.method X.code, State.localsInUse_invoking X.frames X.method X.code]
    simp only [State.hasRoom, Bool.and_eq_true, decide_eq_true_eq] at h ⊢
    obtain ⟨⟨⟨⟨h1, h2, h3, h4, h5, h6⟩, h7⟩, h8⟩, h9⟩ := h
    rw [X.frames, List.length_cons] at h2 h3
    have q1 := X.heapSize
    have q2 := X.used
    simp only [hF, hU, List.length_cons, State.stackLimits_setFrames, State.stackBytes_setFrames, hl9, hb9]
    refine ⟨⟨⟨⟨by omega, by omega, by omega, by omega, by omega, h6⟩, ?_⟩, ?_⟩, X.book⟩
    · show T.heap.size + R'.cells ≤ e.platform.maxCells
      omega
    · show T.slotsUsed + R'.slots ≤ e.platform.maxSlots
      omega
  · rw [State.stackLimits_setFrames]; rfl
  · rw [State.stackBytes_setFrames]; rfl
  · refine ⟨?_, Nat.le_refl _, Nat.le_refl _, ?_, ?_, fun a c9 h9 => ⟨c9, h9, rfl, rfl, fun _ _ => rfl⟩⟩
    · obtain ⟨t, ht, -⟩ := State.frames_cons hr
      show T.setVm s.vm = { ((T.setVm s.vm).setFrames (.invoking m args :: below)).setFrames (T.setVm s.vm).frames with heap := T.heap, slotsUsed := T.slotsUsed }
      rw [State.setFrames_setFrames, State.setFrames_self ht]
      rfl
    · show T.slotsUsed = T.slotsUsed + ((T.heap.toList.drop T.heap.size).map (·.slots.size)).sum
      rw [List.drop_eq_nil_of_le (Nat.le_of_eq Array.length_toList)]
      rfl
    · show ((T.heap.toList.drop T.heap.size).map (·.slots.size)).sum ≤ 0
      rw [List.drop_eq_nil_of_le (Nat.le_of_eq Array.length_toList)]
      exact Nat.le_refl _
/-- 'throw new E()': new; dup; invokespecial; athrow -/
theorem vx_throw0 {cc : ByteArray} {pc : Nat} (hexec : p.tables.exec = Jvm.exec) (hb : c.code = cc) (hl : l.stackTraces = false) {own cls : String} {names : List String} {ik ic mc ms : Nat} {A : Nat → Prop}
    (hown : s.vm.findClass own = some m.cls) (hcls : Bundle.fit cls = true) (hnames : ∀ n ∈ names, Bundle.fit n = true)
    (hk : (Cond.classLink own ik cls).before args s = true) (hini : (Cond.initialized cls).before args s = true) (hat : ∀ w ∈ vx_at0 own ic cls names, w.before args s = true)
    (hgood : ∀ w ∈ Cond.classLink own ik cls :: Cond.initialized cls :: vx_at0 own ic cls names, vx_ot w = true)
    (hU : vx_Zq Bundle.tN "UNASSIGNED_STACK" Bundle.steD A s s.heap) (hN : vx_Zq Bundle.tN "SUPPRESSED_SENTINEL" Bundle.listD A s s.heap) (hS : va_S A s.heap H locs) (hsize : ls.size = c.maxLocals)
    (d0 : decode cc pc = .ok (.new ik, 3)) (d3 : decode cc (pc + 3) = .ok (.dup, 1)) (d4 : decode cc (pc + 4) = .ok (.invokespecial ic, 3)) (d7 : decode cc (pc + 7) = .ok (.athrow, 1))
    (hout : ∀ x ∈ c.exceptionTable.toList, covers x (pc + 7) = false)
    (hRframes : names.length + 3 < R.frames) (hRlocals : (rest.map fun v => v.category).sum + (13 * (names.length + 1) + 42) ≤ R.locals) (hRcells : cells + 1 ≤ R.cells) (hRslots : slots + 6 ≤ R.slots) (hlocks : meth.locks = false)
    (hx : ∀ t : State, s.vm.Alike t.vm → H.size ≤ t.heap.size → (∀ q : Nat, q < H.size → t.heap[q]? = H[q]?) → XC cls s t)
    (hf : ∀ z ∈ locs, free z.base) (hc : cells + 1 ≤ mc) (hs : slots + 6 ≤ ms) :
    W p l e R s m args below meth c H locs cells slots (vx_MQ below Qc XC args s mc ms free) (F0 m pc ls rest) := by
  intro T hT X
  have htr : e.platform.stackTraces = false := (show e.platform.stackTraces = l.stackTraces by rw [X.admits.platform]).trans hl
  have Y := vx_rebase X (R' := { frames := R.frames, locals := R.locals, cells := 1, slots := 6 }) (Nat.le_refl _) (Nat.le_refl _) hRcells hRslots
  obtain ⟨s', hA⟩ : ∃ z, z = (T.setVm s.vm).setFrames (.invoking m args :: below) := ⟨_, rfl⟩
  rw [← hA] at Y
  have hvm : s'.vm = s.vm := by rw [hA]; rfl
  have hhp : s'.heap = H := by rw [hA]; exact hT
  have hW0 : s.WarmedH s'.vm := by rw [hvm]; exact State.WarmedH.refl s
  have hat' : ∀ w ∈ vx_at0 own ic cls names, w.before args s' = true := fun w hw => vx_ot_at hW0 hvm.symm (hgood w (List.mem_cons_of_mem _ (List.mem_cons_of_mem _ hw))) (hat w hw)
  have hk' : (Cond.classLink own ik cls).before args s' = true := vx_ot_at hW0 hvm.symm (hgood _ List.mem_cons_self) hk
  have hini' : (Cond.initialized cls).before args s' = true := vx_ot_at hW0 hvm.symm (hgood _ (List.mem_cons_of_mem _ List.mem_cons_self)) hini
  have hU' : vx_Zq Bundle.tN "UNASSIGNED_STACK" Bundle.steD A s' s'.heap := by rw [hhp]; exact vx_Zq.moved hW0.alike (hU.kept hS.2.1)
  have hN' : vx_Zq Bundle.tN "SUPPRESSED_SENTINEL" Bundle.listD A s' s'.heap := by rw [hhp]; exact vx_Zq.moved hW0.alike (hN.kept hS.2.1)
  have h : ∀ w ∈ Bundle.ownAtoms0 own ic cls names, w.before args s' = true := vx_own hat' (vx_isRefq hU'.1) (vx_isRefq hN'.1) hU'.2.word hN'.2.word
  have hown' : s'.vm.findClass own = some m.cls := by rw [hvm]; exact hown
  have hins : (Cond.instantiable cls 6).before args s' = true := h _ (by simp [Bundle.ownAtoms0])
  obtain ⟨vm₁, cX, kX, hfX, hkX, -, -, X₁, st1⟩ := Y.newCold hexec (own := own) (C := cls) (index := ik) (n := 6) hown' hk' hins hini'
    (g := F0 m pc ls rest) rfl (by rw [hb]; exact d0) (Nat.le_refl _) (Nat.le_refl _)
  generalize hT1 : (T.setVm vm₁).pushCell { cls := cX, slots := kX.instanceTypes.map defaultValue, vm := .none } = T1 at X₁ st1
  have hcat : (Value.ref T.heap.size).category = 1 := rfl
  have hcellA : T1.heap[T.heap.size]? = some (freshCell cX kX) := by rw [← hT1]; exact State.heap_pushCell_size _ _
  have d3' : decode c.code (pc + 3) = .ok (.dup, 1) := by rw [hb]; exact d3
  obtain ⟨U, hsteps, hrun, hend, hW, hsame, ce, hce, hO⟩ := X₁.ctorThrow0 hexec htr (own := own) (cls := cls) (names := names) (ic := ic) hown' hcls hnames h (fun x hx => nomatch hx) hfX hkX hcellA (by rw [hhp, hT]; exact Nat.le_refl _)
    (g := { method := m, pc := pc + 4, locals := ls, stack := .ref T.heap.size :: .ref T.heap.size :: rest, locked := none }) rfl hsize rfl rfl (rest := rest) rfl
    (by rw [hb]; exact d4) (by rw [hb]; exact d7) hout hRframes (by simp only [List.map_cons, List.sum_cons, hcat]; omega) hlocks
  obtain ⟨f1, f2⟩ := vx_frame hsame
  rw [hhp] at f1 f2
  have hWs : s.WarmedH U.vm := State.WarmedH.trans hW0 hW
  have hcl : s.vm.findClass cls = some ce.cls := by
    have h9 := hO.cls
    rw [hvm] at h9
    exact h9
  have hall : s.sameButNew ({ U with vm := s.vm } : State) locs mc ms := by
    subst hA
    obtain ⟨e1, e2⟩ := hsame
    rw [State.setFrames_setFrames] at e1
    have h2 : (T.setVm s.vm).sameButNew ({ U with vm := s.vm } : State) [] (0 + 1) (0 + 6) := ⟨e1, e2⟩
    have h3 := X.same.trans h2
    rw [List.append_nil] at h3
    exact h3.mono hc hs
  refine ⟨U, ?_, .threw T.heap.size, hrun, hend, Or.inr ⟨T.heap.size, rfl, cls, ce, locs, hx U hWs.alike f1 (fun q hq => f2 q hq (fun z hz => nomatch hz)), hce, hO.vm, hcl, hWs, hall, hf⟩⟩
  refine st1 _ ?_
  show Steps p.tables e below (T1.setTop { method := m, pc := pc + 3, locals := ls, stack := .ref T.heap.size :: rest, locked := none }) _
  jvm_step X₁.here [X₁.here.top, hexec, d3', Value.category]
  exact hsteps
/-- 'throw new E("text")': new; dup; ldc; invokespecial; athrow -/
theorem vx_throwS {cc : ByteArray} {pc : Nat} (hexec : p.tables.exec = Jvm.exec) (hb : c.code = cc) (hl : l.stackTraces = false) {own cls text : String} {names : List String} {ik is ic mc ms sa : Nat} {A : Nat → Prop}
    (hown : s.vm.findClass own = some m.cls) (hcls : Bundle.fit cls = true) (hnames : ∀ n ∈ names, Bundle.fit n = true)
    (hk : (Cond.classLink own ik cls).before args s = true) (hini : (Cond.initialized cls).before args s = true) (hstr : vk_R own is text sa s) (hat : ∀ w ∈ vx_atS own ic cls names, w.before args s = true)
    (hgood : ∀ w ∈ Cond.classLink own ik cls :: Cond.initialized cls :: vx_atS own ic cls names, vx_ot w = true)
    (hU : vx_Zq Bundle.tN "UNASSIGNED_STACK" Bundle.steD A s s.heap) (hN : vx_Zq Bundle.tN "SUPPRESSED_SENTINEL" Bundle.listD A s s.heap) (hS : va_S A s.heap H locs) (hsize : ls.size = c.maxLocals)
    (d0 : decode cc pc = .ok (.new ik, 3)) (d3 : decode cc (pc + 3) = .ok (.dup, 1)) (d4 : decode cc (pc + 4) = .ok (.ldc is, 2)) (d6 : decode cc (pc + 6) = .ok (.invokespecial ic, 3)) (d9 : decode cc (pc + 9) = .ok (.athrow, 1))
    (hout : ∀ x ∈ c.exceptionTable.toList, covers x (pc + 9) = false)
    (hRframes : names.length + 3 < R.frames) (hRlocals : (rest.map fun v => v.category).sum + (13 * (names.length + 1) + 43) ≤ R.locals) (hRcells : cells + 1 ≤ R.cells) (hRslots : slots + 6 ≤ R.slots) (hlocks : meth.locks = false)
    (hx : ∀ t : State, s.vm.Alike t.vm → H.size ≤ t.heap.size → (∀ q : Nat, q < H.size → t.heap[q]? = H[q]?) → XC cls s t)
    (hf : ∀ z ∈ locs, free z.base) (hc : cells + 1 ≤ mc) (hs : slots + 6 ≤ ms) :
    W p l e R s m args below meth c H locs cells slots (vx_MQ below Qc XC args s mc ms free) (F0 m pc ls rest) := by
  intro T hT X
  have htr : e.platform.stackTraces = false := (show e.platform.stackTraces = l.stackTraces by rw [X.admits.platform]).trans hl
  have Y := vx_rebase X (R' := { frames := R.frames, locals := R.locals, cells := 1, slots := 6 }) (Nat.le_refl _) (Nat.le_refl _) hRcells hRslots
  obtain ⟨s', hA⟩ : ∃ z, z = (T.setVm s.vm).setFrames (.invoking m args :: below) := ⟨_, rfl⟩
  rw [← hA] at Y
  have hvm : s'.vm = s.vm := by rw [hA]; rfl
  have hhp : s'.heap = H := by rw [hA]; exact hT
  have hW0 : s.WarmedH s'.vm := by rw [hvm]; exact State.WarmedH.refl s
  have hat' : ∀ w ∈ vx_atS own ic cls names, w.before args s' = true := fun w hw => vx_ot_at hW0 hvm.symm (hgood w (List.mem_cons_of_mem _ (List.mem_cons_of_mem _ hw))) (hat w hw)
  have hk' : (Cond.classLink own ik cls).before args s' = true := vx_ot_at hW0 hvm.symm (hgood _ List.mem_cons_self) hk
  have hini' : (Cond.initialized cls).before args s' = true := vx_ot_at hW0 hvm.symm (hgood _ (List.mem_cons_of_mem _ List.mem_cons_self)) hini
  have hU' : vx_Zq Bundle.tN "UNASSIGNED_STACK" Bundle.steD A s' s'.heap := by rw [hhp]; exact vx_Zq.moved hW0.alike (hU.kept hS.2.1)
  have hN' : vx_Zq Bundle.tN "SUPPRESSED_SENTINEL" Bundle.listD A s' s'.heap := by rw [hhp]; exact vx_Zq.moved hW0.alike (hN.kept hS.2.1)
  have h : ∀ w ∈ Bundle.ownAtoms own ic cls names, w.before args s' = true := vx_own hat' (vx_isRefq hU'.1) (vx_isRefq hN'.1) hU'.2.word hN'.2.word
  have hown' : s'.vm.findClass own = some m.cls := by rw [hvm]; exact hown
  have hins : (Cond.instantiable cls 6).before args s' = true := h _ (by simp [Bundle.ownAtoms])
  obtain ⟨vm₁, cX, kX, hfX, hkX, -, -, X₁, st1⟩ := Y.newCold hexec (own := own) (C := cls) (index := ik) (n := 6) hown' hk' hins hini'
    (g := F0 m pc ls rest) rfl (by rw [hb]; exact d0) (Nat.le_refl _) (Nat.le_refl _)
  generalize hT1 : (T.setVm vm₁).pushCell { cls := cX, slots := kX.instanceTypes.map defaultValue, vm := .none } = T1 at X₁ st1
  have hcat : (Value.ref T.heap.size).category = 1 := rfl
  have hcellA : T1.heap[T.heap.size]? = some (freshCell cX kX) := by rw [← hT1]; exact State.heap_pushCell_size _ _
  have d3' : decode c.code (pc + 3) = .ok (.dup, 1) := by rw [hb]; exact d3
  have d4' : decode c.code (pc + 4) = .ok (.ldc is, 2) := by rw [hb]; exact d4
  have hstr' : vk_R own is text sa s' := vk_R.warm hW0 hstr
  obtain ⟨U, hsteps, hrun, hend, hW, hsame, ce, hce, hO⟩ := X₁.ctorThrowS hexec htr (own := own) (cls := cls) (names := names) (ic := ic) hown' hcls hnames h (fun x hx => nomatch hx) hfX hkX hcellA (by rw [hhp, hT]; exact Nat.le_refl _) (msg := .ref sa) rfl
    (g := { method := m, pc := pc + 6, locals := ls, stack := .ref sa :: .ref T.heap.size :: .ref T.heap.size :: rest, locked := none }) rfl hsize rfl rfl (rest := rest) rfl
    (by rw [hb]; exact d6) (by rw [hb]; exact d9) hout hRframes (by simp only [List.map_cons, List.sum_cons, hcat]; omega) hlocks
  obtain ⟨f1, f2⟩ := vx_frame hsame
  rw [hhp] at f1 f2
  have hWs : s.WarmedH U.vm := State.WarmedH.trans hW0 hW
  have hcl : s.vm.findClass cls = some ce.cls := by
    have h9 := hO.cls
    rw [hvm] at h9
    exact h9
  have hall : s.sameButNew ({ U with vm := s.vm } : State) locs mc ms := by
    subst hA
    obtain ⟨e1, e2⟩ := hsame
    rw [State.setFrames_setFrames] at e1
    have h2 : (T.setVm s.vm).sameButNew ({ U with vm := s.vm } : State) [] (0 + 1) (0 + 6) := ⟨e1, e2⟩
    have h3 := X.same.trans h2
    rw [List.append_nil] at h3
    exact h3.mono hc hs
  refine ⟨U, ?_, .threw T.heap.size, hrun, hend, Or.inr ⟨T.heap.size, rfl, cls, ce, locs, hx U hWs.alike f1 (fun q hq => f2 q hq (fun z hz => nomatch hz)), hce, hO.vm, hcl, hWs, hall, hf⟩⟩
  refine st1 _ ?_
  show Steps p.tables e below (T1.setTop { method := m, pc := pc + 3, locals := ls, stack := .ref T.heap.size :: rest, locked := none }) _
  jvm_step X₁.here [X₁.here.top, hexec, d3', Value.category]
  exact X₁.ldcString hexec (own := own) (text := text) (index := is) (a := sa) hown' hstr'.1 hstr'.2
    (g := { method := m, pc := pc + 4, locals := ls, stack := .ref T.heap.size :: .ref T.heap.size :: rest, locked := none }) rfl d4' _ hsteps
/-- 'throw new E("text")', the text by a wide index -/
theorem vx_throwSW {cc : ByteArray} {pc : Nat} (hexec : p.tables.exec = Jvm.exec) (hb : c.code = cc) (hl : l.stackTraces = false) {own cls text : String} {names : List String} {ik is ic mc ms sa : Nat} {A : Nat → Prop}
    (hown : s.vm.findClass own = some m.cls) (hcls : Bundle.fit cls = true) (hnames : ∀ n ∈ names, Bundle.fit n = true)
    (hk : (Cond.classLink own ik cls).before args s = true) (hini : (Cond.initialized cls).before args s = true) (hstr : vk_R own is text sa s) (hat : ∀ w ∈ vx_atS own ic cls names, w.before args s = true)
    (hgood : ∀ w ∈ Cond.classLink own ik cls :: Cond.initialized cls :: vx_atS own ic cls names, vx_ot w = true)
    (hU : vx_Zq Bundle.tN "UNASSIGNED_STACK" Bundle.steD A s s.heap) (hN : vx_Zq Bundle.tN "SUPPRESSED_SENTINEL" Bundle.listD A s s.heap) (hS : va_S A s.heap H locs) (hsize : ls.size = c.maxLocals)
    (d0 : decode cc pc = .ok (.new ik, 3)) (d3 : decode cc (pc + 3) = .ok (.dup, 1)) (d4 : decode cc (pc + 4) = .ok (.ldc_w is, 3)) (d7 : decode cc (pc + 7) = .ok (.invokespecial ic, 3)) (d10 : decode cc (pc + 10) = .ok (.athrow, 1))
    (hout : ∀ x ∈ c.exceptionTable.toList, covers x (pc + 10) = false)
    (hRframes : names.length + 3 < R.frames) (hRlocals : (rest.map fun v => v.category).sum + (13 * (names.length + 1) + 43) ≤ R.locals) (hRcells : cells + 1 ≤ R.cells) (hRslots : slots + 6 ≤ R.slots) (hlocks : meth.locks = false)
    (hx : ∀ t : State, s.vm.Alike t.vm → H.size ≤ t.heap.size → (∀ q : Nat, q < H.size → t.heap[q]? = H[q]?) → XC cls s t)
    (hf : ∀ z ∈ locs, free z.base) (hc : cells + 1 ≤ mc) (hs : slots + 6 ≤ ms) :
    W p l e R s m args below meth c H locs cells slots (vx_MQ below Qc XC args s mc ms free) (F0 m pc ls rest) := by
  intro T hT X
  have htr : e.platform.stackTraces = false := (show e.platform.stackTraces = l.stackTraces by rw [X.admits.platform]).trans hl
  have Y := vx_rebase X (R' := { frames := R.frames, locals := R.locals, cells := 1, slots := 6 }) (Nat.le_refl _) (Nat.le_refl _) hRcells hRslots
  obtain ⟨s', hA⟩ : ∃ z, z = (T.setVm s.vm).setFrames (.invoking m args :: below) := ⟨_, rfl⟩
  rw [← hA] at Y
  have hvm : s'.vm = s.vm := by rw [hA]; rfl
  have hhp : s'.heap = H := by rw [hA]; exact hT
  have hW0 : s.WarmedH s'.vm := by rw [hvm]; exact State.WarmedH.refl s
  have hat' : ∀ w ∈ vx_atS own ic cls names, w.before args s' = true := fun w hw => vx_ot_at hW0 hvm.symm (hgood w (List.mem_cons_of_mem _ (List.mem_cons_of_mem _ hw))) (hat w hw)
  have hk' : (Cond.classLink own ik cls).before args s' = true := vx_ot_at hW0 hvm.symm (hgood _ List.mem_cons_self) hk
  have hini' : (Cond.initialized cls).before args s' = true := vx_ot_at hW0 hvm.symm (hgood _ (List.mem_cons_of_mem _ List.mem_cons_self)) hini
  have hU' : vx_Zq Bundle.tN "UNASSIGNED_STACK" Bundle.steD A s' s'.heap := by rw [hhp]; exact vx_Zq.moved hW0.alike (hU.kept hS.2.1)
  have hN' : vx_Zq Bundle.tN "SUPPRESSED_SENTINEL" Bundle.listD A s' s'.heap := by rw [hhp]; exact vx_Zq.moved hW0.alike (hN.kept hS.2.1)
  have h : ∀ w ∈ Bundle.ownAtoms own ic cls names, w.before args s' = true := vx_own hat' (vx_isRefq hU'.1) (vx_isRefq hN'.1) hU'.2.word hN'.2.word
  have hown' : s'.vm.findClass own = some m.cls := by rw [hvm]; exact hown
  have hins : (Cond.instantiable cls 6).before args s' = true := h _ (by simp [Bundle.ownAtoms])
  obtain ⟨vm₁, cX, kX, hfX, hkX, -, -, X₁, st1⟩ := Y.newCold hexec (own := own) (C := cls) (index := ik) (n := 6) hown' hk' hins hini'
    (g := F0 m pc ls rest) rfl (by rw [hb]; exact d0) (Nat.le_refl _) (Nat.le_refl _)
  generalize hT1 : (T.setVm vm₁).pushCell { cls := cX, slots := kX.instanceTypes.map defaultValue, vm := .none } = T1 at X₁ st1
  have hcat : (Value.ref T.heap.size).category = 1 := rfl
  have hcellA : T1.heap[T.heap.size]? = some (freshCell cX kX) := by rw [← hT1]; exact State.heap_pushCell_size _ _
  have d3' : decode c.code (pc + 3) = .ok (.dup, 1) := by rw [hb]; exact d3
  have d4' : decode c.code (pc + 4) = .ok (.ldc_w is, 3) := by rw [hb]; exact d4
  have hstr' : vk_R own is text sa s' := vk_R.warm hW0 hstr
  obtain ⟨U, hsteps, hrun, hend, hW, hsame, ce, hce, hO⟩ := X₁.ctorThrowS hexec htr (own := own) (cls := cls) (names := names) (ic := ic) hown' hcls hnames h (fun x hx => nomatch hx) hfX hkX hcellA (by rw [hhp, hT]; exact Nat.le_refl _) (msg := .ref sa) rfl
    (g := { method := m, pc := pc + 7, locals := ls, stack := .ref sa :: .ref T.heap.size :: .ref T.heap.size :: rest, locked := none }) rfl hsize rfl rfl (rest := rest) rfl
    (by rw [hb]; exact d7) (by rw [hb]; exact d10) hout hRframes (by simp only [List.map_cons, List.sum_cons, hcat]; omega) hlocks
  obtain ⟨f1, f2⟩ := vx_frame hsame
  rw [hhp] at f1 f2
  have hWs : s.WarmedH U.vm := State.WarmedH.trans hW0 hW
  have hcl : s.vm.findClass cls = some ce.cls := by
    have h9 := hO.cls
    rw [hvm] at h9
    exact h9
  have hall : s.sameButNew ({ U with vm := s.vm } : State) locs mc ms := by
    subst hA
    obtain ⟨e1, e2⟩ := hsame
    rw [State.setFrames_setFrames] at e1
    have h2 : (T.setVm s.vm).sameButNew ({ U with vm := s.vm } : State) [] (0 + 1) (0 + 6) := ⟨e1, e2⟩
    have h3 := X.same.trans h2
    rw [List.append_nil] at h3
    exact h3.mono hc hs
  refine ⟨U, ?_, .threw T.heap.size, hrun, hend, Or.inr ⟨T.heap.size, rfl, cls, ce, locs, hx U hWs.alike f1 (fun q hq => f2 q hq (fun z hz => nomatch hz)), hce, hO.vm, hcl, hWs, hall, hf⟩⟩
  refine st1 _ ?_
  show Steps p.tables e below (T1.setTop { method := m, pc := pc + 3, locals := ls, stack := .ref T.heap.size :: rest, locked := none }) _
  jvm_step X₁.here [X₁.here.top, hexec, d3', Value.category]
  exact X₁.ldcStringW hexec (own := own) (text := text) (index := is) (a := sa) hown' hstr'.1 hstr'.2
    (g := { method := m, pc := pc + 4, locals := ls, stack := .ref T.heap.size :: .ref T.heap.size :: rest, locked := none }) rfl d4' _ hsteps
end Ends
section Bodies
variable {l : Launch}
theorem vx_ofW {y : MethodName} {ws ws' : List Cond} {rm : Room} {Pc : Array Value → State → Prop} {Qc : Array Value → State → Outcome → State → Prop} {XC : String → State → State → Prop} {mc ms : Nat} {free : Addr → Prop} {cc : ByteArray} {maxL : Nat} {ret : Option FieldType}
    (hy : plainName y.cls = true) (hw : ws = Cond.code y cc maxL ret :: ws')
    (body : ∀ p e s m args below meth c s₁, BodyLoose p l y (headSpec ws rm) cc maxL ret e s m args below meth c s₁ → c.maxLocals = maxL → (∀ x ∈ c.exceptionTable.toList, False) → Pc args s →
      W p l e (headSpec ws rm).room s m args below meth c s.heap [] 0 0 (vx_MQ below Qc XC args s mc ms free) (entryFrame m args maxL)) : vx_Met l y ws rm Pc Qc XC mc ms free := by
  refine MetFree.of_bodyS (code := cc) (maxLocals := maxL) (ret := ret) hy ?_ ?_
  · intro args s m h hn
    obtain ⟨meth, c, h1, h2, h3, h4, h5, h6, -, -⟩ := Cond.code_spec hn (atoms_spec (ws := ws) h _ (by rw [hw]; exact List.mem_cons_self))
    exact ⟨meth, c, h1, h2, h3, h4, h5, h6⟩
  · intro p e s m args below meth c s₁ B hml hP _
    have hh0 : s₁.heap = s.heap := by rw [B.state]; rfl
    have ht : ∀ x ∈ c.exceptionTable.toList, False := by
      obtain ⟨meth9, c9, h1, h2, -, -, -, -, h7, -⟩ := Cond.code_spec B.named (atoms_spec (ws := ws) B.pre _ (by rw [hw]; exact List.mem_cons_self))
      cases Option.some.inj (h1.symm.trans B.method)
      cases Option.some.inj (h2.symm.trans (Stand.of_body B).code)
      intro x hx
      rw [Array.isEmpty_iff.mp h7] at hx
      cases hx
    obtain ⟨t, a1, o, b1, b2, b3⟩ := body p e s m args below meth c s₁ B hml ht hP s₁ hh0 (Stand.of_body B)
    exact ⟨t, o, a1, b1, b2, b3⟩
/-- the table of a body with handlers -/
theorem vx_table {p : Program} {x y : MethodName} {S : Spec} {cc bytes : ByteArray} {maxL maxL' : Nat} {ret ret' : Option FieldType} {e : Env} {s s₁ : State} {m : MethodId} {args : Array Value} {below : List Frame} {meth : Method} {c : Code} {hh : List (Nat × Nat × Nat × Nat)}
    (B : BodyLoose p l y S cc maxL ret e s m args below meth c s₁) (h : (Cond.codeWith y bytes maxL' ret' hh).before args s = true) : c.exceptionTable.toList = tableOf hh := by
  obtain ⟨m9, meth9, c9, hn9, h1, h2, -, -, h6, -⟩ := Cond.codeWith_spec h
  cases Option.some.inj (hn9.symm.trans B.named)
  cases Option.some.inj (h1.symm.trans B.method)
  cases Option.some.inj (h2.symm.trans (Stand.of_body B).code)
  rw [← h6, table_eq]
end Bodies
end VXA
/-! ===== END ===== -/
/-! ===== BEGIN a static call of a method with an exception table ===== -/
section VXS
variable {p : Program} {l : Launch} {e : Env} {R : Room} {s : State} {m : MethodId} {args : Array Value} {below : List Frame} {meth : Method} {c : Code} {T : State} {H : Heap} {locs : List Loc} {cells slots : Nat}
abbrev vx_CSW (R : Room) (s : State) (args : Array Value) (own : String) (index : Nat) (y : MethodName) (bytes : ByteArray) (maxL : Nat) (ret : Option FieldType) (hh : List (Nat × Nat × Nat × Nat)) (ws : List Cond) (rm : Room) (mc ms n : Nat) : Prop :=
  (rm.cells = mc ∧ rm.slots = ms ∧ rm.frames + 1 ≤ R.frames ∧ 8 + (maxL + 11) + rm.locals ≤ R.locals ∧ (∀ w ∈ ws, ∀ (a' : Array Value) (U : State), s.WarmedH U.vm → w.before a' U = true) ∧ Cond.codeWith y bytes maxL ret hh ∈ ws) ∧
  (Cond.codeWith y bytes maxL ret hh).before args s = true ∧ (Cond.initialized y.cls).before args s = true ∧ (y.cls ≠ "java/lang/invoke/MethodHandle" ∧ y.cls ≠ "java/lang/invoke/VarHandle") ∧
  (∀ sig, parseMethodDescriptor y.desc = some sig → n = sig.parameters.length) ∧ (Cond.methodLink own index y).before args s = true ∧ (Cond.static y).before args s = true
theorem vx_cwSW {own : String} {index maxL mc ms : Nat} {y : MethodName} {bytes : ByteArray} {ret : Option FieldType} {hh : List (Nat × Nat × Nat × Nat)} {Ts ws ws' : List Cond} {rm : Room} (n : Nat) (ht : ∀ w ∈ Ts, w.before args s = true) (hT : GoodIn Ts (va_wsS own index y ws)) (hw : ws = Cond.codeWith y bytes maxL ret hh :: ws') (hrc : rm.cells = mc) (hrs : rm.slots = ms)
    (hd : y.cls ≠ "java/lang/invoke/MethodHandle" ∧ y.cls ≠ "java/lang/invoke/VarHandle" ∧ (parseMethodDescriptor y.desc).map (fun d => d.parameters.length) = some n) (hR : rm.frames + 1 ≤ R.frames ∧ 8 + (maxL + 11) + rm.locals ≤ R.locals) :
    vx_CSW R s args own index y bytes maxL ret hh ws rm mc ms n := by
  have ok : ∀ w ∈ va_wsS own index y ws, w.before args s = true := fun w h => ht w (hT w h).1
  have hG : GoodIn Ts ws := fun w h => hT w (by unfold va_wsS; exact List.mem_append_right _ h)
  have hc : Cond.codeWith y bytes maxL ret hh ∈ ws := by rw [hw]; exact List.mem_cons_self
  refine ⟨⟨hrc, hrs, hR.1, hR.2, pay_in ht hG, hc⟩, ht _ (hG _ hc).1, ok _ (by simp [va_wsS]), ⟨hd.1, hd.2.1⟩, fun sig h => ?_, ok _ (by simp [va_wsS]), ok _ (by simp [va_wsS])⟩
  have h2 := hd.2.2
  rw [h] at h2
  exact (Option.some.inj h2).symm
theorem vx_callSW (X : Stand p l e R s m args below meth c T locs cells slots) (hexec : p.tables.exec = Jvm.exec) {own : String} {index : Nat} {y : MethodName} {bytes : ByteArray} {maxL : Nat} {ret : Option FieldType} {hh : List (Nat × Nat × Nat × Nat)}
    (hown : s.vm.findClass own = some m.cls) (hlink : (Cond.methodLink own index y).before args s = true) (hstat : (Cond.static y).before args s = true) (hinit : (Cond.initialized y.cls).before args s = true)
    (hcode : (Cond.codeWith y bytes maxL ret hh).before args s = true) (hy : y.cls ≠ "java/lang/invoke/MethodHandle" ∧ y.cls ≠ "java/lang/invoke/VarHandle")
    {W9 : Nat} {Pre : Pt → Array Value → Prop} {Post : Pt → Array Value → Option Value → Pt → Prop} (hK : Back l R p e below s args y 3 W9 Pre Post)
    {g : JFrame} (hg : g.method = m) (hsize : g.locals.size = c.maxLocals) {argsL rest : List Value} (hlen : ∀ sig, parseMethodDescriptor y.desc = some sig → argsL.length = sig.parameters.length)
    (hstack : g.stack = argsL.reverse ++ rest) (hW : 2 * g.monitorRoom + (rest.map fun v => v.category).sum ≤ W9) (hdg : decode c.code g.pc = .ok (.invokestatic index, 3))
    (hpre : ∀ vm₁, s.WarmedH vm₁ → Pre ⟨T.setVm vm₁, locs, cells, slots⟩ argsL.toArray) :
    ∃ (v : Option Value) (vm₁ : Vm) (B : Pt), s.WarmedH vm₁ ∧ Stand p l e R s m args below meth c B.U B.locs B.cells B.slots ∧ Post ⟨T.setVm vm₁, locs, cells, slots⟩ argsL.toArray v B ∧
      ∀ target, Steps p.tables e below (B.U.setTop { g with pc := g.pc + 3, stack := v.toList ++ rest }) target → Steps p.tables e below (T.setTop g) target := by
  obtain ⟨mk, methM, cM, hnamed, hmethM, -, -, -, -, -, -, hsigM⟩ := Cond.codeWith_spec hcode
  have hstatic : methM.isStatic = true := Cond.static_spec hnamed hmethM hstat
  obtain ⟨kP, hkP, -⟩ := className_of_methodNamed hnamed
  have hinitP : kP.init = .initialized := Cond.initialized_spec (findClass_of_methodNamed hnamed) hkP hinit
  obtain ⟨vm₁, X₁, hstep₁⟩ := X.invokestatic hexec hown hlink hnamed hmethM hstatic hkP hinitP hy (g := g) hg (argsL := argsL) (rest := rest) (hlen _ hsigM) hstack hdg
  obtain ⟨v, B, X', hpost, hsteps⟩ := hK m meth c ⟨T.setVm vm₁, locs, cells, slots⟩ { g with stack := rest } (.invokestatic index) mk argsL.toArray X₁ hg hsize hdg hW (X₁.named hnamed) (hpre vm₁ X₁.warmed)
  exact ⟨v, vm₁, B, X₁.warmed, X', hpost, fun target h => hstep₁ _ fun acts => by rw [doInvoke_state]; exact hsteps.trans h⟩
theorem vx_runSW {y : MethodName} {bytes cc : ByteArray} {maxL nL mc ms n index : Nat} {ret : Option FieldType} {hh : List (Nat × Nat × Nat × Nat)} {ws : List Cond} {rm : Room} {Pc : Array Value → State → Prop} {Qc : Array Value → State → Outcome → State → Prop} {free : Addr → Prop} {Ts : List Cond} {own : String} {As rest : List Value} {g : JFrame}
    (S : CallFix p m c cc nL s args Ts own) (hM : Met l y ws rm Pc Qc mc ms free) (cw : vx_CSW R s args own index y bytes maxL ret hh ws rm mc ms n) (hp : PreS s H Pc As)
    (hg : g.method = m) (hn : As.length = n) (hsize : g.locals.size = nL) (hstack : g.stack = As.reverse ++ rest) (hW : 2 * g.monitorRoom + (rest.map fun v => v.category).sum ≤ 8) (hdg : decode cc g.pc = .ok (.invokestatic index, 3)) (hf : cells + mc ≤ R.cells ∧ slots + ms ≤ R.slots) :
    va_Run p l e R s m args below meth c H locs cells slots mc ms g rest (Qc As.toArray) (free) := by
  obtain ⟨⟨hrc, hrs, hfr, hlo, hws, hcw⟩, hcode, hini, hy, hlen, hl, hstt⟩ := cw
  have hK : Back l R p e below s args y 3 8 (PreOf R mc ms Pc) (PostOf Qc mc ms free) := va_backW (hh := hh) (bytes := bytes) (maxL := maxL) (ret := ret) hM hp.1 hrc hrs hfr hlo hws hcw (fun a' U hW => word_at hW (Or.inl (by first | rfl | simp [Cond.onTables, Cond.keeps, Cond.steady])) hini)
  obtain ⟨hx, hb, hml, ho, -⟩ := S
  intro T hT X
  obtain ⟨v, vm₁, ⟨U', l2, c2, s2⟩, hW₁, X', ⟨g', mk, t, L, e1, e2, hq, h1, hL, h2, h3⟩, st⟩ := vx_callSW X hx (hh := hh) (bytes := bytes) (maxL := maxL) (ret := ret) ho hl hstt hini hcode hy hK hg (hsize.trans hml.symm) (argsL := As) (rest := rest) (fun sig h => hn.trans (hlen sig h)) hstack hW (by rw [hb]; exact hdg)
    (fun vm₁ hW₁ => ⟨hf.1, hf.2, hp.2 (T.setVm vm₁) hT hW₁⟩)
  dsimp only [Pt.U, Pt.locs, Pt.cells, Pt.slots] at X' e1 e2 h1 h2 h3 st
  subst h1; subst h2; subst h3
  exact ⟨v, (T.setVm vm₁).calling g' mk As.toArray, t, U', L, hT, X', hL, e1, e2, hq, st⟩
/-- not caught here, past rows that name other classes: it goes on to the caller -/
theorem vx_outP {p : Program} {l : Launch} {e : Env} {R : Room} {s : State} {m : MethodId} {args : Array Value} {below : List Frame} {meth : Method} {c : Code} {H : Heap} {locs : List Loc} {cells slots : Nat} {free : Addr → Prop} {ls : Array Slot} {rest : List Value} {Qc : Array Value → State → Outcome → State → Prop} {XC : String → State → State → Prop}
    {pc : Nat} {own E : String} {ce : Cell} {q : Addr} {mc ms : Nat} (hown : s.vm.findClass own = some m.cls) (hlocks : meth.locks = false)
    (hpass : ∀ z ∈ c.exceptionTable.toList, covers z pc = false ∨ (z.catchType ≠ 0 ∧ ∃ nm : String, (Cond.classLink own z.catchType nm).before args s = true ∧ va_Nc E nm s)) (hcell : H[q]? = some ce) (hv : ce.vm = .none) (hcl : s.vm.findClass E = some ce.cls)
    (hx : ∀ t : State, t.heap = H → s.vm.Alike t.vm → XC E s t) (hf : ∀ z ∈ locs, free z.base) (hc : cells ≤ mc) (hs : slots ≤ ms) :
    vx_W p l e R s m args below meth c H locs cells slots (vx_MQ below Qc XC args s mc ms free) (F0 m pc ls rest) q := by
  intro T hT X
  have hpl : e.platform.magicAccessors = ({} : Platform).magicAccessors := by rw [X.admits.platform]
  obtain ⟨vm', hW', X', st⟩ := X.outThrough hlocks q (g := F0 m pc ls rest) rfl rfl rfl (cell := ce) (by rw [hT]; exact hcell) (by rw [hv]; rfl)
    (by obtain ⟨k9, h9, -⟩ := Vm.findClass_spec hcl; exact ⟨k9, h9⟩) (fun z hz => by
      rcases hpass z hz with h | ⟨hz0, nm, hl1, hn1⟩
      · exact Or.inl h
      · obtain ⟨c6, hc6, hcl6⟩ := Cond.classLink_spec hown hl1 e.platform hpl
        obtain ⟨a8, b8, h1, h2, h3⟩ := hn1
        cases Option.some.inj (h1.symm.trans hcl)
        cases Option.some.inj (h2.symm.trans hc6)
        exact Or.inr ⟨hz0, _, hcl6, h3⟩)
  obtain ⟨g₀, hfr⟩ := X'.frames_eq
  have hcell9 : ((T.setVm vm').setFrames (.throwing q :: below)).heap[q]? = some ce := by
    show T.heap[q]? = some ce
    rw [hT]; exact hcell
  have hend : Ended ((T.setVm vm').setFrames (.throwing q :: below)) below (.threw q) := State.frames_setFrames _ (State.cur_lt_of_frames hfr)
  refine ⟨(T.setVm vm').setFrames (.throwing q :: below), ?_, .threw q, X'.here.running, hend, Or.inr ⟨q, rfl, E, ce, locs, hx _ hT (X'.ends _).1.alike, hcell9, hv, hcl, (X'.ends _).1, (X'.ends _).2.mono hc hs, hf⟩⟩
  rw [X.pushThrowing_eq]
  exact st
/-- a thing of a world lies in the heap -/
theorem vx_lt {D : va_G} {cl : List vw_C} {ws : va_W} {H1 : Heap} (h : va_P D cl ws H1) {k : Nat} {q : Nat × va_E} (hk : ws[k]? = some q) : q.1 < H1.size := (h k q hk).lt
end VXS
/-! ===== END ===== -/
/-! ===== BEGIN methods with a table of their own: called by a name, returning or throwing ===== -/
section VXH
/-! vx_backW, vx_callVX, vx_callSX, vx_callVW, vx_runVW, vx_runVX, vx_runSX, vx_ofWH follow the same proofs as their sisters above (Free/Laws.lean, Shelf42/LK1.lean); vx_outP calls Shelf42/NT130.lean (outThrough). -/
section
variable {l : Launch} {R : Room} {p : Program} {e : Env} {below : List Frame} {s : State} {sargs : Array Value} {y : MethodName} {len W9 : Nat}
theorem vx_backW {ws : List Cond} {rm : Room} {Pc : Array Value → State → Prop} {Qc : Array Value → State → Outcome → State → Prop} {XC : String → State → State → Prop} {mc ms : Nat} {free : Addr → Prop} {bytes : ByteArray} {maxL : Nat} {ret : Option FieldType} {hh : List (Nat × Nat × Nat × Nat)}
    (hM : vx_Met l y ws rm Pc Qc XC mc ms free) (hblind : FrameBlind Pc) (hrc : rm.cells = mc) (hrs : rm.slots = ms)
    (hframes : rm.frames + 1 ≤ R.frames) (hlocals : W9 + (maxL + 11) + rm.locals ≤ R.locals)
    (hws : ∀ w ∈ ws, ∀ a' U, s.WarmedH U.vm → w.before a' U = true) (hcode : Cond.codeWith y bytes maxL ret hh ∈ ws) (hinit : ∀ a' U, s.WarmedH U.vm → (Cond.initialized y.cls).before a' U = true) :
    vx_Back l R p e below s sargs y len W9 (PreOf R mc ms Pc) (PostOf Qc mc ms free) (vx_Post XC mc ms free) := by
  intro m meth c A g ig mk a X hg hsize hdg hW hn hp
  have h1 : (headSpec ws rm).pre.before a A.U = true := atoms_intro fun w hw => hws w hw _ _ X.warmed
  have h2 : (Cond.codeWith y bytes maxL ret hh).before a A.U = true := hws _ hcode _ _ X.warmed
  have h3 : (Cond.initialized y.cls).before a A.U = true := hinit _ _ X.warmed
  have h4 : A.cells + (headSpec ws rm).room.cells ≤ R.cells := by rw [show (headSpec ws rm).room.cells = mc from hrc]; exact hp.1
  have h5 : A.slots + (headSpec ws rm).room.slots ≤ R.slots := by rw [show (headSpec ws rm).room.slots = ms from hrs]; exact hp.2.1
  have hPc : Pc a (A.U.calling g mk a) := hblind _ _ _ _ hp.2.2
  obtain ⟨U, Ls, c0, s0⟩ := A
  dsimp only [Pt.U, Pt.locs, Pt.cells, Pt.slots] at h1 h2 h3 h4 h5 X hn hPc ⊢
  obtain ⟨m9, methY, cY, hn9, hmY, hcY, -, hlY, -⟩ := Cond.codeWith_spec h2
  cases Option.some.inj (hn9.symm.trans hn)
  obtain ⟨kY, hkY, -⟩ := className_of_methodNamed hn
  have hinitY : kY.init = .initialized := Cond.initialized_spec (findClass_of_methodNamed hn) hkY h3
  have h : At U g.method c below := by rw [hg]; exact X.here
  have hlocals9 : W9 + (maxL + 11) + (headSpec ws rm).room.locals ≤ R.locals := hlocals
  have happ : (headSpec ws rm).appliesLoose y e.platform (U.calling g mk a) = true :=
    Spec.appliesLoose_calling (g := g) h hdg hn hkY hinitY
      (X.room_calling (g := g) (R' := (headSpec ws rm).room) hsize hmY hcY hframes (by rw [hlY]; omega) h4 h5) h1
  obtain ⟨mid, hmid⟩ := h.above
  have hfr : (U.setTop g).frames = (.java g :: mid) ++ below := by rw [State.frames_setTop' g h.top, hmid]; rfl
  obtain ⟨o, s₂, hsteps, -, hend, hq⟩ := Steps.callFree hM p X.admits X.cas X.clock (acts := []) hfr happ hPc trivial
  have hq' : vx_Q Qc XC mc ms free a (U.calling g mk a) o s₂ := hq
  rw [State.frames_setTop' g h.top] at hend
  obtain ⟨g₀, hg0⟩ := Option.isSome_iff_exists.mp h.top
  obtain ⟨r, hr⟩ := State.topJava?_eq_some.mp hg0
  have hr' : (({ U with heap := s₂.heap, slotsUsed := s₂.slotsUsed } : State).setVm s₂.vm).frames = .java g₀ :: r := hr
  rcases hq' with ⟨hqc, L, hfe, hL⟩ | ⟨q, rfl, E, ce, L, hx, hce, hcv, hcl, hW₂, hsm, hL⟩
  · obtain ⟨⟨v, rfl⟩, hW₂, e2, q2, q3, q4, q5, q6⟩ := id hfe
    have e3 : s₂ = ({ (U.calling g mk a).setFrames s₂.frames with heap := s₂.heap, slotsUsed := s₂.slotsUsed } : State).setVm s₂.vm := by
      have : s₂ = ({ s₂ with vm := (U.calling g mk a).vm } : State).setVm s₂.vm := rfl
      rw [e2] at this
      exact this
    obtain ⟨c₂, i₂, len₂, hc₂, hd₂, hf₂⟩ := hend
    have hW' : U.WarmedH s₂.vm := hW₂
    have hcc : c₂ = c := by
      have h1 : s₂.code? g.method = U.code? g.method := by
        rw [State.code?_eq, State.code?_eq, hW'.alike.method?]
      exact Option.some.inj (hc₂.symm.trans (h1.trans h.code))
    subst hcc
    have hlen : len₂ = len := by rw [hdg] at hd₂; cases hd₂; rfl
    subst hlen
    have hs₂ : s₂ = (({ U with heap := s₂.heap, slotsUsed := s₂.slotsUsed } : State).setVm s₂.vm).setTop { g with pc := g.pc + len₂, stack := v.toList ++ g.stack } := by
      refine e3.trans ?_
      rw [hf₂, State.calling_eq h.top, State.setFrames_setFrames, State.setTop_of_frames _ hr', hr]
      rfl
    have hsame : U.sameButNew ({ U with heap := s₂.heap, slotsUsed := s₂.slotsUsed } : State) L mc ms := by
      refine ⟨?_, q2, q3, q4, q5, q6⟩
      obtain ⟨t, ht, -⟩ := State.frames_cons hr
      show ({ U with heap := s₂.heap, slotsUsed := s₂.slotsUsed } : State) = { U.setFrames U.frames with heap := s₂.heap, slotsUsed := s₂.slotsUsed }
      rw [State.setFrames_self ht]
    subst hg
    refine Or.inl ⟨v, ⟨(({ U with heap := s₂.heap, slotsUsed := s₂.slotsUsed } : State).setVm s₂.vm), Ls ++ L, c0 + mc, s0 + ms⟩,
      ⟨X.admits, X.cas, X.clock, X.frames, X.room, X.hears, X.method, X.code, (X.here.setHeapUsed s₂.heap s₂.slotsUsed).setVm hW'.alike, X.tail, State.WarmedH.trans X.warmed hW', X.limits, X.bytes, X.same.trans (hsame.setVm s.vm)⟩,
      ⟨g, mk, s₂, L, rfl, rfl, hqc, rfl, hL, rfl, rfl⟩, ?_⟩
    show Steps p.tables e below _ ((({ U with heap := s₂.heap, slotsUsed := s₂.slotsUsed } : State).setVm s₂.vm).setTop { g with pc := g.pc + len₂, stack := v.toList ++ g.stack })
    rw [← hs₂]
    exact hsteps
  · obtain ⟨e2, q2, q3, q4, q5, q6⟩ := id hsm
    have e3 : s₂ = ({ (U.calling g mk a).setFrames s₂.frames with heap := s₂.heap, slotsUsed := s₂.slotsUsed } : State).setVm s₂.vm := by
      have : s₂ = ({ s₂ with vm := (U.calling g mk a).vm } : State).setVm s₂.vm := rfl
      rw [e2] at this
      exact this
    have hf₂ : s₂.frames = .throwing q :: .java g :: U.frames.tail := hend
    have hW' : U.WarmedH s₂.vm := hW₂
    have hs₂ : s₂ = ((({ U with heap := s₂.heap, slotsUsed := s₂.slotsUsed } : State).setVm s₂.vm).setTop g).pushFrame (.throwing q) := by
      refine e3.trans ?_
      rw [hf₂, State.calling_eq h.top, State.setFrames_setFrames, State.pushFrame, State.frames_setTop _ hr', State.setTop_of_frames _ hr', State.setFrames_setFrames, hr]
      rfl
    have hsame : U.sameButNew ({ U with heap := s₂.heap, slotsUsed := s₂.slotsUsed } : State) L mc ms := by
      refine ⟨?_, q2, q3, q4, q5, q6⟩
      obtain ⟨t, ht, -⟩ := State.frames_cons hr
      show ({ U with heap := s₂.heap, slotsUsed := s₂.slotsUsed } : State) = { U.setFrames U.frames with heap := s₂.heap, slotsUsed := s₂.slotsUsed }
      rw [State.setFrames_self ht]
    subst hg
    refine Or.inr ⟨q, ⟨(({ U with heap := s₂.heap, slotsUsed := s₂.slotsUsed } : State).setVm s₂.vm), Ls ++ L, c0 + mc, s0 + ms⟩,
      ⟨X.admits, X.cas, X.clock, X.frames, X.room, X.hears, X.method, X.code, (X.here.setHeapUsed s₂.heap s₂.slotsUsed).setVm hW'.alike, X.tail, State.WarmedH.trans X.warmed hW', X.limits, X.bytes, X.same.trans (hsame.setVm s.vm)⟩,
      ⟨g, mk, s₂, L, E, ce, rfl, rfl, hx, hce, hcv, hcl, rfl, hL, rfl, rfl⟩, ?_⟩
    show Steps p.tables e below _ (((({ U with heap := s₂.heap, slotsUsed := s₂.slotsUsed } : State).setVm s₂.vm).setTop g).pushFrame (.throwing q))
    rw [← hs₂]
    exact hsteps
end
variable {p : Program} {l : Launch} {e : Env} {R : Room} {s : State} {m : MethodId} {args : Array Value} {below : List Frame} {meth : Method} {c : Code} {T : State} {H : Heap} {locs : List Loc} {cells slots : Nat}
theorem vx_callVX (X : Stand p l e R s m args below meth c T locs cells slots) (hexec : p.tables.exec = Jvm.exec) {own C : String} {index : Nat} {y : MethodName} {bytes : ByteArray} {maxL : Nat} {ret : Option FieldType} {hh : List (Nat × Nat × Nat × Nat)}
    (hown : s.vm.findClass own = some m.cls) (hlink : (Cond.methodLink own index y).before args s = true) (hinst : (Cond.instanceMethod y).before args s = true) (hsel : (Cond.selects C y y).before args s = true)
    (hcode : (Cond.codeWith y bytes maxL ret hh).before args s = true) (hy : y.cls ≠ "java/lang/invoke/MethodHandle" ∧ y.cls ≠ "java/lang/invoke/VarHandle")
    {W9 : Nat} {Pre : Pt → Array Value → Prop} {Post : Pt → Array Value → Option Value → Pt → Prop} {PostX : Pt → Array Value → Addr → Pt → Prop} (hK : vx_Back l R p e below s args y 3 W9 Pre Post PostX)
    {b : Addr} {cellB : Cell} (hcell : T.heap[b]? = some cellB) (hobj : cellB.vm.isStatics = false) (hcls : s.vm.findClass C = some cellB.cls)
    {g : JFrame} (hg : g.method = m) (hsize : g.locals.size = c.maxLocals) {argsL rest : List Value} (hlen : ∀ sig, parseMethodDescriptor y.desc = some sig → argsL.length = sig.parameters.length)
    (hstack : g.stack = argsL.reverse ++ .ref b :: rest) (hW : 2 * g.monitorRoom + (rest.map fun v => v.category).sum ≤ W9) (hdg : decode c.code g.pc = .ok (.invokevirtual index, 3))
    (hpre : ∀ vm₁, s.WarmedH vm₁ → Pre ⟨T.setVm vm₁, locs, cells, slots⟩ (Value.ref b :: argsL).toArray) :
    (∃ (v : Option Value) (vm₁ : Vm) (B : Pt), s.WarmedH vm₁ ∧ Stand p l e R s m args below meth c B.U B.locs B.cells B.slots ∧ Post ⟨T.setVm vm₁, locs, cells, slots⟩ (Value.ref b :: argsL).toArray v B ∧
      ∀ target, Steps p.tables e below (B.U.setTop { g with pc := g.pc + 3, stack := v.toList ++ rest }) target → Steps p.tables e below (T.setTop g) target) ∨
    (∃ (q : Addr) (vm₁ : Vm) (B : Pt), s.WarmedH vm₁ ∧ Stand p l e R s m args below meth c B.U B.locs B.cells B.slots ∧ PostX ⟨T.setVm vm₁, locs, cells, slots⟩ (Value.ref b :: argsL).toArray q B ∧
      Steps p.tables e below (T.setTop g) ((B.U.setTop { g with stack := rest }).pushFrame (.throwing q))) := by
  obtain ⟨mk, methM, hnamed, hmethM, hstM, habM⟩ := Cond.instanceMethod_spec hinst
  obtain ⟨m8, methM', cM, hn8, hmethM', -, -, -, -, -, -, hsigM⟩ := Cond.codeWith_spec hcode
  cases Option.some.inj (hn8.symm.trans hnamed)
  cases hmethM.symm.trans hmethM'
  obtain ⟨c2, r2, m2, q1, q2, q3, q4, kP, hkP, hkPi⟩ := Cond.selects_spec hsel
  cases hcls.symm.trans q1
  cases (State.methodFound?_of_named hnamed hy).symm.trans q2
  cases hnamed.symm.trans q3
  have hselP : selectMethod e.platform s.vm cellB.cls mk = .method mk := by rw [Launch.admits_selectMethod X.admits]; exact q4
  obtain ⟨vm₁, X₁, hstep₁⟩ := X.invokevirtual hexec hown hlink hnamed hmethM hstM hkP hkPi hy (a := b) (cell := cellB) hcell
    (fun z h => by rw [h] at hobj; cases hobj) hselP hmethM habM hkP hkPi (g := g) hg (argsL := argsL) (rest := rest) (hlen _ hsigM) hstack hdg
  rcases hK m meth c ⟨T.setVm vm₁, locs, cells, slots⟩ { g with stack := rest } (.invokevirtual index) mk (Value.ref b :: argsL).toArray X₁ hg hsize hdg hW (X₁.named hnamed) (hpre vm₁ X₁.warmed) with ⟨v, B, X', hpost, hsteps⟩ | ⟨q, B, X', hpost, hsteps⟩
  · exact Or.inl ⟨v, vm₁, B, X₁.warmed, X', hpost, fun target h => hstep₁ _ fun acts => by rw [doInvoke_state]; exact hsteps.trans h⟩
  · exact Or.inr ⟨q, vm₁, B, X₁.warmed, X', hpost, hstep₁ _ fun acts => by rw [doInvoke_state]; exact hsteps⟩
theorem vx_callSX (X : Stand p l e R s m args below meth c T locs cells slots) (hexec : p.tables.exec = Jvm.exec) {own : String} {index : Nat} {y : MethodName} {bytes : ByteArray} {maxL : Nat} {ret : Option FieldType} {hh : List (Nat × Nat × Nat × Nat)}
    (hown : s.vm.findClass own = some m.cls) (hlink : (Cond.methodLink own index y).before args s = true) (hstat : (Cond.static y).before args s = true) (hinit : (Cond.initialized y.cls).before args s = true)
    (hcode : (Cond.codeWith y bytes maxL ret hh).before args s = true) (hy : y.cls ≠ "java/lang/invoke/MethodHandle" ∧ y.cls ≠ "java/lang/invoke/VarHandle")
    {W9 : Nat} {Pre : Pt → Array Value → Prop} {Post : Pt → Array Value → Option Value → Pt → Prop} {PostX : Pt → Array Value → Addr → Pt → Prop} (hK : vx_Back l R p e below s args y 3 W9 Pre Post PostX)
    {g : JFrame} (hg : g.method = m) (hsize : g.locals.size = c.maxLocals) {argsL rest : List Value} (hlen : ∀ sig, parseMethodDescriptor y.desc = some sig → argsL.length = sig.parameters.length)
    (hstack : g.stack = argsL.reverse ++ rest) (hW : 2 * g.monitorRoom + (rest.map fun v => v.category).sum ≤ W9) (hdg : decode c.code g.pc = .ok (.invokestatic index, 3))
    (hpre : ∀ vm₁, s.WarmedH vm₁ → Pre ⟨T.setVm vm₁, locs, cells, slots⟩ argsL.toArray) :
    (∃ (v : Option Value) (vm₁ : Vm) (B : Pt), s.WarmedH vm₁ ∧ Stand p l e R s m args below meth c B.U B.locs B.cells B.slots ∧ Post ⟨T.setVm vm₁, locs, cells, slots⟩ argsL.toArray v B ∧
      ∀ target, Steps p.tables e below (B.U.setTop { g with pc := g.pc + 3, stack := v.toList ++ rest }) target → Steps p.tables e below (T.setTop g) target) ∨
    (∃ (q : Addr) (vm₁ : Vm) (B : Pt), s.WarmedH vm₁ ∧ Stand p l e R s m args below meth c B.U B.locs B.cells B.slots ∧ PostX ⟨T.setVm vm₁, locs, cells, slots⟩ argsL.toArray q B ∧
      Steps p.tables e below (T.setTop g) ((B.U.setTop { g with stack := rest }).pushFrame (.throwing q))) := by
  obtain ⟨mk, methM, cM, hnamed, hmethM, -, -, -, -, -, -, hsigM⟩ := Cond.codeWith_spec hcode
  have hstatic : methM.isStatic = true := Cond.static_spec hnamed hmethM hstat
  obtain ⟨kP, hkP, -⟩ := className_of_methodNamed hnamed
  have hinitP : kP.init = .initialized := Cond.initialized_spec (findClass_of_methodNamed hnamed) hkP hinit
  obtain ⟨vm₁, X₁, hstep₁⟩ := X.invokestatic hexec hown hlink hnamed hmethM hstatic hkP hinitP hy (g := g) hg (argsL := argsL) (rest := rest) (hlen _ hsigM) hstack hdg
  rcases hK m meth c ⟨T.setVm vm₁, locs, cells, slots⟩ { g with stack := rest } (.invokestatic index) mk argsL.toArray X₁ hg hsize hdg hW (X₁.named hnamed) (hpre vm₁ X₁.warmed) with ⟨v, B, X', hpost, hsteps⟩ | ⟨q, B, X', hpost, hsteps⟩
  · exact Or.inl ⟨v, vm₁, B, X₁.warmed, X', hpost, fun target h => hstep₁ _ fun acts => by rw [doInvoke_state]; exact hsteps.trans h⟩
  · exact Or.inr ⟨q, vm₁, B, X₁.warmed, X', hpost, hstep₁ _ fun acts => by rw [doInvoke_state]; exact hsteps⟩
theorem vx_callVW (X : Stand p l e R s m args below meth c T locs cells slots) (hexec : p.tables.exec = Jvm.exec) {own C : String} {index : Nat} {y : MethodName} {bytes : ByteArray} {maxL : Nat} {ret : Option FieldType} {hh : List (Nat × Nat × Nat × Nat)}
    (hown : s.vm.findClass own = some m.cls) (hlink : (Cond.methodLink own index y).before args s = true) (hinst : (Cond.instanceMethod y).before args s = true) (hsel : (Cond.selects C y y).before args s = true)
    (hcode : (Cond.codeWith y bytes maxL ret hh).before args s = true) (hy : y.cls ≠ "java/lang/invoke/MethodHandle" ∧ y.cls ≠ "java/lang/invoke/VarHandle")
    {W9 : Nat} {Pre : Pt → Array Value → Prop} {Post : Pt → Array Value → Option Value → Pt → Prop} (hK : Back l R p e below s args y 3 W9 Pre Post)
    {b : Addr} {cellB : Cell} (hcell : T.heap[b]? = some cellB) (hobj : cellB.vm.isStatics = false) (hcls : s.vm.findClass C = some cellB.cls)
    {g : JFrame} (hg : g.method = m) (hsize : g.locals.size = c.maxLocals) {argsL rest : List Value} (hlen : ∀ sig, parseMethodDescriptor y.desc = some sig → argsL.length = sig.parameters.length)
    (hstack : g.stack = argsL.reverse ++ .ref b :: rest) (hW : 2 * g.monitorRoom + (rest.map fun v => v.category).sum ≤ W9) (hdg : decode c.code g.pc = .ok (.invokevirtual index, 3))
    (hpre : ∀ vm₁, s.WarmedH vm₁ → Pre ⟨T.setVm vm₁, locs, cells, slots⟩ (Value.ref b :: argsL).toArray) :
    ∃ (v : Option Value) (vm₁ : Vm) (B : Pt), s.WarmedH vm₁ ∧ Stand p l e R s m args below meth c B.U B.locs B.cells B.slots ∧ Post ⟨T.setVm vm₁, locs, cells, slots⟩ (Value.ref b :: argsL).toArray v B ∧
      ∀ target, Steps p.tables e below (B.U.setTop { g with pc := g.pc + 3, stack := v.toList ++ rest }) target → Steps p.tables e below (T.setTop g) target := by
  obtain ⟨mk, methM, hnamed, hmethM, hstM, habM⟩ := Cond.instanceMethod_spec hinst
  obtain ⟨m8, methM', cM, hn8, hmethM', -, -, -, -, -, -, hsigM⟩ := Cond.codeWith_spec hcode
  cases Option.some.inj (hn8.symm.trans hnamed)
  cases hmethM.symm.trans hmethM'
  obtain ⟨c2, r2, m2, q1, q2, q3, q4, kP, hkP, hkPi⟩ := Cond.selects_spec hsel
  cases hcls.symm.trans q1
  cases (State.methodFound?_of_named hnamed hy).symm.trans q2
  cases hnamed.symm.trans q3
  have hselP : selectMethod e.platform s.vm cellB.cls mk = .method mk := by rw [Launch.admits_selectMethod X.admits]; exact q4
  obtain ⟨vm₁, X₁, hstep₁⟩ := X.invokevirtual hexec hown hlink hnamed hmethM hstM hkP hkPi hy (a := b) (cell := cellB) hcell
    (fun z h => by rw [h] at hobj; cases hobj) hselP hmethM habM hkP hkPi (g := g) hg (argsL := argsL) (rest := rest) (hlen _ hsigM) hstack hdg
  obtain ⟨v, B, X', hpost, hsteps⟩ := hK m meth c ⟨T.setVm vm₁, locs, cells, slots⟩ { g with stack := rest } (.invokevirtual index) mk (Value.ref b :: argsL).toArray X₁ hg hsize hdg hW (X₁.named hnamed) (hpre vm₁ X₁.warmed)
  exact ⟨v, vm₁, B, X₁.warmed, X', hpost, fun target h => hstep₁ _ fun acts => by rw [doInvoke_state]; exact hsteps.trans h⟩
abbrev vx_CVW (R : Room) (s : State) (args : Array Value) (own C : String) (index : Nat) (y : MethodName) (bytes : ByteArray) (maxL : Nat) (ret : Option FieldType) (hh : List (Nat × Nat × Nat × Nat)) (ws : List Cond) (rm : Room) (mc ms n : Nat) : Prop :=
  (rm.cells = mc ∧ rm.slots = ms ∧ rm.frames + 1 ≤ R.frames ∧ 8 + (maxL + 11) + rm.locals ≤ R.locals ∧ (∀ w ∈ ws, ∀ (a' : Array Value) (U : State), s.WarmedH U.vm → w.before a' U = true) ∧ Cond.codeWith y bytes maxL ret hh ∈ ws) ∧
  (Cond.codeWith y bytes maxL ret hh).before args s = true ∧ (Cond.initialized y.cls).before args s = true ∧ (y.cls ≠ "java/lang/invoke/MethodHandle" ∧ y.cls ≠ "java/lang/invoke/VarHandle") ∧
  (∀ sig, parseMethodDescriptor y.desc = some sig → n = sig.parameters.length) ∧ (Cond.methodLink own index y).before args s = true ∧ (Cond.instanceMethod y).before args s = true ∧ (Cond.selects C y y).before args s = true
theorem vx_cwVW {own C : String} {index maxL mc ms : Nat} {y : MethodName} {bytes : ByteArray} {ret : Option FieldType} {hh : List (Nat × Nat × Nat × Nat)} {Ts ws ws' : List Cond} {rm : Room} (n : Nat) (ht : ∀ w ∈ Ts, w.before args s = true) (hT : GoodIn Ts (wsV own index C y ws)) (hw : ws = Cond.codeWith y bytes maxL ret hh :: ws') (hrc : rm.cells = mc) (hrs : rm.slots = ms)
    (hd : y.cls = C ∧ y.cls ≠ "java/lang/invoke/MethodHandle" ∧ y.cls ≠ "java/lang/invoke/VarHandle" ∧ (parseMethodDescriptor y.desc).map (fun d => d.parameters.length) = some n) (hR : rm.frames + 1 ≤ R.frames ∧ 8 + (maxL + 11) + rm.locals ≤ R.locals) :
    vx_CVW R s args own C index y bytes maxL ret hh ws rm mc ms n := by
  obtain ⟨hC, hd⟩ := hd
  subst hC
  have ok : ∀ w ∈ wsV own index y.cls y ws, w.before args s = true := fun w h => ht w (hT w h).1
  have hG : GoodIn Ts ws := fun w h => hT w (by unfold wsV; exact List.mem_append_right _ h)
  have hc : Cond.codeWith y bytes maxL ret hh ∈ ws := by rw [hw]; exact List.mem_cons_self
  refine ⟨⟨hrc, hrs, hR.1, hR.2, pay_in ht hG, hc⟩, ht _ (hG _ hc).1, ok _ (by simp [wsV]), ⟨hd.1, hd.2.1⟩, fun sig h => ?_, ok _ (by simp [wsV]), ok _ (by simp [wsV]), ok _ (by simp [wsV])⟩
  have h2 := hd.2.2
  rw [h] at h2
  exact (Option.some.inj h2).symm
theorem vx_runVW {y : MethodName} {bytes cc : ByteArray} {maxL nL mc ms n index : Nat} {ret : Option FieldType} {hh : List (Nat × Nat × Nat × Nat)} {ws : List Cond} {rm : Room} {Pc : Array Value → State → Prop} {Qc : Array Value → State → Outcome → State → Prop} {free : Addr → Prop} {Ts : List Cond} {own C : String} {b : Addr} {As rest : List Value} {g : JFrame}
    (S : CallFix p m c cc nL s args Ts own) (hM : Met l y ws rm Pc Qc mc ms free) (cw : vx_CVW R s args own C index y bytes maxL ret hh ws rm mc ms n) (hp : PreV s H C b Pc As)
    (hg : g.method = m) (hn : As.length = n) (hsize : g.locals.size = nL) (hstack : g.stack = As.reverse ++ .ref b :: rest) (hW : 2 * g.monitorRoom + (rest.map fun v => v.category).sum ≤ 8) (hdg : decode cc g.pc = .ok (.invokevirtual index, 3)) (hf : cells + mc ≤ R.cells ∧ slots + ms ≤ R.slots) :
    va_Run p l e R s m args below meth c H locs cells slots mc ms g rest (Qc (Value.ref b :: As).toArray) free := by
  obtain ⟨⟨hrc, hrs, hfr, hlo, hws, hcw⟩, hcode, hini, hy, hlen, hl, hin, hse⟩ := cw
  have hK : Back l R p e below s args y 3 8 (PreOf R mc ms Pc) (PostOf Qc mc ms free) := va_backW (hh := hh) (bytes := bytes) (maxL := maxL) (ret := ret) hM hp.1 hrc hrs hfr hlo hws hcw (fun a' U hW => word_at hW (Or.inl (by first | rfl | simp [Cond.onTables, Cond.keeps, Cond.steady])) hini)
  obtain ⟨hx, hb, hml, ho, -⟩ := S
  obtain ⟨-, ⟨cellB, hcB, hoB, hclB⟩, hPc⟩ := hp
  intro T hT X
  obtain ⟨v, vm₁, ⟨U', l2, c2, s2⟩, hW₁, X', ⟨g', mk, t, L, e1, e2, hq, h1, hL, h2, h3⟩, st⟩ := vx_callVW X hx (C := C) (hh := hh) (bytes := bytes) (maxL := maxL) (ret := ret) ho hl hin hse hcode hy hK (by rw [hT]; exact hcB) hoB hclB hg (hsize.trans hml.symm) (argsL := As) (rest := rest) (fun sig h => hn.trans (hlen sig h)) hstack hW (by rw [hb]; exact hdg)
    (fun vm₁ hW₁ => ⟨hf.1, hf.2, hPc (T.setVm vm₁) hT hW₁⟩)
  dsimp only [Pt.U, Pt.locs, Pt.cells, Pt.slots] at X' e1 e2 h1 h2 h3 st
  subst h1; subst h2; subst h3
  exact ⟨v, (T.setVm vm₁).calling g' mk (Value.ref b :: As).toArray, t, U', L, hT, X', hL, e1, e2, hq, st⟩
section
variable {y : MethodName} {bytes cc : ByteArray} {maxL nL mc ms n index : Nat} {ret : Option FieldType} {ws : List Cond} {rm : Room} {Pc : Array Value → State → Prop} {Qc : Array Value → State → Outcome → State → Prop} {XC : String → State → State → Prop} {free : Addr → Prop} {Ts : List Cond} {own C : String} {b : Addr} {As rest : List Value} {g : JFrame}
theorem vx_runVX {hh : List (Nat × Nat × Nat × Nat)} (S : CallFix p m c cc nL s args Ts own) (hM : vx_Met l y ws rm Pc Qc XC mc ms free) (cw : vx_CVW R s args own C index y bytes maxL ret hh ws rm mc ms n) (hp : PreV s H C b Pc As)
    (hg : g.method = m) (hn : As.length = n) (hsize : g.locals.size = nL) (hstack : g.stack = As.reverse ++ .ref b :: rest) (hW : 2 * g.monitorRoom + (rest.map fun v => v.category).sum ≤ 8) (hdg : decode cc g.pc = .ok (.invokevirtual index, 3)) (hf : cells + mc ≤ R.cells ∧ slots + ms ≤ R.slots) :
    vx_Run p l e R s m args below meth c H locs cells slots mc ms g rest (Qc (Value.ref b :: As).toArray) XC free := by
  obtain ⟨⟨hrc, hrs, hfr, hlo, hws, hcw⟩, hcode, hini, hy, hlen, hl, hin, hse⟩ := cw
  have hK : vx_Back l R p e below s args y 3 8 (PreOf R mc ms Pc) (PostOf Qc mc ms free) (vx_Post XC mc ms free) := vx_backW (hh := hh) (bytes := bytes) (maxL := maxL) (ret := ret) hM hp.1 hrc hrs hfr hlo hws hcw (fun a' U hW => word_at hW (Or.inl (by first | rfl | simp [Cond.onTables, Cond.keeps, Cond.steady])) hini)
  obtain ⟨hx, hb, hml, ho, -⟩ := S
  obtain ⟨-, ⟨cellB, hcB, hoB, hclB⟩, hPc⟩ := hp
  intro T hT X
  rcases vx_callVX X hx (C := C) (hh := hh) (bytes := bytes) (maxL := maxL) (ret := ret) ho hl hin hse hcode hy hK (by rw [hT]; exact hcB) hoB hclB hg (hsize.trans hml.symm) (argsL := As) (rest := rest) (fun sig h => hn.trans (hlen sig h)) hstack hW (by rw [hb]; exact hdg)
    (fun vm₁ hW₁ => ⟨hf.1, hf.2, hPc (T.setVm vm₁) hT hW₁⟩) with ⟨v, vm₁, ⟨U', l2, c2, s2⟩, hW₁, X', ⟨g', mk, t, L, e1, e2, hq, h1, hL, h2, h3⟩, st⟩ | ⟨q, vm₁, ⟨U', l2, c2, s2⟩, hW₁, X', ⟨g', mk, t, L, E, ce, e1, e2, hq, hce, hcv, hcl, h1, hL, h2, h3⟩, st⟩
  · dsimp only [Pt.U, Pt.locs, Pt.cells, Pt.slots] at X' e1 e2 h1 h2 h3 st
    subst h1; subst h2; subst h3
    exact Or.inl ⟨v, (T.setVm vm₁).calling g' mk (Value.ref b :: As).toArray, t, U', L, hT, X', hL, e1, e2, hq, st⟩
  · dsimp only [Pt.U, Pt.locs, Pt.cells, Pt.slots] at X' e1 e2 h1 h2 h3 st hcl
    subst h1; subst h2; subst h3
    exact Or.inr ⟨q, (T.setVm vm₁).calling g' mk (Value.ref b :: As).toArray, t, U', L, E, ce, hT, X', hL, e1, e2, hq, hce, hcv, vx_cls hW₁ hcl, st⟩
theorem vx_runSX {hh : List (Nat × Nat × Nat × Nat)} (S : CallFix p m c cc nL s args Ts own) (hM : vx_Met l y ws rm Pc Qc XC mc ms free) (cw : vx_CSW R s args own index y bytes maxL ret hh ws rm mc ms n) (hp : PreS s H Pc As)
    (hg : g.method = m) (hn : As.length = n) (hsize : g.locals.size = nL) (hstack : g.stack = As.reverse ++ rest) (hW : 2 * g.monitorRoom + (rest.map fun v => v.category).sum ≤ 8) (hdg : decode cc g.pc = .ok (.invokestatic index, 3)) (hf : cells + mc ≤ R.cells ∧ slots + ms ≤ R.slots) :
    vx_Run p l e R s m args below meth c H locs cells slots mc ms g rest (Qc As.toArray) XC free := by
  obtain ⟨⟨hrc, hrs, hfr, hlo, hws, hcw⟩, hcode, hini, hy, hlen, hl, hstt⟩ := cw
  have hK : vx_Back l R p e below s args y 3 8 (PreOf R mc ms Pc) (PostOf Qc mc ms free) (vx_Post XC mc ms free) := vx_backW (hh := hh) (bytes := bytes) (maxL := maxL) (ret := ret) hM hp.1 hrc hrs hfr hlo hws hcw (fun a' U hW => word_at hW (Or.inl (by first | rfl | simp [Cond.onTables, Cond.keeps, Cond.steady])) hini)
  obtain ⟨hx, hb, hml, ho, -⟩ := S
  intro T hT X
  rcases vx_callSX X hx (hh := hh) (bytes := bytes) (maxL := maxL) (ret := ret) ho hl hstt hini hcode hy hK hg (hsize.trans hml.symm) (argsL := As) (rest := rest) (fun sig h => hn.trans (hlen sig h)) hstack hW (by rw [hb]; exact hdg)
    (fun vm₁ hW₁ => ⟨hf.1, hf.2, hp.2 (T.setVm vm₁) hT hW₁⟩) with ⟨v, vm₁, ⟨U', l2, c2, s2⟩, hW₁, X', ⟨g', mk, t, L, e1, e2, hq, h1, hL, h2, h3⟩, st⟩ | ⟨q, vm₁, ⟨U', l2, c2, s2⟩, hW₁, X', ⟨g', mk, t, L, E, ce, e1, e2, hq, hce, hcv, hcl, h1, hL, h2, h3⟩, st⟩
  · dsimp only [Pt.U, Pt.locs, Pt.cells, Pt.slots] at X' e1 e2 h1 h2 h3 st
    subst h1; subst h2; subst h3
    exact Or.inl ⟨v, (T.setVm vm₁).calling g' mk As.toArray, t, U', L, hT, X', hL, e1, e2, hq, st⟩
  · dsimp only [Pt.U, Pt.locs, Pt.cells, Pt.slots] at X' e1 e2 h1 h2 h3 st hcl
    subst h1; subst h2; subst h3
    exact Or.inr ⟨q, (T.setVm vm₁).calling g' mk As.toArray, t, U', L, E, ce, hT, X', hL, e1, e2, hq, hce, hcv, vx_cls hW₁ hcl, st⟩
end
end VXH
theorem vx_ofWH {l : Launch} {y : MethodName} {ws ws' : List Cond} {rm : Room} {Pc : Array Value → State → Prop} {Qc : Array Value → State → Outcome → State → Prop} {XC : String → State → State → Prop} {mc ms : Nat} {free : Addr → Prop} {cc : ByteArray} {maxL : Nat} {ret : Option FieldType} {hh : List (Nat × Nat × Nat × Nat)}
    (hy : plainName y.cls = true) (hw : ws = Cond.codeWith y cc maxL ret hh :: ws')
    (body : ∀ p e s m args below meth c s₁, BodyLoose p l y (headSpec ws rm) cc maxL ret e s m args below meth c s₁ → c.maxLocals = maxL → Pc args s →
      W p l e (headSpec ws rm).room s m args below meth c s.heap [] 0 0 (vx_MQ below Qc XC args s mc ms free) (entryFrame m args maxL)) : vx_Met l y ws rm Pc Qc XC mc ms free := by
  refine MetFree.of_bodyS (code := cc) (maxLocals := maxL) (ret := ret) hy ?_ ?_
  · intro args s m h hn
    obtain ⟨m9, meth, c, hn9, h1, h2, h3, h4, -, h5, h6, -⟩ := Cond.codeWith_spec (atoms_spec (ws := ws) h _ (by rw [hw]; exact List.mem_cons_self))
    cases hn.symm.trans hn9
    exact ⟨meth, c, h1, h2, h3, h4, h5, h6⟩
  · intro p e s m args below meth c s₁ B hml hP _
    have hh0 : s₁.heap = s.heap := by rw [B.state]; rfl
    obtain ⟨t, a1, o, b1, b2, b3⟩ := body p e s m args below meth c s₁ B hml hP s₁ hh0 (Stand.of_body B)
    exact ⟨t, o, a1, b1, b2, b3⟩
/-! ===== END ===== -/

/-! ===== BEGIN printed: names, fields, word lists, decode rows ===== -/
end
section
/-! names of classes, methods; their words -/
/-- a word that stays true in every callee -/
def am_gw (w : Cond) : Bool := match w with
  | .arrayClass _ => true
  | w => w.onTables && w.keepsFace
def am_tbl : List Cond := lw_tbl.filter am_gw
theorem am_in {w : Cond} (i : Nat) (h : tables_1[i]? = some w) (hg : am_gw w = true) : w ∈ am_tbl := List.mem_filter.mpr ⟨List.mem_append_right _ (List.mem_of_getElem? h), hg⟩
theorem am_inS {w : Cond} (i : Nat) (h : (k2_sels lw_privs)[i]? = some w) (hg : am_gw w = true) : w ∈ am_tbl := List.mem_filter.mpr ⟨List.mem_append_left _ (List.mem_of_getElem? h), hg⟩
theorem am_word {args a2 : Array Value} {s U : State} (hW : s.WarmedH U.vm) {c : Cond} (hc : am_gw c = true) (h : c.before args s = true) : c.before a2 U = true := by
  by_cases ha : ∃ ty, c = .arrayClass ty
  · exact word_at hW (Or.inr ha) h
  · have hg : (c.onTables && c.keepsFace) = true := by
      cases c <;> first | exact hc | exact absurd ⟨_, rfl⟩ ha
    rw [Bool.and_eq_true] at hg
    have h1 : c.before args (s.setVm U.vm) = true := Cond.before_shiftedFace (State.Shifted.of_warmed hW) _ hg.2 h
    rw [Cond.onTables_vm (A' := a2) (U' := U) U.vm c hg.1, State.setVm_self] at h1
    exact h1
def am_RS : String := "StrideViews$Store"
def am_TS : u_T := fun k => match k with
  | 0 => ("StrideViews$Store", "number", "I", true)
  | 1 => ("StrideViews$Store", "lane", "I", true)
  | 2 => ("StrideViews$Store", "row", "[J", true)
  | _ => ("StrideViews$Store", "viewsOfIt", "I", false)
def am_tS : Nat → FieldType := fun k => match k with
  | 0 => .int
  | 1 => .int
  | 2 => (.array .long)
  | _ => .int
def am_RV : String := "StrideViews$View"
def am_TV : u_T := fun k => match k with
  | 0 => ("StrideViews$View", "store", "LStrideViews$Store;", true)
  | 1 => ("StrideViews$View", "start", "I", false)
  | 2 => ("StrideViews$View", "axes", "I", false)
  | 3 => ("StrideViews$View", "items", "I", false)
  | 4 => ("StrideViews$View", "extents", "[I", true)
  | _ => ("StrideViews$View", "steps", "[I", true)
def am_tV : Nat → FieldType := fun k => match k with
  | 0 => (.object "StrideViews$Store")
  | 1 => .int
  | 2 => .int
  | 3 => .int
  | 4 => (.array .int)
  | _ => (.array .int)
def am_RX : String := "StrideViews"
def am_TX : u_T := fun k => match k with
  | 0 => ("StrideViews", "stores", "[LStrideViews$Store;", true)
  | 1 => ("StrideViews", "views", "[LStrideViews$View;", true)
  | 2 => ("StrideViews", "storesMade", "I", false)
  | 3 => ("StrideViews", "viewsMade", "I", false)
  | 4 => ("StrideViews", "places", "[I", true)
  | 5 => ("StrideViews", "numbers", "[J", true)
  | _ => ("StrideViews", "marks", "[Z", true)
def am_tX : Nat → FieldType := fun k => match k with
  | 0 => (.array (.object "StrideViews$Store"))
  | 1 => (.array (.object "StrideViews$View"))
  | 2 => .int
  | 3 => .int
  | 4 => (.array .int)
  | 5 => (.array .long)
  | _ => (.array .boolean)
def am_RM : String := "StrideViewsModel"
def am_TM : u_T := fun k => match k with
  | 0 => ("StrideViewsModel", "thrown", "I", false)
  | 1 => ("StrideViewsModel", "stores", "I", false)
  | 2 => ("StrideViewsModel", "lanes", "[I", true)
  | 3 => ("StrideViewsModel", "sizes", "[I", true)
  | 4 => ("StrideViewsModel", "numbers", "[J", true)
  | 5 => ("StrideViewsModel", "views", "I", false)
  | 6 => ("StrideViewsModel", "storeOf", "[I", true)
  | 7 => ("StrideViewsModel", "starts", "[I", true)
  | 8 => ("StrideViewsModel", "axes", "[I", true)
  | 9 => ("StrideViewsModel", "extents", "[I", true)
  | 10 => ("StrideViewsModel", "steps", "[I", true)
  | 11 => ("StrideViewsModel", "newExtents", "[J", true)
  | 12 => ("StrideViewsModel", "newSteps", "[J", true)
  | 13 => ("StrideViewsModel", "newAxes", "I", false)
  | 14 => ("StrideViewsModel", "read", "[J", true)
  | _ => ("StrideViewsModel", "met", "[Z", true)
def am_tM : Nat → FieldType := fun k => match k with
  | 0 => .int
  | 1 => .int
  | 2 => (.array .int)
  | 3 => (.array .int)
  | 4 => (.array .long)
  | 5 => .int
  | 6 => (.array .int)
  | 7 => (.array .int)
  | 8 => (.array .int)
  | 9 => (.array .int)
  | 10 => (.array .int)
  | 11 => (.array .long)
  | 12 => (.array .long)
  | 13 => .int
  | 14 => (.array .long)
  | _ => (.array .boolean)
def am_T0 : u_T := fun _ => ("", "", "", false)
/-- the classes whose objects are cells: stores, views, the class, the reference, three exceptions -/
def am_cl : List vw_C := [("StrideViews$Store", am_TS, 4), ("StrideViews$View", am_TV, 6), ("StrideViews", am_TX, 7), ("StrideViewsModel", am_TM, 16), ("java/lang/IndexOutOfBoundsException", am_T0, 0), ("java/lang/IllegalArgumentException", am_T0, 0), ("java/lang/IllegalStateException", am_T0, 0)]
/-- the kinds of arrays -/
def am_tyl : List FieldType := [.int, .long, .boolean, .object "StrideViews$Store", .object "StrideViews$View"]
def am_ncl : List (String × String) := [("java/lang/IndexOutOfBoundsException", "java/lang/IllegalArgumentException"), ("java/lang/IndexOutOfBoundsException", "java/lang/IllegalStateException"), ("java/lang/IllegalArgumentException", "java/lang/IndexOutOfBoundsException"), ("java/lang/IllegalArgumentException", "java/lang/IllegalStateException"), ("java/lang/IllegalStateException", "java/lang/IndexOutOfBoundsException"), ("java/lang/IllegalStateException", "java/lang/IllegalArgumentException")]
def am_strs : List (String × Nat × String) := [("StrideViews", 250, "no such lane"), ("StrideViews", 46, "a store has 0 to 300 numbers"), ("StrideViews", 265, "too many stores or views"), ("StrideViews", 267, "too many views or items"), ("StrideViews", 244, "no such view"), ("StrideViews", 246, "no such axis"), ("StrideViews", 252, "an extent below 0, or a step of 0"), ("StrideViews", 254, "an index outside the axis"), ("StrideViews", 98, "no such index along the axis"), ("StrideViews", 107, "no such place for an axis"), ("StrideViews", 109, "an extent below 0"), ("StrideViews", 113, "the view has four axes"), ("StrideViews", 116, "the two axes are one"), ("StrideViews", 127, "an extent below NONE"), ("StrideViews", 142, "the extents make another number of items"), ("StrideViews", 156, "there are no such steps"), ("StrideViews", 263, "more than 300 items"), ("StrideViews", 248, "no such item"), ("StrideViews", 261, "the view is fixed"), ("StrideViews", 259, "a view does not go to the other one"), ("StrideViews", 193, "no such act"), ("StrideViews", 199, "no such act for a fold"), ("StrideViews", 228, "nothing of a view has this number"), ("StrideViews", 230, "nothing of an axis has this number"), ("StrideViews", 232, "no such store"), ("StrideViews", 240, "nothing of a store has this number"), ("StrideViews", 242, "nothing that is counted has this number")]
def am_aos : List String := ["StrideViews$Store", "StrideViews$View"]
theorem am_iS : ∀ w ∈ u_ws "StrideViews$Store" am_TS 4, w ∈ am_tbl := by decide +kernel
theorem am_nS : ∀ a, a < 4 → ∀ b, b < 4 → a ≠ b → (am_TS a).2.1 ≠ (am_TS b).2.1 := by decide +kernel
theorem am_qS : ∀ k, k < 4 → parseFieldDescriptor (am_TS k).2.2.1 = some (am_tS k) := by decide +kernel
theorem am_iV : ∀ w ∈ u_ws "StrideViews$View" am_TV 6, w ∈ am_tbl := by decide +kernel
theorem am_nV : ∀ a, a < 6 → ∀ b, b < 6 → a ≠ b → (am_TV a).2.1 ≠ (am_TV b).2.1 := by decide +kernel
theorem am_qV : ∀ k, k < 6 → parseFieldDescriptor (am_TV k).2.2.1 = some (am_tV k) := by decide +kernel
theorem am_iX : ∀ w ∈ u_ws "StrideViews" am_TX 7, w ∈ am_tbl := by decide +kernel
theorem am_nX : ∀ a, a < 7 → ∀ b, b < 7 → a ≠ b → (am_TX a).2.1 ≠ (am_TX b).2.1 := by decide +kernel
theorem am_qX : ∀ k, k < 7 → parseFieldDescriptor (am_TX k).2.2.1 = some (am_tX k) := by decide +kernel
theorem am_iM : ∀ w ∈ u_ws "StrideViewsModel" am_TM 16, w ∈ am_tbl := by decide +kernel
theorem am_nM : ∀ a, a < 16 → ∀ b, b < 16 → a ≠ b → (am_TM a).2.1 ≠ (am_TM b).2.1 := by decide +kernel
theorem am_qM : ∀ k, k < 16 → parseFieldDescriptor (am_TM k).2.2.1 = some (am_tM k) := by decide +kernel
end
section
/-! the abstract machine: the heap's own cells as a map; am_W: from this frame, with these cells, it ends with P -/
abbrev am_M : Type := Nat → Option va_E
/-- the cells, how many cells the heap has, the slots used -/
abbrev am_S : Type := am_M × Nat × Nat
abbrev am_F : Type := Nat × List (Option Value) × List Value
/-- returned, or threw -/
abbrev am_O : Type := Option Value ⊕ Nat
/-- a method: name, bytes, locals, what it returns, handlers -/
abbrev am_I : Type := MethodName × ByteArray × Nat × Option FieldType × List (Nat × Nat × Nat × Nat)
/-- D, the classes of arrays, the first own cell, the cells' and slots' ends, the script -/
abbrev am_G : Type := va_G × (Nat → ClassId) × Nat × Nat × Nat × Nat × Nat × (Nat → Int32)
abbrev am_A (g : am_G) : Nat → Prop := fun q : Nat => g.2.2.1 ≤ q
def am_tr (K : Nat → ClassId) (e : va_E) : va_E := match e with
  | .inl x => .inl (K x.1, x.2)
  | .inr o => .inr o
def am_tys (g : am_G) : List (ClassId × FieldType) := am_tyl.zipIdx.map (fun q => (g.2.1 q.2, q.1))
theorem am_tys_at {g : am_G} {t : Nat} {ty : FieldType} (h : am_tyl[t]? = some ty) : (am_tys g)[t]? = some (g.2.1 t, ty) := by
  simp [am_tys, List.getElem?_map, List.getElem?_zipIdx, h]
def am_up (M : am_M) (a : Nat) (e : va_E) : am_M := fun q => if q = a then some e else M q
theorem am_up_s {M : am_M} {a : Nat} {e : va_E} : am_up M a e a = some e := by simp [am_up]
theorem am_up_n {M : am_M} {a b : Nat} {e : va_E} (h : b ≠ a) : am_up M a e b = M b := by simp [am_up, h]
/-- what is known of the launch and of cells that nobody writes -/
def am_St (g : am_G) (l : Launch) (s : State) : Prop :=
  l.stackTraces = false ∧ vx_Zq Bundle.tN "UNASSIGNED_STACK" Bundle.steD (am_A g) s s.heap ∧ vx_Zq Bundle.tN "SUPPRESSED_SENTINEL" Bundle.listD (am_A g) s s.heap ∧ (∀ q ∈ am_ncl, va_Nc q.1 q.2 s) ∧ (∀ q ∈ am_strs, ∃ a : Nat, vk_R q.1 q.2.1 q.2.2 a s) ∧ ∀ C ∈ am_aos, va_AO C s
/-- what is known of the frame -/
def am_Fx (g : am_G) (d : Nat) (y : am_I) (p : Program) (l : Launch) (R : Room) (s : State) (m : MethodId) (args : Array Value) (meth : Method) (c : Code) : Prop :=
  p.tables.exec = Jvm.exec ∧ c.code = y.2.1 ∧ c.maxLocals = y.2.2.1 ∧ meth.sig.returnType = y.2.2.2.1 ∧ meth.name = y.1.name ∧ s.vm.findClass y.1.cls = some m.cls ∧ (∀ w ∈ am_tbl, w.before args s = true) ∧ meth.locks = false ∧
  c.exceptionTable.toList.map (fun h => (h.startPc, h.endPc, h.handlerPc, h.catchType)) = y.2.2.2.2 ∧ va_K g.1 am_cl (am_tys g) s ∧ d + 6 ≤ R.frames ∧ 60 * d + 100 ≤ R.locals ∧ am_St g l s
/-- the heap holds the cells -/
def am_Hp (g : am_G) (S : am_S) (R : Room) (s : State) (H : Heap) (locs : List Loc) (cells slots : Nat) : Prop :=
  (∀ (a : Nat) (e : va_E), S.1 a = some e → g.2.2.1 ≤ a ∧ va_at g.1 am_cl (a, am_tr g.2.1 e) H) ∧ (∀ q : Nat, g.2.2.1 ≤ q → q < S.2.1 → ∃ e, S.1 q = some e) ∧ H.size = S.2.1 ∧ va_S (am_A g) s.heap H locs ∧
  (∀ (q : Nat) (cell : Cell), g.2.2.1 ≤ q → s.heap[q]? = some cell → cell.vm.isStatics = false) ∧ S.2.1 + R.cells = g.2.2.2.1 + cells ∧ cells ≤ R.cells ∧ S.2.2 + R.slots = g.2.2.2.2.1 + slots ∧ slots ≤ R.slots ∧ g.2.2.1 ≤ s.heap.size ∧
  va_X g.2.2.2.2.2.1 g.2.2.2.2.2.2.1 g.2.2.2.2.2.2.2 s s.heap ∧ g.2.2.2.2.2.1 < g.2.2.1
/-- the frame holds the locals -/
def am_Ls (n : Nat) (ls : Array Slot) (L : List (Option Value)) : Prop := lv_has ls n [] ∧ ∀ (i : Nat) (v : Value), L[i]? = some (some v) → ls[i]? = some (.val v)
def am_out (o : am_O) : Outcome := match o with
  | .inl v => .returned v
  | .inr a => .threw a
/-- the end -/
def am_Q (g : am_G) (R : Room) (s : State) (below : List Frame) (P : am_O → am_S → Prop) (t : State) : Prop :=
  ∃ (o : am_O) (S : am_S) (L : List Loc) (k j : Nat), P o S ∧ t.status = .running ∧ Ended t below (am_out o) ∧ s.WarmedH t.vm ∧ s.sameButNew ({ t with vm := s.vm } : State) L k j ∧ am_Hp g S R s t.heap L k j
def am_W (g : am_G) (d : Nat) (y : am_I) (F : am_F) (S : am_S) (P : am_O → am_S → Prop) : Prop :=
  ∀ (p : Program) (l : Launch) (e : Env) (R : Room) (s : State) (m : MethodId) (args : Array Value) (below : List Frame) (meth : Method) (c : Code) (H : Heap) (locs : List Loc) (cells slots : Nat) (ls : Array Slot),
    am_Fx g d y p l R s m args meth c → am_Hp g S R s H locs cells slots → am_Ls y.2.2.1 ls F.2.1 → W p l e R s m args below meth c H locs cells slots (am_Q g R s below P) (F0 m F.1 ls F.2.2)
theorem am_mono {g : am_G} {d : Nat} {y : am_I} {F : am_F} {S : am_S} {P P' : am_O → am_S → Prop} (h : ∀ o S', P o S' → P' o S') (k : am_W g d y F S P) : am_W g d y F S P' := by
  intro p l e R s m args below meth c H locs cells slots ls hF hH hL T hT X
  obtain ⟨t, a, o, S', L, k1, j1, b1, b2⟩ := k p l e R s m args below meth c H locs cells slots ls hF hH hL T hT X
  exact ⟨t, a, o, S', L, k1, j1, h o S' b1, b2⟩
/-- the map changes at one cell -/
theorem am_Hp.put {g : am_G} {S : am_S} {R : Room} {s : State} {H H1 : Heap} {locs : List Loc} {cells slots a i : Nat} {e0 e1 : va_E} (h : am_Hp g S R s H locs cells slots) (h0 : S.1 a = some e0) (he : va_at g.1 am_cl (a, am_tr g.2.1 e1) H1) (z : H1.size = H.size) (oq : ∀ q : Nat, q ≠ a → H1[q]? = H[q]?) :
    am_Hp g (am_up S.1 a e1, S.2) R s H1 (locs ++ [⟨a, i⟩]) cells slots := by
  obtain ⟨h1, h2, h3, h4, h5⟩ := h
  refine ⟨fun b e hb => ?_, fun q q1 q2 => ?_, z.trans h3, h4.put z oq (h1 a e0 h0).1, h5⟩
  · by_cases hba : b = a
    · subst hba
      have hb : am_up S.1 b e1 b = some e := hb
      rw [am_up_s] at hb
      cases hb
      exact ⟨(h1 b e0 h0).1, he⟩
    · have hb : am_up S.1 a e1 b = some e := hb
      rw [am_up_n hba] at hb
      exact ⟨(h1 b e hb).1, (h1 b e hb).2.kept (oq b hba)⟩
  · by_cases hqa : q = a
    · exact ⟨e1, by rw [hqa]; exact am_up_s⟩
    · obtain ⟨e, he⟩ := h2 q q1 q2
      exact ⟨e, (am_up_n hqa).trans he⟩
/-- a cell comes -/
theorem am_Hp.new {g : am_G} {S : am_S} {R : Room} {s : State} {H H1 : Heap} {locs : List Loc} {cells slots N : Nat} {e1 : va_E} (h : am_Hp g S R s H locs cells slots) (he : va_at g.1 am_cl (S.2.1, am_tr g.2.1 e1) H1) (z : H1.size = H.size + 1) (oq : ∀ q : Nat, q < H.size → H1[q]? = H[q]?) (hc : S.2.1 + 1 ≤ g.2.2.2.1) (hz : S.2.2 + N ≤ g.2.2.2.2.1) :
    am_Hp g (am_up S.1 S.2.1 e1, S.2.1 + 1, S.2.2 + N) R s H1 locs (cells + 1) (slots + N) := by
  obtain ⟨h1, h2, h3, h4, h5, h6, h7, h8, h9, h10, h11⟩ := h
  have hb : g.2.2.1 ≤ H.size := Nat.le_trans h10 h4.1
  refine ⟨fun b e hbe => ?_, fun q q1 q2 => ?_, by rw [z, h3], ⟨Nat.le_trans h4.1 (by omega), fun q q1 q2 => (oq q (Nat.lt_of_lt_of_le q1 h4.1)).trans (h4.2.1 q q1 q2), h4.2.2⟩, h5, by show S.2.1 + 1 + R.cells = g.2.2.2.1 + (cells + 1); omega, by omega, by show S.2.2 + N + R.slots = g.2.2.2.2.1 + (slots + N); omega, by omega, h10, h11⟩
  · have hbe : am_up S.1 S.2.1 e1 b = some e := hbe
    by_cases hba : b = S.2.1
    · subst hba
      rw [am_up_s] at hbe
      cases hbe
      exact ⟨by rw [← h3]; exact hb, he⟩
    · rw [am_up_n hba] at hbe
      exact ⟨(h1 b e hbe).1, (h1 b e hbe).2.kept (oq b ((h1 b e hbe).2.lt))⟩
  · have q2 : q < S.2.1 + 1 := q2
    by_cases hqa : q = S.2.1
    · exact ⟨e1, by rw [hqa]; exact am_up_s⟩
    · obtain ⟨e, he⟩ := h2 q q1 (by omega)
      exact ⟨e, (am_up_n hqa).trans he⟩
theorem am_Hp.one {g : am_G} {S : am_S} {R : Room} {s : State} {H : Heap} {locs : List Loc} {cells slots a : Nat} {e0 : va_E} (h : am_Hp g S R s H locs cells slots) (h0 : S.1 a = some e0) : va_P g.1 am_cl [(a, am_tr g.2.1 e0)] H := by
  intro k q hk
  have hz : k < 1 := (List.getElem?_eq_some_iff.mp hk).1
  rw [show k = 0 by omega] at hk
  cases hk
  exact (h.1 a e0 h0).2
/-- locals -/
def am_gd (L : List (Option Value)) (i : Nat) : Bool := match i with
  | 0 => true
  | j + 1 => match L[j]? with
    | some (some v) => v.category == 1
    | _ => true
def am_ll (L : List (Option Value)) : List (Nat × Value) := L.zipIdx.filterMap (fun q => q.1.map (fun v => (q.2, v)))
theorem am_ll_mem {L : List (Option Value)} {i : Nat} {v : Value} : (i, v) ∈ am_ll L ↔ L[i]? = some (some v) := by
  simp only [am_ll, List.mem_filterMap, Option.map_eq_some_iff, Prod.mk.injEq, Prod.exists, List.mk_mem_zipIdx_iff_getElem?]
  constructor
  · rintro ⟨a, b, h1, w, h2, h3, h4⟩
    subst h2; subst h3; subst h4
    exact h1
  · intro h
    exact ⟨some v, i, h, v, rfl, rfl, rfl⟩
theorem am_Ls.ll {n : Nat} {ls : Array Slot} {L : List (Option Value)} (h : am_Ls n ls L) : lv_has ls n (am_ll L) := ⟨h.1.1, h.1.2.1, fun q hq => h.2 q.1 q.2 (am_ll_mem.mp hq)⟩
theorem am_Ls.of {n : Nat} {ls : Array Slot} {L : List (Option Value)} {l : List (Nat × Value)} (h : lv_has ls n l) (hl : ∀ (i : Nat) (v : Value), L[i]? = some (some v) → (i, v) ∈ l) : am_Ls n ls L := ⟨⟨h.1, h.2.1, fun q hq => absurd hq List.not_mem_nil⟩, fun i v hi => h.2.2 (i, v) (hl i v hi)⟩
theorem am_gd_spec {L : List (Option Value)} {i j : Nat} {v : Value} (h : am_gd L i = true) (hj : L[j]? = some (some v)) (e : j + 1 = i) : v.category = 1 := by
  subst e
  simpa [am_gd, hj] using h
theorem am_st1 {n : Nat} {ls : Array Slot} {L : List (Option Value)} {i : Nat} {v : Value} {ls' : Array Slot} (hg : am_gd L i = true) (h : lv_has ls' n ((i, v) :: (am_ll L).filter (fun q => !(q.1 == i) && !(q.1 + 1 == i && q.2.category == 2)))) : am_Ls n ls' (L.set i (some v)) := by
  refine am_Ls.of h (fun j w hj => ?_)
  by_cases hji : j = i
  · subst hji
    rw [List.getElem?_set_self' ] at hj
    cases hL : L[j]? with
    | none => rw [hL] at hj; cases hj
    | some z => rw [hL] at hj; cases hj; exact List.mem_cons_self
  · rw [List.getElem?_set_ne (Ne.symm hji)] at hj
    refine List.mem_cons_of_mem _ (List.mem_filter.mpr ⟨am_ll_mem.mpr hj, ?_⟩)
    have h1 : ¬ (j + 1 = i ∧ w.category = 2) := fun hq => by
      have := am_gd_spec hg hj hq.1
      omega
    simp [hji]
    omega
theorem am_st2 {n : Nat} {ls : Array Slot} {L : List (Option Value)} {i : Nat} {v : Value} {ls' : Array Slot} (hg : am_gd L i = true) (h : lv_has ls' n ((i, v) :: (am_ll L).filter (fun q => !(q.1 == i) && (!(q.1 == i + 1) && !(q.1 + 1 == i && q.2.category == 2))))) : am_Ls n ls' ((L.set i (some v)).set (i + 1) none) := by
  refine am_Ls.of h (fun j w hj => ?_)
  by_cases hj1 : j = i + 1
  · subst hj1
    rw [List.getElem?_set_self'] at hj
    cases hL : (L.set i (some v))[i + 1]? with
    | none => rw [hL] at hj; cases hj
    | some z => rw [hL] at hj; cases hj
  · rw [List.getElem?_set_ne (Ne.symm hj1)] at hj
    by_cases hji : j = i
    · subst hji
      rw [List.getElem?_set_self'] at hj
      cases hL : L[j]? with
      | none => rw [hL] at hj; cases hj
      | some z => rw [hL] at hj; cases hj; exact List.mem_cons_self
    · rw [List.getElem?_set_ne (Ne.symm hji)] at hj
      refine List.mem_cons_of_mem _ (List.mem_filter.mpr ⟨am_ll_mem.mpr hj, ?_⟩)
      have h1 : ¬ (j + 1 = i ∧ w.category = 2) := fun hq => by
        have := am_gd_spec hg hj hq.1
        omega
      simp [hji, hj1]
      omega
section AmRows
variable {g : am_G} {d : Nat} {y : am_I} {pc : Nat} {L : List (Option Value)} {st : List Value} {S : am_S} {P : am_O → am_S → Prop}

theorem am_iadd {x z : Int32} (hd : decode y.2.1 pc = .ok (.iadd, 1))  (k : am_W g d y (pc + 1, L, .int (x + z) :: st) S P) : am_W g d y (pc, L, .int z :: .int x :: st) S P := by
  intro p l e R s m args below meth c H locs cells slots ls hF hH hL
  exact lv_iadd hF.1 hF.2.1 hd  (k p l e R s m args below meth c H locs cells slots ls hF hH hL)
theorem am_isub {x z : Int32} (hd : decode y.2.1 pc = .ok (.isub, 1))  (k : am_W g d y (pc + 1, L, .int (x - z) :: st) S P) : am_W g d y (pc, L, .int z :: .int x :: st) S P := by
  intro p l e R s m args below meth c H locs cells slots ls hF hH hL
  exact lv_isub hF.1 hF.2.1 hd  (k p l e R s m args below meth c H locs cells slots ls hF hH hL)
theorem am_imul {x z : Int32} (hd : decode y.2.1 pc = .ok (.imul, 1))  (k : am_W g d y (pc + 1, L, .int (x * z) :: st) S P) : am_W g d y (pc, L, .int z :: .int x :: st) S P := by
  intro p l e R s m args below meth c H locs cells slots ls hF hH hL
  exact lv_imul hF.1 hF.2.1 hd  (k p l e R s m args below meth c H locs cells slots ls hF hH hL)
theorem am_iand {x z : Int32} (hd : decode y.2.1 pc = .ok (.iand, 1))  (k : am_W g d y (pc + 1, L, .int (x &&& z) :: st) S P) : am_W g d y (pc, L, .int z :: .int x :: st) S P := by
  intro p l e R s m args below meth c H locs cells slots ls hF hH hL
  exact lv_iand hF.1 hF.2.1 hd  (k p l e R s m args below meth c H locs cells slots ls hF hH hL)
theorem am_ior {x z : Int32} (hd : decode y.2.1 pc = .ok (.ior, 1))  (k : am_W g d y (pc + 1, L, .int (x ||| z) :: st) S P) : am_W g d y (pc, L, .int z :: .int x :: st) S P := by
  intro p l e R s m args below meth c H locs cells slots ls hF hH hL
  exact lv_ior hF.1 hF.2.1 hd  (k p l e R s m args below meth c H locs cells slots ls hF hH hL)
theorem am_ixor {x z : Int32} (hd : decode y.2.1 pc = .ok (.ixor, 1))  (k : am_W g d y (pc + 1, L, .int (x ^^^ z) :: st) S P) : am_W g d y (pc, L, .int z :: .int x :: st) S P := by
  intro p l e R s m args below meth c H locs cells slots ls hF hH hL
  exact lv_ixor hF.1 hF.2.1 hd  (k p l e R s m args below meth c H locs cells slots ls hF hH hL)
theorem am_idiv {x z : Int32} (hd : decode y.2.1 pc = .ok (.idiv, 1)) (hz : ¬ z = 0) (k : am_W g d y (pc + 1, L, .int (x / z) :: st) S P) : am_W g d y (pc, L, .int z :: .int x :: st) S P := by
  intro p l e R s m args below meth c H locs cells slots ls hF hH hL
  exact lv_idiv hF.1 hF.2.1 hd hz (k p l e R s m args below meth c H locs cells slots ls hF hH hL)
theorem am_irem {x z : Int32} (hd : decode y.2.1 pc = .ok (.irem, 1)) (hz : ¬ z = 0) (k : am_W g d y (pc + 1, L, .int (x - x / z * z) :: st) S P) : am_W g d y (pc, L, .int z :: .int x :: st) S P := by
  intro p l e R s m args below meth c H locs cells slots ls hF hH hL
  exact lv_irem hF.1 hF.2.1 hd hz (k p l e R s m args below meth c H locs cells slots ls hF hH hL)
theorem am_ishl {x z : Int32} (hd : decode y.2.1 pc = .ok (.ishl, 1))  (k : am_W g d y (pc + 1, L, .int (x <<< (z &&& 31)) :: st) S P) : am_W g d y (pc, L, .int z :: .int x :: st) S P := by
  intro p l e R s m args below meth c H locs cells slots ls hF hH hL
  exact lv_ishl hF.1 hF.2.1 hd  (k p l e R s m args below meth c H locs cells slots ls hF hH hL)
theorem am_ishr {x z : Int32} (hd : decode y.2.1 pc = .ok (.ishr, 1))  (k : am_W g d y (pc + 1, L, .int (x >>> (z &&& 31)) :: st) S P) : am_W g d y (pc, L, .int z :: .int x :: st) S P := by
  intro p l e R s m args below meth c H locs cells slots ls hF hH hL
  exact lv_ishr hF.1 hF.2.1 hd  (k p l e R s m args below meth c H locs cells slots ls hF hH hL)
theorem am_ineg {x : Int32} (hd : decode y.2.1 pc = .ok (.ineg, 1))  (k : am_W g d y (pc + 1, L, .int (-x) :: st) S P) : am_W g d y (pc, L, .int x :: st) S P := by
  intro p l e R s m args below meth c H locs cells slots ls hF hH hL
  exact lv_ineg hF.1 hF.2.1 hd (k p l e R s m args below meth c H locs cells slots ls hF hH hL)
theorem am_ladd {x z : Int64} (hd : decode y.2.1 pc = .ok (.ladd, 1))  (k : am_W g d y (pc + 1, L, .long (x + z) :: st) S P) : am_W g d y (pc, L, .long z :: .long x :: st) S P := by
  intro p l e R s m args below meth c H locs cells slots ls hF hH hL
  exact lv_ladd hF.1 hF.2.1 hd (k p l e R s m args below meth c H locs cells slots ls hF hH hL)
theorem am_lsub {x z : Int64} (hd : decode y.2.1 pc = .ok (.lsub, 1))  (k : am_W g d y (pc + 1, L, .long (x - z) :: st) S P) : am_W g d y (pc, L, .long z :: .long x :: st) S P := by
  intro p l e R s m args below meth c H locs cells slots ls hF hH hL
  exact lv_lsub hF.1 hF.2.1 hd (k p l e R s m args below meth c H locs cells slots ls hF hH hL)
theorem am_lmul {x z : Int64} (hd : decode y.2.1 pc = .ok (.lmul, 1))  (k : am_W g d y (pc + 1, L, .long (x * z) :: st) S P) : am_W g d y (pc, L, .long z :: .long x :: st) S P := by
  intro p l e R s m args below meth c H locs cells slots ls hF hH hL
  exact lv_lmul hF.1 hF.2.1 hd (k p l e R s m args below meth c H locs cells slots ls hF hH hL)
theorem am_land {x z : Int64} (hd : decode y.2.1 pc = .ok (.land, 1))  (k : am_W g d y (pc + 1, L, .long (x &&& z) :: st) S P) : am_W g d y (pc, L, .long z :: .long x :: st) S P := by
  intro p l e R s m args below meth c H locs cells slots ls hF hH hL
  exact lv_land hF.1 hF.2.1 hd (k p l e R s m args below meth c H locs cells slots ls hF hH hL)
theorem am_lor {x z : Int64} (hd : decode y.2.1 pc = .ok (.lor, 1))  (k : am_W g d y (pc + 1, L, .long (x ||| z) :: st) S P) : am_W g d y (pc, L, .long z :: .long x :: st) S P := by
  intro p l e R s m args below meth c H locs cells slots ls hF hH hL
  exact lv_lor hF.1 hF.2.1 hd (k p l e R s m args below meth c H locs cells slots ls hF hH hL)
theorem am_lxor {x z : Int64} (hd : decode y.2.1 pc = .ok (.lxor, 1))  (k : am_W g d y (pc + 1, L, .long (x ^^^ z) :: st) S P) : am_W g d y (pc, L, .long z :: .long x :: st) S P := by
  intro p l e R s m args below meth c H locs cells slots ls hF hH hL
  exact lv_lxor hF.1 hF.2.1 hd (k p l e R s m args below meth c H locs cells slots ls hF hH hL)
theorem am_lneg {x : Int64} (hd : decode y.2.1 pc = .ok (.lneg, 1))  (k : am_W g d y (pc + 1, L, .long (-x) :: st) S P) : am_W g d y (pc, L, .long x :: st) S P := by
  intro p l e R s m args below meth c H locs cells slots ls hF hH hL
  exact lv_lneg hF.1 hF.2.1 hd (k p l e R s m args below meth c H locs cells slots ls hF hH hL)
theorem am_lshl {x : Int64} {z : Int32} (hd : decode y.2.1 pc = .ok (.lshl, 1))  (k : am_W g d y (pc + 1, L, .long (x <<< (z.toInt64 &&& 63)) :: st) S P) : am_W g d y (pc, L, .int z :: .long x :: st) S P := by
  intro p l e R s m args below meth c H locs cells slots ls hF hH hL
  exact lv_lshl hF.1 hF.2.1 hd rfl (k p l e R s m args below meth c H locs cells slots ls hF hH hL)
theorem am_i2l {x : Int32} (hd : decode y.2.1 pc = .ok (.i2l, 1))  (k : am_W g d y (pc + 1, L, .long (x.toInt64) :: st) S P) : am_W g d y (pc, L, .int x :: st) S P := by
  intro p l e R s m args below meth c H locs cells slots ls hF hH hL
  exact lv_i2l hF.1 hF.2.1 hd rfl (k p l e R s m args below meth c H locs cells slots ls hF hH hL)
theorem am_l2i {x : Int64} (hd : decode y.2.1 pc = .ok (.l2i, 1))  (k : am_W g d y (pc + 1, L, .int (x.toInt32) :: st) S P) : am_W g d y (pc, L, .long x :: st) S P := by
  intro p l e R s m args below meth c H locs cells slots ls hF hH hL
  exact lv_l2i hF.1 hF.2.1 hd rfl (k p l e R s m args below meth c H locs cells slots ls hF hH hL)
theorem am_i2b {x : Int32} (hd : decode y.2.1 pc = .ok (.i2b, 1))  (k : am_W g d y (pc + 1, L, .int (x.toInt8.toInt32) :: st) S P) : am_W g d y (pc, L, .int x :: st) S P := by
  intro p l e R s m args below meth c H locs cells slots ls hF hH hL
  exact lv_i2b hF.1 hF.2.1 hd rfl (k p l e R s m args below meth c H locs cells slots ls hF hH hL)
theorem am_i2s {x : Int32} (hd : decode y.2.1 pc = .ok (.i2s, 1))  (k : am_W g d y (pc + 1, L, .int (x.toInt16.toInt32) :: st) S P) : am_W g d y (pc, L, .int x :: st) S P := by
  intro p l e R s m args below meth c H locs cells slots ls hF hH hL
  exact lv_i2s hF.1 hF.2.1 hd rfl (k p l e R s m args below meth c H locs cells slots ls hF hH hL)
theorem am_iconst {n : Int} (v : Int32) (hd : decode y.2.1 pc = .ok (.iconst n, 1)) (hv : Int32.ofInt n = v) (k : am_W g d y (pc + 1, L, .int v :: st) S P) : am_W g d y (pc, L, st) S P := by
  intro p l e R s m args below meth c H locs cells slots ls hF hH hL
  exact lv_iconst hF.1 hF.2.1 hd hv (k p l e R s m args below meth c H locs cells slots ls hF hH hL)
theorem am_bipush {n : Int} (v : Int32) (hd : decode y.2.1 pc = .ok (.bipush n, 2)) (hv : (Int8.ofInt n).toInt32 = v) (k : am_W g d y (pc + 2, L, .int v :: st) S P) : am_W g d y (pc, L, st) S P := by
  intro p l e R s m args below meth c H locs cells slots ls hF hH hL
  exact lv_bipush hF.1 hF.2.1 hd hv (k p l e R s m args below meth c H locs cells slots ls hF hH hL)
theorem am_sipush {n : Int} (v : Int32) (hd : decode y.2.1 pc = .ok (.sipush n, 3)) (hv : (Int16.ofInt n).toInt32 = v) (k : am_W g d y (pc + 3, L, .int v :: st) S P) : am_W g d y (pc, L, st) S P := by
  intro p l e R s m args below meth c H locs cells slots ls hF hH hL
  exact lv_sipush hF.1 hF.2.1 hd hv (k p l e R s m args below meth c H locs cells slots ls hF hH hL)
theorem am_lconst {n : Fin 2} (v : Int64) (hd : decode y.2.1 pc = .ok (.lconst n, 1)) (hv : Int64.ofNat (n : Nat) = v) (k : am_W g d y (pc + 1, L, .long v :: st) S P) : am_W g d y (pc, L, st) S P := by
  intro p l e R s m args below meth c H locs cells slots ls hF hH hL
  exact lv_lconst hF.1 hF.2.1 hd hv (k p l e R s m args below meth c H locs cells slots ls hF hH hL)
theorem am_ldc {ix : Nat} (v : Int32) (hd : decode y.2.1 pc = .ok (.ldc ix, 2)) (hc : Jvm.Cond.constant y.1.cls ix v ∈ am_tbl) (k : am_W g d y (pc + 2, L, .int v :: st) S P) : am_W g d y (pc, L, st) S P := by
  intro p l e R s m args below meth c H locs cells slots ls hF hH hL
  exact lv_ldc hF.1 hF.2.1 hF.2.2.2.2.2.1 (hF.2.2.2.2.2.2.1 _ hc) hd (k p l e R s m args below meth c H locs cells slots ls hF hH hL)
theorem am_ldcw {ix : Nat} (v : Int32) (hd : decode y.2.1 pc = .ok (.ldc_w ix, 3)) (hc : Jvm.Cond.constant y.1.cls ix v ∈ am_tbl) (k : am_W g d y (pc + 3, L, .int v :: st) S P) : am_W g d y (pc, L, st) S P := by
  intro p l e R s m args below meth c H locs cells slots ls hF hH hL
  exact lv_ldcw hF.1 hF.2.1 hF.2.2.2.2.2.1 (hF.2.2.2.2.2.2.1 _ hc) hd (k p l e R s m args below meth c H locs cells slots ls hF hH hL)
theorem am_ldc2 {ix : Nat} (v : Int64) (hd : decode y.2.1 pc = .ok (.ldc2_w ix, 3)) (hc : Jvm.Cond.constantLong y.1.cls ix v ∈ am_tbl) (k : am_W g d y (pc + 3, L, .long v :: st) S P) : am_W g d y (pc, L, st) S P := by
  intro p l e R s m args below meth c H locs cells slots ls hF hH hL
  exact lv_ldc2 hF.1 hF.2.1 hF.2.2.2.2.2.1 (hF.2.2.2.2.2.2.1 _ hc) hd (k p l e R s m args below meth c H locs cells slots ls hF hH hL)
theorem am_null  (hd : decode y.2.1 pc = .ok (.aconst_null, 1))  (k : am_W g d y (pc + 1, L, .null :: st) S P) : am_W g d y (pc, L, st) S P := by
  intro p l e R s m args below meth c H locs cells slots ls hF hH hL
  exact lv_null hF.1 hF.2.1 hd (k p l e R s m args below meth c H locs cells slots ls hF hH hL)
theorem am_dup {v : Value} (hd : decode y.2.1 pc = .ok (.dup, 1)) (h1 : v.category = 1) (k : am_W g d y (pc + 1, L, v :: v :: st) S P) : am_W g d y (pc, L, v :: st) S P := by
  intro p l e R s m args below meth c H locs cells slots ls hF hH hL
  exact lv_dup hF.1 hF.2.1 hd h1 (k p l e R s m args below meth c H locs cells slots ls hF hH hL)
theorem am_pop {v : Value} (hd : decode y.2.1 pc = .ok (.pop, 1)) (h1 : v.category = 1) (k : am_W g d y (pc + 1, L, st) S P) : am_W g d y (pc, L, v :: st) S P := by
  intro p l e R s m args below meth c H locs cells slots ls hF hH hL
  exact lv_pop hF.1 hF.2.1 hd h1 (k p l e R s m args below meth c H locs cells slots ls hF hH hL)
theorem am_dupx1 {v u : Value} (hd : decode y.2.1 pc = .ok (.dup_x1, 1)) (h1 : v.category = 1) (h2 : u.category = 1) (k : am_W g d y (pc + 1, L, v :: u :: v :: st) S P) : am_W g d y (pc, L, v :: u :: st) S P := by
  intro p l e R s m args below meth c H locs cells slots ls hF hH hL
  exact lv_dup_x1 hF.1 hF.2.1 hd h1 h2 (k p l e R s m args below meth c H locs cells slots ls hF hH hL)
theorem am_dup211 {v u : Value} (hd : decode y.2.1 pc = .ok (.dup2, 1)) (h1 : v.category = 1) (h2 : u.category = 1) (k : am_W g d y (pc + 1, L, v :: u :: v :: u :: st) S P) : am_W g d y (pc, L, v :: u :: st) S P := by
  intro p l e R s m args below meth c H locs cells slots ls hF hH hL
  exact lv_dup2_11 hF.1 hF.2.1 hd h1 h2 (k p l e R s m args below meth c H locs cells slots ls hF hH hL)
theorem am_dup22 {v : Value} (hd : decode y.2.1 pc = .ok (.dup2, 1)) (h1 : v.category = 2) (k : am_W g d y (pc + 1, L, v :: v :: st) S P) : am_W g d y (pc, L, v :: st) S P := by
  intro p l e R s m args below meth c H locs cells slots ls hF hH hL
  exact lv_dup2_2 hF.1 hF.2.1 hd h1 (k p l e R s m args below meth c H locs cells slots ls hF hH hL)
theorem am_iloadn {n : Fin 4} {x : Int32} (hd : decode y.2.1 pc = .ok (.iload_n n, 1)) (hl : L[(n : Nat)]? = some (some (.int x))) (k : am_W g d y (pc + 1, L, .int x :: st) S P) : am_W g d y (pc, L, st) S P := by
  intro p l e R s m args below meth c H locs cells slots ls hF hH hL
  exact lv_iload_n hF.1 hF.2.1 hd rfl (hL.2 _ _ hl) (k p l e R s m args below meth c H locs cells slots ls hF hH hL)
theorem am_iload {i : Nat} {x : Int32} (hd : decode y.2.1 pc = .ok (.iload i, 2)) (hl : L[i]? = some (some (.int x))) (k : am_W g d y (pc + 2, L, .int x :: st) S P) : am_W g d y (pc, L, st) S P := by
  intro p l e R s m args below meth c H locs cells slots ls hF hH hL
  exact lv_iload hF.1 hF.2.1 hd (hL.2 _ _ hl) (k p l e R s m args below meth c H locs cells slots ls hF hH hL)
theorem am_lloadn {n : Fin 4} {x : Int64} (hd : decode y.2.1 pc = .ok (.lload_n n, 1)) (hl : L[(n : Nat)]? = some (some (.long x))) (k : am_W g d y (pc + 1, L, .long x :: st) S P) : am_W g d y (pc, L, st) S P := by
  intro p l e R s m args below meth c H locs cells slots ls hF hH hL
  exact lv_lload_n hF.1 hF.2.1 hd rfl (hL.2 _ _ hl) (k p l e R s m args below meth c H locs cells slots ls hF hH hL)
theorem am_lload {i : Nat} {x : Int64} (hd : decode y.2.1 pc = .ok (.lload i, 2)) (hl : L[i]? = some (some (.long x))) (k : am_W g d y (pc + 2, L, .long x :: st) S P) : am_W g d y (pc, L, st) S P := by
  intro p l e R s m args below meth c H locs cells slots ls hF hH hL
  exact lv_lload hF.1 hF.2.1 hd (hL.2 _ _ hl) (k p l e R s m args below meth c H locs cells slots ls hF hH hL)
theorem am_aloadn {n : Fin 4} {x : Nat} (hd : decode y.2.1 pc = .ok (.aload_n n, 1)) (hl : L[(n : Nat)]? = some (some (.ref x))) (k : am_W g d y (pc + 1, L, .ref x :: st) S P) : am_W g d y (pc, L, st) S P := by
  intro p l e R s m args below meth c H locs cells slots ls hF hH hL
  exact lv_aload_n hF.1 hF.2.1 hd rfl (hL.2 _ _ hl) (k p l e R s m args below meth c H locs cells slots ls hF hH hL)
theorem am_aload {i : Nat} {x : Nat} (hd : decode y.2.1 pc = .ok (.aload i, 2)) (hl : L[i]? = some (some (.ref x))) (k : am_W g d y (pc + 2, L, .ref x :: st) S P) : am_W g d y (pc, L, st) S P := by
  intro p l e R s m args below meth c H locs cells slots ls hF hH hL
  exact lv_aload hF.1 hF.2.1 hd (hL.2 _ _ hl) (k p l e R s m args below meth c H locs cells slots ls hF hH hL)
theorem am_istoren {n : Fin 4} {x : Int32} {L' : List (Option Value)} (hd : decode y.2.1 pc = .ok (.istore_n n, 1)) (hn : (n : Nat) < y.2.2.1) (hg : am_gd L (n : Nat) = true) (hL' : (L.set (n : Nat) (some (.int x))) = L') (k : am_W g d y (pc + 1, L', st) S P) : am_W g d y (pc, L, .int x :: st) S P := by
  intro p l e R s m args below meth c H locs cells slots ls hF hH hL
  subst hL'
  exact lv_istore_n hF.1 hF.2.1 hd rfl hL.ll hn rfl (fun ls' h' => k p l e R s m args below meth c H locs cells slots ls' hF hH (am_st1 (ls := ls) hg h'))
theorem am_istore {i : Nat} {x : Int32} {L' : List (Option Value)} (hd : decode y.2.1 pc = .ok (.istore i, 2)) (hn : i < y.2.2.1) (hg : am_gd L i = true) (hL' : (L.set i (some (.int x))) = L') (k : am_W g d y (pc + 2, L', st) S P) : am_W g d y (pc, L, .int x :: st) S P := by
  intro p l e R s m args below meth c H locs cells slots ls hF hH hL
  subst hL'
  exact lv_istore hF.1 hF.2.1 hd  hL.ll hn rfl (fun ls' h' => k p l e R s m args below meth c H locs cells slots ls' hF hH (am_st1 (ls := ls) hg h'))
theorem am_astoren {n : Fin 4} {x : Nat} {L' : List (Option Value)} (hd : decode y.2.1 pc = .ok (.astore_n n, 1)) (hn : (n : Nat) < y.2.2.1) (hg : am_gd L (n : Nat) = true) (hL' : (L.set (n : Nat) (some (.ref x))) = L') (k : am_W g d y (pc + 1, L', st) S P) : am_W g d y (pc, L, .ref x :: st) S P := by
  intro p l e R s m args below meth c H locs cells slots ls hF hH hL
  subst hL'
  exact lv_astore_n hF.1 hF.2.1 hd rfl hL.ll hn rfl (fun ls' h' => k p l e R s m args below meth c H locs cells slots ls' hF hH (am_st1 (ls := ls) hg h'))
theorem am_astore {i : Nat} {x : Nat} {L' : List (Option Value)} (hd : decode y.2.1 pc = .ok (.astore i, 2)) (hn : i < y.2.2.1) (hg : am_gd L i = true) (hL' : (L.set i (some (.ref x))) = L') (k : am_W g d y (pc + 2, L', st) S P) : am_W g d y (pc, L, .ref x :: st) S P := by
  intro p l e R s m args below meth c H locs cells slots ls hF hH hL
  subst hL'
  exact lv_astore hF.1 hF.2.1 hd  hL.ll hn rfl (fun ls' h' => k p l e R s m args below meth c H locs cells slots ls' hF hH (am_st1 (ls := ls) hg h'))
theorem am_lstoren {n : Fin 4} {x : Int64} {L' : List (Option Value)} (hd : decode y.2.1 pc = .ok (.lstore_n n, 1)) (hn : (n : Nat) + 1 < y.2.2.1) (hg : am_gd L (n : Nat) = true) (hL' : ((L.set (n : Nat) (some (.long x))).set ((n : Nat) + 1) none) = L') (k : am_W g d y (pc + 1, L', st) S P) : am_W g d y (pc, L, .long x :: st) S P := by
  intro p l e R s m args below meth c H locs cells slots ls hF hH hL
  subst hL'
  exact lv_lstore_n hF.1 hF.2.1 hd rfl hL.ll hn rfl (fun ls' h' => k p l e R s m args below meth c H locs cells slots ls' hF hH (am_st2 (ls := ls) hg h'))
theorem am_lstore {i : Nat} {x : Int64} {L' : List (Option Value)} (hd : decode y.2.1 pc = .ok (.lstore i, 2)) (hn : i + 1 < y.2.2.1) (hg : am_gd L i = true) (hL' : ((L.set i (some (.long x))).set (i + 1) none) = L') (k : am_W g d y (pc + 2, L', st) S P) : am_W g d y (pc, L, .long x :: st) S P := by
  intro p l e R s m args below meth c H locs cells slots ls hF hH hL
  subst hL'
  exact lv_lstore hF.1 hF.2.1 hd  hL.ll hn rfl (fun ls' h' => k p l e R s m args below meth c H locs cells slots ls' hF hH (am_st2 (ls := ls) hg h'))
theorem am_iinc {i : Nat} {n : Int} {x v : Int32} {L' : List (Option Value)} (hd : decode y.2.1 pc = .ok (.iinc i n, 3)) (hl : L[i]? = some (some (.int x))) (hv : x + Int32.ofInt n = v) (hn : i < y.2.2.1) (hg : am_gd L i = true) (hL' : L.set i (some (.int v)) = L') (k : am_W g d y (pc + 3, L', st) S P) : am_W g d y (pc, L, st) S P := by
  intro p l e R s m args below meth c H locs cells slots ls hF hH hL
  subst hL'
  obtain ⟨q, hq⟩ := List.getElem?_of_mem (am_ll_mem.mpr hl)
  exact lv_iinc hF.1 hF.2.1 hd hL.ll hq hv hn rfl (fun ls' h' => k p l e R s m args below meth c H locs cells slots ls' hF hH (am_st1 (ls := ls) hg h'))
theorem am_ifeq {x : Int32} {off : Int} {tgt : Nat} (hd : decode y.2.1 pc = .ok (.ifCond .eq off, 3)) (ht : (pc : Int) + off = (tgt : Int)) (kt : x = 0 → am_W g d y (tgt, L, st) S P) (kf : ¬ x = 0 → am_W g d y (pc + 3, L, st) S P) : am_W g d y (pc, L, .int x :: st) S P := by
  intro p l e R s m args below meth c H locs cells slots ls hF hH hL
  exact lv_if_eq hF.1 hF.2.1 hd ht (fun h => kt h p l e R s m args below meth c H locs cells slots ls hF hH hL) (fun h => kf h p l e R s m args below meth c H locs cells slots ls hF hH hL)
theorem am_ifne {x : Int32} {off : Int} {tgt : Nat} (hd : decode y.2.1 pc = .ok (.ifCond .ne off, 3)) (ht : (pc : Int) + off = (tgt : Int)) (kt : ¬ x = 0 → am_W g d y (tgt, L, st) S P) (kf : x = 0 → am_W g d y (pc + 3, L, st) S P) : am_W g d y (pc, L, .int x :: st) S P := by
  intro p l e R s m args below meth c H locs cells slots ls hF hH hL
  exact lv_if_ne hF.1 hF.2.1 hd ht (fun h => kt h p l e R s m args below meth c H locs cells slots ls hF hH hL) (fun h => kf h p l e R s m args below meth c H locs cells slots ls hF hH hL)
theorem am_iflt {x : Int32} {off : Int} {tgt : Nat} (hd : decode y.2.1 pc = .ok (.ifCond .lt off, 3)) (ht : (pc : Int) + off = (tgt : Int)) (kt : x < 0 → am_W g d y (tgt, L, st) S P) (kf : ¬ x < 0 → am_W g d y (pc + 3, L, st) S P) : am_W g d y (pc, L, .int x :: st) S P := by
  intro p l e R s m args below meth c H locs cells slots ls hF hH hL
  exact lv_if_lt hF.1 hF.2.1 hd ht (fun h => kt h p l e R s m args below meth c H locs cells slots ls hF hH hL) (fun h => kf h p l e R s m args below meth c H locs cells slots ls hF hH hL)
theorem am_ifge {x : Int32} {off : Int} {tgt : Nat} (hd : decode y.2.1 pc = .ok (.ifCond .ge off, 3)) (ht : (pc : Int) + off = (tgt : Int)) (kt : 0 ≤ x → am_W g d y (tgt, L, st) S P) (kf : ¬ 0 ≤ x → am_W g d y (pc + 3, L, st) S P) : am_W g d y (pc, L, .int x :: st) S P := by
  intro p l e R s m args below meth c H locs cells slots ls hF hH hL
  exact lv_if_ge hF.1 hF.2.1 hd ht (fun h => kt h p l e R s m args below meth c H locs cells slots ls hF hH hL) (fun h => kf h p l e R s m args below meth c H locs cells slots ls hF hH hL)
theorem am_ifgt {x : Int32} {off : Int} {tgt : Nat} (hd : decode y.2.1 pc = .ok (.ifCond .gt off, 3)) (ht : (pc : Int) + off = (tgt : Int)) (kt : 0 < x → am_W g d y (tgt, L, st) S P) (kf : ¬ 0 < x → am_W g d y (pc + 3, L, st) S P) : am_W g d y (pc, L, .int x :: st) S P := by
  intro p l e R s m args below meth c H locs cells slots ls hF hH hL
  exact lv_if_gt hF.1 hF.2.1 hd ht (fun h => kt h p l e R s m args below meth c H locs cells slots ls hF hH hL) (fun h => kf h p l e R s m args below meth c H locs cells slots ls hF hH hL)
theorem am_ifle {x : Int32} {off : Int} {tgt : Nat} (hd : decode y.2.1 pc = .ok (.ifCond .le off, 3)) (ht : (pc : Int) + off = (tgt : Int)) (kt : x ≤ 0 → am_W g d y (tgt, L, st) S P) (kf : ¬ x ≤ 0 → am_W g d y (pc + 3, L, st) S P) : am_W g d y (pc, L, .int x :: st) S P := by
  intro p l e R s m args below meth c H locs cells slots ls hF hH hL
  exact lv_if_le hF.1 hF.2.1 hd ht (fun h => kt h p l e R s m args below meth c H locs cells slots ls hF hH hL) (fun h => kf h p l e R s m args below meth c H locs cells slots ls hF hH hL)
theorem am_iceq {x z : Int32} {off : Int} {tgt : Nat} (hd : decode y.2.1 pc = .ok (.if_icmp .eq off, 3)) (ht : (pc : Int) + off = (tgt : Int)) (kt : x = z → am_W g d y (tgt, L, st) S P) (kf : ¬ x = z → am_W g d y (pc + 3, L, st) S P) : am_W g d y (pc, L, .int z :: .int x :: st) S P := by
  intro p l e R s m args below meth c H locs cells slots ls hF hH hL
  exact lv_icmp_eq hF.1 hF.2.1 hd ht (fun h => kt h p l e R s m args below meth c H locs cells slots ls hF hH hL) (fun h => kf h p l e R s m args below meth c H locs cells slots ls hF hH hL)
theorem am_icne {x z : Int32} {off : Int} {tgt : Nat} (hd : decode y.2.1 pc = .ok (.if_icmp .ne off, 3)) (ht : (pc : Int) + off = (tgt : Int)) (kt : ¬ x = z → am_W g d y (tgt, L, st) S P) (kf : x = z → am_W g d y (pc + 3, L, st) S P) : am_W g d y (pc, L, .int z :: .int x :: st) S P := by
  intro p l e R s m args below meth c H locs cells slots ls hF hH hL
  exact lv_icmp_ne hF.1 hF.2.1 hd ht (fun h => kt h p l e R s m args below meth c H locs cells slots ls hF hH hL) (fun h => kf h p l e R s m args below meth c H locs cells slots ls hF hH hL)
theorem am_iclt {x z : Int32} {off : Int} {tgt : Nat} (hd : decode y.2.1 pc = .ok (.if_icmp .lt off, 3)) (ht : (pc : Int) + off = (tgt : Int)) (kt : x < z → am_W g d y (tgt, L, st) S P) (kf : ¬ x < z → am_W g d y (pc + 3, L, st) S P) : am_W g d y (pc, L, .int z :: .int x :: st) S P := by
  intro p l e R s m args below meth c H locs cells slots ls hF hH hL
  exact lv_icmp_lt hF.1 hF.2.1 hd ht (fun h => kt h p l e R s m args below meth c H locs cells slots ls hF hH hL) (fun h => kf h p l e R s m args below meth c H locs cells slots ls hF hH hL)
theorem am_icge {x z : Int32} {off : Int} {tgt : Nat} (hd : decode y.2.1 pc = .ok (.if_icmp .ge off, 3)) (ht : (pc : Int) + off = (tgt : Int)) (kt : z ≤ x → am_W g d y (tgt, L, st) S P) (kf : ¬ z ≤ x → am_W g d y (pc + 3, L, st) S P) : am_W g d y (pc, L, .int z :: .int x :: st) S P := by
  intro p l e R s m args below meth c H locs cells slots ls hF hH hL
  exact lv_icmp_ge hF.1 hF.2.1 hd ht (fun h => kt h p l e R s m args below meth c H locs cells slots ls hF hH hL) (fun h => kf h p l e R s m args below meth c H locs cells slots ls hF hH hL)
theorem am_icgt {x z : Int32} {off : Int} {tgt : Nat} (hd : decode y.2.1 pc = .ok (.if_icmp .gt off, 3)) (ht : (pc : Int) + off = (tgt : Int)) (kt : z < x → am_W g d y (tgt, L, st) S P) (kf : ¬ z < x → am_W g d y (pc + 3, L, st) S P) : am_W g d y (pc, L, .int z :: .int x :: st) S P := by
  intro p l e R s m args below meth c H locs cells slots ls hF hH hL
  exact lv_icmp_gt hF.1 hF.2.1 hd ht (fun h => kt h p l e R s m args below meth c H locs cells slots ls hF hH hL) (fun h => kf h p l e R s m args below meth c H locs cells slots ls hF hH hL)
theorem am_icle {x z : Int32} {off : Int} {tgt : Nat} (hd : decode y.2.1 pc = .ok (.if_icmp .le off, 3)) (ht : (pc : Int) + off = (tgt : Int)) (kt : x ≤ z → am_W g d y (tgt, L, st) S P) (kf : ¬ x ≤ z → am_W g d y (pc + 3, L, st) S P) : am_W g d y (pc, L, .int z :: .int x :: st) S P := by
  intro p l e R s m args below meth c H locs cells slots ls hF hH hL
  exact lv_icmp_le hF.1 hF.2.1 hd ht (fun h => kt h p l e R s m args below meth c H locs cells slots ls hF hH hL) (fun h => kf h p l e R s m args below meth c H locs cells slots ls hF hH hL)
theorem am_aceq {x z : Nat} {off : Int} {tgt : Nat} (hd : decode y.2.1 pc = .ok (.if_acmp .eq off, 3)) (ht : (pc : Int) + off = (tgt : Int)) (kt : x = z → am_W g d y (tgt, L, st) S P) (kf : ¬ x = z → am_W g d y (pc + 3, L, st) S P) : am_W g d y (pc, L, .ref z :: .ref x :: st) S P := by
  intro p l e R s m args below meth c H locs cells slots ls hF hH hL
  exact lv_acmp_eq (rx := some x) (ry := some z) hF.1 hF.2.1 hd ht (fun h => kt (by simpa using h) p l e R s m args below meth c H locs cells slots ls hF hH hL) (fun h => kf (by simpa using h) p l e R s m args below meth c H locs cells slots ls hF hH hL)
theorem am_acne {x z : Nat} {off : Int} {tgt : Nat} (hd : decode y.2.1 pc = .ok (.if_acmp .ne off, 3)) (ht : (pc : Int) + off = (tgt : Int)) (kt : ¬ x = z → am_W g d y (tgt, L, st) S P) (kf : x = z → am_W g d y (pc + 3, L, st) S P) : am_W g d y (pc, L, .ref z :: .ref x :: st) S P := by
  intro p l e R s m args below meth c H locs cells slots ls hF hH hL
  exact lv_acmp_ne (rx := some x) (ry := some z) hF.1 hF.2.1 hd ht (fun h => kt (by simpa using h) p l e R s m args below meth c H locs cells slots ls hF hH hL) (fun h => kf (by simpa using h) p l e R s m args below meth c H locs cells slots ls hF hH hL)
theorem am_lookup {dflt : Int} {ps : Array (Int × Int)} {len tgt : Nat} {x : Int32} {off : Int} (hd : decode y.2.1 pc = .ok (.lookupswitch dflt ps, len)) (hp : (ps.toList.zip (ps.toList.drop 1)).all (fun (a, next) => a.1 < next.1) = true) (ho : Op.lookupswitch.offset ps.toList dflt x.toInt = off) (ht : (pc : Int) + off = (tgt : Int)) (k : am_W g d y (tgt, L, st) S P) : am_W g d y (pc, L, .int x :: st) S P := by
  intro p l e R s m args below meth c H locs cells slots ls hF hH hL
  exact lv_lookup hF.1 hF.2.1 hd hp ho ht (k p l e R s m args below meth c H locs cells slots ls hF hH hL)
theorem am_tabOut {dflt lo hi : Int} {offs : Array Int} {len tgt : Nat} {x : Int32} (hd : decode y.2.1 pc = .ok (.tableswitch dflt lo hi offs, len)) (h : x.toInt < lo ∨ hi < x.toInt) (ht : (pc : Int) + dflt = (tgt : Int)) (k : am_W g d y (tgt, L, st) S P) : am_W g d y (pc, L, .int x :: st) S P := by
  intro p l e R s m args below meth c H locs cells slots ls hF hH hL
  exact lv_tableOut hF.1 hF.2.1 hd h ht (k p l e R s m args below meth c H locs cells slots ls hF hH hL)
theorem am_tabIn {dflt lo hi : Int} {offs : Array Int} {len tgt : Nat} {x : Int32} {off : Int} (hd : decode y.2.1 pc = .ok (.tableswitch dflt lo hi offs, len)) (h1 : ¬ x.toInt < lo) (h2 : ¬ hi < x.toInt) (ho : offs[(x.toInt - lo).toNat]? = some off) (ht : (pc : Int) + off = (tgt : Int)) (k : am_W g d y (tgt, L, st) S P) : am_W g d y (pc, L, .int x :: st) S P := by
  intro p l e R s m args below meth c H locs cells slots ls hF hH hL
  exact lv_tableIn hF.1 hF.2.1 hd h1 h2 ho ht (k p l e R s m args below meth c H locs cells slots ls hF hH hL)
theorem am_lcmp {x z : Int64} (hd : decode y.2.1 pc = .ok (.lcmp, 1)) (k : am_W g d y (pc + 1, L, .int (lg_cmp x z) :: st) S P) : am_W g d y (pc, L, .long z :: .long x :: st) S P := by
  intro p l e R s m args below meth c H locs cells slots ls hF hH hL
  exact W.lcmp hF.1 hF.2.1 hd (k p l e R s m args below meth c H locs cells slots ls hF hH hL)
theorem am_goto {off : Int} {tgt : Nat} (hd : decode y.2.1 pc = .ok (.goto off, 3)) (ht : (pc : Int) + off = (tgt : Int)) (k : am_W g d y (tgt, L, st) S P) : am_W g d y (pc, L, st) S P := by
  intro p l e R s m args below meth c H locs cells slots ls hF hH hL
  exact lv_goto hF.1 hF.2.1 hd ht (k p l e R s m args below meth c H locs cells slots ls hF hH hL)
def am_fl (own : String) (ix ci k : Nat) : Prop := ∃ (C : String) (T : u_T) (N : Nat), am_cl[ci]? = some (C, T, N) ∧ (∀ w ∈ u_ws C T N, w ∈ am_tbl) ∧ k < N ∧ Cond.fieldLink own ix (T k).1 (T k).2.1 (T k).2.2.1 ∈ am_tbl
def am_fp (own : String) (ix ci k : Nat) (ty : FieldType) (fin : Bool) : Prop := ∃ (C : String) (T : u_T) (N : Nat) (ty0 : Nat → FieldType), am_cl[ci]? = some (C, T, N) ∧ (∀ w ∈ u_ws C T N, w ∈ am_tbl) ∧ k < N ∧ Cond.fieldLink own ix (T k).1 (T k).2.1 (T k).2.2.1 ∈ am_tbl ∧
  (∀ k, k < N → parseFieldDescriptor (T k).2.2.1 = some (ty0 k)) ∧ ty0 k = ty ∧ (∀ a, a < N → ∀ b, b < N → a ≠ b → (T a).2.1 ≠ (T b).2.1) ∧ (T k).2.2.2 = fin ∧ (T k).1 = (if fin then own else (T k).1)
theorem am_get {a ix ci k : Nat} {fs : List Value} {v : Value} (hd : decode y.2.1 pc = .ok (.getfield ix, 3)) (hf : am_fl y.1.cls ix ci k) (hM : S.1 a = some (.inr (ci, fs))) (hv : fs[k]? = some v) (kk : am_W g d y (pc + 3, L, v :: st) S P) : am_W g d y (pc, L, .ref a :: st) S P := by
  intro p l e R s m args below meth c H locs cells slots ls hF hH hL
  obtain ⟨C, T, N, hc, hin, hk, hl⟩ := hf
  obtain ⟨hx, hb, -, -, -, hown, hts, -, -, hK, -⟩ := id hF
  exact va_get hx hb hts hin hown hK (hH.one hM) 0 rfl hc k hk (hts _ hl) (fun _ h9 => h9) hv hd (kk p l e R s m args below meth c H locs cells slots ls hF hH hL)
theorem am_put {a ix ci k : Nat} {ty : FieldType} {fs : List Value} {v : Value} (hd : decode y.2.1 pc = .ok (.putfield ix, 3)) (hf : am_fp y.1.cls ix ci k ty false) (hM : S.1 a = some (.inr (ci, fs))) (hn : narrow ty v = v) (hfit : fits ty v = true) (hl : k < fs.length) (kk : am_W g d y (pc + 3, L, st) (am_up S.1 a (.inr (ci, fs.set k v)), S.2) P) : am_W g d y (pc, L, v :: .ref a :: st) S P := by
  intro p l e R s m args below meth c H locs cells slots ls hF hH hL
  obtain ⟨C, T, N, ty0, hc, hin, hk, hlk, hty, hte, hnm, hfin, -⟩ := hf
  obtain ⟨hx, hb, -, -, -, hown, hts, -, -, hK, -⟩ := id hF
  have hap := va_apart (own := y.1.cls) hts hin ty0 hty hnm hK hc
  obtain ⟨r, h1, cell, q1, q2, q3, q4⟩ := (hH.1 a _ hM).2
  have hr : r = (C, T, N) := Option.some.inj (h1.symm.trans hc)
  subst hr
  obtain ⟨hS, hfc, kC, hkC, hkind⟩ := hK.1 ci _ hc
  obtain ⟨cf, kf, fi, f, hi, hsl⟩ := hS k hk
  have hlay := hts _ (hin _ (u_in_lay hk))
  unfold u_lay at hlay
  rw [if_neg (by rw [hfin]; decide)] at hlay
  have hst := (u_facts hfc hkC (u_lays hts hin hk) hi).1
  have h6 := u_store hfc hkC hkind hlay hi ((hty k hk).trans (congrArg some hte)) hn hfit
  refine W.putK hx hb (f := f) ⟨hown, hts _ hlk, ⟨_, _, _, hi⟩, hst⟩ (by rw [q2]; exact h6) q1 q3 (by rw [hsl]; exact k2_hasslot (q4 k hk)) rfl rfl hd fun H' e1 e2 e3 => ?_
  rw [hsl] at e1 ⊢
  exact kk p l e R s m args below meth c H' _ cells slots ls hF (hH.put hM ⟨_, hc, t_OB.to (V := updV (vp_V fs) k v) ⟨_, e1, q2, q3, t_set q4 hap hk v⟩ (fun j _ => vp_updV_set hl v j)⟩ e2 e3) hL
theorem am_putF {a ix ci k : Nat} {ty : FieldType} {fs : List Value} {v : Value} (hd : decode y.2.1 pc = .ok (.putfield ix, 3)) (hf : am_fp y.1.cls ix ci k ty true) (hin2 : y.1.name = "<init>") (hM : S.1 a = some (.inr (ci, fs))) (hn : narrow ty v = v) (hfit : fits ty v = true) (hl : k < fs.length) (kk : am_W g d y (pc + 3, L, st) (am_up S.1 a (.inr (ci, fs.set k v)), S.2) P) : am_W g d y (pc, L, v :: .ref a :: st) S P := by
  intro p l e R s m args below meth c H locs cells slots ls hF hH hL
  obtain ⟨C, T, N, ty0, hc, hin, hk, hlk, hty, hte, hnm, hfin, hdecl⟩ := hf
  rw [if_pos rfl] at hdecl
  obtain ⟨hx, hb, -, -, hmn, hown, hts, -, -, hK, -⟩ := id hF
  have hap := va_apart (own := y.1.cls) hts hin ty0 hty hnm hK hc
  obtain ⟨r, h1, cell, q1, q2, q3, q4⟩ := (hH.1 a _ hM).2
  have hr : r = (C, T, N) := Option.some.inj (h1.symm.trans hc)
  subst hr
  obtain ⟨hS, hfc, kC, hkC, hkind⟩ := hK.1 ci _ hc
  obtain ⟨cf, kf, fi, f, hi, hsl⟩ := hS k hk
  have hlay := hts _ (hin _ (u_in_lay hk))
  unfold u_lay at hlay
  rw [if_pos hfin] at hlay
  have hst := (u_facts hfc hkC (u_lays hts hin hk) hi).1
  have hcf : m.cls = cf := by
    obtain ⟨_, _, c', _, _, _, -, -, hf', -, -, -, hown2, -⟩ := Cond.laysFinal_spec hlay
    have e1 : c' = cf := by have := hi.symm.trans hf'; simp at this; exact this.1.symm
    rw [hdecl] at hown2
    rw [← e1]; exact Option.some.inj (hown.symm.trans hown2)
  have h6 := u_fits hfc hkC hkind (Or.inr hlay) hi ((hty k hk).trans (congrArg some hte)) hn hfit
  refine W.putFinK hx hb hown (hts _ hlk) hi hst hcf (hmn.trans hin2) (by rw [q2]; exact h6) q1 q3 (by rw [hsl]; exact k2_hasslot (q4 k hk)) rfl rfl hd fun H' e1 e2 e3 => ?_
  rw [hsl] at e1 ⊢
  exact kk p l e R s m args below meth c H' _ cells slots ls hF (hH.put hM ⟨_, hc, t_OB.to (V := updV (vp_V fs) k v) ⟨_, e1, q2, q3, t_set q4 hap hk v⟩ (fun j _ => vp_updV_set hl v j)⟩ e2 e3) hL
theorem am_iald {a t n : Nat} {f : Nat → Int32} {i : Int32} (hd : decode y.2.1 pc = .ok (.iaload, 1)) (ht : am_tyl[t]? = some .int) (hM : S.1 a = some (.inl (t, n, .inl f))) (hi : vp_in i n) (kk : am_W g d y (pc + 1, L, .int (f i.toNatClampNeg) :: st) S P) : am_W g d y (pc, L, .int i :: .ref a :: st) S P := by
  intro p l e R s m args below meth c H locs cells slots ls hF hH hL
  obtain ⟨hx, hb, -, -, -, hown, hts, -, -, hK, -⟩ := id hF
  exact va_iald hx hb hK (hH.one hM) 0 t rfl (am_tys_at ht) hi hd (kk p l e R s m args below meth c H locs cells slots ls hF hH hL)
theorem am_lald {a t n : Nat} {f : Nat → Int64} {i : Int32} (hd : decode y.2.1 pc = .ok (.laload, 1)) (ht : am_tyl[t]? = some .long) (hM : S.1 a = some (.inl (t, n, .inr (.inl f)))) (hi : vp_in i n) (kk : am_W g d y (pc + 1, L, .long (f i.toNatClampNeg) :: st) S P) : am_W g d y (pc, L, .int i :: .ref a :: st) S P := by
  intro p l e R s m args below meth c H locs cells slots ls hF hH hL
  obtain ⟨hx, hb, -, -, -, hown, hts, -, -, hK, -⟩ := id hF
  exact va_lald hx hb hK (hH.one hM) 0 t rfl (am_tys_at ht) hi hd (kk p l e R s m args below meth c H locs cells slots ls hF hH hL)
theorem am_zald {a t n : Nat} {f : Nat → Int32} {i : Int32} (hd : decode y.2.1 pc = .ok (.baload, 1)) (ht : am_tyl[t]? = some .boolean) (hM : S.1 a = some (.inl (t, n, .inl f))) (hi : vp_in i n) (kk : am_W g d y (pc + 1, L, .int (f i.toNatClampNeg) :: st) S P) : am_W g d y (pc, L, .int i :: .ref a :: st) S P := by
  intro p l e R s m args below meth c H locs cells slots ls hF hH hL
  obtain ⟨hx, hb, -, -, -, hown, hts, -, -, hK, -⟩ := id hF
  exact va_zald hx hb hK (hH.one hM) 0 t rfl (am_tys_at ht) hi hd (kk p l e R s m args below meth c H locs cells slots ls hF hH hL)
theorem am_aald {a t n : Nat} {C : String} {f : Nat → Option Nat} {i : Int32} {v : Nat} (hd : decode y.2.1 pc = .ok (.aaload, 1)) (ht : am_tyl[t]? = some (.object C)) (hM : S.1 a = some (.inl (t, n, .inr (.inr (.inr (.inr f)))))) (hi : vp_in i n) (hv : f i.toNatClampNeg = some v) (kk : am_W g d y (pc + 1, L, .ref v :: st) S P) : am_W g d y (pc, L, .int i :: .ref a :: st) S P := by
  intro p l e R s m args below meth c H locs cells slots ls hF hH hL
  obtain ⟨hx, hb, -, -, -, hown, hts, -, -, hK, -⟩ := id hF
  refine va_aldq hx hb hK (hH.one hM) 0 t rfl (am_tys_at ht) hi hd ?_
  rw [hv]
  exact kk p l e R s m args below meth c H locs cells slots ls hF hH hL
theorem am_alen {a t : Nat} {x : vp_A} {ty : FieldType} (hd : decode y.2.1 pc = .ok (.arraylength, 1)) (ht : am_tyl[t]? = some ty) (hM : S.1 a = some (.inl (t, x))) (kk : am_W g d y (pc + 1, L, .int (nI x.1) :: st) S P) : am_W g d y (pc, L, .ref a :: st) S P := by
  intro p l e R s m args below meth c H locs cells slots ls hF hH hL
  obtain ⟨hx, hb, -, -, -, hown, hts, -, -, hK, -⟩ := id hF
  exact va_alen hx hb hK (hH.one hM) 0 t rfl (am_tys_at ht) rfl hd (kk p l e R s m args below meth c H locs cells slots ls hF hH hL)
theorem am_sld {i : Int32} (hd : decode y.2.1 pc = .ok (.iaload, 1)) (hi : vp_in i g.2.2.2.2.2.2.1) (kk : am_W g d y (pc + 1, L, .int (g.2.2.2.2.2.2.2 i.toNatClampNeg) :: st) S P) : am_W g d y (pc, L, .int i :: .ref g.2.2.2.2.2.1 :: st) S P := by
  intro p l e R s m args below meth c H locs cells slots ls hF hH hL
  obtain ⟨hx, hb, -, -, -, hown, hts, -, -, hK, -⟩ := id hF
  obtain ⟨-, -, -, hS, -, -, -, -, -, hbs, hX, hbb⟩ := id hH
  exact va_sld hx hb hX (Nat.lt_of_lt_of_le hbb hbs) (A := am_A g) (Nat.not_le.mpr hbb) hS hi hd (kk p l e R s m args below meth c H locs cells slots ls hF hH hL)
theorem am_slen (hd : decode y.2.1 pc = .ok (.arraylength, 1)) (kk : am_W g d y (pc + 1, L, .int (nI g.2.2.2.2.2.2.1) :: st) S P) : am_W g d y (pc, L, .ref g.2.2.2.2.2.1 :: st) S P := by
  intro p l e R s m args below meth c H locs cells slots ls hF hH hL
  obtain ⟨hx, hb, -, -, -, hown, hts, -, -, hK, -⟩ := id hF
  obtain ⟨-, -, -, hS, -, -, -, -, -, hbs, hX, hbb⟩ := id hH
  exact va_slen hx hb hX (Nat.lt_of_lt_of_le hbb hbs) (A := am_A g) (Nat.not_le.mpr hbb) hS hd (kk p l e R s m args below meth c H locs cells slots ls hF hH hL)
theorem am_iast {a t n : Nat} {f : Nat → Int32} {i : Int32} {x : Int32} (hd : decode y.2.1 pc = .ok (.iastore, 1)) (ht : am_tyl[t]? = some .int) (hM : S.1 a = some (.inl (t, n, .inl f))) (hi : vp_in i n) (kk : am_W g d y (pc + 1, L, st) (am_up S.1 a (.inl (t, n, .inl (upd f i.toNatClampNeg x))), S.2) P) : am_W g d y (pc, L, .int x :: .int i :: .ref a :: st) S P := by
  intro p l e R s m args below meth c H locs cells slots ls hF hH hL
  obtain ⟨hx, hb, -, -, -, hown, hts, -, -, hK, -⟩ := id hF
  refine W.iast hx hb (hH.1 a _ hM).2 ((hK.2 t _ (am_tys_at ht)).1 n (fun j => .int (f j))) (fun q => by cases q) (by show ¬ (i < 0 ∨ (arrV _ _ _).slots.size ≤ _); rw [arrV_size]; exact hi) rfl rfl hd fun H1 e1 z oq => ?_
  refine kk p l e R s m args below meth c H1 _ cells slots ls hF (hH.put hM ?_ z oq) hL
  show H1[a]? = some (vp_cell _ _)
  rw [e1]
  show some (Cell.setSlot (vp_cell _ _) _ _) = _
  rw [vp_cell_i, vp_cell_i, arrV_store]
  congr 2
  funext q
  by_cases hq : q = i.toNatClampNeg
  · subst hq
    simp [updV, upd, vp_updL]
    try rfl
  · simp [updV, upd, vp_updL, hq]
theorem am_last {a t n : Nat} {f : Nat → Int64} {i : Int32} {x : Int64} (hd : decode y.2.1 pc = .ok (.lastore, 1)) (ht : am_tyl[t]? = some .long) (hM : S.1 a = some (.inl (t, n, .inr (.inl f)))) (hi : vp_in i n) (kk : am_W g d y (pc + 1, L, st) (am_up S.1 a (.inl (t, n, .inr (.inl (vp_updL f i.toNatClampNeg x)))), S.2) P) : am_W g d y (pc, L, .long x :: .int i :: .ref a :: st) S P := by
  intro p l e R s m args below meth c H locs cells slots ls hF hH hL
  obtain ⟨hx, hb, -, -, -, hown, hts, -, -, hK, -⟩ := id hF
  refine W.last hx hb (hH.1 a _ hM).2 ((hK.2 t _ (am_tys_at ht)).1 n (fun j => .long (f j))) (fun q => by cases q) (by show ¬ (i < 0 ∨ (arrV _ _ _).slots.size ≤ _); rw [arrV_size]; exact hi) rfl rfl hd fun H1 e1 z oq => ?_
  refine kk p l e R s m args below meth c H1 _ cells slots ls hF (hH.put hM ?_ z oq) hL
  show H1[a]? = some (vp_cell _ _)
  rw [e1]
  show some (Cell.setSlot (vp_cell _ _) _ _) = _
  rw [vp_cell_l, vp_cell_l, arrV_store]
  congr 2
  funext q
  by_cases hq : q = i.toNatClampNeg
  · subst hq
    simp [updV, upd, vp_updL]
    try rfl
  · simp [updV, upd, vp_updL, hq]
theorem am_zast {a t n : Nat} {f : Nat → Int32} {i : Int32} {x : Int32} (hd : decode y.2.1 pc = .ok (.bastore, 1)) (ht : am_tyl[t]? = some .boolean) (hM : S.1 a = some (.inl (t, n, .inl f))) (hi : vp_in i n) (kk : am_W g d y (pc + 1, L, st) (am_up S.1 a (.inl (t, n, .inl (upd f i.toNatClampNeg (vp_nar .boolean x)))), S.2) P) : am_W g d y (pc, L, .int x :: .int i :: .ref a :: st) S P := by
  intro p l e R s m args below meth c H locs cells slots ls hF hH hL
  obtain ⟨hx, hb, -, -, -, hown, hts, -, -, hK, -⟩ := id hF
  refine W.zast hx hb (hH.1 a _ hM).2 ((hK.2 t _ (am_tys_at ht)).1 n (fun j => .int (f j))) (fun q => by cases q) (by show ¬ (i < 0 ∨ (arrV _ _ _).slots.size ≤ _); rw [arrV_size]; exact hi) rfl rfl hd fun H1 e1 z oq => ?_
  refine kk p l e R s m args below meth c H1 _ cells slots ls hF (hH.put hM ?_ z oq) hL
  show H1[a]? = some (vp_cell _ _)
  rw [e1]
  show some (Cell.setSlot (vp_cell _ _) _ _) = _
  rw [vp_cell_i, vp_cell_i, arrV_store]
  congr 2
  funext q
  by_cases hq : q = i.toNatClampNeg
  · subst hq
    simp [updV, upd, vp_updL, vp_nar]
    try rfl
  · simp [updV, upd, vp_updL, hq]
theorem am_aast {a t n ci v : Nat} {r : vw_C} {vs : List Value} {f : Nat → Option Nat} {i : Int32} (hd : decode y.2.1 pc = .ok (.aastore, 1)) (ht : am_tyl[t]? = some (.object r.1)) (hM : S.1 a = some (.inl (t, n, .inr (.inr (.inr (.inr f)))))) (hv : S.1 v = some (.inr (ci, vs))) (hc : am_cl[ci]? = some r) (hi : vp_in i n) (kk : am_W g d y (pc + 1, L, st) (am_up S.1 a (.inl (t, n, .inr (.inr (.inr (.inr (va_up f i.toNatClampNeg (some v))))))), S.2) P) : am_W g d y (pc, L, .ref v :: .int i :: .ref a :: st) S P := by
  intro p l e R s m args below meth c H locs cells slots ls hF hH hL
  obtain ⟨hx, hb, -, -, -, hown, hts, -, -, hK, -⟩ := id hF
  have hlt : i.toNatClampNeg < n := Nat.not_le.mp fun q => hi (Or.inr q)
  have h0 : ¬ i < 0 := fun q => hi (Or.inl q)
  obtain ⟨r', hr', cellV, g1, g2, g3, -⟩ := (hH.1 v _ hv).2
  have hcls := (hK.1 ci r hc).2
  obtain ⟨kA, comp, k1, k2, k3, -⟩ := (hK.2 t _ (am_tys_at ht)).2
  have hcomp : comp = g.1.1 ci := Option.some.inj (k3.symm.trans hcls.1)
  subst hcomp
  obtain ⟨kC, hkC, -⟩ := hcls.2
  refine W.aast hx hb (hH.1 a _ hM).2 (fun q h => by cases h) (fun h => by cases h) k1 k2 rfl hkC ⟨h0, by show _ < (arrV _ _ _).slots.size; rw [arrV_size]; exact hlt⟩ g1 (fun q h => by rw [g3] at h; cases h) (by rw [g2]; exact hkC) (by rw [g2]; exact va_assign hcls) rfl rfl hd fun H1 e1 z oq => ?_
  refine kk p l e R s m args below meth c H1 _ cells slots ls hF (hH.put hM ?_ z oq) hL
  show H1[a]? = some (vp_cell _ _)
  rw [e1]
  show some (Cell.setSlot (vp_cell _ _) _ _) = _
  rw [vp_cell_q, vp_cell_q, arrV_store]
  congr 2
  funext q
  by_cases hq : q = i.toNatClampNeg
  · subst hq
    simp [updV, va_up, va_rf]
  · simp [updV, va_up, hq]
theorem am_newa {t N' : Nat} {atype : ArrayType} {ty : FieldType} {n : Int32} {a0 : vp_A} (hd : decode y.2.1 pc = .ok (.newarray atype, 2)) (hty : newarray.typeOf atype = ty) (hw : Cond.arrayClass (newarray.typeOf atype) ∈ am_tbl) (ht : am_tyl[t]? = some ty) (ha : ∀ cA : ClassId, vp_cell cA a0 = arrV cA N' (fun _ => defaultValue ty)) (hra : ∀ (U : State) (cA : ClassId), va_RA U cA ty → U.vm.findClass ("[" ++ ty.toString) = some cA) (hn : ¬ n < 0) (hN : n.toNatClampNeg = N') (hbytes : N' * componentBytes ty ≤ 536870912) (hc : S.2.1 + 1 ≤ g.2.2.2.1) (hz : S.2.2 + N' ≤ g.2.2.2.2.1)
    (kk : am_W g d y (pc + 2, L, .ref S.2.1 :: st) (am_up S.1 S.2.1 (.inl (t, a0)), S.2.1 + 1, S.2.2 + N') P) : am_W g d y (pc, L, .int n :: st) S P := by
  intro p l e R s m args below meth c H locs cells slots ls hF hH hL
  obtain ⟨hx, hb, -, -, -, hown, hts, -, -, hK, -⟩ := id hF
  obtain ⟨-, -, hsz, hS, -, hcs, hcs1, hss, hss1, -⟩ := id hH
  subst hty
  refine va_newaK hx hb (hts _ hw) rfl hd rfl hn hN hbytes (by omega) (by omega) hsz fun H1 cA e1 z1 o1 hAr hNm => ?_
  have hcA : cA = g.2.1 t := Option.some.inj (hNm.symm.trans (hra s _ (hK.2 t _ (am_tys_at ht)).2))
  subst hcA
  refine kk p l e R s m args below meth c H1 locs (cells + 1) (slots + N') ls hF (hH.new ?_ (by rw [z1, hsz]) (fun q hq => o1 q (by rw [← hsz]; exact hq)) hc hz) hL
  show H1[S.2.1]? = some (vp_cell _ _)
  rw [ha]
  exact e1
theorem am_newq {t N' ix : Nat} {C : String} {n : Int32} (hd : decode y.2.1 pc = .ok (.anewarray ix, 3)) (hw : Cond.classLink y.1.cls ix C ∈ am_tbl) (hw2 : C ∈ am_aos) (ht : am_tyl[t]? = some (.object C)) (hn : ¬ n < 0) (hN : n.toNatClampNeg = N') (hbytes : N' * 4 ≤ 536870912) (hc : S.2.1 + 1 ≤ g.2.2.2.1) (hz : S.2.2 + N' ≤ g.2.2.2.2.1)
    (kk : am_W g d y (pc + 3, L, .ref S.2.1 :: st) (am_up S.1 S.2.1 (.inl (t, N', .inr (.inr (.inr (.inr (fun _ => none)))))), S.2.1 + 1, S.2.2 + N') P) : am_W g d y (pc, L, .int n :: st) S P := by
  intro p l e R s m args below meth c H locs cells slots ls hF hH hL
  obtain ⟨hx, hb, -, -, -, hown, hts, -, -, hK, -⟩ := id hF
  obtain ⟨-, -, hsz, hS, -, hcs, hcs1, hss, hss1, -⟩ := id hH
  subst hN
  refine W.anew hx hb hown (hts _ hw) (va_AO.use (hF.2.2.2.2.2.2.2.2.2.2.2.2.2.2.2.2.2 C hw2)) rfl hd rfl hn hbytes (by omega) (by omega) fun cA kA comp f1 f2 f3 f4 => ?_
  obtain ⟨kA', comp', -, -, -, k4⟩ := (hK.2 t _ (am_tys_at ht)).2
  have hcA : cA = g.2.1 t := Option.some.inj (f1.symm.trans k4)
  subst hcA
  generalize hH1 : H.push ({ cls := g.2.1 t, slots := Array.replicate n.toNatClampNeg .null, vm := .none } : Cell) = H1
  have z1 : H1.size = H.size + 1 := by rw [← hH1, Array.size_push]
  have e1 : H1[H.size]? = some (arrV (g.2.1 t) n.toNatClampNeg (fun _ => .null)) := by rw [← hH1, Array.getElem?_push_size, ← arrV_new]
  have o1 : ∀ q : Nat, q < H.size → H1[q]? = H[q]? := fun q hq => by rw [← hH1, Array.getElem?_push, if_neg (Nat.ne_of_lt hq)]
  have e2 : F0 m (pc + 3) ls (.ref H.size :: st) = F0 m (pc + 3) ls (.ref S.2.1 :: st) := by rw [hsz]
  refine W.eq e2 (kk p l e R s m args below meth c H1 locs (cells + 1) (slots + n.toNatClampNeg) ls hF (hH.new ?_ z1 o1 hc hz) hL)
  show H1[S.2.1]? = some (vp_cell _ _)
  rw [← hsz, vp_cell_q]
  exact e1
/-- a class that can be made: its words -/
def am_nw (own : String) (ix ci : Nat) (fs : List Value) : Prop := ∃ (C : String) (T : u_T) (N : Nat) (ty : Nat → FieldType), am_cl[ci]? = some (C, T, N) ∧ (∀ w ∈ u_ws C T N, w ∈ am_tbl) ∧ (∀ k, k < N → parseFieldDescriptor (T k).2.2.1 = some (ty k)) ∧ Cond.classLink own ix C ∈ am_tbl ∧ Cond.instantiable C N ∈ am_tbl ∧ Cond.initialized C ∈ am_tbl ∧ (∀ j, j < N → defaultValue (ty j) = vp_V fs j) ∧ fs.length = N
theorem am_new {ix ci : Nat} {fs : List Value} (hd : decode y.2.1 pc = .ok (.new ix, 3)) (hw : am_nw y.1.cls ix ci fs) (hc : S.2.1 + 1 ≤ g.2.2.2.1) (hz : S.2.2 + fs.length ≤ g.2.2.2.2.1)
    (kk : am_W g d y (pc + 3, L, .ref S.2.1 :: st) (am_up S.1 S.2.1 (.inr (ci, fs)), S.2.1 + 1, S.2.2 + fs.length) P) : am_W g d y (pc, L, st) S P := by
  intro p l e R s m args below meth c H locs cells slots ls hF hH hL
  obtain ⟨hx, hb, -, -, -, hown, hts, -, -, hK, -⟩ := id hF
  obtain ⟨-, -, hsz, hS, -, hcs, hcs1, hss, hss1, -⟩ := id hH
  obtain ⟨C, T, N, ty, hcl, hin, hty, hl1, hl2, hl3, hdf, hlen⟩ := hw
  subst hlen
  have hKn := hK.1 ci _ hcl
  refine W.newcK hx hb hown (hts _ hl1) (hts _ hl2) (hts _ hl3) rfl hd (by omega) (by omega) hKn.2.1 hsz fun H1 kC hkC e1 z1 o1 => ?_
  exact kk p l e R s m args below meth c H1 locs (cells + 1) (slots + fs.length) ls hF (hH.new ⟨_, hcl, (u_born ty hts hin hKn hkC e1 hty).to hdf⟩ (by rw [z1, hsz]) (fun q hq => o1 q (by rw [← hsz]; exact hq)) hc hz) hL
/-- Object's constructor -/
theorem am_obj {ix a : Nat} (hd : decode y.2.1 pc = .ok (.invokespecial ix, 3)) (h1 : Cond.methodLink y.1.cls ix objectInit ∈ am_tbl) (h2 : Cond.instanceMethod objectInit ∈ am_tbl) (h3 : Cond.code objectInit ⟨#[0xb1]⟩ 1 none ∈ am_tbl) (hr : (st.map fun v => v.category).sum ≤ 8) (kk : am_W g d y (pc + 3, L, st) S P) : am_W g d y (pc, L, .ref a :: st) S P := by
  intro p l e R s m args below meth c H locs cells slots ls hF hH hL
  obtain ⟨hx, hb, -, -, -, hown, hts, -, -, hK, -⟩ := id hF
  have hfr : d + 6 ≤ R.frames := hF.2.2.2.2.2.2.2.2.2.2.1
  have hlo : 60 * d + 100 ≤ R.locals := hF.2.2.2.2.2.2.2.2.2.2.2.1
  refine W.objInit hx hb hown (hts _ h1) (hts _ h2) (hts _ h3) rfl (hL.1.1.trans hF.2.2.1.symm) rfl hd (by omega) ?_ (kk p l e R s m args below meth c H locs cells slots ls hF hH hL)
  show 2 * 0 + _ + 12 ≤ R.locals
  omega
theorem am_iret {v : Int32} (hd : decode y.2.1 pc = .ok (.ireturn, 1)) (hq : y.2.2.2.1 = some .int) (hP : P (.inl (some (.int v))) S) : am_W g d y (pc, L, [.int v]) S P := by
  intro p l e R s m args below meth c H locs cells slots ls hF hH hL
  obtain ⟨hx, hb, -, hr, -, -, -, hlocks, -⟩ := id hF
  intro T hT X
  obtain ⟨fs, hret, hrun, hended, hW, hframe⟩ := X.leave (v := (some (.int v))) (fun h => by rw [hr, hq] at h; cases h) hlocks
  have hmeth2 : T.vm.method? m = some meth := X.method'
  rw [hq] at hr
  refine ⟨T.setFrames fs, ?_, .inl (some (.int v)), S, locs, cells, slots, hP, hrun, hended, hW, hframe, by show am_Hp g S R s T.heap locs cells slots; rw [hT]; exact hH⟩
  jvm_step X.here [X.here.top, hx, hb, hd, hmeth2, hr, narrow]
  (try refine ⟨rfl, ?_⟩); (try refine ⟨rfl, ?_⟩)
  first | (intro acts; rw [hret _ acts rfl rfl rfl]) | rw [hret _ _ rfl rfl rfl]
  exact Steps.refl _
theorem am_zret {v : Int32} (hd : decode y.2.1 pc = .ok (.ireturn, 1)) (hq : y.2.2.2.1 = some .boolean) (hn : narrow .boolean (.int v) = .int v) (hP : P (.inl (some (.int v))) S) : am_W g d y (pc, L, [.int v]) S P := by
  intro p l e R s m args below meth c H locs cells slots ls hF hH hL
  obtain ⟨hx, hb, -, hr, -, -, -, hlocks, -⟩ := id hF
  intro T hT X
  obtain ⟨fs, hret, hrun, hended, hW, hframe⟩ := X.leave (v := (some (.int v))) (fun h => by rw [hr, hq] at h; cases h) hlocks
  have hmeth2 : T.vm.method? m = some meth := X.method'
  rw [hq] at hr
  refine ⟨T.setFrames fs, ?_, .inl (some (.int v)), S, locs, cells, slots, hP, hrun, hended, hW, hframe, by show am_Hp g S R s T.heap locs cells slots; rw [hT]; exact hH⟩
  jvm_step X.here [X.here.top, hx, hb, hd, hmeth2, hr, hn]
  (try refine ⟨rfl, ?_⟩); (try refine ⟨rfl, ?_⟩)
  first | (intro acts; rw [hret _ acts rfl rfl rfl]) | rw [hret _ _ rfl rfl rfl]
  exact Steps.refl _
theorem am_lret {v : Int64} (hd : decode y.2.1 pc = .ok (.lreturn, 1)) (hq : y.2.2.2.1 = some .long) (hP : P (.inl (some (.long v))) S) : am_W g d y (pc, L, [.long v]) S P := by
  intro p l e R s m args below meth c H locs cells slots ls hF hH hL
  obtain ⟨hx, hb, -, hr, -, -, -, hlocks, -⟩ := id hF
  intro T hT X
  obtain ⟨fs, hret, hrun, hended, hW, hframe⟩ := X.leave (v := (some (.long v))) (fun h => by rw [hr, hq] at h; cases h) hlocks
  have hmeth2 : T.vm.method? m = some meth := X.method'
  rw [hq] at hr
  refine ⟨T.setFrames fs, ?_, .inl (some (.long v)), S, locs, cells, slots, hP, hrun, hended, hW, hframe, by show am_Hp g S R s T.heap locs cells slots; rw [hT]; exact hH⟩
  jvm_step X.here [X.here.top, hx, hb, hd, hmeth2, hr, narrow]
  (try refine ⟨rfl, ?_⟩); (try refine ⟨rfl, ?_⟩)
  first | (intro acts; rw [hret _ acts rfl rfl rfl]) | rw [hret _ _ rfl rfl rfl]
  exact Steps.refl _
theorem am_vret  (hd : decode y.2.1 pc = .ok (.return_, 1)) (hq : y.2.2.2.1 = none) (hP : P (.inl none) S) : am_W g d y (pc, L, []) S P := by
  intro p l e R s m args below meth c H locs cells slots ls hF hH hL
  obtain ⟨hx, hb, -, hr, -, -, -, hlocks, -⟩ := id hF
  intro T hT X
  obtain ⟨fs, hret, hrun, hended, hW, hframe⟩ := X.leave (v := none) (fun h => rfl) hlocks
  have hmeth2 : T.vm.method? m = some meth := X.method'
  rw [hq] at hr
  refine ⟨T.setFrames fs, ?_, .inl none, S, locs, cells, slots, hP, hrun, hended, hW, hframe, by show am_Hp g S R s T.heap locs cells slots; rw [hT]; exact hH⟩
  jvm_step X.here [X.here.top, hx, hb, hd, hmeth2, hr]
  (try refine ⟨rfl, ?_⟩); (try refine ⟨rfl, ?_⟩)
  first | (intro acts; rw [hret _ acts rfl rfl rfl]) | rw [hret _ _ rfl rfl rfl]
  exact Steps.refl _
theorem am_aret {v : Nat} {C : String} (hd : decode y.2.1 pc = .ok (.areturn, 1)) (hq : y.2.2.2.1 = some (.object C)) (hP : P (.inl (some (.ref v))) S) : am_W g d y (pc, L, [.ref v]) S P := by
  intro p l e R s m args below meth c H locs cells slots ls hF hH hL
  obtain ⟨hx, hb, -, hr, -, -, -, hlocks, -⟩ := id hF
  intro T hT X
  obtain ⟨fs, hret, hrun, hended, hW, hframe⟩ := X.leave (v := (some (.ref v))) (fun h => by rw [hr, hq] at h; cases h) hlocks
  have hmeth2 : T.vm.method? m = some meth := X.method'
  rw [hq] at hr
  refine ⟨T.setFrames fs, ?_, .inl (some (.ref v)), S, locs, cells, slots, hP, hrun, hended, hW, hframe, by show am_Hp g S R s T.heap locs cells slots; rw [hT]; exact hH⟩
  jvm_step X.here [X.here.top, hx, hb, hd, hmeth2, hr]
  (try refine ⟨rfl, ?_⟩); (try refine ⟨rfl, ?_⟩)
  first | (intro acts; rw [hret _ acts rfl rfl rfl]) | rw [hret _ _ rfl rfl rfl]
  exact Steps.refl _
end AmRows
end
section
/-! calls: the callee's own judgement, whatever it is, is walked into and out of -/
/-- a method that may be called: its words -/
def am_ok (y : am_I) : Prop := plainFor y.1 = true ∧ y.2.2.1 ≤ 41 ∧ ((y.2.2.2.2 = [] ∧ Cond.code y.1 y.2.1 y.2.2.1 y.2.2.2.1 ∈ am_tbl) ∨ Cond.codeWith y.1 y.2.1 y.2.2.1 y.2.2.2.1 y.2.2.2.2 ∈ am_tbl)
/-- the locals at a method's entry -/
def am_ent (as : List Value) (n : Nat) : List (Option Value) := let l := as.flatMap (fun v => if v.category = 2 then [some v, none] else [some v]); l ++ List.replicate (n - l.length) none
theorem am_ent_at (as : List Value) : ∀ (i : Nat) (v : Value), (as.flatMap (fun v => if v.category = 2 then [some v, none] else [some v]))[i]? = some (some v) → (lg_sl as)[i]? = some (.val v) := by
  induction as with
  | nil => intro i v h; simp at h
  | cons a t ih =>
    intro i v h
    by_cases ha : a.category = 2
    · simp only [List.flatMap_cons, if_pos ha, lg_sl] at h ⊢
      match i, h with
      | 0, h => simp at h ⊢; exact h
      | 1, h => simp at h
      | i + 2, h =>
        simp only [List.cons_append, List.nil_append, List.getElem?_cons_succ] at h ⊢
        exact ih i v h
    · simp only [List.flatMap_cons, if_neg ha, lg_sl] at h ⊢
      match i, h with
      | 0, h => simp at h ⊢; exact h
      | i + 1, h =>
        simp only [List.cons_append, List.nil_append, List.getElem?_cons_succ] at h ⊢
        exact ih i v h
theorem am_ent_len (as : List Value) : (as.flatMap (fun v => if v.category = 2 then [some v, none] else [some v])).length = (lg_sl as).length := by
  induction as with
  | nil => rfl
  | cons a t ih =>
    simp only [List.flatMap_cons, lg_sl, List.length_append] at ih ⊢
    rw [ih]
    by_cases ha : a.category = 2 <;> simp [ha]
theorem am_ent_ls {as : List Value} {n : Nat} (h : (lg_sl as).length ≤ n) : am_Ls n (lg_sl as ++ List.replicate (n - (lg_sl as).length) Slot.unset).toArray (am_ent as n) := by
  have h1 := lv_entry as (n := n) h
  refine ⟨⟨h1.1, h1.2.1, fun q hq => absurd hq List.not_mem_nil⟩, fun i v hi => ?_⟩
  simp only [am_ent] at hi
  rcases Nat.lt_or_ge i (as.flatMap (fun (v : Value) => if v.category = 2 then [some v, none] else [some v])).length with hl | hl
  · rw [List.getElem?_append_left hl] at hi
    have h2 := am_ent_at as i v hi
    have hl2 : i < (lg_sl as).length := by rw [← am_ent_len]; exact hl
    simp only [List.getElem?_toArray]
    rw [List.getElem?_append_left hl2]
    exact h2
  · rw [List.getElem?_append_right hl] at hi
    have := List.mem_of_getElem? hi
    rw [List.mem_replicate] at this
    cases this.2
theorem am_ns {g : am_G} {S : am_S} {R : Room} {s : State} {H : Heap} {locs : List Loc} {cells slots : Nat} (h : am_Hp g S R s H locs cells slots) {q : Nat} {cell : Cell} (hq : g.2.2.1 ≤ q) (hc : H[q]? = some cell) : cell.vm.isStatics = false := by
  have hlt : q < S.2.1 := by rw [← h.2.2.1]; exact (Array.getElem?_eq_some_iff.mp hc).1
  obtain ⟨e, he⟩ := h.2.1 q hq hlt
  have h1 := (h.1 q e he).2
  cases e with
  | inl x =>
    have h1 : H[q]? = some (vp_cell (g.2.1 x.1) x.2) := h1
    rw [hc] at h1
    cases h1
    obtain ⟨t, n, f | f | f | f | f⟩ := x <;> rfl
  | inr o =>
    obtain ⟨r, -, cell', g1, -, g3, -⟩ := h1
    rw [hc] at g1
    cases g1
    rw [g3]; rfl
theorem am_St.into {p : Program} {l : Launch} {e : Env} {R : Room} {s : State} {m : MethodId} {args : Array Value} {below : List Frame} {meth : Method} {c : Code} {T : State} {locs : List Loc} {cells slots : Nat} {g : am_G} {S : am_S} {gg : JFrame} {mk : MethodId} {a : Array Value}
    (h : am_St g l s) (hH : am_Hp g S R s T.heap locs cells slots) (X : Stand p l e R s m args below meth c T locs cells slots) : am_St g l (T.calling gg mk a) := by
  obtain ⟨h1, h2, h3, h4, h5, h6⟩ := h
  have hal : s.vm.Alike (T.calling gg mk a).vm := X.warmed.alike
  have hk : ∀ q : Nat, q < s.heap.size → ¬ (am_A g) q → (T.calling gg mk a).heap[q]? = s.heap[q]? := hH.2.2.2.1.2.1
  exact ⟨h1, vx_Zq.moved hal (h2.kept hk), vx_Zq.moved hal (h3.kept hk), fun q hq => (h4 q hq).moved hal, fun q hq => by
    obtain ⟨a, ha⟩ := h5 q hq
    exact ⟨a, vk_R.warm (U := T.calling gg mk _) X.warmed ha⟩, fun C hC => (h6 C hC).moved hal⟩
section AmCalls
variable {p : Program} {l : Launch} {e : Env} {R : Room} {s : State} {m : MethodId} {args : Array Value} {below : List Frame} {meth : Method} {c : Code} {T : State} {locs : List Loc} {cells slots : Nat}
variable {g : am_G} {d : Nat} {y y' : am_I} {S : am_S} {P P' : am_O → am_S → Prop}
/-- the callee's frame, from the caller's -/
theorem am_Fx.into (hF : am_Fx g (d + 1) y p l R s m args meth c) (hH : am_Hp g S R s T.heap locs cells slots) (X : Stand p l e R s m args below meth c T locs cells slots) (hy : am_ok y') {mk : MethodId} (hn : s.methodNamed? y'.1 = some mk) (gg : JFrame) (a : Array Value) :
    ∃ (methk : Method) (ck : Code), T.vm.method? mk = some methk ∧ methk.code = some ck ∧ methk.locks = false ∧ T.plainMethod mk ∧ ck.maxLocals = y'.2.2.1 ∧ am_Fx g d y' p l { frames := R.frames - 1, cells := R.cells - cells, slots := R.slots - slots, locals := R.locals - 60 } (T.calling gg mk a) mk a methk ck := by
  obtain ⟨hx, -, -, -, -, -, hts, -, -, hK, hfr, hlo, hSt⟩ := hF
  obtain ⟨hp, hm45, hw⟩ := hy
  have hal : s.vm.Alike T.vm := X.warmed.alike
  have hts2 : ∀ w ∈ am_tbl, w.before a (T.calling gg mk a) = true := fun w hw => am_word (U := T.calling gg mk a) X.warmed (List.mem_filter.mp hw).2 (hts w hw)
  have hn2 : (T.calling gg mk a).methodNamed? y'.1 = some mk := X.named hn
  have key : ∃ (methk : Method) (ck : Code), (T.calling gg mk a).vm.method? mk = some methk ∧ methk.code = some ck ∧ ck.code = y'.2.1 ∧ ck.maxLocals = y'.2.2.1 ∧ methk.sig.returnType = y'.2.2.2.1 ∧ methk.locks = false ∧ ck.exceptionTable.toList.map (fun h => (h.startPc, h.endPc, h.handlerPc, h.catchType)) = y'.2.2.2.2 := by
    rcases hw with ⟨h1, h2⟩ | h2
    · obtain ⟨methk, ck, q1, q2, q3, q4, q5, q6, q7, -⟩ := Cond.code_spec hn2 (hts2 _ h2)
      refine ⟨methk, ck, q1, q2, q3, q4, q5, q6, ?_⟩
      have : ck.exceptionTable = #[] := by simpa using q7
      rw [this, h1]; rfl
    · obtain ⟨mk', methk, ck, q0, q1, q2, q3, q4, q5, q6, q7, -⟩ := Cond.codeWith_spec (hts2 _ h2)
      cases hn2.symm.trans q0
      exact ⟨methk, ck, q1, q2, q3, q4, q6, q7, q5⟩
  obtain ⟨methk, ck, q1, q2, q3, q4, q5, q6, q7⟩ := key
  have hpl : (T.calling gg mk a).plainMethod mk := State.plainMethod.of_named hp hn2 q1
  refine ⟨methk, ck, q1, q2, q6, hpl, q4, hx, q3, q4, q5, (name_of_methodNamed hn2 q1).1, findClass_of_methodNamed hn2, hts2, q6, q7, va_K.moved hal hK, by show d + 6 ≤ R.frames - 1; omega, by show 60 * d + 100 ≤ R.locals - 60; omega, am_St.into hSt hH X⟩
theorem am_Hp.into (hH : am_Hp g S R s T.heap locs cells slots) (X : Stand p l e R s m args below meth c T locs cells slots) (gg : JFrame) (mk : MethodId) (a : Array Value) (f lo : Nat) :
    am_Hp g S { frames := f, cells := R.cells - cells, slots := R.slots - slots, locals := lo } (T.calling gg mk a) T.heap [] 0 0 := by
  obtain ⟨h1, h2, h3, h4, h5, h6, h7, h8, h9, h10, h11, h12⟩ := id hH
  refine ⟨h1, h2, h3, va_S.rf, fun q cell hq hc => am_ns hH hq hc, by show S.2.1 + (R.cells - cells) = g.2.2.2.1 + 0; omega, Nat.zero_le _, by show S.2.2 + (R.slots - slots) = g.2.2.2.2.1 + 0; omega, Nat.zero_le _, Nat.le_trans h10 h4.1, ?_, h12⟩
  exact (va_X.moved (U := T.calling gg mk a) X.warmed.alike h11).kept (h4.2.1 _ (Nat.lt_of_lt_of_le h12 h10) (Nat.not_le.mpr h12))
theorem am_Hp.outOf {T2 : State} {S1 : am_S} {L : List Loc} {k j f lo : Nat} {gg : JFrame} {mk : MethodId} {a : Array Value} (hH : am_Hp g S R s T.heap locs cells slots) (h : am_Hp g S1 { frames := f, cells := R.cells - cells, slots := R.slots - slots, locals := lo } (T.calling gg mk a) T2.heap L k j) : am_Hp g S1 R s T2.heap (locs ++ L) (cells + k) (slots + j) := by
  obtain ⟨h1, h2, h3, h4, h5, h6, h7, h8, h9, h10, h11, h12⟩ := hH
  obtain ⟨i1, i2, i3, i4, i5, i6, i7, i8, i9, -⟩ := h
  have i6 : S1.2.1 + (R.cells - cells) = g.2.2.2.1 + k := i6
  have i7 : k ≤ R.cells - cells := i7
  have i8 : S1.2.2 + (R.slots - slots) = g.2.2.2.2.1 + j := i8
  have i9 : j ≤ R.slots - slots := i9
  have i4 : va_S (am_A g) T.heap T2.heap L := i4
  refine ⟨i1, i2, i3, ⟨Nat.le_trans h4.1 i4.1, fun q q1 q2 => (i4.2.1 q (Nat.lt_of_lt_of_le q1 h4.1) q2).trans (h4.2.1 q q1 q2), fun q hq => ?_⟩, h5, by omega, by omega, by omega, by omega, h10, h11, h12⟩
  rcases List.mem_append.mp hq with hq | hq
  · exact h4.2.2 q hq
  · exact i4.2.2 q hq
/-- into a callee, and out of it -/
theorem am_run (X : Stand p l e R s m args below meth c T locs cells slots) (hF : am_Fx g (d + 1) y p l R s m args meth c) (hH : am_Hp g S R s T.heap locs cells slots) (hy : am_ok y') {mk : MethodId} (hn : s.methodNamed? y'.1 = some mk) {gg : JFrame} (hg : gg.method = m) (hsize : gg.locals.size = c.maxLocals) (hmr : gg.monitorRoom = 0) {ig : Instr} {len : Nat} (hdg : decode c.code gg.pc = .ok (ig, len)) {as : List Value} (hlen : (lg_sl as).length ≤ y'.2.2.1) (hw : (gg.stack.map fun v => v.category).sum ≤ 8)
    (hc : am_W g d y' (0, am_ent as y'.2.2.1, []) S P') (acts : List Action) :
    ∃ (t : State), Steps p.tables e below (doInvoke e (T.setTop gg) acts mk as.toArray).1 t ∧
      ((∃ (v : Option Value) (S1 : am_S) (T2 : State) (L : List Loc) (k j : Nat), P' (.inl v) S1 ∧ Stand p l e R s m args below meth c T2 (locs ++ L) (cells + k) (slots + j) ∧ am_Hp g S1 R s T2.heap (locs ++ L) (cells + k) (slots + j) ∧ t = T2.setTop { gg with pc := gg.pc + len, stack := v.toList ++ gg.stack }) ∨
       (∃ (x : Nat) (S1 : am_S) (T2 : State) (L : List Loc) (k j : Nat), P' (.inr x) S1 ∧ Stand p l e R s m args below meth c T2 (locs ++ L) (cells + k) (slots + j) ∧ am_Hp g S1 R s T2.heap (locs ++ L) (cells + k) (slots + j) ∧ t = (T2.setTop gg).pushFrame (.throwing x))) := by
  obtain ⟨methk, ck, hmk, hck, hlk, hpk, hml, hFk⟩ := hF.into hH X hy hn gg as.toArray
  have hfr : d + 1 + 6 ≤ R.frames := hF.2.2.2.2.2.2.2.2.2.2.1
  have hlo : 60 * (d + 1) + 100 ≤ R.locals := hF.2.2.2.2.2.2.2.2.2.2.2.1
  have h45 := hy.2.1
  have hcl : cells ≤ R.cells := hH.2.2.2.2.2.2.1
  have hsl : slots ≤ R.slots := hH.2.2.2.2.2.2.2.2.1
  obtain ⟨Y0, hin⟩ := X.into hg hsize hdg as.toArray (R' := { frames := R.frames - 1, cells := R.cells - cells, slots := R.slots - slots, locals := R.locals - 60 }) hmk hck hlk hpk (by show R.frames - 1 + 1 ≤ R.frames; omega) (by rw [hmr, hml]; show 2 * 0 + _ + _ + (R.locals - 60) ≤ R.locals; omega) (by show cells + (R.cells - cells) ≤ R.cells; omega) (by show slots + (R.slots - slots) ≤ R.slots; omega)
  have hent : entryFrame mk as.toArray ck.maxLocals = F0 mk 0 ((lg_sl as ++ List.replicate (ck.maxLocals - (lg_sl as).length) Slot.unset).toArray) [] := lg_entry_eq mk as ck.maxLocals
  have hheap : ((T.setTop gg).pushFrame (.java (entryFrame mk as.toArray ck.maxLocals))).heap = T.heap := by simp [State.pushFrame, State.setFrames, State.setTop, State.modifyTopJava]
  obtain ⟨t, hst, o, S1, L, k, j, hP, hrun, hend, hW, hsame, hH1⟩ := hc p l e _ _ mk as.toArray (.java gg :: below) methk ck T.heap [] 0 0 _ hFk (hH.into X gg mk as.toArray _ _) (am_ent_ls hlen) _ hheap Y0
  refine ⟨t, ?_, ?_⟩
  · have h9 := Steps.weaken (mid := [.java gg]) hst
    rw [hml] at hent
    rw [hin acts]
    generalize (T.setTop gg).pushFrame (.java (entryFrame mk as.toArray ck.maxLocals)) = U9 at h9 ⊢
    rw [hml, hent]
    exact h9
  · cases o with
    | inl v =>
      obtain ⟨T2, X2, hW2, -, ht⟩ := X.outOf hg hdg hend hW hsame
      have hh : t.heap = T2.heap := by rw [ht]; simp [State.setTop, State.modifyTopJava]
      rw [hh] at hH1
      exact Or.inl ⟨v, S1, T2, L, k, j, hP, X2, hH.outOf hH1, ht⟩
    | inr x =>
      obtain ⟨T2, X2, hW2, -, ht⟩ := X.outOfThrown hg hend hW hsame
      have hh : t.heap = T2.heap := by rw [ht]; simp [State.pushFrame, State.setFrames, State.setTop, State.modifyTopJava]
      rw [hh] at hH1
      exact Or.inr ⟨x, S1, T2, L, k, j, hP, X2, hH.outOf hH1, ht⟩
end AmCalls
section AmCallRows
variable {g : am_G} {d : Nat} {y y' : am_I} {pc : Nat} {L : List (Option Value)} {st rest as : List Value} {S : am_S} {P P' : am_O → am_S → Prop}
/-- what happens to a throw that comes out of the call at pc: no handler there (nh), or one -/
def am_Cat (g : am_G) (d : Nat) (y : am_I) (pc : Nat) (L : List (Option Value)) (x : Nat) (S : am_S) (P : am_O → am_S → Prop) : Prop :=
  ∀ (p : Program) (l : Launch) (e : Env) (R : Room) (s : State) (m : MethodId) (args : Array Value) (below : List Frame) (meth : Method) (c : Code) (T : State) (locs : List Loc) (cells slots : Nat) (ls : Array Slot) (rest : List Value),
    am_Fx g d y p l R s m args meth c → am_Hp g S R s T.heap locs cells slots → am_Ls y.2.2.1 ls L → Stand p l e R s m args below meth c T locs cells slots →
    ∃ t, Steps p.tables e below ((T.setTop (F0 m pc ls rest)).pushFrame (.throwing x)) t ∧ am_Q g R s below P t
theorem am_catNo {x : Nat} (hh : y.2.2.2.2 = []) (hP : P (.inr x) S) : am_Cat g d y pc L x S P := by
  intro p l e R s m args below meth c T locs cells slots ls rest hF hH hL X
  have he : c.exceptionTable.toList.map (fun h => (h.startPc, h.endPc, h.handlerPc, h.catchType)) = [] := hF.2.2.2.2.2.2.2.2.1.trans hh
  have he2 : c.exceptionTable.toList = [] := List.map_eq_nil_iff.mp he
  obtain ⟨a1, a2, a3, a4, a5⟩ := X.leaveThrown x (g := F0 m pc ls rest) rfl rfl rfl (fun q hq => by rw [he2] at hq; cases hq) hF.2.2.2.2.2.2.2.1
  exact ⟨_, a1, .inr x, S, locs, cells, slots, hP, a2, a3, a4, a5, hH⟩
def am_cS (own : String) (ix : Nat) (y' : am_I) (n : Nat) : Prop := am_ok y' ∧ Cond.methodLink own ix y'.1 ∈ am_tbl ∧ Cond.static y'.1 ∈ am_tbl ∧ Cond.initialized y'.1.cls ∈ am_tbl ∧ (y'.1.cls ≠ "java/lang/invoke/MethodHandle" ∧ y'.1.cls ≠ "java/lang/invoke/VarHandle") ∧ ∃ sig, parseMethodDescriptor y'.1.desc = some sig ∧ sig.parameters.length = n
def am_cV (own : String) (ix : Nat) (y' : am_I) (ci n : Nat) : Prop := am_ok y' ∧ Cond.methodLink own ix y'.1 ∈ am_tbl ∧ Cond.instanceMethod y'.1 ∈ am_tbl ∧ Cond.selects y'.1.cls y'.1 y'.1 ∈ am_tbl ∧ (∃ (T : u_T) (N : Nat), am_cl[ci]? = some (y'.1.cls, T, N)) ∧ (y'.1.cls ≠ "java/lang/invoke/MethodHandle" ∧ y'.1.cls ≠ "java/lang/invoke/VarHandle") ∧ ∃ sig, parseMethodDescriptor y'.1.desc = some sig ∧ sig.parameters.length = n
def am_cI (own : String) (ix : Nat) (y' : am_I) (n : Nat) : Prop := am_ok y' ∧ y'.1.name = "<init>" ∧ y'.2.2.2.1 = none ∧ y'.2.2.2.2 = [] ∧ Cond.methodLink own ix y'.1 ∈ am_tbl ∧ Cond.instanceMethod y'.1 ∈ am_tbl ∧ Cond.code y'.1 y'.2.1 y'.2.2.1 none ∈ am_tbl ∧ (y'.1.cls ≠ "java/lang/invoke/MethodHandle" ∧ y'.1.cls ≠ "java/lang/invoke/VarHandle") ∧ ∃ sig, parseMethodDescriptor y'.1.desc = some sig ∧ sig.parameters.length = n
theorem am_callS {ix n : Nat} (as rest : List Value) (hd : decode y.2.1 pc = .ok (.invokestatic ix, 3)) (hc : am_cS y.1.cls ix y' n) (hn : as.length = n) (hst : st = as.reverse ++ rest) (hl : (lg_sl as).length ≤ y'.2.2.1) (hw : (rest.map fun v => v.category).sum ≤ 8)
    (hm : am_W g d y' (0, am_ent as y'.2.2.1, []) S P') (k : ∀ v S1, P' (.inl v) S1 → am_W g (d + 1) y (pc + 3, L, v.toList ++ rest) S1 P) (kt : ∀ x S1, P' (.inr x) S1 → am_Cat g (d + 1) y pc L x S1 P) : am_W g (d + 1) y (pc, L, st) S P := by
  intro p l e R s m args below meth c H locs cells slots ls hF hH hL T hT X
  obtain ⟨hx, hb, hml, -, -, hown, hts, -⟩ := id hF
  obtain ⟨hok, h1, h2, h3, h4, sig, h5, h6⟩ := hc
  subst hT
  subst hst
  have hnamed : ∃ mk, s.methodNamed? y'.1 = some mk := by
    rcases hok.2.2 with ⟨-, q⟩ | q
    · exact Cond.code_named (hts _ q)
    · obtain ⟨mk, _, _, q0, -⟩ := Cond.codeWith_spec (hts _ q); exact ⟨mk, q0⟩
  obtain ⟨mk, hnamed⟩ := hnamed
  obtain ⟨methM, hmethM, hsigM⟩ : ∃ methM, s.vm.method? mk = some methM ∧ parseMethodDescriptor y'.1.desc = some methM.sig := by
    rcases hok.2.2 with ⟨-, q⟩ | q
    · obtain ⟨methM, _, q1, -, -, -, -, -, -, q2⟩ := Cond.code_spec hnamed (hts _ q); exact ⟨methM, q1, q2⟩
    · obtain ⟨mk', methM, _, q0, q1, -, -, -, -, -, -, q2⟩ := Cond.codeWith_spec (hts _ q)
      cases hnamed.symm.trans q0
      exact ⟨methM, q1, q2⟩
  have hstatic : methM.isStatic = true := Cond.static_spec hnamed hmethM (hts _ h2)
  obtain ⟨kP, hkP, -⟩ := className_of_methodNamed hnamed
  have hinitP : kP.init = .initialized := Cond.initialized_spec (findClass_of_methodNamed hnamed) hkP (hts _ h3)
  have hlen : as.length = methM.sig.parameters.length := by
    rw [h5] at hsigM
    rw [← Option.some.inj hsigM, h6, hn]
  obtain ⟨vm1, X1, hstep⟩ := X.invokestatic hx hown (hts _ h1) hnamed hmethM hstatic hkP hinitP h4 (g := F0 m pc ls (as.reverse ++ rest)) rfl (argsL := as) (rest := rest) hlen rfl (by rw [hb]; exact hd)
  obtain ⟨t, hsteps, hr⟩ := am_run (T := T.setVm vm1) X1 hF hH hok hnamed (gg := F0 m pc ls rest) rfl (hL.1.1.trans hml.symm) rfl (ig := .invokestatic ix) (len := 3) (by rw [hb]; exact hd) hl hw hm []
  rcases hr with ⟨v, S1, T2, L2, k2, j2, hP1, X2, hH2, ht⟩ | ⟨x, S1, T2, L2, k2, j2, hP1, X2, hH2, ht⟩
  · obtain ⟨t2, a1, b1⟩ := k v S1 hP1 p l e R s m args below meth c T2.heap _ _ _ ls hF hH2 hL T2 rfl X2
    exact ⟨t2, hstep _ (fun acts => by rw [doInvoke_state]; exact hsteps.trans (by rw [ht]; exact a1)), b1⟩
  · obtain ⟨t2, a1, b1⟩ := kt x S1 hP1 p l e R s m args below meth c T2 _ _ _ ls rest hF hH2 hL X2
    exact ⟨t2, hstep _ (fun acts => by rw [doInvoke_state]; exact hsteps.trans (by rw [ht]; exact a1)), b1⟩
theorem am_callV {ix ci n b : Nat} {fs : List Value} (as rest : List Value) (hd : decode y.2.1 pc = .ok (.invokevirtual ix, 3)) (hc : am_cV y.1.cls ix y' ci n) (hM : S.1 b = some (.inr (ci, fs))) (hn : as.length = n) (hst : st = as.reverse ++ .ref b :: rest) (hl : (lg_sl (.ref b :: as)).length ≤ y'.2.2.1) (hw : (rest.map fun v => v.category).sum ≤ 8)
    (hm : am_W g d y' (0, am_ent (.ref b :: as) y'.2.2.1, []) S P') (k : ∀ v S1, P' (.inl v) S1 → am_W g (d + 1) y (pc + 3, L, v.toList ++ rest) S1 P) (kt : ∀ x S1, P' (.inr x) S1 → am_Cat g (d + 1) y pc L x S1 P) : am_W g (d + 1) y (pc, L, st) S P := by
  intro p l e R s m args below meth c H locs cells slots ls hF hH hL T hT X
  obtain ⟨hx, hb, hml, -, -, hown, hts, -, -, hK, -⟩ := id hF
  obtain ⟨hok, h1, h2, h3, ⟨TC, NC, hcl⟩, h4, sig, h5, h6⟩ := hc
  subst hT
  subst hst
  obtain ⟨mk, methM, hnamed, hmethM, hstM, habM⟩ := Cond.instanceMethod_spec (hts _ h2)
  obtain ⟨methM', hmethM', hsigM⟩ : ∃ methM, s.vm.method? mk = some methM ∧ parseMethodDescriptor y'.1.desc = some methM.sig := by
    rcases hok.2.2 with ⟨-, q⟩ | q
    · obtain ⟨methM, _, q1, -, -, -, -, -, -, q2⟩ := Cond.code_spec hnamed (hts _ q); exact ⟨methM, q1, q2⟩
    · obtain ⟨mk', methM, _, q0, q1, -, -, -, -, -, -, q2⟩ := Cond.codeWith_spec (hts _ q)
      cases hnamed.symm.trans q0
      exact ⟨methM, q1, q2⟩
  cases hmethM.symm.trans hmethM'
  obtain ⟨cellB, hcB, hoB, hclB⟩ := va_recv (q0 := 0) hK (hH.one hM) hcl rfl
  have hclB : s.vm.findClass y'.1.cls = some cellB.cls := hclB
  obtain ⟨c2, r2, m2, q1, q2, q3, q4, kP, hkP, hkPi⟩ := Cond.selects_spec (hts _ h3)
  cases hclB.symm.trans q1
  cases (State.methodFound?_of_named hnamed h4).symm.trans q2
  cases hnamed.symm.trans q3
  have hselP : selectMethod e.platform s.vm cellB.cls mk = .method mk := by rw [Launch.admits_selectMethod X.admits]; exact q4
  have hlen : as.length = methM.sig.parameters.length := by
    rw [h5] at hsigM
    rw [← Option.some.inj hsigM, h6, hn]
  obtain ⟨vm1, X1, hstep⟩ := X.invokevirtual hx hown (hts _ h1) hnamed hmethM hstM hkP hkPi h4 (a := b) (cell := cellB) hcB (fun z h => by rw [h] at hoB; cases hoB) hselP hmethM habM hkP hkPi (g := F0 m pc ls (as.reverse ++ .ref b :: rest)) rfl (argsL := as) (rest := rest) hlen rfl (by rw [hb]; exact hd)
  obtain ⟨t, hsteps, hr⟩ := am_run (T := T.setVm vm1) X1 hF hH hok hnamed (gg := F0 m pc ls rest) rfl (hL.1.1.trans hml.symm) rfl (ig := .invokevirtual ix) (len := 3) (by rw [hb]; exact hd) (as := .ref b :: as) hl hw hm []
  rcases hr with ⟨v, S1, T2, L2, k2, j2, hP1, X2, hH2, ht⟩ | ⟨x, S1, T2, L2, k2, j2, hP1, X2, hH2, ht⟩
  · obtain ⟨t2, a1, b1⟩ := k v S1 hP1 p l e R s m args below meth c T2.heap _ _ _ ls hF hH2 hL T2 rfl X2
    exact ⟨t2, hstep _ (fun acts => by rw [doInvoke_state]; exact hsteps.trans (by rw [ht]; exact a1)), b1⟩
  · obtain ⟨t2, a1, b1⟩ := kt x S1 hP1 p l e R s m args below meth c T2 _ _ _ ls rest hF hH2 hL X2
    exact ⟨t2, hstep _ (fun acts => by rw [doInvoke_state]; exact hsteps.trans (by rw [ht]; exact a1)), b1⟩
theorem am_callI {ix n b : Nat} (as rest : List Value) (hd : decode y.2.1 pc = .ok (.invokespecial ix, 3)) (hc : am_cI y.1.cls ix y' n) (hn : as.length = n) (hst : st = as.reverse ++ .ref b :: rest) (hl : (lg_sl (.ref b :: as)).length ≤ y'.2.2.1) (hw : (rest.map fun v => v.category).sum ≤ 8)
    (hm : am_W g d y' (0, am_ent (.ref b :: as) y'.2.2.1, []) S P') (k : ∀ v S1, P' (.inl v) S1 → am_W g (d + 1) y (pc + 3, L, v.toList ++ rest) S1 P) (kt : ∀ x S1, P' (.inr x) S1 → am_Cat g (d + 1) y pc L x S1 P) : am_W g (d + 1) y (pc, L, st) S P := by
  intro p l e R s m args below meth c H locs cells slots ls hF hH hL T hT X
  obtain ⟨hx, hb, hml, -, -, hown, hts, -, -, hK, -⟩ := id hF
  obtain ⟨hok, hin1, hrt, hhs, h1, h2, h3, h4, sig, h5, h6⟩ := hc
  subst hT
  subst hst
  have hpl : e.platform.magicAccessors = ({} : Platform).magicAccessors := by rw [X.admits.platform]
  obtain ⟨mk, methM, cM, kP, vm1, hnamed, hmethM, hcodeM, -, hlocalsM, -, hkP, -, hW1, hstep⟩ := Steps.initColdArgs (e := e) X.here hx X.warmed hpl hown hin1 h4 (hts _ h1) (hts _ h2) (hts _ h3) (f := F0 m pc ls (as.reverse ++ .ref b :: rest)) rfl (argsL := as) (rest := rest) (fun sg hs => by rw [h5] at hs; rw [← Option.some.inj hs, h6, hn]) rfl (by rw [hb]; exact hd)
  have X1 := X.noted hW1
  obtain ⟨t, hsteps, hr⟩ := am_run (T := T.setVm vm1) X1 hF hH hok hnamed (gg := F0 m pc ls rest) rfl (hL.1.1.trans hml.symm) rfl (ig := .invokespecial ix) (len := 3) (by rw [hb]; exact hd) (as := .ref b :: as) hl hw hm []
  rcases hr with ⟨v, S1, T2, L2, k2, j2, hP1, X2, hH2, ht⟩ | ⟨x, S1, T2, L2, k2, j2, hP1, X2, hH2, ht⟩
  · obtain ⟨t2, a1, b1⟩ := k v S1 hP1 p l e R s m args below meth c T2.heap _ _ _ ls hF hH2 hL T2 rfl X2
    exact ⟨t2, hstep _ (fun acts => by rw [doInvoke_state]; exact hsteps.trans (by rw [ht]; exact a1)), b1⟩
  · obtain ⟨t2, a1, b1⟩ := kt x S1 hP1 p l e R s m args below meth c T2 _ _ _ ls rest hF hH2 hL X2
    exact ⟨t2, hstep _ (fun acts => by rw [doInvoke_state]; exact hsteps.trans (by rw [ht]; exact a1)), b1⟩
end AmCallRows
end
section
/-! throws: 'throw new E("..")' leaves the method; a handler of the caller takes it -/
section AmThrow
variable {g : am_G} {d : Nat} {y : am_I} {pc : Nat} {L : List (Option Value)} {st : List Value} {S : am_S} {P : am_O → am_S → Prop}
/-- the words of a throw at the pool's places ik (class), is (text), ic (constructor) -/
def am_tw (own : String) (ik is ic : Nat) (cls text : String) (names : List String) (ci : Nat) : Prop :=
  Bundle.fit cls = true ∧ (∀ n ∈ names, Bundle.fit n = true) ∧ names.length ≤ 2 ∧ Cond.classLink own ik cls ∈ am_tbl ∧ Cond.initialized cls ∈ am_tbl ∧ (own, is, text) ∈ am_strs ∧ (∀ w ∈ vx_atS own ic cls names, w ∈ am_tbl) ∧ (∀ w ∈ Cond.classLink own ik cls :: Cond.initialized cls :: vx_atS own ic cls names, vx_ot w = true) ∧ ∃ T : u_T, am_cl[ci]? = some (cls, T, 0)
theorem am_thr {ik is ic ci : Nat} {cls text : String} {names : List String} (d0 : decode y.2.1 pc = .ok (.new ik, 3)) (d3 : decode y.2.1 (pc + 3) = .ok (.dup, 1)) (d4 : decode y.2.1 (pc + 4) = .ok (.ldc is, 2)) (d6 : decode y.2.1 (pc + 6) = .ok (.invokespecial ic, 3)) (d9 : decode y.2.1 (pc + 9) = .ok (.athrow, 1)) (hw : am_tw y.1.cls ik is ic cls text names ci) (hh : y.2.2.2.2 = []) (hst : (st.map fun v => v.category).sum ≤ 8) (hc : S.2.1 + 1 ≤ g.2.2.2.1) (hz : S.2.2 + 6 ≤ g.2.2.2.2.1)
    (hP : P (.inr S.2.1) (am_up S.1 S.2.1 (.inr (ci, [])), S.2.1 + 1, S.2.2 + 6)) : am_W g d y (pc, L, st) S P := by
  intro p l e R s m args below meth c H locs cells slots ls hF hH hL T hT X
  obtain ⟨hx, hb, hml, -, -, hown, hts, hlocks, hex, hK, hfr, hlo, hl, hU, hN, -, hstrs, -⟩ := id hF
  obtain ⟨hM, htot, hsz, hS, hns, hcs, hcs1, hss, hss1, hbs, hX, hbb⟩ := id hH
  obtain ⟨hcls, hnames, hn3, w1, w2, w3, w4, hgood, TC, hcl⟩ := hw
  obtain ⟨sa, hstr⟩ := hstrs _ w3
  have hstr : vk_R y.1.cls is text sa s := hstr
  have hno : c.exceptionTable.toList = [] := List.map_eq_nil_iff.mp (hex.trans hh)
  have hsize : ls.size = c.maxLocals := hL.1.1.trans hml.symm
  have htr : e.platform.stackTraces = false := (show e.platform.stackTraces = l.stackTraces by rw [X.admits.platform]).trans hl
  have Y := vx_rebase X (R' := { frames := R.frames, locals := R.locals, cells := 1, slots := 6 }) (Nat.le_refl _) (Nat.le_refl _) (by show cells + 1 ≤ R.cells; omega) (by show slots + 6 ≤ R.slots; omega)
  obtain ⟨u, hA⟩ : ∃ z, z = (T.setVm s.vm).setFrames (.invoking m args :: below) := ⟨_, rfl⟩
  rw [← hA] at Y
  have hvm : u.vm = s.vm := by rw [hA]; rfl
  have hhp : u.heap = H := by rw [hA]; exact hT
  have hW0 : s.WarmedH u.vm := by rw [hvm]; exact State.WarmedH.refl s
  have wd : ∀ w ∈ Cond.classLink y.1.cls ik cls :: Cond.initialized cls :: vx_atS y.1.cls ic cls names, w.before args s = true → w.before args u = true := fun w hw => vx_ot_at hW0 hvm.symm (hgood w hw)
  have hU2 : vx_Zq Bundle.tN "UNASSIGNED_STACK" Bundle.steD (am_A g) u u.heap := by rw [hhp]; exact vx_Zq.moved hW0.alike (hU.kept hS.2.1)
  have hN2 : vx_Zq Bundle.tN "SUPPRESSED_SENTINEL" Bundle.listD (am_A g) u u.heap := by rw [hhp]; exact vx_Zq.moved hW0.alike (hN.kept hS.2.1)
  have hall : ∀ w ∈ Bundle.ownAtoms y.1.cls ic cls names, w.before args u = true := vx_own (fun w hw => wd w (List.mem_cons_of_mem _ (List.mem_cons_of_mem _ hw)) (hts w (w4 w hw))) (vx_isRefq hU2.1) (vx_isRefq hN2.1) hU2.2.word hN2.2.word
  have hown2 : u.vm.findClass y.1.cls = some m.cls := by rw [hvm]; exact hown
  obtain ⟨vm1, cX, kX, hfX, hkX, -, -, X1, st1⟩ := Y.newCold hx (own := y.1.cls) (C := cls) (index := ik) (n := 6) hown2 (wd _ List.mem_cons_self (hts _ w1)) (hall _ (by simp [Bundle.ownAtoms])) (wd _ (List.mem_cons_of_mem _ List.mem_cons_self) (hts _ w2)) (g := F0 m pc ls st) rfl (by rw [hb]; exact d0) (Nat.le_refl _) (Nat.le_refl _)
  generalize hT1 : (T.setVm vm1).pushCell { cls := cX, slots := kX.instanceTypes.map defaultValue, vm := .none } = T1 at X1 st1
  have hTs : T.heap.size = S.2.1 := by rw [hT]; exact hsz
  have hcat : (Value.ref T.heap.size).category = 1 := rfl
  have hcellA : T1.heap[T.heap.size]? = some (freshCell cX kX) := by rw [← hT1]; exact State.heap_pushCell_size _ _
  have d3c : decode c.code (pc + 3) = .ok (.dup, 1) := by rw [hb]; exact d3
  have d4c : decode c.code (pc + 4) = .ok (.ldc is, 2) := by rw [hb]; exact d4
  have hstr2 : vk_R y.1.cls is text sa u := vk_R.warm hW0 hstr
  obtain ⟨U, hsteps, hrun, hend, hWu, hsame, ce, hce, hO⟩ := X1.ctorThrowS hx htr (own := y.1.cls) (cls := cls) (names := names) (ic := ic) hown2 hcls hnames hall (fun x hx => nomatch hx) hfX hkX hcellA (by rw [hhp, hT]; exact Nat.le_refl _) (msg := .ref sa) rfl
    (g := { method := m, pc := pc + 6, locals := ls, stack := .ref sa :: .ref T.heap.size :: .ref T.heap.size :: st, locked := none }) rfl hsize rfl rfl (rest := st) rfl (by rw [hb]; exact d6) (by rw [hb]; exact d9) (fun x hx => by rw [hno] at hx; cases hx) (by show names.length + 3 < R.frames; omega)
    (by simp only [List.map_cons, List.sum_cons, hcat]; show 2 * 0 + _ + _ ≤ R.locals; omega) hlocks
  obtain ⟨f1, f2⟩ := vx_frame hsame
  rw [hhp] at f1 f2
  have hWs : s.WarmedH U.vm := State.WarmedH.trans hW0 hWu
  have hcc : s.vm.findClass cls = some ce.cls := by
    have h9 := hO.cls
    rw [hvm] at h9
    exact h9
  have hUs : U.heap.size = H.size + 1 := by
    have h1 : U.heap.size ≤ u.heap.size + 1 := hsame.2.2.1
    have h2 : T.heap.size < U.heap.size := (Array.getElem?_eq_some_iff.mp hce).1
    rw [hhp] at h1
    rw [hT] at h2
    omega
  have hsn : s.sameButNew ({ U with vm := s.vm } : State) locs (cells + 1) (slots + 6) := by
    subst hA
    obtain ⟨e1, e2⟩ := hsame
    rw [State.setFrames_setFrames] at e1
    have h2 : (T.setVm s.vm).sameButNew ({ U with vm := s.vm } : State) [] (0 + 1) (0 + 6) := ⟨e1, e2⟩
    have h3 := X.same.trans h2
    rw [List.append_nil] at h3
    exact h3.mono (by omega) (by omega)
  refine ⟨U, ?_, .inr S.2.1, _, locs, cells + 1, slots + 6, hP, hrun, by rw [← hTs]; exact hend, hWs, hsn, ?_⟩
  · refine st1 _ ?_
    show Steps p.tables e below (T1.setTop { method := m, pc := pc + 3, locals := ls, stack := .ref T.heap.size :: st, locked := none }) _
    jvm_step X1.here [X1.here.top, hx, d3c, Value.category]
    exact X1.ldcString hx (own := y.1.cls) (text := text) (index := is) (a := sa) hown2 hstr2.1 hstr2.2 (g := { method := m, pc := pc + 4, locals := ls, stack := .ref T.heap.size :: .ref T.heap.size :: st, locked := none }) rfl d4c _ hsteps
  · refine hH.new ⟨_, hcl, ce, ?_, ?_, hO.vm, fun k hk => absurd hk (Nat.not_lt_zero k)⟩ hUs (fun q hq => f2 q hq (fun z hz => nomatch hz)) hc hz
    · show U.heap[S.2.1]? = some ce
      rw [← hTs]; exact hce
    · exact Option.some.inj (hcc.symm.trans (hK.1 ci _ hcl).2.1)
/-- taken by a handler -/
theorem am_catYes {x ci h0 e0 hp ct : Nat} {fs : List Value} {E name : String} {pre suf : List (Nat × Nat × Nat × Nat)} (hh : y.2.2.2.2 = pre ++ (h0, e0, hp, ct) :: suf) (hpre : ∀ z ∈ pre, (z.2.2.2 ≠ 0 ∧ ∃ nm : String, Cond.classLink y.1.cls z.2.2.2 nm ∈ am_tbl ∧ (E, nm) ∈ am_ncl)) (hc : h0 ≤ pc ∧ pc < e0) (hct : ct ≠ 0) (hl : Cond.classLink y.1.cls ct name ∈ am_tbl) (hca : Cond.castable E name ∈ am_tbl) (hM : S.1 x = some (.inr (ci, fs))) (hcl : ∃ (T : u_T) (N : Nat), am_cl[ci]? = some (E, T, N)) (k : am_W g d y (hp, L, [.ref x]) S P) : am_Cat g d y pc L x S P := by
  intro p l e R s m args below meth c T locs cells slots ls rest hF hH hL X
  obtain ⟨hx, hb, hml, -, -, hown, hts, hlocks, hex, hK, hfr, hlo, -, -, -, hnc, -⟩ := id hF
  obtain ⟨TC, NC, hcl⟩ := hcl
  have hsp : c.exceptionTable.toList = (pre.map (fun q => (⟨q.1, q.2.1, q.2.2.1, q.2.2.2⟩ : ExceptionTableEntry))) ++ ⟨h0, e0, hp, ct⟩ :: suf.map (fun q => (⟨q.1, q.2.1, q.2.2.1, q.2.2.2⟩ : ExceptionTableEntry)) := by
    have h1 : (c.exceptionTable.toList.map (fun h => (h.startPc, h.endPc, h.handlerPc, h.catchType))).map (fun q => (⟨q.1, q.2.1, q.2.2.1, q.2.2.2⟩ : ExceptionTableEntry)) = c.exceptionTable.toList := by
      rw [List.map_map]
      exact List.map_id _
    rw [← h1, hex, hh]
    simp
  obtain ⟨r, h1, cell, q1, q2, q3, -⟩ := (hH.1 x _ hM).2
  have hr : r = (E, TC, NC) := Option.some.inj (h1.symm.trans hcl)
  subst hr
  have hcc : s.vm.findClass E = some cell.cls := by rw [q2]; exact (hK.1 ci _ hcl).2.1
  have key := vx_catch (Q := am_Q g R s below P) (locs := locs) (cells := cells) (slots := slots) (ls := ls) (rest := rest) (H := T.heap) (l := l) (R := R) (p := p) (e := e) (below := below) (meth := meth) (pc := pc) hown _ _ _ hsp (fun z hz => by
      obtain ⟨z0, hz0, rfl⟩ := List.mem_map.mp hz
      obtain ⟨hz1, nm, hz2, hz3⟩ := hpre z0 hz0
      exact Or.inr ⟨hz1, nm, hts _ hz2, hnc _ hz3⟩) (by simp [covers, hc.1, hc.2]) hct (hts _ hl) (hts _ hca) q1 q3 hcc (k p l e R s m args below meth c T.heap locs cells slots ls hF hH hL)
  exact key T rfl X
end AmThrow
end
