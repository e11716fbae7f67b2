section
-- ===== PART A: goes FIRST, ahead of the names: the tables' words, and 'selects' of the private methods out of them =====
/-- a private method of a class that the tables say can be made, by its rows of tables_1 -/
def lw_okq (q : MethodName × Nat) : Prop := (q.1.cls ≠ "java/lang/invoke/MethodHandle" ∧ q.1.cls ≠ "java/lang/invoke/VarHandle") ∧ Cond.instantiable q.1.cls q.2 ∈ tables_1 ∧ Cond.privateMethod q.1 ∈ tables_1 ∧ Cond.instanceMethod q.1 ∈ tables_1
theorem lw_p0 : lw_okq (⟨"VersionJoins", "isStep", "(I)Z"⟩, 11) := ⟨⟨by decide +kernel, by decide +kernel⟩, List.mem_of_getElem? (i := 9) (by decide +kernel), List.mem_of_getElem? (i := 149) (by decide +kernel), List.mem_of_getElem? (i := 150) (by decide +kernel)⟩
theorem lw_p1 : lw_okq (⟨"VersionJoins", "isThing", "(I)Z"⟩, 11) := ⟨⟨by decide +kernel, by decide +kernel⟩, List.mem_of_getElem? (i := 9) (by decide +kernel), List.mem_of_getElem? (i := 153) (by decide +kernel), List.mem_of_getElem? (i := 154) (by decide +kernel)⟩
theorem lw_p2 : lw_okq (⟨"VersionJoins", "isSameOrAbove", "(II)Z"⟩, 11) := ⟨⟨by decide +kernel, by decide +kernel⟩, List.mem_of_getElem? (i := 9) (by decide +kernel), List.mem_of_getElem? (i := 161) (by decide +kernel), List.mem_of_getElem? (i := 162) (by decide +kernel)⟩
theorem lw_p3 : lw_okq (⟨"VersionJoins", "putAbove", "(II)V"⟩, 11) := ⟨⟨by decide +kernel, by decide +kernel⟩, List.mem_of_getElem? (i := 9) (by decide +kernel), List.mem_of_getElem? (i := 169) (by decide +kernel), List.mem_of_getElem? (i := 170) (by decide +kernel)⟩
theorem lw_p4 : lw_okq (⟨"VersionJoins", "hasUserAtOrAbove", "(II)Z"⟩, 11) := ⟨⟨by decide +kernel, by decide +kernel⟩, List.mem_of_getElem? (i := 9) (by decide +kernel), List.mem_of_getElem? (i := 181) (by decide +kernel), List.mem_of_getElem? (i := 182) (by decide +kernel)⟩
theorem lw_p5 : lw_okq (⟨"VersionJoins", "isOpen", "(I)Z"⟩, 11) := ⟨⟨by decide +kernel, by decide +kernel⟩, List.mem_of_getElem? (i := 9) (by decide +kernel), List.mem_of_getElem? (i := 221) (by decide +kernel), List.mem_of_getElem? (i := 222) (by decide +kernel)⟩
theorem lw_p6 : lw_okq (⟨"VersionJoins", "collectConflicts", "(LVersionJoins$Session;)I"⟩, 11) := ⟨⟨by decide +kernel, by decide +kernel⟩, List.mem_of_getElem? (i := 9) (by decide +kernel), List.mem_of_getElem? (i := 245) (by decide +kernel), List.mem_of_getElem? (i := 246) (by decide +kernel)⟩
theorem lw_p7 : lw_okq (⟨"VersionJoins", "giveWritten", "(LVersionJoins$Session;)V"⟩, 11) := ⟨⟨by decide +kernel, by decide +kernel⟩, List.mem_of_getElem? (i := 9) (by decide +kernel), List.mem_of_getElem? (i := 263) (by decide +kernel), List.mem_of_getElem? (i := 264) (by decide +kernel)⟩
theorem lw_p8 : lw_okq (⟨"VersionJoins", "give", "(IJ)V"⟩, 11) := ⟨⟨by decide +kernel, by decide +kernel⟩, List.mem_of_getElem? (i := 9) (by decide +kernel), List.mem_of_getElem? (i := 267) (by decide +kernel), List.mem_of_getElem? (i := 268) (by decide +kernel)⟩
theorem lw_p9 : lw_okq (⟨"VersionJoins", "isStale", "(I)Z"⟩, 11) := ⟨⟨by decide +kernel, by decide +kernel⟩, List.mem_of_getElem? (i := 9) (by decide +kernel), List.mem_of_getElem? (i := 297) (by decide +kernel), List.mem_of_getElem? (i := 298) (by decide +kernel)⟩
theorem lw_p10 : lw_okq (⟨"VersionJoins", "refresh", "(II)Z"⟩, 11) := ⟨⟨by decide +kernel, by decide +kernel⟩, List.mem_of_getElem? (i := 9) (by decide +kernel), List.mem_of_getElem? (i := 324) (by decide +kernel), List.mem_of_getElem? (i := 325) (by decide +kernel)⟩
theorem lw_p11 : lw_okq (⟨"VersionJoins$Step", "resultOfKind", "()J"⟩, 11) := ⟨⟨by decide +kernel, by decide +kernel⟩, List.mem_of_getElem? (i := 98) (by decide +kernel), List.mem_of_getElem? (i := 332) (by decide +kernel), List.mem_of_getElem? (i := 333) (by decide +kernel)⟩
theorem lw_p12 : lw_okq (⟨"VersionJoins$Step", "sum", "()J"⟩, 11) := ⟨⟨by decide +kernel, by decide +kernel⟩, List.mem_of_getElem? (i := 98) (by decide +kernel), List.mem_of_getElem? (i := 336) (by decide +kernel), List.mem_of_getElem? (i := 337) (by decide +kernel)⟩
theorem lw_p13 : lw_okq (⟨"VersionJoins$Step", "greatest", "()J"⟩, 11) := ⟨⟨by decide +kernel, by decide +kernel⟩, List.mem_of_getElem? (i := 98) (by decide +kernel), List.mem_of_getElem? (i := 340) (by decide +kernel), List.mem_of_getElem? (i := 341) (by decide +kernel)⟩
theorem lw_p14 : lw_okq (⟨"VersionJoins$Step", "exclusiveOr", "()J"⟩, 11) := ⟨⟨by decide +kernel, by decide +kernel⟩, List.mem_of_getElem? (i := 98) (by decide +kernel), List.mem_of_getElem? (i := 347) (by decide +kernel), List.mem_of_getElem? (i := 348) (by decide +kernel)⟩
theorem lw_p15 : lw_okq (⟨"VersionJoins$Step", "differentOnes", "()J"⟩, 11) := ⟨⟨by decide +kernel, by decide +kernel⟩, List.mem_of_getElem? (i := 98) (by decide +kernel), List.mem_of_getElem? (i := 351) (by decide +kernel), List.mem_of_getElem? (i := 352) (by decide +kernel)⟩
def lw_privs_1 : List (MethodName × Nat) := [(⟨"VersionJoins", "isStep", "(I)Z"⟩, 11), (⟨"VersionJoins", "isThing", "(I)Z"⟩, 11), (⟨"VersionJoins", "isSameOrAbove", "(II)Z"⟩, 11), (⟨"VersionJoins", "putAbove", "(II)V"⟩, 11), (⟨"VersionJoins", "hasUserAtOrAbove", "(II)Z"⟩, 11), (⟨"VersionJoins", "isOpen", "(I)Z"⟩, 11), (⟨"VersionJoins", "collectConflicts", "(LVersionJoins$Session;)I"⟩, 11), (⟨"VersionJoins", "giveWritten", "(LVersionJoins$Session;)V"⟩, 11), (⟨"VersionJoins", "give", "(IJ)V"⟩, 11), (⟨"VersionJoins", "isStale", "(I)Z"⟩, 11), (⟨"VersionJoins", "refresh", "(II)Z"⟩, 11), (⟨"VersionJoins$Step", "resultOfKind", "()J"⟩, 11), (⟨"VersionJoins$Step", "sum", "()J"⟩, 11), (⟨"VersionJoins$Step", "greatest", "()J"⟩, 11), (⟨"VersionJoins$Step", "exclusiveOr", "()J"⟩, 11), (⟨"VersionJoins$Step", "differentOnes", "()J"⟩, 11)]
theorem lw_r1 : ∀ q ∈ lw_privs_1, lw_okq q := List.forall_mem_cons.mpr ⟨lw_p0, List.forall_mem_cons.mpr ⟨lw_p1, List.forall_mem_cons.mpr ⟨lw_p2, List.forall_mem_cons.mpr ⟨lw_p3, List.forall_mem_cons.mpr ⟨lw_p4, List.forall_mem_cons.mpr ⟨lw_p5, List.forall_mem_cons.mpr ⟨lw_p6, List.forall_mem_cons.mpr ⟨lw_p7, List.forall_mem_cons.mpr ⟨lw_p8, List.forall_mem_cons.mpr ⟨lw_p9, List.forall_mem_cons.mpr ⟨lw_p10, List.forall_mem_cons.mpr ⟨lw_p11, List.forall_mem_cons.mpr ⟨lw_p12, List.forall_mem_cons.mpr ⟨lw_p13, List.forall_mem_cons.mpr ⟨lw_p14, List.forall_mem_cons.mpr ⟨lw_p15, fun _ h => absurd h List.not_mem_nil⟩⟩⟩⟩⟩⟩⟩⟩⟩⟩⟩⟩⟩⟩⟩⟩
theorem lw_p16 : lw_okq (⟨"VersionJoins$Step", "isFirstOfItsValue", "(I)Z"⟩, 11) := ⟨⟨by decide +kernel, by decide +kernel⟩, List.mem_of_getElem? (i := 98) (by decide +kernel), List.mem_of_getElem? (i := 355) (by decide +kernel), List.mem_of_getElem? (i := 356) (by decide +kernel)⟩
theorem lw_p17 : lw_okq (⟨"VersionJoins", "refreshAll", "()V"⟩, 11) := ⟨⟨by decide +kernel, by decide +kernel⟩, List.mem_of_getElem? (i := 9) (by decide +kernel), List.mem_of_getElem? (i := 370) (by decide +kernel), List.mem_of_getElem? (i := 371) (by decide +kernel)⟩
theorem lw_p18 : lw_okq (⟨"VersionJoinsModel", "isStep", "(I)Z"⟩, 30) := ⟨⟨by decide +kernel, by decide +kernel⟩, List.mem_of_getElem? (i := 374) (by decide +kernel), List.mem_of_getElem? (i := 483) (by decide +kernel), List.mem_of_getElem? (i := 484) (by decide +kernel)⟩
theorem lw_p19 : lw_okq (⟨"VersionJoinsModel", "isThing", "(I)Z"⟩, 30) := ⟨⟨by decide +kernel, by decide +kernel⟩, List.mem_of_getElem? (i := 374) (by decide +kernel), List.mem_of_getElem? (i := 487) (by decide +kernel), List.mem_of_getElem? (i := 488) (by decide +kernel)⟩
theorem lw_p20 : lw_okq (⟨"VersionJoinsModel", "doesUse", "(II)Z"⟩, 30) := ⟨⟨by decide +kernel, by decide +kernel⟩, List.mem_of_getElem? (i := 374) (by decide +kernel), List.mem_of_getElem? (i := 491) (by decide +kernel), List.mem_of_getElem? (i := 492) (by decide +kernel)⟩
theorem lw_p21 : lw_okq (⟨"VersionJoinsModel", "unmark", "()V"⟩, 30) := ⟨⟨by decide +kernel, by decide +kernel⟩, List.mem_of_getElem? (i := 374) (by decide +kernel), List.mem_of_getElem? (i := 495) (by decide +kernel), List.mem_of_getElem? (i := 496) (by decide +kernel)⟩
theorem lw_p22 : lw_okq (⟨"VersionJoinsModel", "markBehind", "()V"⟩, 30) := ⟨⟨by decide +kernel, by decide +kernel⟩, List.mem_of_getElem? (i := 374) (by decide +kernel), List.mem_of_getElem? (i := 499) (by decide +kernel), List.mem_of_getElem? (i := 500) (by decide +kernel)⟩
theorem lw_p23 : lw_okq (⟨"VersionJoinsModel", "isBehind", "(II)Z"⟩, 30) := ⟨⟨by decide +kernel, by decide +kernel⟩, List.mem_of_getElem? (i := 374) (by decide +kernel), List.mem_of_getElem? (i := 503) (by decide +kernel), List.mem_of_getElem? (i := 504) (by decide +kernel)⟩
theorem lw_p24 : lw_okq (⟨"VersionJoinsModel", "maker", "(I)I"⟩, 30) := ⟨⟨by decide +kernel, by decide +kernel⟩, List.mem_of_getElem? (i := 374) (by decide +kernel), List.mem_of_getElem? (i := 507) (by decide +kernel), List.mem_of_getElem? (i := 508) (by decide +kernel)⟩
theorem lw_p25 : lw_okq (⟨"VersionJoinsModel", "doesMake", "(II)Z"⟩, 30) := ⟨⟨by decide +kernel, by decide +kernel⟩, List.mem_of_getElem? (i := 374) (by decide +kernel), List.mem_of_getElem? (i := 511) (by decide +kernel), List.mem_of_getElem? (i := 512) (by decide +kernel)⟩
theorem lw_p26 : lw_okq (⟨"VersionJoinsModel", "goes", "(II)Z"⟩, 30) := ⟨⟨by decide +kernel, by decide +kernel⟩, List.mem_of_getElem? (i := 374) (by decide +kernel), List.mem_of_getElem? (i := 527) (by decide +kernel), List.mem_of_getElem? (i := 528) (by decide +kernel)⟩
theorem lw_p27 : lw_okq (⟨"VersionJoinsModel", "touch", "(II)V"⟩, 30) := ⟨⟨by decide +kernel, by decide +kernel⟩, List.mem_of_getElem? (i := 374) (by decide +kernel), List.mem_of_getElem? (i := 531) (by decide +kernel), List.mem_of_getElem? (i := 532) (by decide +kernel)⟩
theorem lw_p28 : lw_okq (⟨"VersionJoinsModel", "own", "(I)J"⟩, 30) := ⟨⟨by decide +kernel, by decide +kernel⟩, List.mem_of_getElem? (i := 374) (by decide +kernel), List.mem_of_getElem? (i := 535) (by decide +kernel), List.mem_of_getElem? (i := 536) (by decide +kernel)⟩
theorem lw_p29 : lw_okq (⟨"VersionJoinsModel", "isConflict", "(II)Z"⟩, 30) := ⟨⟨by decide +kernel, by decide +kernel⟩, List.mem_of_getElem? (i := 374) (by decide +kernel), List.mem_of_getElem? (i := 547) (by decide +kernel), List.mem_of_getElem? (i := 548) (by decide +kernel)⟩
theorem lw_p30 : lw_okq (⟨"VersionJoinsModel", "keepConflicts", "(I)V"⟩, 30) := ⟨⟨by decide +kernel, by decide +kernel⟩, List.mem_of_getElem? (i := 374) (by decide +kernel), List.mem_of_getElem? (i := 553) (by decide +kernel), List.mem_of_getElem? (i := 554) (by decide +kernel)⟩
theorem lw_p31 : lw_okq (⟨"VersionJoinsModel", "isOff", "(I)Z"⟩, 30) := ⟨⟨by decide +kernel, by decide +kernel⟩, List.mem_of_getElem? (i := 374) (by decide +kernel), List.mem_of_getElem? (i := 571) (by decide +kernel), List.mem_of_getElem? (i := 572) (by decide +kernel)⟩
def lw_privs_2 : List (MethodName × Nat) := [(⟨"VersionJoins$Step", "isFirstOfItsValue", "(I)Z"⟩, 11), (⟨"VersionJoins", "refreshAll", "()V"⟩, 11), (⟨"VersionJoinsModel", "isStep", "(I)Z"⟩, 30), (⟨"VersionJoinsModel", "isThing", "(I)Z"⟩, 30), (⟨"VersionJoinsModel", "doesUse", "(II)Z"⟩, 30), (⟨"VersionJoinsModel", "unmark", "()V"⟩, 30), (⟨"VersionJoinsModel", "markBehind", "()V"⟩, 30), (⟨"VersionJoinsModel", "isBehind", "(II)Z"⟩, 30), (⟨"VersionJoinsModel", "maker", "(I)I"⟩, 30), (⟨"VersionJoinsModel", "doesMake", "(II)Z"⟩, 30), (⟨"VersionJoinsModel", "goes", "(II)Z"⟩, 30), (⟨"VersionJoinsModel", "touch", "(II)V"⟩, 30), (⟨"VersionJoinsModel", "own", "(I)J"⟩, 30), (⟨"VersionJoinsModel", "isConflict", "(II)Z"⟩, 30), (⟨"VersionJoinsModel", "keepConflicts", "(I)V"⟩, 30), (⟨"VersionJoinsModel", "isOff", "(I)Z"⟩, 30)]
theorem lw_r2 : ∀ q ∈ lw_privs_2, lw_okq q := List.forall_mem_cons.mpr ⟨lw_p16, List.forall_mem_cons.mpr ⟨lw_p17, List.forall_mem_cons.mpr ⟨lw_p18, List.forall_mem_cons.mpr ⟨lw_p19, List.forall_mem_cons.mpr ⟨lw_p20, List.forall_mem_cons.mpr ⟨lw_p21, List.forall_mem_cons.mpr ⟨lw_p22, List.forall_mem_cons.mpr ⟨lw_p23, List.forall_mem_cons.mpr ⟨lw_p24, List.forall_mem_cons.mpr ⟨lw_p25, List.forall_mem_cons.mpr ⟨lw_p26, List.forall_mem_cons.mpr ⟨lw_p27, List.forall_mem_cons.mpr ⟨lw_p28, List.forall_mem_cons.mpr ⟨lw_p29, List.forall_mem_cons.mpr ⟨lw_p30, List.forall_mem_cons.mpr ⟨lw_p31, fun _ h => absurd h List.not_mem_nil⟩⟩⟩⟩⟩⟩⟩⟩⟩⟩⟩⟩⟩⟩⟩⟩
theorem lw_p32 : lw_okq (⟨"VersionJoinsModel", "go", "(I)V"⟩, 30) := ⟨⟨by decide +kernel, by decide +kernel⟩, List.mem_of_getElem? (i := 374) (by decide +kernel), List.mem_of_getElem? (i := 579) (by decide +kernel), List.mem_of_getElem? (i := 580) (by decide +kernel)⟩
theorem lw_p33 : lw_okq (⟨"VersionJoinsModel", "isNext", "(I)Z"⟩, 30) := ⟨⟨by decide +kernel, by decide +kernel⟩, List.mem_of_getElem? (i := 374) (by decide +kernel), List.mem_of_getElem? (i := 583) (by decide +kernel), List.mem_of_getElem? (i := 584) (by decide +kernel)⟩
theorem lw_p34 : lw_okq (⟨"VersionJoinsModel", "isBefore", "(II)Z"⟩, 30) := ⟨⟨by decide +kernel, by decide +kernel⟩, List.mem_of_getElem? (i := 374) (by decide +kernel), List.mem_of_getElem? (i := 587) (by decide +kernel), List.mem_of_getElem? (i := 588) (by decide +kernel)⟩
theorem lw_p35 : lw_okq (⟨"VersionJoinsModel", "give", "(I)I"⟩, 30) := ⟨⟨by decide +kernel, by decide +kernel⟩, List.mem_of_getElem? (i := 374) (by decide +kernel), List.mem_of_getElem? (i := 592) (by decide +kernel), List.mem_of_getElem? (i := 593) (by decide +kernel)⟩
theorem lw_p36 : lw_okq (⟨"VersionJoinsModel", "worth", "(I)J"⟩, 30) := ⟨⟨by decide +kernel, by decide +kernel⟩, List.mem_of_getElem? (i := 374) (by decide +kernel), List.mem_of_getElem? (i := 596) (by decide +kernel), List.mem_of_getElem? (i := 597) (by decide +kernel)⟩
theorem lw_p37 : lw_okq (⟨"VersionJoinsModel", "isEarlier", "(II)Z"⟩, 30) := ⟨⟨by decide +kernel, by decide +kernel⟩, List.mem_of_getElem? (i := 374) (by decide +kernel), List.mem_of_getElem? (i := 600) (by decide +kernel), List.mem_of_getElem? (i := 601) (by decide +kernel)⟩
def lw_privs_3 : List (MethodName × Nat) := [(⟨"VersionJoinsModel", "go", "(I)V"⟩, 30), (⟨"VersionJoinsModel", "isNext", "(I)Z"⟩, 30), (⟨"VersionJoinsModel", "isBefore", "(II)Z"⟩, 30), (⟨"VersionJoinsModel", "give", "(I)I"⟩, 30), (⟨"VersionJoinsModel", "worth", "(I)J"⟩, 30), (⟨"VersionJoinsModel", "isEarlier", "(II)Z"⟩, 30)]
theorem lw_r3 : ∀ q ∈ lw_privs_3, lw_okq q := List.forall_mem_cons.mpr ⟨lw_p32, List.forall_mem_cons.mpr ⟨lw_p33, List.forall_mem_cons.mpr ⟨lw_p34, List.forall_mem_cons.mpr ⟨lw_p35, List.forall_mem_cons.mpr ⟨lw_p36, List.forall_mem_cons.mpr ⟨lw_p37, fun _ h => absurd h List.not_mem_nil⟩⟩⟩⟩⟩⟩
def lw_privs : List (MethodName × Nat) := lw_privs_1 ++ (lw_privs_2 ++ (lw_privs_3))
def lw_tbl : List Cond := k2_sels lw_privs ++ tables_1
theorem lw_privs_ok : ∀ q ∈ lw_privs, lw_okq q := by
  show ∀ q ∈ lw_privs_1 ++ (lw_privs_2 ++ (lw_privs_3)), lw_okq q
  exact List.forall_mem_append.mpr ⟨lw_r1, List.forall_mem_append.mpr ⟨lw_r2, lw_r3⟩⟩
end
section
/-- the words that last: those of the tables that stay when the machine warms up -/
def hp_ws : List Cond := lw_tbl.filter goodWord
theorem hp_in {i : Nat} {w : Cond} (h : lw_tbl[i]? = some w) (g : goodWord w = true) : w ∈ hp_ws := List.mem_filter.mpr ⟨List.mem_of_getElem? h, g⟩
theorem hp_ws_tbl : ∀ w ∈ hp_ws, w ∈ lw_tbl := fun _ h => (List.mem_filter.mp h).1
theorem hp_ws_good : GoodIn hp_ws hp_ws := fun w h => ⟨h, good_of_word (List.mem_filter.mp h).2⟩
theorem wd_0 : (Jvm.Cond.selects "VersionJoins" ({ cls := "VersionJoins", name := "isStep", desc := "(I)Z" } : Jvm.MethodName) ({ cls := "VersionJoins", name := "isStep", desc := "(I)Z" } : Jvm.MethodName)) ∈ hp_ws := hp_in (i := 0) (by decide +kernel) (by decide +kernel)
theorem wd_1 : (Jvm.Cond.selects "VersionJoins" ({ cls := "VersionJoins", name := "isThing", desc := "(I)Z" } : Jvm.MethodName) ({ cls := "VersionJoins", name := "isThing", desc := "(I)Z" } : Jvm.MethodName)) ∈ hp_ws := hp_in (i := 1) (by decide +kernel) (by decide +kernel)
theorem wd_2 : (Jvm.Cond.selects "VersionJoins" ({ cls := "VersionJoins", name := "isSameOrAbove", desc := "(II)Z" } : Jvm.MethodName) ({ cls := "VersionJoins", name := "isSameOrAbove", desc := "(II)Z" } : Jvm.MethodName)) ∈ hp_ws := hp_in (i := 2) (by decide +kernel) (by decide +kernel)
theorem wd_3 : (Jvm.Cond.selects "VersionJoins" ({ cls := "VersionJoins", name := "putAbove", desc := "(II)V" } : Jvm.MethodName) ({ cls := "VersionJoins", name := "putAbove", desc := "(II)V" } : Jvm.MethodName)) ∈ hp_ws := hp_in (i := 3) (by decide +kernel) (by decide +kernel)
theorem wd_4 : (Jvm.Cond.selects "VersionJoins" ({ cls := "VersionJoins", name := "hasUserAtOrAbove", desc := "(II)Z" } : Jvm.MethodName) ({ cls := "VersionJoins", name := "hasUserAtOrAbove", desc := "(II)Z" } : Jvm.MethodName)) ∈ hp_ws := hp_in (i := 4) (by decide +kernel) (by decide +kernel)
theorem wd_5 : (Jvm.Cond.selects "VersionJoins" ({ cls := "VersionJoins", name := "isOpen", desc := "(I)Z" } : Jvm.MethodName) ({ cls := "VersionJoins", name := "isOpen", desc := "(I)Z" } : Jvm.MethodName)) ∈ hp_ws := hp_in (i := 5) (by decide +kernel) (by decide +kernel)
theorem wd_6 : (Jvm.Cond.selects "VersionJoins" ({ cls := "VersionJoins", name := "collectConflicts", desc := "(LVersionJoins$Session;)I" } : Jvm.MethodName) ({ cls := "VersionJoins", name := "collectConflicts", desc := "(LVersionJoins$Session;)I" } : Jvm.MethodName)) ∈ hp_ws := hp_in (i := 6) (by decide +kernel) (by decide +kernel)
theorem wd_7 : (Jvm.Cond.selects "VersionJoins" ({ cls := "VersionJoins", name := "giveWritten", desc := "(LVersionJoins$Session;)V" } : Jvm.MethodName) ({ cls := "VersionJoins", name := "giveWritten", desc := "(LVersionJoins$Session;)V" } : Jvm.MethodName)) ∈ hp_ws := hp_in (i := 7) (by decide +kernel) (by decide +kernel)
theorem wd_8 : (Jvm.Cond.selects "VersionJoins" ({ cls := "VersionJoins", name := "give", desc := "(IJ)V" } : Jvm.MethodName) ({ cls := "VersionJoins", name := "give", desc := "(IJ)V" } : Jvm.MethodName)) ∈ hp_ws := hp_in (i := 8) (by decide +kernel) (by decide +kernel)
theorem wd_9 : (Jvm.Cond.selects "VersionJoins" ({ cls := "VersionJoins", name := "isStale", desc := "(I)Z" } : Jvm.MethodName) ({ cls := "VersionJoins", name := "isStale", desc := "(I)Z" } : Jvm.MethodName)) ∈ hp_ws := hp_in (i := 9) (by decide +kernel) (by decide +kernel)
theorem wd_10 : (Jvm.Cond.selects "VersionJoins" ({ cls := "VersionJoins", name := "refresh", desc := "(II)Z" } : Jvm.MethodName) ({ cls := "VersionJoins", name := "refresh", desc := "(II)Z" } : Jvm.MethodName)) ∈ hp_ws := hp_in (i := 10) (by decide +kernel) (by decide +kernel)
theorem wd_11 : (Jvm.Cond.selects "VersionJoins$Step" ({ cls := "VersionJoins$Step", name := "resultOfKind", desc := "()J" } : Jvm.MethodName) ({ cls := "VersionJoins$Step", name := "resultOfKind", desc := "()J" } : Jvm.MethodName)) ∈ hp_ws := hp_in (i := 11) (by decide +kernel) (by decide +kernel)
theorem wd_12 : (Jvm.Cond.selects "VersionJoins$Step" ({ cls := "VersionJoins$Step", name := "sum", desc := "()J" } : Jvm.MethodName) ({ cls := "VersionJoins$Step", name := "sum", desc := "()J" } : Jvm.MethodName)) ∈ hp_ws := hp_in (i := 12) (by decide +kernel) (by decide +kernel)
theorem wd_13 : (Jvm.Cond.selects "VersionJoins$Step" ({ cls := "VersionJoins$Step", name := "greatest", desc := "()J" } : Jvm.MethodName) ({ cls := "VersionJoins$Step", name := "greatest", desc := "()J" } : Jvm.MethodName)) ∈ hp_ws := hp_in (i := 13) (by decide +kernel) (by decide +kernel)
theorem wd_14 : (Jvm.Cond.selects "VersionJoins$Step" ({ cls := "VersionJoins$Step", name := "exclusiveOr", desc := "()J" } : Jvm.MethodName) ({ cls := "VersionJoins$Step", name := "exclusiveOr", desc := "()J" } : Jvm.MethodName)) ∈ hp_ws := hp_in (i := 14) (by decide +kernel) (by decide +kernel)
theorem wd_15 : (Jvm.Cond.selects "VersionJoins$Step" ({ cls := "VersionJoins$Step", name := "differentOnes", desc := "()J" } : Jvm.MethodName) ({ cls := "VersionJoins$Step", name := "differentOnes", desc := "()J" } : Jvm.MethodName)) ∈ hp_ws := hp_in (i := 15) (by decide +kernel) (by decide +kernel)
theorem wd_16 : (Jvm.Cond.selects "VersionJoins$Step" ({ cls := "VersionJoins$Step", name := "isFirstOfItsValue", desc := "(I)Z" } : Jvm.MethodName) ({ cls := "VersionJoins$Step", name := "isFirstOfItsValue", desc := "(I)Z" } : Jvm.MethodName)) ∈ hp_ws := hp_in (i := 16) (by decide +kernel) (by decide +kernel)
theorem wd_17 : (Jvm.Cond.selects "VersionJoins" ({ cls := "VersionJoins", name := "refreshAll", desc := "()V" } : Jvm.MethodName) ({ cls := "VersionJoins", name := "refreshAll", desc := "()V" } : Jvm.MethodName)) ∈ hp_ws := hp_in (i := 17) (by decide +kernel) (by decide +kernel)
theorem wd_18 : (Jvm.Cond.selects "VersionJoinsModel" ({ cls := "VersionJoinsModel", name := "isStep", desc := "(I)Z" } : Jvm.MethodName) ({ cls := "VersionJoinsModel", name := "isStep", desc := "(I)Z" } : Jvm.MethodName)) ∈ hp_ws := hp_in (i := 18) (by decide +kernel) (by decide +kernel)
theorem wd_19 : (Jvm.Cond.selects "VersionJoinsModel" ({ cls := "VersionJoinsModel", name := "isThing", desc := "(I)Z" } : Jvm.MethodName) ({ cls := "VersionJoinsModel", name := "isThing", desc := "(I)Z" } : Jvm.MethodName)) ∈ hp_ws := hp_in (i := 19) (by decide +kernel) (by decide +kernel)
theorem wd_20 : (Jvm.Cond.selects "VersionJoinsModel" ({ cls := "VersionJoinsModel", name := "doesUse", desc := "(II)Z" } : Jvm.MethodName) ({ cls := "VersionJoinsModel", name := "doesUse", desc := "(II)Z" } : Jvm.MethodName)) ∈ hp_ws := hp_in (i := 20) (by decide +kernel) (by decide +kernel)
theorem wd_21 : (Jvm.Cond.selects "VersionJoinsModel" ({ cls := "VersionJoinsModel", name := "unmark", desc := "()V" } : Jvm.MethodName) ({ cls := "VersionJoinsModel", name := "unmark", desc := "()V" } : Jvm.MethodName)) ∈ hp_ws := hp_in (i := 21) (by decide +kernel) (by decide +kernel)
theorem wd_22 : (Jvm.Cond.selects "VersionJoinsModel" ({ cls := "VersionJoinsModel", name := "markBehind", desc := "()V" } : Jvm.MethodName) ({ cls := "VersionJoinsModel", name := "markBehind", desc := "()V" } : Jvm.MethodName)) ∈ hp_ws := hp_in (i := 22) (by decide +kernel) (by decide +kernel)
theorem wd_23 : (Jvm.Cond.selects "VersionJoinsModel" ({ cls := "VersionJoinsModel", name := "isBehind", desc := "(II)Z" } : Jvm.MethodName) ({ cls := "VersionJoinsModel", name := "isBehind", desc := "(II)Z" } : Jvm.MethodName)) ∈ hp_ws := hp_in (i := 23) (by decide +kernel) (by decide +kernel)
theorem wd_24 : (Jvm.Cond.selects "VersionJoinsModel" ({ cls := "VersionJoinsModel", name := "maker", desc := "(I)I" } : Jvm.MethodName) ({ cls := "VersionJoinsModel", name := "maker", desc := "(I)I" } : Jvm.MethodName)) ∈ hp_ws := hp_in (i := 24) (by decide +kernel) (by decide +kernel)
theorem wd_25 : (Jvm.Cond.selects "VersionJoinsModel" ({ cls := "VersionJoinsModel", name := "doesMake", desc := "(II)Z" } : Jvm.MethodName) ({ cls := "VersionJoinsModel", name := "doesMake", desc := "(II)Z" } : Jvm.MethodName)) ∈ hp_ws := hp_in (i := 25) (by decide +kernel) (by decide +kernel)
theorem wd_26 : (Jvm.Cond.selects "VersionJoinsModel" ({ cls := "VersionJoinsModel", name := "goes", desc := "(II)Z" } : Jvm.MethodName) ({ cls := "VersionJoinsModel", name := "goes", desc := "(II)Z" } : Jvm.MethodName)) ∈ hp_ws := hp_in (i := 26) (by decide +kernel) (by decide +kernel)
theorem wd_27 : (Jvm.Cond.selects "VersionJoinsModel" ({ cls := "VersionJoinsModel", name := "touch", desc := "(II)V" } : Jvm.MethodName) ({ cls := "VersionJoinsModel", name := "touch", desc := "(II)V" } : Jvm.MethodName)) ∈ hp_ws := hp_in (i := 27) (by decide +kernel) (by decide +kernel)
theorem wd_28 : (Jvm.Cond.selects "VersionJoinsModel" ({ cls := "VersionJoinsModel", name := "own", desc := "(I)J" } : Jvm.MethodName) ({ cls := "VersionJoinsModel", name := "own", desc := "(I)J" } : Jvm.MethodName)) ∈ hp_ws := hp_in (i := 28) (by decide +kernel) (by decide +kernel)
theorem wd_29 : (Jvm.Cond.selects "VersionJoinsModel" ({ cls := "VersionJoinsModel", name := "isConflict", desc := "(II)Z" } : Jvm.MethodName) ({ cls := "VersionJoinsModel", name := "isConflict", desc := "(II)Z" } : Jvm.MethodName)) ∈ hp_ws := hp_in (i := 29) (by decide +kernel) (by decide +kernel)
theorem wd_30 : (Jvm.Cond.selects "VersionJoinsModel" ({ cls := "VersionJoinsModel", name := "keepConflicts", desc := "(I)V" } : Jvm.MethodName) ({ cls := "VersionJoinsModel", name := "keepConflicts", desc := "(I)V" } : Jvm.MethodName)) ∈ hp_ws := hp_in (i := 30) (by decide +kernel) (by decide +kernel)
theorem wd_31 : (Jvm.Cond.selects "VersionJoinsModel" ({ cls := "VersionJoinsModel", name := "isOff", desc := "(I)Z" } : Jvm.MethodName) ({ cls := "VersionJoinsModel", name := "isOff", desc := "(I)Z" } : Jvm.MethodName)) ∈ hp_ws := hp_in (i := 31) (by decide +kernel) (by decide +kernel)
theorem wd_32 : (Jvm.Cond.selects "VersionJoinsModel" ({ cls := "VersionJoinsModel", name := "go", desc := "(I)V" } : Jvm.MethodName) ({ cls := "VersionJoinsModel", name := "go", desc := "(I)V" } : Jvm.MethodName)) ∈ hp_ws := hp_in (i := 32) (by decide +kernel) (by decide +kernel)
theorem wd_33 : (Jvm.Cond.selects "VersionJoinsModel" ({ cls := "VersionJoinsModel", name := "isNext", desc := "(I)Z" } : Jvm.MethodName) ({ cls := "VersionJoinsModel", name := "isNext", desc := "(I)Z" } : Jvm.MethodName)) ∈ hp_ws := hp_in (i := 33) (by decide +kernel) (by decide +kernel)
theorem wd_34 : (Jvm.Cond.selects "VersionJoinsModel" ({ cls := "VersionJoinsModel", name := "isBefore", desc := "(II)Z" } : Jvm.MethodName) ({ cls := "VersionJoinsModel", name := "isBefore", desc := "(II)Z" } : Jvm.MethodName)) ∈ hp_ws := hp_in (i := 34) (by decide +kernel) (by decide +kernel)
theorem wd_35 : (Jvm.Cond.selects "VersionJoinsModel" ({ cls := "VersionJoinsModel", name := "give", desc := "(I)I" } : Jvm.MethodName) ({ cls := "VersionJoinsModel", name := "give", desc := "(I)I" } : Jvm.MethodName)) ∈ hp_ws := hp_in (i := 35) (by decide +kernel) (by decide +kernel)
theorem wd_36 : (Jvm.Cond.selects "VersionJoinsModel" ({ cls := "VersionJoinsModel", name := "worth", desc := "(I)J" } : Jvm.MethodName) ({ cls := "VersionJoinsModel", name := "worth", desc := "(I)J" } : Jvm.MethodName)) ∈ hp_ws := hp_in (i := 36) (by decide +kernel) (by decide +kernel)
theorem wd_37 : (Jvm.Cond.selects "VersionJoinsModel" ({ cls := "VersionJoinsModel", name := "isEarlier", desc := "(II)Z" } : Jvm.MethodName) ({ cls := "VersionJoinsModel", name := "isEarlier", desc := "(II)Z" } : Jvm.MethodName)) ∈ hp_ws := hp_in (i := 37) (by decide +kernel) (by decide +kernel)
theorem wd_38 : (Jvm.Cond.initialized "VersionJoinsLaw") ∈ hp_ws := hp_in (i := 38) (by decide +kernel) (by decide +kernel)
theorem wd_39 : (Jvm.Cond.initialized "VersionJoins") ∈ hp_ws := hp_in (i := 39) (by decide +kernel) (by decide +kernel)
theorem wd_40 : (Jvm.Cond.initialized "VersionJoins$Conflicts") ∈ hp_ws := hp_in (i := 40) (by decide +kernel) (by decide +kernel)
theorem wd_41 : (Jvm.Cond.initialized "VersionJoinsModel") ∈ hp_ws := hp_in (i := 41) (by decide +kernel) (by decide +kernel)
theorem wd_42 : (Jvm.Cond.initialized "VersionJoins$Step") ∈ hp_ws := hp_in (i := 42) (by decide +kernel) (by decide +kernel)
theorem wd_43 : (Jvm.Cond.initialized "VersionJoins$Session") ∈ hp_ws := hp_in (i := 43) (by decide +kernel) (by decide +kernel)
theorem wd_44 : (Jvm.Cond.initialized "java/lang/System") ∈ hp_ws := hp_in (i := 44) (by decide +kernel) (by decide +kernel)
theorem wd_45 : (Jvm.Cond.initialized "java/lang/Math") ∈ hp_ws := hp_in (i := 45) (by decide +kernel) (by decide +kernel)
theorem wd_46 : (Jvm.Cond.classLink "VersionJoinsLaw" (7 : Nat) "VersionJoins") ∈ hp_ws := hp_in (i := 46) (by decide +kernel) (by decide +kernel)
theorem wd_47 : (Jvm.Cond.instantiable "VersionJoins" (11 : Nat)) ∈ hp_ws := hp_in (i := 47) (by decide +kernel) (by decide +kernel)
theorem wd_48 : (Jvm.Cond.methodLink "VersionJoinsLaw" (9 : Nat) ({ cls := "VersionJoins", name := "<init>", desc := "()V" } : Jvm.MethodName)) ∈ hp_ws := hp_in (i := 48) (by decide +kernel) (by decide +kernel)
theorem wd_49 : (Jvm.Cond.instanceMethod ({ cls := "VersionJoins", name := "<init>", desc := "()V" } : Jvm.MethodName)) ∈ hp_ws := hp_in (i := 49) (by decide +kernel) (by decide +kernel)
set_option maxRecDepth 20000 in
theorem wd_50 : (Jvm.Cond.code ({ cls := "VersionJoins", name := "<init>", desc := "()V" } : Jvm.MethodName) prog_1_method_1_code (1 : Nat) (Option.none : Option Jvm.ClassFile.FieldType)) ∈ hp_ws := hp_in (i := 50) rfl (by decide +kernel)
theorem wd_51 : (Jvm.Cond.methodLink "VersionJoins" (1 : Nat) ({ cls := "java/lang/Object", name := "<init>", desc := "()V" } : Jvm.MethodName)) ∈ hp_ws := hp_in (i := 51) (by decide +kernel) (by decide +kernel)
theorem wd_52 : (Jvm.Cond.instanceMethod ({ cls := "java/lang/Object", name := "<init>", desc := "()V" } : Jvm.MethodName)) ∈ hp_ws := hp_in (i := 52) (by decide +kernel) (by decide +kernel)
set_option maxRecDepth 20000 in
theorem wd_53 : (Jvm.Cond.code ({ cls := "java/lang/Object", name := "<init>", desc := "()V" } : Jvm.MethodName) object_method_1_code (1 : Nat) (Option.none : Option Jvm.ClassFile.FieldType)) ∈ hp_ws := hp_in (i := 53) rfl (by decide +kernel)
theorem wd_54 : (Jvm.Cond.classLink "VersionJoins" (9 : Nat) "[[J") ∈ hp_ws := hp_in (i := 54) (by decide +kernel) (by decide +kernel)
theorem wd_56 : (Jvm.Cond.classLink "VersionJoins" (22 : Nat) "VersionJoins$Step") ∈ hp_ws := hp_in (i := 56) (by decide +kernel) (by decide +kernel)
theorem wd_58 : (Jvm.Cond.classLink "VersionJoins" (28 : Nat) "VersionJoins$Session") ∈ hp_ws := hp_in (i := 58) (by decide +kernel) (by decide +kernel)
theorem wd_60 : (Jvm.Cond.classLink "VersionJoins" (34 : Nat) "VersionJoins$Conflicts") ∈ hp_ws := hp_in (i := 60) (by decide +kernel) (by decide +kernel)
theorem wd_61 : (Jvm.Cond.instantiable "VersionJoins$Conflicts" (6 : Nat)) ∈ hp_ws := hp_in (i := 61) (by decide +kernel) (by decide +kernel)
theorem wd_63 : (Jvm.Cond.instanceMethod ({ cls := "VersionJoins$Conflicts", name := "<init>", desc := "()V" } : Jvm.MethodName)) ∈ hp_ws := hp_in (i := 63) (by decide +kernel) (by decide +kernel)
set_option maxRecDepth 20000 in
theorem wd_64 : (Jvm.Cond.code ({ cls := "VersionJoins$Conflicts", name := "<init>", desc := "()V" } : Jvm.MethodName) prog_2_method_1_code (1 : Nat) (Option.none : Option Jvm.ClassFile.FieldType)) ∈ hp_ws := hp_in (i := 64) rfl (by decide +kernel)
theorem wd_65 : (Jvm.Cond.methodLink "VersionJoins$Conflicts" (3 : Nat) ({ cls := "java/lang/Object", name := "<init>", desc := "()V" } : Jvm.MethodName)) ∈ hp_ws := hp_in (i := 65) (by decide +kernel) (by decide +kernel)
theorem wd_66 : (Jvm.Cond.fieldLink "VersionJoins$Conflicts" (9 : Nat) "VersionJoins$Conflicts" "things" "[I") ∈ hp_ws := hp_in (i := 66) (by decide +kernel) (by decide +kernel)
theorem wd_67 : (Jvm.Cond.fieldLink "VersionJoins" (129 : Nat) "VersionJoins$Conflicts" "things" "[I") ∈ hp_ws := hp_in (i := 67) (by decide +kernel) (by decide +kernel)
theorem wd_68 : (Jvm.Cond.fieldLink "VersionJoins$Conflicts" (15 : Nat) "VersionJoins$Conflicts" "own" "[J") ∈ hp_ws := hp_in (i := 68) (by decide +kernel) (by decide +kernel)
theorem wd_69 : (Jvm.Cond.fieldLink "VersionJoins" (132 : Nat) "VersionJoins$Conflicts" "own" "[J") ∈ hp_ws := hp_in (i := 69) (by decide +kernel) (by decide +kernel)
theorem wd_70 : (Jvm.Cond.fieldLink "VersionJoins$Conflicts" (19 : Nat) "VersionJoins$Conflicts" "others" "[J") ∈ hp_ws := hp_in (i := 70) (by decide +kernel) (by decide +kernel)
theorem wd_71 : (Jvm.Cond.fieldLink "VersionJoins" (135 : Nat) "VersionJoins$Conflicts" "others" "[J") ∈ hp_ws := hp_in (i := 71) (by decide +kernel) (by decide +kernel)
theorem wd_72 : (Jvm.Cond.fieldLink "VersionJoins$Conflicts" (22 : Nat) "VersionJoins$Conflicts" "settled" "[Z") ∈ hp_ws := hp_in (i := 72) (by decide +kernel) (by decide +kernel)
theorem wd_73 : (Jvm.Cond.fieldLink "VersionJoins" (144 : Nat) "VersionJoins$Conflicts" "settled" "[Z") ∈ hp_ws := hp_in (i := 73) (by decide +kernel) (by decide +kernel)
theorem wd_74 : (Jvm.Cond.fieldLink "VersionJoins$Conflicts" (26 : Nat) "VersionJoins$Conflicts" "owner" "LVersionJoins$Session;") ∈ hp_ws := hp_in (i := 74) (by decide +kernel) (by decide +kernel)
theorem wd_75 : (Jvm.Cond.fieldLink "VersionJoins" (140 : Nat) "VersionJoins$Conflicts" "owner" "LVersionJoins$Session;") ∈ hp_ws := hp_in (i := 75) (by decide +kernel) (by decide +kernel)
theorem wd_76 : (Jvm.Cond.fieldLink "VersionJoins$Conflicts" (30 : Nat) "VersionJoins$Conflicts" "count" "I") ∈ hp_ws := hp_in (i := 76) (by decide +kernel) (by decide +kernel)
theorem wd_77 : (Jvm.Cond.fieldLink "VersionJoins" (205 : Nat) "VersionJoins$Conflicts" "count" "I") ∈ hp_ws := hp_in (i := 77) (by decide +kernel) (by decide +kernel)
theorem wd_78 : (Jvm.Cond.laysFinal "VersionJoins$Conflicts" "VersionJoins$Conflicts" "things" "[I") ∈ hp_ws := hp_in (i := 78) (by decide +kernel) (by decide +kernel)
theorem wd_80 : (Jvm.Cond.laysFinal "VersionJoins$Conflicts" "VersionJoins$Conflicts" "own" "[J") ∈ hp_ws := hp_in (i := 80) (by decide +kernel) (by decide +kernel)
theorem wd_82 : (Jvm.Cond.laysFinal "VersionJoins$Conflicts" "VersionJoins$Conflicts" "others" "[J") ∈ hp_ws := hp_in (i := 82) (by decide +kernel) (by decide +kernel)
theorem wd_84 : (Jvm.Cond.laysFinal "VersionJoins$Conflicts" "VersionJoins$Conflicts" "settled" "[Z") ∈ hp_ws := hp_in (i := 84) (by decide +kernel) (by decide +kernel)
theorem wd_86 : (Jvm.Cond.lays "VersionJoins$Conflicts" "VersionJoins$Conflicts" "owner" "LVersionJoins$Session;") ∈ hp_ws := hp_in (i := 86) (by decide +kernel) (by decide +kernel)
theorem wd_88 : (Jvm.Cond.lays "VersionJoins$Conflicts" "VersionJoins$Conflicts" "count" "I") ∈ hp_ws := hp_in (i := 88) (by decide +kernel) (by decide +kernel)
theorem wd_91 : (Jvm.Cond.arrayClass Jvm.ClassFile.FieldType.long) ∈ hp_ws := hp_in (i := 91) (by decide +kernel) (by decide +kernel)
theorem wd_92 : (Jvm.Cond.arrayClass Jvm.ClassFile.FieldType.int) ∈ hp_ws := hp_in (i := 92) (by decide +kernel) (by decide +kernel)
theorem wd_93 : (Jvm.Cond.arrayClass Jvm.ClassFile.FieldType.boolean) ∈ hp_ws := hp_in (i := 93) (by decide +kernel) (by decide +kernel)
theorem wd_94 : (Jvm.Cond.fieldLink "VersionJoins" (11 : Nat) "VersionJoins" "branches" "[[J") ∈ hp_ws := hp_in (i := 94) (by decide +kernel) (by decide +kernel)
theorem wd_95 : (Jvm.Cond.fieldLink "VersionJoins" (14 : Nat) "VersionJoins" "current" "[J") ∈ hp_ws := hp_in (i := 95) (by decide +kernel) (by decide +kernel)
theorem wd_96 : (Jvm.Cond.fieldLink "VersionJoins" (18 : Nat) "VersionJoins" "makers" "[I") ∈ hp_ws := hp_in (i := 96) (by decide +kernel) (by decide +kernel)
theorem wd_97 : (Jvm.Cond.fieldLink "VersionJoins" (24 : Nat) "VersionJoins" "steps" "[LVersionJoins$Step;") ∈ hp_ws := hp_in (i := 97) (by decide +kernel) (by decide +kernel)
theorem wd_98 : (Jvm.Cond.fieldLink "VersionJoins" (30 : Nat) "VersionJoins" "sessions" "[LVersionJoins$Session;") ∈ hp_ws := hp_in (i := 98) (by decide +kernel) (by decide +kernel)
theorem wd_99 : (Jvm.Cond.fieldLink "VersionJoins" (37 : Nat) "VersionJoins" "conflicts" "LVersionJoins$Conflicts;") ∈ hp_ws := hp_in (i := 99) (by decide +kernel) (by decide +kernel)
theorem wd_100 : (Jvm.Cond.fieldLink "VersionJoins" (41 : Nat) "VersionJoins" "thingCount" "I") ∈ hp_ws := hp_in (i := 100) (by decide +kernel) (by decide +kernel)
theorem wd_101 : (Jvm.Cond.fieldLink "VersionJoins" (45 : Nat) "VersionJoins" "branchCount" "I") ∈ hp_ws := hp_in (i := 101) (by decide +kernel) (by decide +kernel)
theorem wd_102 : (Jvm.Cond.fieldLink "VersionJoins" (48 : Nat) "VersionJoins" "stepCount" "I") ∈ hp_ws := hp_in (i := 102) (by decide +kernel) (by decide +kernel)
theorem wd_103 : (Jvm.Cond.fieldLink "VersionJoins" (51 : Nat) "VersionJoins" "sessionCount" "I") ∈ hp_ws := hp_in (i := 103) (by decide +kernel) (by decide +kernel)
theorem wd_104 : (Jvm.Cond.fieldLink "VersionJoins" (54 : Nat) "VersionJoins" "changes" "I") ∈ hp_ws := hp_in (i := 104) (by decide +kernel) (by decide +kernel)
theorem wd_105 : (Jvm.Cond.laysFinal "VersionJoins" "VersionJoins" "branches" "[[J") ∈ hp_ws := hp_in (i := 105) (by decide +kernel) (by decide +kernel)
theorem wd_107 : (Jvm.Cond.laysFinal "VersionJoins" "VersionJoins" "current" "[J") ∈ hp_ws := hp_in (i := 107) (by decide +kernel) (by decide +kernel)
theorem wd_109 : (Jvm.Cond.laysFinal "VersionJoins" "VersionJoins" "makers" "[I") ∈ hp_ws := hp_in (i := 109) (by decide +kernel) (by decide +kernel)
theorem wd_111 : (Jvm.Cond.laysFinal "VersionJoins" "VersionJoins" "steps" "[LVersionJoins$Step;") ∈ hp_ws := hp_in (i := 111) (by decide +kernel) (by decide +kernel)
theorem wd_113 : (Jvm.Cond.laysFinal "VersionJoins" "VersionJoins" "sessions" "[LVersionJoins$Session;") ∈ hp_ws := hp_in (i := 113) (by decide +kernel) (by decide +kernel)
theorem wd_115 : (Jvm.Cond.laysFinal "VersionJoins" "VersionJoins" "conflicts" "LVersionJoins$Conflicts;") ∈ hp_ws := hp_in (i := 115) (by decide +kernel) (by decide +kernel)
theorem wd_117 : (Jvm.Cond.lays "VersionJoins" "VersionJoins" "thingCount" "I") ∈ hp_ws := hp_in (i := 117) (by decide +kernel) (by decide +kernel)
theorem wd_119 : (Jvm.Cond.lays "VersionJoins" "VersionJoins" "branchCount" "I") ∈ hp_ws := hp_in (i := 119) (by decide +kernel) (by decide +kernel)
theorem wd_121 : (Jvm.Cond.lays "VersionJoins" "VersionJoins" "stepCount" "I") ∈ hp_ws := hp_in (i := 121) (by decide +kernel) (by decide +kernel)
theorem wd_123 : (Jvm.Cond.lays "VersionJoins" "VersionJoins" "sessionCount" "I") ∈ hp_ws := hp_in (i := 123) (by decide +kernel) (by decide +kernel)
theorem wd_125 : (Jvm.Cond.lays "VersionJoins" "VersionJoins" "changes" "I") ∈ hp_ws := hp_in (i := 125) (by decide +kernel) (by decide +kernel)
theorem wd_128 : (Jvm.Cond.methodLink "VersionJoinsLaw" (15 : Nat) ({ cls := "VersionJoins", name := "thing", desc := "(J)I" } : Jvm.MethodName)) ∈ hp_ws := hp_in (i := 128) (by decide +kernel) (by decide +kernel)
theorem wd_129 : (Jvm.Cond.instanceMethod ({ cls := "VersionJoins", name := "thing", desc := "(J)I" } : Jvm.MethodName)) ∈ hp_ws := hp_in (i := 129) (by decide +kernel) (by decide +kernel)
theorem wd_130 : (Jvm.Cond.selects "VersionJoins" ({ cls := "VersionJoins", name := "thing", desc := "(J)I" } : Jvm.MethodName) ({ cls := "VersionJoins", name := "thing", desc := "(J)I" } : Jvm.MethodName)) ∈ hp_ws := hp_in (i := 130) (by decide +kernel) (by decide +kernel)
set_option maxRecDepth 20000 in
theorem wd_131 : (Jvm.Cond.code ({ cls := "VersionJoins", name := "thing", desc := "(J)I" } : Jvm.MethodName) prog_1_method_2_code (4 : Nat) (Option.some Jvm.ClassFile.FieldType.int)) ∈ hp_ws := hp_in (i := 131) rfl (by decide +kernel)
theorem wd_132 : (Jvm.Cond.methodLink "VersionJoinsLaw" (20 : Nat) ({ cls := "VersionJoins", name := "step", desc := "(I)I" } : Jvm.MethodName)) ∈ hp_ws := hp_in (i := 132) (by decide +kernel) (by decide +kernel)
theorem wd_133 : (Jvm.Cond.instanceMethod ({ cls := "VersionJoins", name := "step", desc := "(I)I" } : Jvm.MethodName)) ∈ hp_ws := hp_in (i := 133) (by decide +kernel) (by decide +kernel)
theorem wd_134 : (Jvm.Cond.selects "VersionJoins" ({ cls := "VersionJoins", name := "step", desc := "(I)I" } : Jvm.MethodName) ({ cls := "VersionJoins", name := "step", desc := "(I)I" } : Jvm.MethodName)) ∈ hp_ws := hp_in (i := 134) (by decide +kernel) (by decide +kernel)
set_option maxRecDepth 20000 in
theorem wd_135 : (Jvm.Cond.code ({ cls := "VersionJoins", name := "step", desc := "(I)I" } : Jvm.MethodName) prog_1_method_3_code (2 : Nat) (Option.some Jvm.ClassFile.FieldType.int)) ∈ hp_ws := hp_in (i := 135) rfl (by decide +kernel)
theorem wd_136 : (Jvm.Cond.instantiable "VersionJoins$Step" (11 : Nat)) ∈ hp_ws := hp_in (i := 136) (by decide +kernel) (by decide +kernel)
theorem wd_137 : (Jvm.Cond.methodLink "VersionJoins" (57 : Nat) ({ cls := "VersionJoins$Step", name := "<init>", desc := "(I)V" } : Jvm.MethodName)) ∈ hp_ws := hp_in (i := 137) (by decide +kernel) (by decide +kernel)
theorem wd_138 : (Jvm.Cond.instanceMethod ({ cls := "VersionJoins$Step", name := "<init>", desc := "(I)V" } : Jvm.MethodName)) ∈ hp_ws := hp_in (i := 138) (by decide +kernel) (by decide +kernel)
set_option maxRecDepth 20000 in
theorem wd_139 : (Jvm.Cond.code ({ cls := "VersionJoins$Step", name := "<init>", desc := "(I)V" } : Jvm.MethodName) prog_4_method_1_code (2 : Nat) (Option.none : Option Jvm.ClassFile.FieldType)) ∈ hp_ws := hp_in (i := 139) rfl (by decide +kernel)
theorem wd_140 : (Jvm.Cond.methodLink "VersionJoins$Step" (3 : Nat) ({ cls := "java/lang/Object", name := "<init>", desc := "()V" } : Jvm.MethodName)) ∈ hp_ws := hp_in (i := 140) (by decide +kernel) (by decide +kernel)
theorem wd_141 : (Jvm.Cond.fieldLink "VersionJoins$Step" (46 : Nat) "VersionJoins$Step" "kind" "I") ∈ hp_ws := hp_in (i := 141) (by decide +kernel) (by decide +kernel)
theorem wd_142 : (Jvm.Cond.fieldLink "VersionJoins$Step" (9 : Nat) "VersionJoins$Step" "used" "[I") ∈ hp_ws := hp_in (i := 142) (by decide +kernel) (by decide +kernel)
theorem wd_143 : (Jvm.Cond.fieldLink "VersionJoins" (173 : Nat) "VersionJoins$Step" "used" "[I") ∈ hp_ws := hp_in (i := 143) (by decide +kernel) (by decide +kernel)
theorem wd_144 : (Jvm.Cond.fieldLink "VersionJoins$Step" (15 : Nat) "VersionJoins$Step" "made" "[I") ∈ hp_ws := hp_in (i := 144) (by decide +kernel) (by decide +kernel)
theorem wd_145 : (Jvm.Cond.fieldLink "VersionJoins" (223 : Nat) "VersionJoins$Step" "made" "[I") ∈ hp_ws := hp_in (i := 145) (by decide +kernel) (by decide +kernel)
theorem wd_146 : (Jvm.Cond.fieldLink "VersionJoins$Step" (18 : Nat) "VersionJoins$Step" "inputs" "[J") ∈ hp_ws := hp_in (i := 146) (by decide +kernel) (by decide +kernel)
theorem wd_147 : (Jvm.Cond.fieldLink "VersionJoins$Step" (22 : Nat) "VersionJoins$Step" "usedCount" "I") ∈ hp_ws := hp_in (i := 147) (by decide +kernel) (by decide +kernel)
theorem wd_148 : (Jvm.Cond.fieldLink "VersionJoins" (70 : Nat) "VersionJoins$Step" "usedCount" "I") ∈ hp_ws := hp_in (i := 148) (by decide +kernel) (by decide +kernel)
theorem wd_149 : (Jvm.Cond.fieldLink "VersionJoins$Step" (26 : Nat) "VersionJoins$Step" "madeCount" "I") ∈ hp_ws := hp_in (i := 149) (by decide +kernel) (by decide +kernel)
theorem wd_150 : (Jvm.Cond.fieldLink "VersionJoins" (84 : Nat) "VersionJoins$Step" "madeCount" "I") ∈ hp_ws := hp_in (i := 150) (by decide +kernel) (by decide +kernel)
theorem wd_151 : (Jvm.Cond.fieldLink "VersionJoins$Step" (29 : Nat) "VersionJoins$Step" "above" "I") ∈ hp_ws := hp_in (i := 151) (by decide +kernel) (by decide +kernel)
theorem wd_152 : (Jvm.Cond.fieldLink "VersionJoins" (212 : Nat) "VersionJoins$Step" "above" "I") ∈ hp_ws := hp_in (i := 152) (by decide +kernel) (by decide +kernel)
theorem wd_153 : (Jvm.Cond.fieldLink "VersionJoins$Step" (32 : Nat) "VersionJoins$Step" "ran" "Z") ∈ hp_ws := hp_in (i := 153) (by decide +kernel) (by decide +kernel)
theorem wd_154 : (Jvm.Cond.fieldLink "VersionJoins$Step" (36 : Nat) "VersionJoins$Step" "usedThen" "I") ∈ hp_ws := hp_in (i := 154) (by decide +kernel) (by decide +kernel)
theorem wd_155 : (Jvm.Cond.fieldLink "VersionJoins" (170 : Nat) "VersionJoins$Step" "usedThen" "I") ∈ hp_ws := hp_in (i := 155) (by decide +kernel) (by decide +kernel)
theorem wd_156 : (Jvm.Cond.fieldLink "VersionJoins$Step" (39 : Nat) "VersionJoins$Step" "madeThen" "I") ∈ hp_ws := hp_in (i := 156) (by decide +kernel) (by decide +kernel)
theorem wd_157 : (Jvm.Cond.fieldLink "VersionJoins$Step" (42 : Nat) "VersionJoins$Step" "result" "J") ∈ hp_ws := hp_in (i := 157) (by decide +kernel) (by decide +kernel)
theorem wd_158 : (Jvm.Cond.fieldLink "VersionJoins" (166 : Nat) "VersionJoins$Step" "result" "J") ∈ hp_ws := hp_in (i := 158) (by decide +kernel) (by decide +kernel)
theorem wd_159 : (Jvm.Cond.laysFinal "VersionJoins$Step" "VersionJoins$Step" "kind" "I") ∈ hp_ws := hp_in (i := 159) (by decide +kernel) (by decide +kernel)
theorem wd_161 : (Jvm.Cond.laysFinal "VersionJoins$Step" "VersionJoins$Step" "used" "[I") ∈ hp_ws := hp_in (i := 161) (by decide +kernel) (by decide +kernel)
theorem wd_163 : (Jvm.Cond.laysFinal "VersionJoins$Step" "VersionJoins$Step" "made" "[I") ∈ hp_ws := hp_in (i := 163) (by decide +kernel) (by decide +kernel)
theorem wd_165 : (Jvm.Cond.laysFinal "VersionJoins$Step" "VersionJoins$Step" "inputs" "[J") ∈ hp_ws := hp_in (i := 165) (by decide +kernel) (by decide +kernel)
theorem wd_167 : (Jvm.Cond.lays "VersionJoins$Step" "VersionJoins$Step" "usedCount" "I") ∈ hp_ws := hp_in (i := 167) (by decide +kernel) (by decide +kernel)
theorem wd_169 : (Jvm.Cond.lays "VersionJoins$Step" "VersionJoins$Step" "madeCount" "I") ∈ hp_ws := hp_in (i := 169) (by decide +kernel) (by decide +kernel)
theorem wd_171 : (Jvm.Cond.lays "VersionJoins$Step" "VersionJoins$Step" "above" "I") ∈ hp_ws := hp_in (i := 171) (by decide +kernel) (by decide +kernel)
theorem wd_173 : (Jvm.Cond.lays "VersionJoins$Step" "VersionJoins$Step" "ran" "Z") ∈ hp_ws := hp_in (i := 173) (by decide +kernel) (by decide +kernel)
theorem wd_175 : (Jvm.Cond.lays "VersionJoins$Step" "VersionJoins$Step" "usedThen" "I") ∈ hp_ws := hp_in (i := 175) (by decide +kernel) (by decide +kernel)
theorem wd_177 : (Jvm.Cond.lays "VersionJoins$Step" "VersionJoins$Step" "madeThen" "I") ∈ hp_ws := hp_in (i := 177) (by decide +kernel) (by decide +kernel)
theorem wd_179 : (Jvm.Cond.lays "VersionJoins$Step" "VersionJoins$Step" "result" "J") ∈ hp_ws := hp_in (i := 179) (by decide +kernel) (by decide +kernel)
theorem wd_182 : (Jvm.Cond.methodLink "VersionJoinsLaw" (25 : Nat) ({ cls := "VersionJoins", name := "uses", desc := "(II)Z" } : Jvm.MethodName)) ∈ hp_ws := hp_in (i := 182) (by decide +kernel) (by decide +kernel)
theorem wd_183 : (Jvm.Cond.instanceMethod ({ cls := "VersionJoins", name := "uses", desc := "(II)Z" } : Jvm.MethodName)) ∈ hp_ws := hp_in (i := 183) (by decide +kernel) (by decide +kernel)
theorem wd_184 : (Jvm.Cond.selects "VersionJoins" ({ cls := "VersionJoins", name := "uses", desc := "(II)Z" } : Jvm.MethodName) ({ cls := "VersionJoins", name := "uses", desc := "(II)Z" } : Jvm.MethodName)) ∈ hp_ws := hp_in (i := 184) (by decide +kernel) (by decide +kernel)
set_option maxRecDepth 20000 in
theorem wd_185 : (Jvm.Cond.code ({ cls := "VersionJoins", name := "uses", desc := "(II)Z" } : Jvm.MethodName) prog_1_method_4_code (5 : Nat) (Option.some Jvm.ClassFile.FieldType.boolean)) ∈ hp_ws := hp_in (i := 185) rfl (by decide +kernel)
theorem wd_186 : (Jvm.Cond.methodLink "VersionJoins" (60 : Nat) ({ cls := "VersionJoins", name := "isStep", desc := "(I)Z" } : Jvm.MethodName)) ∈ hp_ws := hp_in (i := 186) (by decide +kernel) (by decide +kernel)
theorem wd_188 : (Jvm.Cond.instanceMethod ({ cls := "VersionJoins", name := "isStep", desc := "(I)Z" } : Jvm.MethodName)) ∈ hp_ws := hp_in (i := 188) (by decide +kernel) (by decide +kernel)
set_option maxRecDepth 20000 in
theorem wd_189 : (Jvm.Cond.code ({ cls := "VersionJoins", name := "isStep", desc := "(I)Z" } : Jvm.MethodName) prog_1_method_19_code (2 : Nat) (Option.some Jvm.ClassFile.FieldType.boolean)) ∈ hp_ws := hp_in (i := 189) rfl (by decide +kernel)
theorem wd_190 : (Jvm.Cond.methodLink "VersionJoins" (64 : Nat) ({ cls := "VersionJoins", name := "isThing", desc := "(I)Z" } : Jvm.MethodName)) ∈ hp_ws := hp_in (i := 190) (by decide +kernel) (by decide +kernel)
theorem wd_192 : (Jvm.Cond.instanceMethod ({ cls := "VersionJoins", name := "isThing", desc := "(I)Z" } : Jvm.MethodName)) ∈ hp_ws := hp_in (i := 192) (by decide +kernel) (by decide +kernel)
set_option maxRecDepth 20000 in
theorem wd_193 : (Jvm.Cond.code ({ cls := "VersionJoins", name := "isThing", desc := "(I)Z" } : Jvm.MethodName) prog_1_method_18_code (2 : Nat) (Option.some Jvm.ClassFile.FieldType.boolean)) ∈ hp_ws := hp_in (i := 193) rfl (by decide +kernel)
theorem wd_194 : (Jvm.Cond.methodLink "VersionJoins" (67 : Nat) ({ cls := "VersionJoins$Step", name := "isUsing", desc := "(I)Z" } : Jvm.MethodName)) ∈ hp_ws := hp_in (i := 194) (by decide +kernel) (by decide +kernel)
theorem wd_195 : (Jvm.Cond.instanceMethod ({ cls := "VersionJoins$Step", name := "isUsing", desc := "(I)Z" } : Jvm.MethodName)) ∈ hp_ws := hp_in (i := 195) (by decide +kernel) (by decide +kernel)
theorem wd_196 : (Jvm.Cond.selects "VersionJoins$Step" ({ cls := "VersionJoins$Step", name := "isUsing", desc := "(I)Z" } : Jvm.MethodName) ({ cls := "VersionJoins$Step", name := "isUsing", desc := "(I)Z" } : Jvm.MethodName)) ∈ hp_ws := hp_in (i := 196) (by decide +kernel) (by decide +kernel)
set_option maxRecDepth 20000 in
theorem wd_197 : (Jvm.Cond.code ({ cls := "VersionJoins$Step", name := "isUsing", desc := "(I)Z" } : Jvm.MethodName) prog_4_method_3_code (3 : Nat) (Option.some Jvm.ClassFile.FieldType.boolean)) ∈ hp_ws := hp_in (i := 197) rfl (by decide +kernel)
theorem wd_198 : (Jvm.Cond.methodLink "VersionJoins" (73 : Nat) ({ cls := "VersionJoins", name := "isSameOrAbove", desc := "(II)Z" } : Jvm.MethodName)) ∈ hp_ws := hp_in (i := 198) (by decide +kernel) (by decide +kernel)
theorem wd_200 : (Jvm.Cond.instanceMethod ({ cls := "VersionJoins", name := "isSameOrAbove", desc := "(II)Z" } : Jvm.MethodName)) ∈ hp_ws := hp_in (i := 200) (by decide +kernel) (by decide +kernel)
set_option maxRecDepth 20000 in
theorem wd_201 : (Jvm.Cond.code ({ cls := "VersionJoins", name := "isSameOrAbove", desc := "(II)Z" } : Jvm.MethodName) prog_1_method_24_code (3 : Nat) (Option.some Jvm.ClassFile.FieldType.boolean)) ∈ hp_ws := hp_in (i := 201) rfl (by decide +kernel)
theorem wd_202 : (Jvm.Cond.methodLink "VersionJoins" (208 : Nat) ({ cls := "VersionJoins$Step", name := "withAbove", desc := "(I)I" } : Jvm.MethodName)) ∈ hp_ws := hp_in (i := 202) (by decide +kernel) (by decide +kernel)
theorem wd_203 : (Jvm.Cond.instanceMethod ({ cls := "VersionJoins$Step", name := "withAbove", desc := "(I)I" } : Jvm.MethodName)) ∈ hp_ws := hp_in (i := 203) (by decide +kernel) (by decide +kernel)
theorem wd_204 : (Jvm.Cond.selects "VersionJoins$Step" ({ cls := "VersionJoins$Step", name := "withAbove", desc := "(I)I" } : Jvm.MethodName) ({ cls := "VersionJoins$Step", name := "withAbove", desc := "(I)I" } : Jvm.MethodName)) ∈ hp_ws := hp_in (i := 204) (by decide +kernel) (by decide +kernel)
set_option maxRecDepth 20000 in
theorem wd_205 : (Jvm.Cond.code ({ cls := "VersionJoins$Step", name := "withAbove", desc := "(I)I" } : Jvm.MethodName) prog_4_method_2_code (2 : Nat) (Option.some Jvm.ClassFile.FieldType.int)) ∈ hp_ws := hp_in (i := 205) rfl (by decide +kernel)
theorem wd_206 : (Jvm.Cond.methodLink "VersionJoins" (77 : Nat) ({ cls := "VersionJoins", name := "putAbove", desc := "(II)V" } : Jvm.MethodName)) ∈ hp_ws := hp_in (i := 206) (by decide +kernel) (by decide +kernel)
theorem wd_208 : (Jvm.Cond.instanceMethod ({ cls := "VersionJoins", name := "putAbove", desc := "(II)V" } : Jvm.MethodName)) ∈ hp_ws := hp_in (i := 208) (by decide +kernel) (by decide +kernel)
set_option maxRecDepth 20000 in
theorem wd_209 : (Jvm.Cond.code ({ cls := "VersionJoins", name := "putAbove", desc := "(II)V" } : Jvm.MethodName) prog_1_method_26_code (5 : Nat) (Option.none : Option Jvm.ClassFile.FieldType)) ∈ hp_ws := hp_in (i := 209) rfl (by decide +kernel)
theorem wd_210 : (Jvm.Cond.methodLink "VersionJoins" (81 : Nat) ({ cls := "VersionJoins$Step", name := "addUsed", desc := "(I)V" } : Jvm.MethodName)) ∈ hp_ws := hp_in (i := 210) (by decide +kernel) (by decide +kernel)
theorem wd_211 : (Jvm.Cond.instanceMethod ({ cls := "VersionJoins$Step", name := "addUsed", desc := "(I)V" } : Jvm.MethodName)) ∈ hp_ws := hp_in (i := 211) (by decide +kernel) (by decide +kernel)
theorem wd_212 : (Jvm.Cond.selects "VersionJoins$Step" ({ cls := "VersionJoins$Step", name := "addUsed", desc := "(I)V" } : Jvm.MethodName) ({ cls := "VersionJoins$Step", name := "addUsed", desc := "(I)V" } : Jvm.MethodName)) ∈ hp_ws := hp_in (i := 212) (by decide +kernel) (by decide +kernel)
set_option maxRecDepth 20000 in
theorem wd_213 : (Jvm.Cond.code ({ cls := "VersionJoins$Step", name := "addUsed", desc := "(I)V" } : Jvm.MethodName) prog_4_method_5_code (2 : Nat) (Option.none : Option Jvm.ClassFile.FieldType)) ∈ hp_ws := hp_in (i := 213) rfl (by decide +kernel)
theorem wd_214 : (Jvm.Cond.methodLink "VersionJoinsLaw" (30 : Nat) ({ cls := "VersionJoins", name := "makes", desc := "(II)Z" } : Jvm.MethodName)) ∈ hp_ws := hp_in (i := 214) (by decide +kernel) (by decide +kernel)
theorem wd_215 : (Jvm.Cond.instanceMethod ({ cls := "VersionJoins", name := "makes", desc := "(II)Z" } : Jvm.MethodName)) ∈ hp_ws := hp_in (i := 215) (by decide +kernel) (by decide +kernel)
theorem wd_216 : (Jvm.Cond.selects "VersionJoins" ({ cls := "VersionJoins", name := "makes", desc := "(II)Z" } : Jvm.MethodName) ({ cls := "VersionJoins", name := "makes", desc := "(II)Z" } : Jvm.MethodName)) ∈ hp_ws := hp_in (i := 216) (by decide +kernel) (by decide +kernel)
set_option maxRecDepth 20000 in
theorem wd_217 : (Jvm.Cond.code ({ cls := "VersionJoins", name := "makes", desc := "(II)Z" } : Jvm.MethodName) prog_1_method_5_code (5 : Nat) (Option.some Jvm.ClassFile.FieldType.boolean)) ∈ hp_ws := hp_in (i := 217) rfl (by decide +kernel)
theorem wd_218 : (Jvm.Cond.methodLink "VersionJoins" (87 : Nat) ({ cls := "VersionJoins", name := "hasUserAtOrAbove", desc := "(II)Z" } : Jvm.MethodName)) ∈ hp_ws := hp_in (i := 218) (by decide +kernel) (by decide +kernel)
theorem wd_220 : (Jvm.Cond.instanceMethod ({ cls := "VersionJoins", name := "hasUserAtOrAbove", desc := "(II)Z" } : Jvm.MethodName)) ∈ hp_ws := hp_in (i := 220) (by decide +kernel) (by decide +kernel)
set_option maxRecDepth 20000 in
theorem wd_221 : (Jvm.Cond.code ({ cls := "VersionJoins", name := "hasUserAtOrAbove", desc := "(II)Z" } : Jvm.MethodName) prog_1_method_25_code (4 : Nat) (Option.some Jvm.ClassFile.FieldType.boolean)) ∈ hp_ws := hp_in (i := 221) rfl (by decide +kernel)
theorem wd_222 : (Jvm.Cond.methodLink "VersionJoins" (90 : Nat) ({ cls := "VersionJoins$Step", name := "addMade", desc := "(I)V" } : Jvm.MethodName)) ∈ hp_ws := hp_in (i := 222) (by decide +kernel) (by decide +kernel)
theorem wd_223 : (Jvm.Cond.instanceMethod ({ cls := "VersionJoins$Step", name := "addMade", desc := "(I)V" } : Jvm.MethodName)) ∈ hp_ws := hp_in (i := 223) (by decide +kernel) (by decide +kernel)
theorem wd_224 : (Jvm.Cond.selects "VersionJoins$Step" ({ cls := "VersionJoins$Step", name := "addMade", desc := "(I)V" } : Jvm.MethodName) ({ cls := "VersionJoins$Step", name := "addMade", desc := "(I)V" } : Jvm.MethodName)) ∈ hp_ws := hp_in (i := 224) (by decide +kernel) (by decide +kernel)
set_option maxRecDepth 20000 in
theorem wd_225 : (Jvm.Cond.code ({ cls := "VersionJoins$Step", name := "addMade", desc := "(I)V" } : Jvm.MethodName) prog_4_method_6_code (2 : Nat) (Option.none : Option Jvm.ClassFile.FieldType)) ∈ hp_ws := hp_in (i := 225) rfl (by decide +kernel)
theorem wd_226 : (Jvm.Cond.methodLink "VersionJoinsLaw" (34 : Nat) ({ cls := "VersionJoins", name := "session", desc := "()I" } : Jvm.MethodName)) ∈ hp_ws := hp_in (i := 226) (by decide +kernel) (by decide +kernel)
theorem wd_227 : (Jvm.Cond.instanceMethod ({ cls := "VersionJoins", name := "session", desc := "()I" } : Jvm.MethodName)) ∈ hp_ws := hp_in (i := 227) (by decide +kernel) (by decide +kernel)
theorem wd_228 : (Jvm.Cond.selects "VersionJoins" ({ cls := "VersionJoins", name := "session", desc := "()I" } : Jvm.MethodName) ({ cls := "VersionJoins", name := "session", desc := "()I" } : Jvm.MethodName)) ∈ hp_ws := hp_in (i := 228) (by decide +kernel) (by decide +kernel)
set_option maxRecDepth 20000 in
theorem wd_229 : (Jvm.Cond.code ({ cls := "VersionJoins", name := "session", desc := "()I" } : Jvm.MethodName) prog_1_method_6_code (1 : Nat) (Option.some Jvm.ClassFile.FieldType.int)) ∈ hp_ws := hp_in (i := 229) rfl (by decide +kernel)
theorem wd_230 : (Jvm.Cond.instantiable "VersionJoins$Session" (5 : Nat)) ∈ hp_ws := hp_in (i := 230) (by decide +kernel) (by decide +kernel)
theorem wd_232 : (Jvm.Cond.instanceMethod ({ cls := "VersionJoins$Session", name := "<init>", desc := "()V" } : Jvm.MethodName)) ∈ hp_ws := hp_in (i := 232) (by decide +kernel) (by decide +kernel)
set_option maxRecDepth 20000 in
theorem wd_233 : (Jvm.Cond.code ({ cls := "VersionJoins$Session", name := "<init>", desc := "()V" } : Jvm.MethodName) prog_3_method_1_code (1 : Nat) (Option.none : Option Jvm.ClassFile.FieldType)) ∈ hp_ws := hp_in (i := 233) rfl (by decide +kernel)
theorem wd_234 : (Jvm.Cond.methodLink "VersionJoins$Session" (3 : Nat) ({ cls := "java/lang/Object", name := "<init>", desc := "()V" } : Jvm.MethodName)) ∈ hp_ws := hp_in (i := 234) (by decide +kernel) (by decide +kernel)
theorem wd_235 : (Jvm.Cond.fieldLink "VersionJoins$Session" (9 : Nat) "VersionJoins$Session" "touched" "[Z") ∈ hp_ws := hp_in (i := 235) (by decide +kernel) (by decide +kernel)
theorem wd_236 : (Jvm.Cond.fieldLink "VersionJoins$Session" (15 : Nat) "VersionJoins$Session" "bases" "[J") ∈ hp_ws := hp_in (i := 236) (by decide +kernel) (by decide +kernel)
theorem wd_237 : (Jvm.Cond.fieldLink "VersionJoins$Session" (19 : Nat) "VersionJoins$Session" "wrote" "[Z") ∈ hp_ws := hp_in (i := 237) (by decide +kernel) (by decide +kernel)
theorem wd_238 : (Jvm.Cond.fieldLink "VersionJoins" (191 : Nat) "VersionJoins$Session" "wrote" "[Z") ∈ hp_ws := hp_in (i := 238) (by decide +kernel) (by decide +kernel)
theorem wd_239 : (Jvm.Cond.fieldLink "VersionJoins$Session" (22 : Nat) "VersionJoins$Session" "written" "[J") ∈ hp_ws := hp_in (i := 239) (by decide +kernel) (by decide +kernel)
theorem wd_240 : (Jvm.Cond.fieldLink "VersionJoins" (194 : Nat) "VersionJoins$Session" "written" "[J") ∈ hp_ws := hp_in (i := 240) (by decide +kernel) (by decide +kernel)
theorem wd_241 : (Jvm.Cond.fieldLink "VersionJoins$Session" (25 : Nat) "VersionJoins$Session" "open" "Z") ∈ hp_ws := hp_in (i := 241) (by decide +kernel) (by decide +kernel)
theorem wd_242 : (Jvm.Cond.fieldLink "VersionJoins" (120 : Nat) "VersionJoins$Session" "open" "Z") ∈ hp_ws := hp_in (i := 242) (by decide +kernel) (by decide +kernel)
theorem wd_243 : (Jvm.Cond.laysFinal "VersionJoins$Session" "VersionJoins$Session" "touched" "[Z") ∈ hp_ws := hp_in (i := 243) (by decide +kernel) (by decide +kernel)
theorem wd_245 : (Jvm.Cond.laysFinal "VersionJoins$Session" "VersionJoins$Session" "bases" "[J") ∈ hp_ws := hp_in (i := 245) (by decide +kernel) (by decide +kernel)
theorem wd_247 : (Jvm.Cond.laysFinal "VersionJoins$Session" "VersionJoins$Session" "wrote" "[Z") ∈ hp_ws := hp_in (i := 247) (by decide +kernel) (by decide +kernel)
theorem wd_249 : (Jvm.Cond.laysFinal "VersionJoins$Session" "VersionJoins$Session" "written" "[J") ∈ hp_ws := hp_in (i := 249) (by decide +kernel) (by decide +kernel)
theorem wd_251 : (Jvm.Cond.lays "VersionJoins$Session" "VersionJoins$Session" "open" "Z") ∈ hp_ws := hp_in (i := 251) (by decide +kernel) (by decide +kernel)
theorem wd_254 : (Jvm.Cond.methodLink "VersionJoinsLaw" (39 : Nat) ({ cls := "VersionJoins", name := "read", desc := "(II)J" } : Jvm.MethodName)) ∈ hp_ws := hp_in (i := 254) (by decide +kernel) (by decide +kernel)
theorem wd_255 : (Jvm.Cond.instanceMethod ({ cls := "VersionJoins", name := "read", desc := "(II)J" } : Jvm.MethodName)) ∈ hp_ws := hp_in (i := 255) (by decide +kernel) (by decide +kernel)
theorem wd_256 : (Jvm.Cond.selects "VersionJoins" ({ cls := "VersionJoins", name := "read", desc := "(II)J" } : Jvm.MethodName) ({ cls := "VersionJoins", name := "read", desc := "(II)J" } : Jvm.MethodName)) ∈ hp_ws := hp_in (i := 256) (by decide +kernel) (by decide +kernel)
set_option maxRecDepth 20000 in
theorem wd_257 : (Jvm.Cond.code ({ cls := "VersionJoins", name := "read", desc := "(II)J" } : Jvm.MethodName) prog_1_method_7_code (4 : Nat) (Option.some Jvm.ClassFile.FieldType.long)) ∈ hp_ws := hp_in (i := 257) rfl (by decide +kernel)
theorem wd_258 : (Jvm.Cond.methodLink "VersionJoins" (94 : Nat) ({ cls := "VersionJoins", name := "isOpen", desc := "(I)Z" } : Jvm.MethodName)) ∈ hp_ws := hp_in (i := 258) (by decide +kernel) (by decide +kernel)
theorem wd_260 : (Jvm.Cond.instanceMethod ({ cls := "VersionJoins", name := "isOpen", desc := "(I)Z" } : Jvm.MethodName)) ∈ hp_ws := hp_in (i := 260) (by decide +kernel) (by decide +kernel)
set_option maxRecDepth 20000 in
theorem wd_261 : (Jvm.Cond.code ({ cls := "VersionJoins", name := "isOpen", desc := "(I)Z" } : Jvm.MethodName) prog_1_method_20_code (2 : Nat) (Option.some Jvm.ClassFile.FieldType.boolean)) ∈ hp_ws := hp_in (i := 261) rfl (by decide +kernel)
theorem wd_262 : (Jvm.Cond.methodLink "VersionJoins" (97 : Nat) ({ cls := "VersionJoins$Session", name := "touch", desc := "(IJ)V" } : Jvm.MethodName)) ∈ hp_ws := hp_in (i := 262) (by decide +kernel) (by decide +kernel)
theorem wd_263 : (Jvm.Cond.instanceMethod ({ cls := "VersionJoins$Session", name := "touch", desc := "(IJ)V" } : Jvm.MethodName)) ∈ hp_ws := hp_in (i := 263) (by decide +kernel) (by decide +kernel)
theorem wd_264 : (Jvm.Cond.selects "VersionJoins$Session" ({ cls := "VersionJoins$Session", name := "touch", desc := "(IJ)V" } : Jvm.MethodName) ({ cls := "VersionJoins$Session", name := "touch", desc := "(IJ)V" } : Jvm.MethodName)) ∈ hp_ws := hp_in (i := 264) (by decide +kernel) (by decide +kernel)
set_option maxRecDepth 20000 in
theorem wd_265 : (Jvm.Cond.code ({ cls := "VersionJoins$Session", name := "touch", desc := "(IJ)V" } : Jvm.MethodName) prog_3_method_2_code (4 : Nat) (Option.none : Option Jvm.ClassFile.FieldType)) ∈ hp_ws := hp_in (i := 265) rfl (by decide +kernel)
theorem wd_266 : (Jvm.Cond.methodLink "VersionJoins" (101 : Nat) ({ cls := "VersionJoins$Session", name := "view", desc := "(I)J" } : Jvm.MethodName)) ∈ hp_ws := hp_in (i := 266) (by decide +kernel) (by decide +kernel)
theorem wd_267 : (Jvm.Cond.instanceMethod ({ cls := "VersionJoins$Session", name := "view", desc := "(I)J" } : Jvm.MethodName)) ∈ hp_ws := hp_in (i := 267) (by decide +kernel) (by decide +kernel)
theorem wd_268 : (Jvm.Cond.selects "VersionJoins$Session" ({ cls := "VersionJoins$Session", name := "view", desc := "(I)J" } : Jvm.MethodName) ({ cls := "VersionJoins$Session", name := "view", desc := "(I)J" } : Jvm.MethodName)) ∈ hp_ws := hp_in (i := 268) (by decide +kernel) (by decide +kernel)
set_option maxRecDepth 20000 in
theorem wd_269 : (Jvm.Cond.code ({ cls := "VersionJoins$Session", name := "view", desc := "(I)J" } : Jvm.MethodName) prog_3_method_6_code (2 : Nat) (Option.some Jvm.ClassFile.FieldType.long)) ∈ hp_ws := hp_in (i := 269) rfl (by decide +kernel)
theorem wd_270 : (Jvm.Cond.methodLink "VersionJoinsLaw" (44 : Nat) ({ cls := "VersionJoins", name := "write", desc := "(IIJ)Z" } : Jvm.MethodName)) ∈ hp_ws := hp_in (i := 270) (by decide +kernel) (by decide +kernel)
theorem wd_271 : (Jvm.Cond.instanceMethod ({ cls := "VersionJoins", name := "write", desc := "(IIJ)Z" } : Jvm.MethodName)) ∈ hp_ws := hp_in (i := 271) (by decide +kernel) (by decide +kernel)
theorem wd_272 : (Jvm.Cond.selects "VersionJoins" ({ cls := "VersionJoins", name := "write", desc := "(IIJ)Z" } : Jvm.MethodName) ({ cls := "VersionJoins", name := "write", desc := "(IIJ)Z" } : Jvm.MethodName)) ∈ hp_ws := hp_in (i := 272) (by decide +kernel) (by decide +kernel)
set_option maxRecDepth 20000 in
theorem wd_273 : (Jvm.Cond.code ({ cls := "VersionJoins", name := "write", desc := "(IIJ)Z" } : Jvm.MethodName) prog_1_method_8_code (6 : Nat) (Option.some Jvm.ClassFile.FieldType.boolean)) ∈ hp_ws := hp_in (i := 273) rfl (by decide +kernel)
theorem wd_274 : (Jvm.Cond.methodLink "VersionJoins" (105 : Nat) ({ cls := "VersionJoins$Session", name := "keepWritten", desc := "(IJ)V" } : Jvm.MethodName)) ∈ hp_ws := hp_in (i := 274) (by decide +kernel) (by decide +kernel)
theorem wd_275 : (Jvm.Cond.instanceMethod ({ cls := "VersionJoins$Session", name := "keepWritten", desc := "(IJ)V" } : Jvm.MethodName)) ∈ hp_ws := hp_in (i := 275) (by decide +kernel) (by decide +kernel)
theorem wd_276 : (Jvm.Cond.selects "VersionJoins$Session" ({ cls := "VersionJoins$Session", name := "keepWritten", desc := "(IJ)V" } : Jvm.MethodName) ({ cls := "VersionJoins$Session", name := "keepWritten", desc := "(IJ)V" } : Jvm.MethodName)) ∈ hp_ws := hp_in (i := 276) (by decide +kernel) (by decide +kernel)
set_option maxRecDepth 20000 in
theorem wd_277 : (Jvm.Cond.code ({ cls := "VersionJoins$Session", name := "keepWritten", desc := "(IJ)V" } : Jvm.MethodName) prog_3_method_3_code (4 : Nat) (Option.none : Option Jvm.ClassFile.FieldType)) ∈ hp_ws := hp_in (i := 277) rfl (by decide +kernel)
theorem wd_278 : (Jvm.Cond.methodLink "VersionJoinsLaw" (49 : Nat) ({ cls := "VersionJoins", name := "join", desc := "(IZ)I" } : Jvm.MethodName)) ∈ hp_ws := hp_in (i := 278) (by decide +kernel) (by decide +kernel)
theorem wd_279 : (Jvm.Cond.instanceMethod ({ cls := "VersionJoins", name := "join", desc := "(IZ)I" } : Jvm.MethodName)) ∈ hp_ws := hp_in (i := 279) (by decide +kernel) (by decide +kernel)
theorem wd_280 : (Jvm.Cond.selects "VersionJoins" ({ cls := "VersionJoins", name := "join", desc := "(IZ)I" } : Jvm.MethodName) ({ cls := "VersionJoins", name := "join", desc := "(IZ)I" } : Jvm.MethodName)) ∈ hp_ws := hp_in (i := 280) (by decide +kernel) (by decide +kernel)
set_option maxRecDepth 20000 in
theorem wd_281 : (Jvm.Cond.code ({ cls := "VersionJoins", name := "join", desc := "(IZ)I" } : Jvm.MethodName) prog_1_method_9_code (5 : Nat) (Option.some Jvm.ClassFile.FieldType.int)) ∈ hp_ws := hp_in (i := 281) rfl (by decide +kernel)
theorem wd_282 : (Jvm.Cond.methodLink "VersionJoins" (108 : Nat) ({ cls := "VersionJoins", name := "collectConflicts", desc := "(LVersionJoins$Session;)I" } : Jvm.MethodName)) ∈ hp_ws := hp_in (i := 282) (by decide +kernel) (by decide +kernel)
theorem wd_284 : (Jvm.Cond.instanceMethod ({ cls := "VersionJoins", name := "collectConflicts", desc := "(LVersionJoins$Session;)I" } : Jvm.MethodName)) ∈ hp_ws := hp_in (i := 284) (by decide +kernel) (by decide +kernel)
set_option maxRecDepth 20000 in
theorem wd_285 : (Jvm.Cond.code ({ cls := "VersionJoins", name := "collectConflicts", desc := "(LVersionJoins$Session;)I" } : Jvm.MethodName) prog_1_method_23_code (4 : Nat) (Option.some Jvm.ClassFile.FieldType.int)) ∈ hp_ws := hp_in (i := 285) rfl (by decide +kernel)
theorem wd_286 : (Jvm.Cond.methodLink "VersionJoins" (197 : Nat) ({ cls := "VersionJoins$Session", name := "isConflict", desc := "(IJ)Z" } : Jvm.MethodName)) ∈ hp_ws := hp_in (i := 286) (by decide +kernel) (by decide +kernel)
theorem wd_287 : (Jvm.Cond.instanceMethod ({ cls := "VersionJoins$Session", name := "isConflict", desc := "(IJ)Z" } : Jvm.MethodName)) ∈ hp_ws := hp_in (i := 287) (by decide +kernel) (by decide +kernel)
theorem wd_288 : (Jvm.Cond.selects "VersionJoins$Session" ({ cls := "VersionJoins$Session", name := "isConflict", desc := "(IJ)Z" } : Jvm.MethodName) ({ cls := "VersionJoins$Session", name := "isConflict", desc := "(IJ)Z" } : Jvm.MethodName)) ∈ hp_ws := hp_in (i := 288) (by decide +kernel) (by decide +kernel)
set_option maxRecDepth 20000 in
theorem wd_289 : (Jvm.Cond.code ({ cls := "VersionJoins$Session", name := "isConflict", desc := "(IJ)Z" } : Jvm.MethodName) prog_3_method_7_code (4 : Nat) (Option.some Jvm.ClassFile.FieldType.boolean)) ∈ hp_ws := hp_in (i := 289) rfl (by decide +kernel)
theorem wd_290 : (Jvm.Cond.methodLink "VersionJoins" (201 : Nat) ({ cls := "VersionJoins$Conflicts", name := "put", desc := "(IIJJ)V" } : Jvm.MethodName)) ∈ hp_ws := hp_in (i := 290) (by decide +kernel) (by decide +kernel)
theorem wd_291 : (Jvm.Cond.instanceMethod ({ cls := "VersionJoins$Conflicts", name := "put", desc := "(IIJJ)V" } : Jvm.MethodName)) ∈ hp_ws := hp_in (i := 291) (by decide +kernel) (by decide +kernel)
theorem wd_292 : (Jvm.Cond.selects "VersionJoins$Conflicts" ({ cls := "VersionJoins$Conflicts", name := "put", desc := "(IIJJ)V" } : Jvm.MethodName) ({ cls := "VersionJoins$Conflicts", name := "put", desc := "(IIJJ)V" } : Jvm.MethodName)) ∈ hp_ws := hp_in (i := 292) (by decide +kernel) (by decide +kernel)
set_option maxRecDepth 20000 in
theorem wd_293 : (Jvm.Cond.code ({ cls := "VersionJoins$Conflicts", name := "put", desc := "(IIJJ)V" } : Jvm.MethodName) prog_2_method_3_code (7 : Nat) (Option.none : Option Jvm.ClassFile.FieldType)) ∈ hp_ws := hp_in (i := 293) rfl (by decide +kernel)
theorem wd_294 : (Jvm.Cond.methodLink "VersionJoins" (112 : Nat) ({ cls := "VersionJoins$Session", name := "isWithinBounds", desc := "()Z" } : Jvm.MethodName)) ∈ hp_ws := hp_in (i := 294) (by decide +kernel) (by decide +kernel)
theorem wd_295 : (Jvm.Cond.instanceMethod ({ cls := "VersionJoins$Session", name := "isWithinBounds", desc := "()Z" } : Jvm.MethodName)) ∈ hp_ws := hp_in (i := 295) (by decide +kernel) (by decide +kernel)
theorem wd_296 : (Jvm.Cond.selects "VersionJoins$Session" ({ cls := "VersionJoins$Session", name := "isWithinBounds", desc := "()Z" } : Jvm.MethodName) ({ cls := "VersionJoins$Session", name := "isWithinBounds", desc := "()Z" } : Jvm.MethodName)) ∈ hp_ws := hp_in (i := 296) (by decide +kernel) (by decide +kernel)
set_option maxRecDepth 20000 in
theorem wd_297 : (Jvm.Cond.code ({ cls := "VersionJoins$Session", name := "isWithinBounds", desc := "()Z" } : Jvm.MethodName) prog_3_method_8_code (2 : Nat) (Option.some Jvm.ClassFile.FieldType.boolean)) ∈ hp_ws := hp_in (i := 297) rfl (by decide +kernel)
theorem wd_298 : (Jvm.Cond.constantLong "VersionJoins$Session" (29 : Nat) (1000000000000 : Int64)) ∈ hp_ws := hp_in (i := 298) (by decide +kernel) (by decide +kernel)
theorem wd_299 : (Jvm.Cond.constantLong "VersionJoins$Session" (31 : Nat) (-1000000000000 : Int64)) ∈ hp_ws := hp_in (i := 299) (by decide +kernel) (by decide +kernel)
theorem wd_300 : (Jvm.Cond.methodLink "VersionJoins" (116 : Nat) ({ cls := "VersionJoins", name := "giveWritten", desc := "(LVersionJoins$Session;)V" } : Jvm.MethodName)) ∈ hp_ws := hp_in (i := 300) (by decide +kernel) (by decide +kernel)
theorem wd_302 : (Jvm.Cond.instanceMethod ({ cls := "VersionJoins", name := "giveWritten", desc := "(LVersionJoins$Session;)V" } : Jvm.MethodName)) ∈ hp_ws := hp_in (i := 302) (by decide +kernel) (by decide +kernel)
set_option maxRecDepth 20000 in
theorem wd_303 : (Jvm.Cond.code ({ cls := "VersionJoins", name := "giveWritten", desc := "(LVersionJoins$Session;)V" } : Jvm.MethodName) prog_1_method_22_code (3 : Nat) (Option.none : Option Jvm.ClassFile.FieldType)) ∈ hp_ws := hp_in (i := 303) rfl (by decide +kernel)
theorem wd_304 : (Jvm.Cond.methodLink "VersionJoins" (185 : Nat) ({ cls := "VersionJoins", name := "give", desc := "(IJ)V" } : Jvm.MethodName)) ∈ hp_ws := hp_in (i := 304) (by decide +kernel) (by decide +kernel)
theorem wd_306 : (Jvm.Cond.instanceMethod ({ cls := "VersionJoins", name := "give", desc := "(IJ)V" } : Jvm.MethodName)) ∈ hp_ws := hp_in (i := 306) (by decide +kernel) (by decide +kernel)
set_option maxRecDepth 20000 in
theorem wd_307 : (Jvm.Cond.code ({ cls := "VersionJoins", name := "give", desc := "(IJ)V" } : Jvm.MethodName) prog_1_method_21_code (4 : Nat) (Option.none : Option Jvm.ClassFile.FieldType)) ∈ hp_ws := hp_in (i := 307) rfl (by decide +kernel)
theorem wd_308 : (Jvm.Cond.methodLink "VersionJoinsLaw" (54 : Nat) ({ cls := "VersionJoins", name := "conflict", desc := "(II)J" } : Jvm.MethodName)) ∈ hp_ws := hp_in (i := 308) (by decide +kernel) (by decide +kernel)
theorem wd_309 : (Jvm.Cond.instanceMethod ({ cls := "VersionJoins", name := "conflict", desc := "(II)J" } : Jvm.MethodName)) ∈ hp_ws := hp_in (i := 309) (by decide +kernel) (by decide +kernel)
theorem wd_310 : (Jvm.Cond.selects "VersionJoins" ({ cls := "VersionJoins", name := "conflict", desc := "(II)J" } : Jvm.MethodName) ({ cls := "VersionJoins", name := "conflict", desc := "(II)J" } : Jvm.MethodName)) ∈ hp_ws := hp_in (i := 310) (by decide +kernel) (by decide +kernel)
set_option maxRecDepth 20000 in
theorem wd_311 : (Jvm.Cond.code ({ cls := "VersionJoins", name := "conflict", desc := "(II)J" } : Jvm.MethodName) prog_1_method_10_code (3 : Nat) (Option.some Jvm.ClassFile.FieldType.long)) ∈ hp_ws := hp_in (i := 311) rfl (by decide +kernel)
theorem wd_312 : (Jvm.Cond.methodLink "VersionJoins" (124 : Nat) ({ cls := "VersionJoins$Conflicts", name := "has", desc := "(I)Z" } : Jvm.MethodName)) ∈ hp_ws := hp_in (i := 312) (by decide +kernel) (by decide +kernel)
theorem wd_313 : (Jvm.Cond.instanceMethod ({ cls := "VersionJoins$Conflicts", name := "has", desc := "(I)Z" } : Jvm.MethodName)) ∈ hp_ws := hp_in (i := 313) (by decide +kernel) (by decide +kernel)
theorem wd_314 : (Jvm.Cond.selects "VersionJoins$Conflicts" ({ cls := "VersionJoins$Conflicts", name := "has", desc := "(I)Z" } : Jvm.MethodName) ({ cls := "VersionJoins$Conflicts", name := "has", desc := "(I)Z" } : Jvm.MethodName)) ∈ hp_ws := hp_in (i := 314) (by decide +kernel) (by decide +kernel)
set_option maxRecDepth 20000 in
theorem wd_315 : (Jvm.Cond.code ({ cls := "VersionJoins$Conflicts", name := "has", desc := "(I)Z" } : Jvm.MethodName) prog_2_method_2_code (2 : Nat) (Option.some Jvm.ClassFile.FieldType.boolean)) ∈ hp_ws := hp_in (i := 315) rfl (by decide +kernel)
theorem wd_316 : (Jvm.Cond.constantLong "VersionJoins" (127 : Nat) (-1 : Int64)) ∈ hp_ws := hp_in (i := 316) (by decide +kernel) (by decide +kernel)
theorem wd_317 : (Jvm.Cond.constantLong "VersionJoins" (138 : Nat) (-2 : Int64)) ∈ hp_ws := hp_in (i := 317) (by decide +kernel) (by decide +kernel)
theorem wd_318 : (Jvm.Cond.methodLink "VersionJoinsLaw" (58 : Nat) ({ cls := "VersionJoins", name := "settle", desc := "(II)Z" } : Jvm.MethodName)) ∈ hp_ws := hp_in (i := 318) (by decide +kernel) (by decide +kernel)
theorem wd_319 : (Jvm.Cond.instanceMethod ({ cls := "VersionJoins", name := "settle", desc := "(II)Z" } : Jvm.MethodName)) ∈ hp_ws := hp_in (i := 319) (by decide +kernel) (by decide +kernel)
theorem wd_320 : (Jvm.Cond.selects "VersionJoins" ({ cls := "VersionJoins", name := "settle", desc := "(II)Z" } : Jvm.MethodName) ({ cls := "VersionJoins", name := "settle", desc := "(II)Z" } : Jvm.MethodName)) ∈ hp_ws := hp_in (i := 320) (by decide +kernel) (by decide +kernel)
set_option maxRecDepth 20000 in
theorem wd_321 : (Jvm.Cond.code ({ cls := "VersionJoins", name := "settle", desc := "(II)Z" } : Jvm.MethodName) prog_1_method_11_code (5 : Nat) (Option.some Jvm.ClassFile.FieldType.boolean)) ∈ hp_ws := hp_in (i := 321) rfl (by decide +kernel)
theorem wd_322 : (Jvm.Cond.methodLink "VersionJoins" (148 : Nat) ({ cls := "VersionJoins$Session", name := "rebase", desc := "(IJ)V" } : Jvm.MethodName)) ∈ hp_ws := hp_in (i := 322) (by decide +kernel) (by decide +kernel)
theorem wd_323 : (Jvm.Cond.instanceMethod ({ cls := "VersionJoins$Session", name := "rebase", desc := "(IJ)V" } : Jvm.MethodName)) ∈ hp_ws := hp_in (i := 323) (by decide +kernel) (by decide +kernel)
theorem wd_324 : (Jvm.Cond.selects "VersionJoins$Session" ({ cls := "VersionJoins$Session", name := "rebase", desc := "(IJ)V" } : Jvm.MethodName) ({ cls := "VersionJoins$Session", name := "rebase", desc := "(IJ)V" } : Jvm.MethodName)) ∈ hp_ws := hp_in (i := 324) (by decide +kernel) (by decide +kernel)
set_option maxRecDepth 20000 in
theorem wd_325 : (Jvm.Cond.code ({ cls := "VersionJoins$Session", name := "rebase", desc := "(IJ)V" } : Jvm.MethodName) prog_3_method_5_code (4 : Nat) (Option.none : Option Jvm.ClassFile.FieldType)) ∈ hp_ws := hp_in (i := 325) rfl (by decide +kernel)
theorem wd_326 : (Jvm.Cond.methodLink "VersionJoins" (151 : Nat) ({ cls := "VersionJoins$Session", name := "dropWritten", desc := "(I)V" } : Jvm.MethodName)) ∈ hp_ws := hp_in (i := 326) (by decide +kernel) (by decide +kernel)
theorem wd_327 : (Jvm.Cond.instanceMethod ({ cls := "VersionJoins$Session", name := "dropWritten", desc := "(I)V" } : Jvm.MethodName)) ∈ hp_ws := hp_in (i := 327) (by decide +kernel) (by decide +kernel)
theorem wd_328 : (Jvm.Cond.selects "VersionJoins$Session" ({ cls := "VersionJoins$Session", name := "dropWritten", desc := "(I)V" } : Jvm.MethodName) ({ cls := "VersionJoins$Session", name := "dropWritten", desc := "(I)V" } : Jvm.MethodName)) ∈ hp_ws := hp_in (i := 328) (by decide +kernel) (by decide +kernel)
set_option maxRecDepth 20000 in
theorem wd_329 : (Jvm.Cond.code ({ cls := "VersionJoins$Session", name := "dropWritten", desc := "(I)V" } : Jvm.MethodName) prog_3_method_4_code (2 : Nat) (Option.none : Option Jvm.ClassFile.FieldType)) ∈ hp_ws := hp_in (i := 329) rfl (by decide +kernel)
theorem wd_330 : (Jvm.Cond.methodLink "VersionJoinsLaw" (62 : Nat) ({ cls := "VersionJoins", name := "stale", desc := "(I)Z" } : Jvm.MethodName)) ∈ hp_ws := hp_in (i := 330) (by decide +kernel) (by decide +kernel)
theorem wd_331 : (Jvm.Cond.instanceMethod ({ cls := "VersionJoins", name := "stale", desc := "(I)Z" } : Jvm.MethodName)) ∈ hp_ws := hp_in (i := 331) (by decide +kernel) (by decide +kernel)
theorem wd_332 : (Jvm.Cond.selects "VersionJoins" ({ cls := "VersionJoins", name := "stale", desc := "(I)Z" } : Jvm.MethodName) ({ cls := "VersionJoins", name := "stale", desc := "(I)Z" } : Jvm.MethodName)) ∈ hp_ws := hp_in (i := 332) (by decide +kernel) (by decide +kernel)
set_option maxRecDepth 20000 in
theorem wd_333 : (Jvm.Cond.code ({ cls := "VersionJoins", name := "stale", desc := "(I)Z" } : Jvm.MethodName) prog_1_method_12_code (2 : Nat) (Option.some Jvm.ClassFile.FieldType.boolean)) ∈ hp_ws := hp_in (i := 333) rfl (by decide +kernel)
theorem wd_334 : (Jvm.Cond.methodLink "VersionJoins" (154 : Nat) ({ cls := "VersionJoins", name := "isStale", desc := "(I)Z" } : Jvm.MethodName)) ∈ hp_ws := hp_in (i := 334) (by decide +kernel) (by decide +kernel)
theorem wd_336 : (Jvm.Cond.instanceMethod ({ cls := "VersionJoins", name := "isStale", desc := "(I)Z" } : Jvm.MethodName)) ∈ hp_ws := hp_in (i := 336) (by decide +kernel) (by decide +kernel)
set_option maxRecDepth 20000 in
theorem wd_337 : (Jvm.Cond.code ({ cls := "VersionJoins", name := "isStale", desc := "(I)Z" } : Jvm.MethodName) prog_1_method_27_code (4 : Nat) (Option.some Jvm.ClassFile.FieldType.boolean)) ∈ hp_ws := hp_in (i := 337) rfl (by decide +kernel)
theorem wd_338 : (Jvm.Cond.methodLink "VersionJoins" (215 : Nat) ({ cls := "VersionJoins$Step", name := "isOutdated", desc := "([J)Z" } : Jvm.MethodName)) ∈ hp_ws := hp_in (i := 338) (by decide +kernel) (by decide +kernel)
theorem wd_339 : (Jvm.Cond.instanceMethod ({ cls := "VersionJoins$Step", name := "isOutdated", desc := "([J)Z" } : Jvm.MethodName)) ∈ hp_ws := hp_in (i := 339) (by decide +kernel) (by decide +kernel)
theorem wd_340 : (Jvm.Cond.selects "VersionJoins$Step" ({ cls := "VersionJoins$Step", name := "isOutdated", desc := "([J)Z" } : Jvm.MethodName) ({ cls := "VersionJoins$Step", name := "isOutdated", desc := "([J)Z" } : Jvm.MethodName)) ∈ hp_ws := hp_in (i := 340) (by decide +kernel) (by decide +kernel)
set_option maxRecDepth 20000 in
theorem wd_341 : (Jvm.Cond.code ({ cls := "VersionJoins$Step", name := "isOutdated", desc := "([J)Z" } : Jvm.MethodName) prog_4_method_7_code (3 : Nat) (Option.some Jvm.ClassFile.FieldType.boolean)) ∈ hp_ws := hp_in (i := 341) rfl (by decide +kernel)
theorem wd_342 : (Jvm.Cond.methodLink "VersionJoinsLaw" (67 : Nat) ({ cls := "VersionJoins", name := "branch", desc := "()I" } : Jvm.MethodName)) ∈ hp_ws := hp_in (i := 342) (by decide +kernel) (by decide +kernel)
theorem wd_343 : (Jvm.Cond.instanceMethod ({ cls := "VersionJoins", name := "branch", desc := "()I" } : Jvm.MethodName)) ∈ hp_ws := hp_in (i := 343) (by decide +kernel) (by decide +kernel)
theorem wd_344 : (Jvm.Cond.selects "VersionJoins" ({ cls := "VersionJoins", name := "branch", desc := "()I" } : Jvm.MethodName) ({ cls := "VersionJoins", name := "branch", desc := "()I" } : Jvm.MethodName)) ∈ hp_ws := hp_in (i := 344) (by decide +kernel) (by decide +kernel)
set_option maxRecDepth 20000 in
theorem wd_345 : (Jvm.Cond.code ({ cls := "VersionJoins", name := "branch", desc := "()I" } : Jvm.MethodName) prog_1_method_13_code (1 : Nat) (Option.some Jvm.ClassFile.FieldType.int)) ∈ hp_ws := hp_in (i := 345) rfl (by decide +kernel)
theorem wd_346 : (Jvm.Cond.methodLink "VersionJoins" (157 : Nat) ({ cls := "java/lang/System", name := "arraycopy", desc := "(Ljava/lang/Object;ILjava/lang/Object;II)V" } : Jvm.MethodName)) ∈ hp_ws := hp_in (i := 346) (by decide +kernel) (by decide +kernel)
theorem wd_347 : (Jvm.Cond.static ({ cls := "java/lang/System", name := "arraycopy", desc := "(Ljava/lang/Object;ILjava/lang/Object;II)V" } : Jvm.MethodName)) ∈ hp_ws := hp_in (i := 347) (by decide +kernel) (by decide +kernel)
theorem wd_348 : (Jvm.Cond.native ({ cls := "java/lang/System", name := "arraycopy", desc := "(Ljava/lang/Object;ILjava/lang/Object;II)V" } : Jvm.MethodName)) ∈ hp_ws := hp_in (i := 348) (by decide +kernel) (by decide +kernel)
theorem wd_349 : (Jvm.Cond.methodLink "VersionJoinsLaw" (71 : Nat) ({ cls := "VersionJoins", name := "from", desc := "(II)I" } : Jvm.MethodName)) ∈ hp_ws := hp_in (i := 349) (by decide +kernel) (by decide +kernel)
theorem wd_350 : (Jvm.Cond.instanceMethod ({ cls := "VersionJoins", name := "from", desc := "(II)I" } : Jvm.MethodName)) ∈ hp_ws := hp_in (i := 350) (by decide +kernel) (by decide +kernel)
theorem wd_351 : (Jvm.Cond.selects "VersionJoins" ({ cls := "VersionJoins", name := "from", desc := "(II)I" } : Jvm.MethodName) ({ cls := "VersionJoins", name := "from", desc := "(II)I" } : Jvm.MethodName)) ∈ hp_ws := hp_in (i := 351) (by decide +kernel) (by decide +kernel)
set_option maxRecDepth 20000 in
theorem wd_352 : (Jvm.Cond.code ({ cls := "VersionJoins", name := "from", desc := "(II)I" } : Jvm.MethodName) prog_1_method_14_code (4 : Nat) (Option.some Jvm.ClassFile.FieldType.int)) ∈ hp_ws := hp_in (i := 352) rfl (by decide +kernel)
theorem wd_353 : (Jvm.Cond.methodLink "VersionJoins" (163 : Nat) ({ cls := "VersionJoins$Step", name := "hasMade", desc := "(I)Z" } : Jvm.MethodName)) ∈ hp_ws := hp_in (i := 353) (by decide +kernel) (by decide +kernel)
theorem wd_354 : (Jvm.Cond.instanceMethod ({ cls := "VersionJoins$Step", name := "hasMade", desc := "(I)Z" } : Jvm.MethodName)) ∈ hp_ws := hp_in (i := 354) (by decide +kernel) (by decide +kernel)
theorem wd_355 : (Jvm.Cond.selects "VersionJoins$Step" ({ cls := "VersionJoins$Step", name := "hasMade", desc := "(I)Z" } : Jvm.MethodName) ({ cls := "VersionJoins$Step", name := "hasMade", desc := "(I)Z" } : Jvm.MethodName)) ∈ hp_ws := hp_in (i := 355) (by decide +kernel) (by decide +kernel)
set_option maxRecDepth 20000 in
theorem wd_356 : (Jvm.Cond.code ({ cls := "VersionJoins$Step", name := "hasMade", desc := "(I)Z" } : Jvm.MethodName) prog_4_method_4_code (3 : Nat) (Option.some Jvm.ClassFile.FieldType.boolean)) ∈ hp_ws := hp_in (i := 356) rfl (by decide +kernel)
theorem wd_357 : (Jvm.Cond.methodLink "VersionJoinsLaw" (76 : Nat) ({ cls := "VersionJoins", name := "run", desc := "(I)Z" } : Jvm.MethodName)) ∈ hp_ws := hp_in (i := 357) (by decide +kernel) (by decide +kernel)
theorem wd_358 : (Jvm.Cond.instanceMethod ({ cls := "VersionJoins", name := "run", desc := "(I)Z" } : Jvm.MethodName)) ∈ hp_ws := hp_in (i := 358) (by decide +kernel) (by decide +kernel)
theorem wd_359 : (Jvm.Cond.selects "VersionJoins" ({ cls := "VersionJoins", name := "run", desc := "(I)Z" } : Jvm.MethodName) ({ cls := "VersionJoins", name := "run", desc := "(I)Z" } : Jvm.MethodName)) ∈ hp_ws := hp_in (i := 359) (by decide +kernel) (by decide +kernel)
set_option maxRecDepth 20000 in
theorem wd_360 : (Jvm.Cond.code ({ cls := "VersionJoins", name := "run", desc := "(I)Z" } : Jvm.MethodName) prog_1_method_15_code (2 : Nat) (Option.some Jvm.ClassFile.FieldType.boolean)) ∈ hp_ws := hp_in (i := 360) rfl (by decide +kernel)
theorem wd_361 : (Jvm.Cond.methodLink "VersionJoins" (176 : Nat) ({ cls := "VersionJoins", name := "refresh", desc := "(II)Z" } : Jvm.MethodName)) ∈ hp_ws := hp_in (i := 361) (by decide +kernel) (by decide +kernel)
theorem wd_363 : (Jvm.Cond.instanceMethod ({ cls := "VersionJoins", name := "refresh", desc := "(II)Z" } : Jvm.MethodName)) ∈ hp_ws := hp_in (i := 363) (by decide +kernel) (by decide +kernel)
set_option maxRecDepth 20000 in
theorem wd_364 : (Jvm.Cond.code ({ cls := "VersionJoins", name := "refresh", desc := "(II)Z" } : Jvm.MethodName) prog_1_method_28_code (6 : Nat) (Option.some Jvm.ClassFile.FieldType.boolean)) ∈ hp_ws := hp_in (i := 364) rfl (by decide +kernel)
theorem wd_365 : (Jvm.Cond.methodLink "VersionJoins" (219 : Nat) ({ cls := "VersionJoins$Step", name := "work", desc := "([J)V" } : Jvm.MethodName)) ∈ hp_ws := hp_in (i := 365) (by decide +kernel) (by decide +kernel)
theorem wd_366 : (Jvm.Cond.instanceMethod ({ cls := "VersionJoins$Step", name := "work", desc := "([J)V" } : Jvm.MethodName)) ∈ hp_ws := hp_in (i := 366) (by decide +kernel) (by decide +kernel)
theorem wd_367 : (Jvm.Cond.selects "VersionJoins$Step" ({ cls := "VersionJoins$Step", name := "work", desc := "([J)V" } : Jvm.MethodName) ({ cls := "VersionJoins$Step", name := "work", desc := "([J)V" } : Jvm.MethodName)) ∈ hp_ws := hp_in (i := 367) (by decide +kernel) (by decide +kernel)
set_option maxRecDepth 20000 in
theorem wd_368 : (Jvm.Cond.code ({ cls := "VersionJoins$Step", name := "work", desc := "([J)V" } : Jvm.MethodName) prog_4_method_8_code (3 : Nat) (Option.none : Option Jvm.ClassFile.FieldType)) ∈ hp_ws := hp_in (i := 368) rfl (by decide +kernel)
theorem wd_369 : (Jvm.Cond.methodLink "VersionJoins$Step" (49 : Nat) ({ cls := "VersionJoins$Step", name := "resultOfKind", desc := "()J" } : Jvm.MethodName)) ∈ hp_ws := hp_in (i := 369) (by decide +kernel) (by decide +kernel)
theorem wd_371 : (Jvm.Cond.instanceMethod ({ cls := "VersionJoins$Step", name := "resultOfKind", desc := "()J" } : Jvm.MethodName)) ∈ hp_ws := hp_in (i := 371) (by decide +kernel) (by decide +kernel)
set_option maxRecDepth 20000 in
theorem wd_372 : (Jvm.Cond.code ({ cls := "VersionJoins$Step", name := "resultOfKind", desc := "()J" } : Jvm.MethodName) prog_4_method_9_code (1 : Nat) (Option.some Jvm.ClassFile.FieldType.long)) ∈ hp_ws := hp_in (i := 372) rfl (by decide +kernel)
theorem wd_373 : (Jvm.Cond.methodLink "VersionJoins$Step" (53 : Nat) ({ cls := "VersionJoins$Step", name := "sum", desc := "()J" } : Jvm.MethodName)) ∈ hp_ws := hp_in (i := 373) (by decide +kernel) (by decide +kernel)
theorem wd_375 : (Jvm.Cond.instanceMethod ({ cls := "VersionJoins$Step", name := "sum", desc := "()J" } : Jvm.MethodName)) ∈ hp_ws := hp_in (i := 375) (by decide +kernel) (by decide +kernel)
set_option maxRecDepth 20000 in
theorem wd_376 : (Jvm.Cond.code ({ cls := "VersionJoins$Step", name := "sum", desc := "()J" } : Jvm.MethodName) prog_4_method_10_code (4 : Nat) (Option.some Jvm.ClassFile.FieldType.long)) ∈ hp_ws := hp_in (i := 376) rfl (by decide +kernel)
theorem wd_377 : (Jvm.Cond.methodLink "VersionJoins$Step" (56 : Nat) ({ cls := "VersionJoins$Step", name := "greatest", desc := "()J" } : Jvm.MethodName)) ∈ hp_ws := hp_in (i := 377) (by decide +kernel) (by decide +kernel)
theorem wd_379 : (Jvm.Cond.instanceMethod ({ cls := "VersionJoins$Step", name := "greatest", desc := "()J" } : Jvm.MethodName)) ∈ hp_ws := hp_in (i := 379) (by decide +kernel) (by decide +kernel)
set_option maxRecDepth 20000 in
theorem wd_380 : (Jvm.Cond.code ({ cls := "VersionJoins$Step", name := "greatest", desc := "()J" } : Jvm.MethodName) prog_4_method_11_code (4 : Nat) (Option.some Jvm.ClassFile.FieldType.long)) ∈ hp_ws := hp_in (i := 380) rfl (by decide +kernel)
theorem wd_381 : (Jvm.Cond.methodLink "VersionJoins$Step" (65 : Nat) ({ cls := "java/lang/Math", name := "max", desc := "(JJ)J" } : Jvm.MethodName)) ∈ hp_ws := hp_in (i := 381) (by decide +kernel) (by decide +kernel)
theorem wd_382 : (Jvm.Cond.static ({ cls := "java/lang/Math", name := "max", desc := "(JJ)J" } : Jvm.MethodName)) ∈ hp_ws := hp_in (i := 382) (by decide +kernel) (by decide +kernel)
set_option maxRecDepth 20000 in
theorem wd_383 : (Jvm.Cond.code ({ cls := "java/lang/Math", name := "max", desc := "(JJ)J" } : Jvm.MethodName) prog_7_method_66_code (4 : Nat) (Option.some Jvm.ClassFile.FieldType.long)) ∈ hp_ws := hp_in (i := 383) rfl (by decide +kernel)
theorem wd_384 : (Jvm.Cond.methodLink "VersionJoins$Step" (59 : Nat) ({ cls := "VersionJoins$Step", name := "exclusiveOr", desc := "()J" } : Jvm.MethodName)) ∈ hp_ws := hp_in (i := 384) (by decide +kernel) (by decide +kernel)
theorem wd_386 : (Jvm.Cond.instanceMethod ({ cls := "VersionJoins$Step", name := "exclusiveOr", desc := "()J" } : Jvm.MethodName)) ∈ hp_ws := hp_in (i := 386) (by decide +kernel) (by decide +kernel)
set_option maxRecDepth 20000 in
theorem wd_387 : (Jvm.Cond.code ({ cls := "VersionJoins$Step", name := "exclusiveOr", desc := "()J" } : Jvm.MethodName) prog_4_method_12_code (4 : Nat) (Option.some Jvm.ClassFile.FieldType.long)) ∈ hp_ws := hp_in (i := 387) rfl (by decide +kernel)
theorem wd_388 : (Jvm.Cond.methodLink "VersionJoins$Step" (62 : Nat) ({ cls := "VersionJoins$Step", name := "differentOnes", desc := "()J" } : Jvm.MethodName)) ∈ hp_ws := hp_in (i := 388) (by decide +kernel) (by decide +kernel)
theorem wd_390 : (Jvm.Cond.instanceMethod ({ cls := "VersionJoins$Step", name := "differentOnes", desc := "()J" } : Jvm.MethodName)) ∈ hp_ws := hp_in (i := 390) (by decide +kernel) (by decide +kernel)
set_option maxRecDepth 20000 in
theorem wd_391 : (Jvm.Cond.code ({ cls := "VersionJoins$Step", name := "differentOnes", desc := "()J" } : Jvm.MethodName) prog_4_method_13_code (4 : Nat) (Option.some Jvm.ClassFile.FieldType.long)) ∈ hp_ws := hp_in (i := 391) rfl (by decide +kernel)
theorem wd_392 : (Jvm.Cond.methodLink "VersionJoins$Step" (71 : Nat) ({ cls := "VersionJoins$Step", name := "isFirstOfItsValue", desc := "(I)Z" } : Jvm.MethodName)) ∈ hp_ws := hp_in (i := 392) (by decide +kernel) (by decide +kernel)
theorem wd_394 : (Jvm.Cond.instanceMethod ({ cls := "VersionJoins$Step", name := "isFirstOfItsValue", desc := "(I)Z" } : Jvm.MethodName)) ∈ hp_ws := hp_in (i := 394) (by decide +kernel) (by decide +kernel)
set_option maxRecDepth 20000 in
theorem wd_395 : (Jvm.Cond.code ({ cls := "VersionJoins$Step", name := "isFirstOfItsValue", desc := "(I)Z" } : Jvm.MethodName) prog_4_method_14_code (3 : Nat) (Option.some Jvm.ClassFile.FieldType.boolean)) ∈ hp_ws := hp_in (i := 395) rfl (by decide +kernel)
theorem wd_396 : (Jvm.Cond.methodLink "VersionJoinsLaw" (80 : Nat) ({ cls := "VersionJoins", name := "value", desc := "(II)J" } : Jvm.MethodName)) ∈ hp_ws := hp_in (i := 396) (by decide +kernel) (by decide +kernel)
theorem wd_397 : (Jvm.Cond.instanceMethod ({ cls := "VersionJoins", name := "value", desc := "(II)J" } : Jvm.MethodName)) ∈ hp_ws := hp_in (i := 397) (by decide +kernel) (by decide +kernel)
theorem wd_398 : (Jvm.Cond.selects "VersionJoins" ({ cls := "VersionJoins", name := "value", desc := "(II)J" } : Jvm.MethodName) ({ cls := "VersionJoins", name := "value", desc := "(II)J" } : Jvm.MethodName)) ∈ hp_ws := hp_in (i := 398) (by decide +kernel) (by decide +kernel)
set_option maxRecDepth 20000 in
theorem wd_399 : (Jvm.Cond.code ({ cls := "VersionJoins", name := "value", desc := "(II)J" } : Jvm.MethodName) prog_1_method_16_code (3 : Nat) (Option.some Jvm.ClassFile.FieldType.long)) ∈ hp_ws := hp_in (i := 399) rfl (by decide +kernel)
theorem wd_400 : (Jvm.Cond.methodLink "VersionJoinsLaw" (84 : Nat) ({ cls := "VersionJoins", name := "play", desc := "(JI)I" } : Jvm.MethodName)) ∈ hp_ws := hp_in (i := 400) (by decide +kernel) (by decide +kernel)
theorem wd_401 : (Jvm.Cond.instanceMethod ({ cls := "VersionJoins", name := "play", desc := "(JI)I" } : Jvm.MethodName)) ∈ hp_ws := hp_in (i := 401) (by decide +kernel) (by decide +kernel)
theorem wd_402 : (Jvm.Cond.selects "VersionJoins" ({ cls := "VersionJoins", name := "play", desc := "(JI)I" } : Jvm.MethodName) ({ cls := "VersionJoins", name := "play", desc := "(JI)I" } : Jvm.MethodName)) ∈ hp_ws := hp_in (i := 402) (by decide +kernel) (by decide +kernel)
set_option maxRecDepth 20000 in
theorem wd_403 : (Jvm.Cond.code ({ cls := "VersionJoins", name := "play", desc := "(JI)I" } : Jvm.MethodName) prog_1_method_17_code (8 : Nat) (Option.some Jvm.ClassFile.FieldType.int)) ∈ hp_ws := hp_in (i := 403) rfl (by decide +kernel)
theorem wd_404 : (Jvm.Cond.constantLong "VersionJoins" (179 : Nat) (6364136223846793005 : Int64)) ∈ hp_ws := hp_in (i := 404) (by decide +kernel) (by decide +kernel)
theorem wd_405 : (Jvm.Cond.constantLong "VersionJoins" (181 : Nat) (1442695040888963407 : Int64)) ∈ hp_ws := hp_in (i := 405) (by decide +kernel) (by decide +kernel)
theorem wd_406 : (Jvm.Cond.constantLong "VersionJoins" (183 : Nat) (255 : Int64)) ∈ hp_ws := hp_in (i := 406) (by decide +kernel) (by decide +kernel)
theorem wd_407 : (Jvm.Cond.methodLink "VersionJoins" (188 : Nat) ({ cls := "VersionJoins", name := "refreshAll", desc := "()V" } : Jvm.MethodName)) ∈ hp_ws := hp_in (i := 407) (by decide +kernel) (by decide +kernel)
theorem wd_409 : (Jvm.Cond.instanceMethod ({ cls := "VersionJoins", name := "refreshAll", desc := "()V" } : Jvm.MethodName)) ∈ hp_ws := hp_in (i := 409) (by decide +kernel) (by decide +kernel)
set_option maxRecDepth 20000 in
theorem wd_410 : (Jvm.Cond.code ({ cls := "VersionJoins", name := "refreshAll", desc := "()V" } : Jvm.MethodName) prog_1_method_29_code (2 : Nat) (Option.none : Option Jvm.ClassFile.FieldType)) ∈ hp_ws := hp_in (i := 410) rfl (by decide +kernel)
theorem wd_411 : (Jvm.Cond.classLink "VersionJoinsLaw" (10 : Nat) "VersionJoinsModel") ∈ hp_ws := hp_in (i := 411) (by decide +kernel) (by decide +kernel)
theorem wd_412 : (Jvm.Cond.instantiable "VersionJoinsModel" (30 : Nat)) ∈ hp_ws := hp_in (i := 412) (by decide +kernel) (by decide +kernel)
theorem wd_413 : (Jvm.Cond.methodLink "VersionJoinsLaw" (12 : Nat) ({ cls := "VersionJoinsModel", name := "<init>", desc := "()V" } : Jvm.MethodName)) ∈ hp_ws := hp_in (i := 413) (by decide +kernel) (by decide +kernel)
theorem wd_414 : (Jvm.Cond.instanceMethod ({ cls := "VersionJoinsModel", name := "<init>", desc := "()V" } : Jvm.MethodName)) ∈ hp_ws := hp_in (i := 414) (by decide +kernel) (by decide +kernel)
set_option maxRecDepth 20000 in
theorem wd_415 : (Jvm.Cond.code ({ cls := "VersionJoinsModel", name := "<init>", desc := "()V" } : Jvm.MethodName) prog_6_method_1_code (1 : Nat) (Option.none : Option Jvm.ClassFile.FieldType)) ∈ hp_ws := hp_in (i := 415) rfl (by decide +kernel)
theorem wd_416 : (Jvm.Cond.methodLink "VersionJoinsModel" (1 : Nat) ({ cls := "java/lang/Object", name := "<init>", desc := "()V" } : Jvm.MethodName)) ∈ hp_ws := hp_in (i := 416) (by decide +kernel) (by decide +kernel)
theorem wd_417 : (Jvm.Cond.fieldLink "VersionJoinsModel" (82 : Nat) "VersionJoinsModel" "things" "I") ∈ hp_ws := hp_in (i := 417) (by decide +kernel) (by decide +kernel)
theorem wd_418 : (Jvm.Cond.fieldLink "VersionJoinsModel" (7 : Nat) "VersionJoinsModel" "branches" "I") ∈ hp_ws := hp_in (i := 418) (by decide +kernel) (by decide +kernel)
theorem wd_419 : (Jvm.Cond.fieldLink "VersionJoinsModel" (13 : Nat) "VersionJoinsModel" "values" "[J") ∈ hp_ws := hp_in (i := 419) (by decide +kernel) (by decide +kernel)
theorem wd_420 : (Jvm.Cond.fieldLink "VersionJoinsModel" (115 : Nat) "VersionJoinsModel" "sessions" "I") ∈ hp_ws := hp_in (i := 420) (by decide +kernel) (by decide +kernel)
theorem wd_421 : (Jvm.Cond.fieldLink "VersionJoinsModel" (17 : Nat) "VersionJoinsModel" "isOpen" "[Z") ∈ hp_ws := hp_in (i := 421) (by decide +kernel) (by decide +kernel)
theorem wd_422 : (Jvm.Cond.fieldLink "VersionJoinsModel" (21 : Nat) "VersionJoinsModel" "isTouched" "[Z") ∈ hp_ws := hp_in (i := 422) (by decide +kernel) (by decide +kernel)
theorem wd_423 : (Jvm.Cond.fieldLink "VersionJoinsModel" (24 : Nat) "VersionJoinsModel" "isWritten" "[Z") ∈ hp_ws := hp_in (i := 423) (by decide +kernel) (by decide +kernel)
theorem wd_424 : (Jvm.Cond.fieldLink "VersionJoinsModel" (27 : Nat) "VersionJoinsModel" "bases" "[J") ∈ hp_ws := hp_in (i := 424) (by decide +kernel) (by decide +kernel)
theorem wd_425 : (Jvm.Cond.fieldLink "VersionJoinsModel" (30 : Nat) "VersionJoinsModel" "written" "[J") ∈ hp_ws := hp_in (i := 425) (by decide +kernel) (by decide +kernel)
theorem wd_426 : (Jvm.Cond.fieldLink "VersionJoinsModel" (129 : Nat) "VersionJoinsModel" "conflicts" "I") ∈ hp_ws := hp_in (i := 426) (by decide +kernel) (by decide +kernel)
theorem wd_427 : (Jvm.Cond.fieldLink "VersionJoinsModel" (132 : Nat) "VersionJoinsModel" "conflictSession" "I") ∈ hp_ws := hp_in (i := 427) (by decide +kernel) (by decide +kernel)
theorem wd_428 : (Jvm.Cond.fieldLink "VersionJoinsModel" (33 : Nat) "VersionJoinsModel" "conflictThings" "[I") ∈ hp_ws := hp_in (i := 428) (by decide +kernel) (by decide +kernel)
theorem wd_429 : (Jvm.Cond.fieldLink "VersionJoinsModel" (37 : Nat) "VersionJoinsModel" "conflictOwn" "[J") ∈ hp_ws := hp_in (i := 429) (by decide +kernel) (by decide +kernel)
theorem wd_430 : (Jvm.Cond.fieldLink "VersionJoinsModel" (40 : Nat) "VersionJoinsModel" "conflictOther" "[J") ∈ hp_ws := hp_in (i := 430) (by decide +kernel) (by decide +kernel)
theorem wd_431 : (Jvm.Cond.fieldLink "VersionJoinsModel" (43 : Nat) "VersionJoinsModel" "isSettled" "[Z") ∈ hp_ws := hp_in (i := 431) (by decide +kernel) (by decide +kernel)
theorem wd_432 : (Jvm.Cond.fieldLink "VersionJoinsModel" (85 : Nat) "VersionJoinsModel" "steps" "I") ∈ hp_ws := hp_in (i := 432) (by decide +kernel) (by decide +kernel)
theorem wd_433 : (Jvm.Cond.fieldLink "VersionJoinsModel" (46 : Nat) "VersionJoinsModel" "kinds" "[I") ∈ hp_ws := hp_in (i := 433) (by decide +kernel) (by decide +kernel)
theorem wd_434 : (Jvm.Cond.fieldLink "VersionJoinsModel" (49 : Nat) "VersionJoinsModel" "uses" "[I") ∈ hp_ws := hp_in (i := 434) (by decide +kernel) (by decide +kernel)
theorem wd_435 : (Jvm.Cond.fieldLink "VersionJoinsModel" (52 : Nat) "VersionJoinsModel" "useCounts" "[I") ∈ hp_ws := hp_in (i := 435) (by decide +kernel) (by decide +kernel)
theorem wd_436 : (Jvm.Cond.fieldLink "VersionJoinsModel" (55 : Nat) "VersionJoinsModel" "makes" "[I") ∈ hp_ws := hp_in (i := 436) (by decide +kernel) (by decide +kernel)
theorem wd_437 : (Jvm.Cond.fieldLink "VersionJoinsModel" (58 : Nat) "VersionJoinsModel" "makeCounts" "[I") ∈ hp_ws := hp_in (i := 437) (by decide +kernel) (by decide +kernel)
theorem wd_438 : (Jvm.Cond.fieldLink "VersionJoinsModel" (61 : Nat) "VersionJoinsModel" "hasRun" "[Z") ∈ hp_ws := hp_in (i := 438) (by decide +kernel) (by decide +kernel)
theorem wd_439 : (Jvm.Cond.fieldLink "VersionJoinsModel" (64 : Nat) "VersionJoinsModel" "lastUses" "[I") ∈ hp_ws := hp_in (i := 439) (by decide +kernel) (by decide +kernel)
theorem wd_440 : (Jvm.Cond.fieldLink "VersionJoinsModel" (67 : Nat) "VersionJoinsModel" "lastMakes" "[I") ∈ hp_ws := hp_in (i := 440) (by decide +kernel) (by decide +kernel)
theorem wd_441 : (Jvm.Cond.fieldLink "VersionJoinsModel" (70 : Nat) "VersionJoinsModel" "lastValues" "[J") ∈ hp_ws := hp_in (i := 441) (by decide +kernel) (by decide +kernel)
theorem wd_442 : (Jvm.Cond.fieldLink "VersionJoinsModel" (73 : Nat) "VersionJoinsModel" "lastMade" "[J") ∈ hp_ws := hp_in (i := 442) (by decide +kernel) (by decide +kernel)
theorem wd_443 : (Jvm.Cond.fieldLink "VersionJoinsModel" (76 : Nat) "VersionJoinsModel" "isMarked" "[Z") ∈ hp_ws := hp_in (i := 443) (by decide +kernel) (by decide +kernel)
theorem wd_444 : (Jvm.Cond.fieldLink "VersionJoinsModel" (79 : Nat) "VersionJoinsModel" "isDone" "[Z") ∈ hp_ws := hp_in (i := 444) (by decide +kernel) (by decide +kernel)
theorem wd_445 : (Jvm.Cond.fieldLink "VersionJoinsModel" (172 : Nat) "VersionJoinsModel" "changed" "I") ∈ hp_ws := hp_in (i := 445) (by decide +kernel) (by decide +kernel)
theorem wd_446 : (Jvm.Cond.fieldLink "VersionJoinsModel" (159 : Nat) "VersionJoinsModel" "ran" "Z") ∈ hp_ws := hp_in (i := 446) (by decide +kernel) (by decide +kernel)
theorem wd_447 : (Jvm.Cond.lays "VersionJoinsModel" "VersionJoinsModel" "things" "I") ∈ hp_ws := hp_in (i := 447) (by decide +kernel) (by decide +kernel)
theorem wd_449 : (Jvm.Cond.lays "VersionJoinsModel" "VersionJoinsModel" "branches" "I") ∈ hp_ws := hp_in (i := 449) (by decide +kernel) (by decide +kernel)
theorem wd_451 : (Jvm.Cond.laysFinal "VersionJoinsModel" "VersionJoinsModel" "values" "[J") ∈ hp_ws := hp_in (i := 451) (by decide +kernel) (by decide +kernel)
theorem wd_453 : (Jvm.Cond.lays "VersionJoinsModel" "VersionJoinsModel" "sessions" "I") ∈ hp_ws := hp_in (i := 453) (by decide +kernel) (by decide +kernel)
theorem wd_455 : (Jvm.Cond.laysFinal "VersionJoinsModel" "VersionJoinsModel" "isOpen" "[Z") ∈ hp_ws := hp_in (i := 455) (by decide +kernel) (by decide +kernel)
theorem wd_457 : (Jvm.Cond.laysFinal "VersionJoinsModel" "VersionJoinsModel" "isTouched" "[Z") ∈ hp_ws := hp_in (i := 457) (by decide +kernel) (by decide +kernel)
theorem wd_459 : (Jvm.Cond.laysFinal "VersionJoinsModel" "VersionJoinsModel" "isWritten" "[Z") ∈ hp_ws := hp_in (i := 459) (by decide +kernel) (by decide +kernel)
theorem wd_461 : (Jvm.Cond.laysFinal "VersionJoinsModel" "VersionJoinsModel" "bases" "[J") ∈ hp_ws := hp_in (i := 461) (by decide +kernel) (by decide +kernel)
theorem wd_463 : (Jvm.Cond.laysFinal "VersionJoinsModel" "VersionJoinsModel" "written" "[J") ∈ hp_ws := hp_in (i := 463) (by decide +kernel) (by decide +kernel)
theorem wd_465 : (Jvm.Cond.lays "VersionJoinsModel" "VersionJoinsModel" "conflicts" "I") ∈ hp_ws := hp_in (i := 465) (by decide +kernel) (by decide +kernel)
theorem wd_467 : (Jvm.Cond.lays "VersionJoinsModel" "VersionJoinsModel" "conflictSession" "I") ∈ hp_ws := hp_in (i := 467) (by decide +kernel) (by decide +kernel)
theorem wd_469 : (Jvm.Cond.laysFinal "VersionJoinsModel" "VersionJoinsModel" "conflictThings" "[I") ∈ hp_ws := hp_in (i := 469) (by decide +kernel) (by decide +kernel)
theorem wd_471 : (Jvm.Cond.laysFinal "VersionJoinsModel" "VersionJoinsModel" "conflictOwn" "[J") ∈ hp_ws := hp_in (i := 471) (by decide +kernel) (by decide +kernel)
theorem wd_473 : (Jvm.Cond.laysFinal "VersionJoinsModel" "VersionJoinsModel" "conflictOther" "[J") ∈ hp_ws := hp_in (i := 473) (by decide +kernel) (by decide +kernel)
theorem wd_475 : (Jvm.Cond.laysFinal "VersionJoinsModel" "VersionJoinsModel" "isSettled" "[Z") ∈ hp_ws := hp_in (i := 475) (by decide +kernel) (by decide +kernel)
theorem wd_477 : (Jvm.Cond.lays "VersionJoinsModel" "VersionJoinsModel" "steps" "I") ∈ hp_ws := hp_in (i := 477) (by decide +kernel) (by decide +kernel)
theorem wd_479 : (Jvm.Cond.laysFinal "VersionJoinsModel" "VersionJoinsModel" "kinds" "[I") ∈ hp_ws := hp_in (i := 479) (by decide +kernel) (by decide +kernel)
theorem wd_481 : (Jvm.Cond.laysFinal "VersionJoinsModel" "VersionJoinsModel" "uses" "[I") ∈ hp_ws := hp_in (i := 481) (by decide +kernel) (by decide +kernel)
theorem wd_483 : (Jvm.Cond.laysFinal "VersionJoinsModel" "VersionJoinsModel" "useCounts" "[I") ∈ hp_ws := hp_in (i := 483) (by decide +kernel) (by decide +kernel)
theorem wd_485 : (Jvm.Cond.laysFinal "VersionJoinsModel" "VersionJoinsModel" "makes" "[I") ∈ hp_ws := hp_in (i := 485) (by decide +kernel) (by decide +kernel)
theorem wd_487 : (Jvm.Cond.laysFinal "VersionJoinsModel" "VersionJoinsModel" "makeCounts" "[I") ∈ hp_ws := hp_in (i := 487) (by decide +kernel) (by decide +kernel)
theorem wd_489 : (Jvm.Cond.laysFinal "VersionJoinsModel" "VersionJoinsModel" "hasRun" "[Z") ∈ hp_ws := hp_in (i := 489) (by decide +kernel) (by decide +kernel)
theorem wd_491 : (Jvm.Cond.laysFinal "VersionJoinsModel" "VersionJoinsModel" "lastUses" "[I") ∈ hp_ws := hp_in (i := 491) (by decide +kernel) (by decide +kernel)
theorem wd_493 : (Jvm.Cond.laysFinal "VersionJoinsModel" "VersionJoinsModel" "lastMakes" "[I") ∈ hp_ws := hp_in (i := 493) (by decide +kernel) (by decide +kernel)
theorem wd_495 : (Jvm.Cond.laysFinal "VersionJoinsModel" "VersionJoinsModel" "lastValues" "[J") ∈ hp_ws := hp_in (i := 495) (by decide +kernel) (by decide +kernel)
theorem wd_497 : (Jvm.Cond.laysFinal "VersionJoinsModel" "VersionJoinsModel" "lastMade" "[J") ∈ hp_ws := hp_in (i := 497) (by decide +kernel) (by decide +kernel)
theorem wd_499 : (Jvm.Cond.laysFinal "VersionJoinsModel" "VersionJoinsModel" "isMarked" "[Z") ∈ hp_ws := hp_in (i := 499) (by decide +kernel) (by decide +kernel)
theorem wd_501 : (Jvm.Cond.laysFinal "VersionJoinsModel" "VersionJoinsModel" "isDone" "[Z") ∈ hp_ws := hp_in (i := 501) (by decide +kernel) (by decide +kernel)
theorem wd_503 : (Jvm.Cond.lays "VersionJoinsModel" "VersionJoinsModel" "changed" "I") ∈ hp_ws := hp_in (i := 503) (by decide +kernel) (by decide +kernel)
theorem wd_505 : (Jvm.Cond.lays "VersionJoinsModel" "VersionJoinsModel" "ran" "Z") ∈ hp_ws := hp_in (i := 505) (by decide +kernel) (by decide +kernel)
theorem wd_508 : (Jvm.Cond.methodLink "VersionJoinsLaw" (19 : Nat) ({ cls := "VersionJoinsModel", name := "thing", desc := "(J)I" } : Jvm.MethodName)) ∈ hp_ws := hp_in (i := 508) (by decide +kernel) (by decide +kernel)
theorem wd_509 : (Jvm.Cond.instanceMethod ({ cls := "VersionJoinsModel", name := "thing", desc := "(J)I" } : Jvm.MethodName)) ∈ hp_ws := hp_in (i := 509) (by decide +kernel) (by decide +kernel)
theorem wd_510 : (Jvm.Cond.selects "VersionJoinsModel" ({ cls := "VersionJoinsModel", name := "thing", desc := "(J)I" } : Jvm.MethodName) ({ cls := "VersionJoinsModel", name := "thing", desc := "(J)I" } : Jvm.MethodName)) ∈ hp_ws := hp_in (i := 510) (by decide +kernel) (by decide +kernel)
set_option maxRecDepth 20000 in
theorem wd_511 : (Jvm.Cond.code ({ cls := "VersionJoinsModel", name := "thing", desc := "(J)I" } : Jvm.MethodName) prog_6_method_4_code (4 : Nat) (Option.some Jvm.ClassFile.FieldType.int)) ∈ hp_ws := hp_in (i := 511) rfl (by decide +kernel)
theorem wd_512 : (Jvm.Cond.methodLink "VersionJoinsLaw" (24 : Nat) ({ cls := "VersionJoinsModel", name := "step", desc := "(I)I" } : Jvm.MethodName)) ∈ hp_ws := hp_in (i := 512) (by decide +kernel) (by decide +kernel)
theorem wd_513 : (Jvm.Cond.instanceMethod ({ cls := "VersionJoinsModel", name := "step", desc := "(I)I" } : Jvm.MethodName)) ∈ hp_ws := hp_in (i := 513) (by decide +kernel) (by decide +kernel)
theorem wd_514 : (Jvm.Cond.selects "VersionJoinsModel" ({ cls := "VersionJoinsModel", name := "step", desc := "(I)I" } : Jvm.MethodName) ({ cls := "VersionJoinsModel", name := "step", desc := "(I)I" } : Jvm.MethodName)) ∈ hp_ws := hp_in (i := 514) (by decide +kernel) (by decide +kernel)
set_option maxRecDepth 20000 in
theorem wd_515 : (Jvm.Cond.code ({ cls := "VersionJoinsModel", name := "step", desc := "(I)I" } : Jvm.MethodName) prog_6_method_5_code (2 : Nat) (Option.some Jvm.ClassFile.FieldType.int)) ∈ hp_ws := hp_in (i := 515) rfl (by decide +kernel)
theorem wd_516 : (Jvm.Cond.methodLink "VersionJoinsLaw" (29 : Nat) ({ cls := "VersionJoinsModel", name := "uses", desc := "(II)Z" } : Jvm.MethodName)) ∈ hp_ws := hp_in (i := 516) (by decide +kernel) (by decide +kernel)
theorem wd_517 : (Jvm.Cond.instanceMethod ({ cls := "VersionJoinsModel", name := "uses", desc := "(II)Z" } : Jvm.MethodName)) ∈ hp_ws := hp_in (i := 517) (by decide +kernel) (by decide +kernel)
theorem wd_518 : (Jvm.Cond.selects "VersionJoinsModel" ({ cls := "VersionJoinsModel", name := "uses", desc := "(II)Z" } : Jvm.MethodName) ({ cls := "VersionJoinsModel", name := "uses", desc := "(II)Z" } : Jvm.MethodName)) ∈ hp_ws := hp_in (i := 518) (by decide +kernel) (by decide +kernel)
set_option maxRecDepth 20000 in
theorem wd_519 : (Jvm.Cond.code ({ cls := "VersionJoinsModel", name := "uses", desc := "(II)Z" } : Jvm.MethodName) prog_6_method_12_code (4 : Nat) (Option.some Jvm.ClassFile.FieldType.boolean)) ∈ hp_ws := hp_in (i := 519) rfl (by decide +kernel)
theorem wd_520 : (Jvm.Cond.methodLink "VersionJoinsModel" (98 : Nat) ({ cls := "VersionJoinsModel", name := "isStep", desc := "(I)Z" } : Jvm.MethodName)) ∈ hp_ws := hp_in (i := 520) (by decide +kernel) (by decide +kernel)
theorem wd_522 : (Jvm.Cond.instanceMethod ({ cls := "VersionJoinsModel", name := "isStep", desc := "(I)Z" } : Jvm.MethodName)) ∈ hp_ws := hp_in (i := 522) (by decide +kernel) (by decide +kernel)
set_option maxRecDepth 20000 in
theorem wd_523 : (Jvm.Cond.code ({ cls := "VersionJoinsModel", name := "isStep", desc := "(I)Z" } : Jvm.MethodName) prog_6_method_3_code (2 : Nat) (Option.some Jvm.ClassFile.FieldType.boolean)) ∈ hp_ws := hp_in (i := 523) rfl (by decide +kernel)
theorem wd_524 : (Jvm.Cond.methodLink "VersionJoinsModel" (102 : Nat) ({ cls := "VersionJoinsModel", name := "isThing", desc := "(I)Z" } : Jvm.MethodName)) ∈ hp_ws := hp_in (i := 524) (by decide +kernel) (by decide +kernel)
theorem wd_526 : (Jvm.Cond.instanceMethod ({ cls := "VersionJoinsModel", name := "isThing", desc := "(I)Z" } : Jvm.MethodName)) ∈ hp_ws := hp_in (i := 526) (by decide +kernel) (by decide +kernel)
set_option maxRecDepth 20000 in
theorem wd_527 : (Jvm.Cond.code ({ cls := "VersionJoinsModel", name := "isThing", desc := "(I)Z" } : Jvm.MethodName) prog_6_method_2_code (2 : Nat) (Option.some Jvm.ClassFile.FieldType.boolean)) ∈ hp_ws := hp_in (i := 527) rfl (by decide +kernel)
theorem wd_528 : (Jvm.Cond.methodLink "VersionJoinsModel" (92 : Nat) ({ cls := "VersionJoinsModel", name := "doesUse", desc := "(II)Z" } : Jvm.MethodName)) ∈ hp_ws := hp_in (i := 528) (by decide +kernel) (by decide +kernel)
theorem wd_530 : (Jvm.Cond.instanceMethod ({ cls := "VersionJoinsModel", name := "doesUse", desc := "(II)Z" } : Jvm.MethodName)) ∈ hp_ws := hp_in (i := 530) (by decide +kernel) (by decide +kernel)
set_option maxRecDepth 20000 in
theorem wd_531 : (Jvm.Cond.code ({ cls := "VersionJoinsModel", name := "doesUse", desc := "(II)Z" } : Jvm.MethodName) prog_6_method_6_code (5 : Nat) (Option.some Jvm.ClassFile.FieldType.boolean)) ∈ hp_ws := hp_in (i := 531) rfl (by decide +kernel)
theorem wd_532 : (Jvm.Cond.methodLink "VersionJoinsModel" (105 : Nat) ({ cls := "VersionJoinsModel", name := "unmark", desc := "()V" } : Jvm.MethodName)) ∈ hp_ws := hp_in (i := 532) (by decide +kernel) (by decide +kernel)
theorem wd_534 : (Jvm.Cond.instanceMethod ({ cls := "VersionJoinsModel", name := "unmark", desc := "()V" } : Jvm.MethodName)) ∈ hp_ws := hp_in (i := 534) (by decide +kernel) (by decide +kernel)
set_option maxRecDepth 20000 in
theorem wd_535 : (Jvm.Cond.code ({ cls := "VersionJoinsModel", name := "unmark", desc := "()V" } : Jvm.MethodName) prog_6_method_11_code (2 : Nat) (Option.none : Option Jvm.ClassFile.FieldType)) ∈ hp_ws := hp_in (i := 535) rfl (by decide +kernel)
theorem wd_536 : (Jvm.Cond.methodLink "VersionJoinsModel" (108 : Nat) ({ cls := "VersionJoinsModel", name := "markBehind", desc := "()V" } : Jvm.MethodName)) ∈ hp_ws := hp_in (i := 536) (by decide +kernel) (by decide +kernel)
theorem wd_538 : (Jvm.Cond.instanceMethod ({ cls := "VersionJoinsModel", name := "markBehind", desc := "()V" } : Jvm.MethodName)) ∈ hp_ws := hp_in (i := 538) (by decide +kernel) (by decide +kernel)
set_option maxRecDepth 20000 in
theorem wd_539 : (Jvm.Cond.code ({ cls := "VersionJoinsModel", name := "markBehind", desc := "()V" } : Jvm.MethodName) prog_6_method_10_code (4 : Nat) (Option.none : Option Jvm.ClassFile.FieldType)) ∈ hp_ws := hp_in (i := 539) rfl (by decide +kernel)
theorem wd_540 : (Jvm.Cond.methodLink "VersionJoinsModel" (95 : Nat) ({ cls := "VersionJoinsModel", name := "isBehind", desc := "(II)Z" } : Jvm.MethodName)) ∈ hp_ws := hp_in (i := 540) (by decide +kernel) (by decide +kernel)
theorem wd_542 : (Jvm.Cond.instanceMethod ({ cls := "VersionJoinsModel", name := "isBehind", desc := "(II)Z" } : Jvm.MethodName)) ∈ hp_ws := hp_in (i := 542) (by decide +kernel) (by decide +kernel)
set_option maxRecDepth 20000 in
theorem wd_543 : (Jvm.Cond.code ({ cls := "VersionJoinsModel", name := "isBehind", desc := "(II)Z" } : Jvm.MethodName) prog_6_method_9_code (5 : Nat) (Option.some Jvm.ClassFile.FieldType.boolean)) ∈ hp_ws := hp_in (i := 543) rfl (by decide +kernel)
theorem wd_544 : (Jvm.Cond.methodLink "VersionJoinsModel" (111 : Nat) ({ cls := "VersionJoinsModel", name := "maker", desc := "(I)I" } : Jvm.MethodName)) ∈ hp_ws := hp_in (i := 544) (by decide +kernel) (by decide +kernel)
theorem wd_546 : (Jvm.Cond.instanceMethod ({ cls := "VersionJoinsModel", name := "maker", desc := "(I)I" } : Jvm.MethodName)) ∈ hp_ws := hp_in (i := 546) (by decide +kernel) (by decide +kernel)
set_option maxRecDepth 20000 in
theorem wd_547 : (Jvm.Cond.code ({ cls := "VersionJoinsModel", name := "maker", desc := "(I)I" } : Jvm.MethodName) prog_6_method_8_code (4 : Nat) (Option.some Jvm.ClassFile.FieldType.int)) ∈ hp_ws := hp_in (i := 547) rfl (by decide +kernel)
theorem wd_548 : (Jvm.Cond.methodLink "VersionJoinsModel" (88 : Nat) ({ cls := "VersionJoinsModel", name := "doesMake", desc := "(II)Z" } : Jvm.MethodName)) ∈ hp_ws := hp_in (i := 548) (by decide +kernel) (by decide +kernel)
theorem wd_550 : (Jvm.Cond.instanceMethod ({ cls := "VersionJoinsModel", name := "doesMake", desc := "(II)Z" } : Jvm.MethodName)) ∈ hp_ws := hp_in (i := 550) (by decide +kernel) (by decide +kernel)
set_option maxRecDepth 20000 in
theorem wd_551 : (Jvm.Cond.code ({ cls := "VersionJoinsModel", name := "doesMake", desc := "(II)Z" } : Jvm.MethodName) prog_6_method_7_code (5 : Nat) (Option.some Jvm.ClassFile.FieldType.boolean)) ∈ hp_ws := hp_in (i := 551) rfl (by decide +kernel)
theorem wd_552 : (Jvm.Cond.methodLink "VersionJoinsLaw" (33 : Nat) ({ cls := "VersionJoinsModel", name := "makes", desc := "(II)Z" } : Jvm.MethodName)) ∈ hp_ws := hp_in (i := 552) (by decide +kernel) (by decide +kernel)
theorem wd_553 : (Jvm.Cond.instanceMethod ({ cls := "VersionJoinsModel", name := "makes", desc := "(II)Z" } : Jvm.MethodName)) ∈ hp_ws := hp_in (i := 553) (by decide +kernel) (by decide +kernel)
theorem wd_554 : (Jvm.Cond.selects "VersionJoinsModel" ({ cls := "VersionJoinsModel", name := "makes", desc := "(II)Z" } : Jvm.MethodName) ({ cls := "VersionJoinsModel", name := "makes", desc := "(II)Z" } : Jvm.MethodName)) ∈ hp_ws := hp_in (i := 554) (by decide +kernel) (by decide +kernel)
set_option maxRecDepth 20000 in
theorem wd_555 : (Jvm.Cond.code ({ cls := "VersionJoinsModel", name := "makes", desc := "(II)Z" } : Jvm.MethodName) prog_6_method_13_code (4 : Nat) (Option.some Jvm.ClassFile.FieldType.boolean)) ∈ hp_ws := hp_in (i := 555) rfl (by decide +kernel)
theorem wd_556 : (Jvm.Cond.methodLink "VersionJoinsLaw" (38 : Nat) ({ cls := "VersionJoinsModel", name := "session", desc := "()I" } : Jvm.MethodName)) ∈ hp_ws := hp_in (i := 556) (by decide +kernel) (by decide +kernel)
theorem wd_557 : (Jvm.Cond.instanceMethod ({ cls := "VersionJoinsModel", name := "session", desc := "()I" } : Jvm.MethodName)) ∈ hp_ws := hp_in (i := 557) (by decide +kernel) (by decide +kernel)
theorem wd_558 : (Jvm.Cond.selects "VersionJoinsModel" ({ cls := "VersionJoinsModel", name := "session", desc := "()I" } : Jvm.MethodName) ({ cls := "VersionJoinsModel", name := "session", desc := "()I" } : Jvm.MethodName)) ∈ hp_ws := hp_in (i := 558) (by decide +kernel) (by decide +kernel)
set_option maxRecDepth 20000 in
theorem wd_559 : (Jvm.Cond.code ({ cls := "VersionJoinsModel", name := "session", desc := "()I" } : Jvm.MethodName) prog_6_method_14_code (1 : Nat) (Option.some Jvm.ClassFile.FieldType.int)) ∈ hp_ws := hp_in (i := 559) rfl (by decide +kernel)
theorem wd_560 : (Jvm.Cond.methodLink "VersionJoinsLaw" (43 : Nat) ({ cls := "VersionJoinsModel", name := "read", desc := "(II)J" } : Jvm.MethodName)) ∈ hp_ws := hp_in (i := 560) (by decide +kernel) (by decide +kernel)
theorem wd_561 : (Jvm.Cond.instanceMethod ({ cls := "VersionJoinsModel", name := "read", desc := "(II)J" } : Jvm.MethodName)) ∈ hp_ws := hp_in (i := 561) (by decide +kernel) (by decide +kernel)
theorem wd_562 : (Jvm.Cond.selects "VersionJoinsModel" ({ cls := "VersionJoinsModel", name := "read", desc := "(II)J" } : Jvm.MethodName) ({ cls := "VersionJoinsModel", name := "read", desc := "(II)J" } : Jvm.MethodName)) ∈ hp_ws := hp_in (i := 562) (by decide +kernel) (by decide +kernel)
set_option maxRecDepth 20000 in
theorem wd_563 : (Jvm.Cond.code ({ cls := "VersionJoinsModel", name := "read", desc := "(II)J" } : Jvm.MethodName) prog_6_method_18_code (4 : Nat) (Option.some Jvm.ClassFile.FieldType.long)) ∈ hp_ws := hp_in (i := 563) rfl (by decide +kernel)
theorem wd_564 : (Jvm.Cond.methodLink "VersionJoinsModel" (118 : Nat) ({ cls := "VersionJoinsModel", name := "goes", desc := "(II)Z" } : Jvm.MethodName)) ∈ hp_ws := hp_in (i := 564) (by decide +kernel) (by decide +kernel)
theorem wd_566 : (Jvm.Cond.instanceMethod ({ cls := "VersionJoinsModel", name := "goes", desc := "(II)Z" } : Jvm.MethodName)) ∈ hp_ws := hp_in (i := 566) (by decide +kernel) (by decide +kernel)
set_option maxRecDepth 20000 in
theorem wd_567 : (Jvm.Cond.code ({ cls := "VersionJoinsModel", name := "goes", desc := "(II)Z" } : Jvm.MethodName) prog_6_method_15_code (3 : Nat) (Option.some Jvm.ClassFile.FieldType.boolean)) ∈ hp_ws := hp_in (i := 567) rfl (by decide +kernel)
theorem wd_568 : (Jvm.Cond.methodLink "VersionJoinsModel" (121 : Nat) ({ cls := "VersionJoinsModel", name := "touch", desc := "(II)V" } : Jvm.MethodName)) ∈ hp_ws := hp_in (i := 568) (by decide +kernel) (by decide +kernel)
theorem wd_570 : (Jvm.Cond.instanceMethod ({ cls := "VersionJoinsModel", name := "touch", desc := "(II)V" } : Jvm.MethodName)) ∈ hp_ws := hp_in (i := 570) (by decide +kernel) (by decide +kernel)
set_option maxRecDepth 20000 in
theorem wd_571 : (Jvm.Cond.code ({ cls := "VersionJoinsModel", name := "touch", desc := "(II)V" } : Jvm.MethodName) prog_6_method_16_code (3 : Nat) (Option.none : Option Jvm.ClassFile.FieldType)) ∈ hp_ws := hp_in (i := 571) rfl (by decide +kernel)
theorem wd_572 : (Jvm.Cond.methodLink "VersionJoinsModel" (125 : Nat) ({ cls := "VersionJoinsModel", name := "own", desc := "(I)J" } : Jvm.MethodName)) ∈ hp_ws := hp_in (i := 572) (by decide +kernel) (by decide +kernel)
theorem wd_574 : (Jvm.Cond.instanceMethod ({ cls := "VersionJoinsModel", name := "own", desc := "(I)J" } : Jvm.MethodName)) ∈ hp_ws := hp_in (i := 574) (by decide +kernel) (by decide +kernel)
set_option maxRecDepth 20000 in
theorem wd_575 : (Jvm.Cond.code ({ cls := "VersionJoinsModel", name := "own", desc := "(I)J" } : Jvm.MethodName) prog_6_method_17_code (2 : Nat) (Option.some Jvm.ClassFile.FieldType.long)) ∈ hp_ws := hp_in (i := 575) rfl (by decide +kernel)
theorem wd_576 : (Jvm.Cond.methodLink "VersionJoinsLaw" (48 : Nat) ({ cls := "VersionJoinsModel", name := "write", desc := "(IIJ)Z" } : Jvm.MethodName)) ∈ hp_ws := hp_in (i := 576) (by decide +kernel) (by decide +kernel)
theorem wd_577 : (Jvm.Cond.instanceMethod ({ cls := "VersionJoinsModel", name := "write", desc := "(IIJ)Z" } : Jvm.MethodName)) ∈ hp_ws := hp_in (i := 577) (by decide +kernel) (by decide +kernel)
theorem wd_578 : (Jvm.Cond.selects "VersionJoinsModel" ({ cls := "VersionJoinsModel", name := "write", desc := "(IIJ)Z" } : Jvm.MethodName) ({ cls := "VersionJoinsModel", name := "write", desc := "(IIJ)Z" } : Jvm.MethodName)) ∈ hp_ws := hp_in (i := 578) (by decide +kernel) (by decide +kernel)
set_option maxRecDepth 20000 in
theorem wd_579 : (Jvm.Cond.code ({ cls := "VersionJoinsModel", name := "write", desc := "(IIJ)Z" } : Jvm.MethodName) prog_6_method_19_code (6 : Nat) (Option.some Jvm.ClassFile.FieldType.boolean)) ∈ hp_ws := hp_in (i := 579) rfl (by decide +kernel)
theorem wd_580 : (Jvm.Cond.methodLink "VersionJoinsLaw" (53 : Nat) ({ cls := "VersionJoinsModel", name := "join", desc := "(IZ)I" } : Jvm.MethodName)) ∈ hp_ws := hp_in (i := 580) (by decide +kernel) (by decide +kernel)
theorem wd_581 : (Jvm.Cond.instanceMethod ({ cls := "VersionJoinsModel", name := "join", desc := "(IZ)I" } : Jvm.MethodName)) ∈ hp_ws := hp_in (i := 581) (by decide +kernel) (by decide +kernel)
theorem wd_582 : (Jvm.Cond.selects "VersionJoinsModel" ({ cls := "VersionJoinsModel", name := "join", desc := "(IZ)I" } : Jvm.MethodName) ({ cls := "VersionJoinsModel", name := "join", desc := "(IZ)I" } : Jvm.MethodName)) ∈ hp_ws := hp_in (i := 582) (by decide +kernel) (by decide +kernel)
set_option maxRecDepth 20000 in
theorem wd_583 : (Jvm.Cond.code ({ cls := "VersionJoinsModel", name := "join", desc := "(IZ)I" } : Jvm.MethodName) prog_6_method_22_code (7 : Nat) (Option.some Jvm.ClassFile.FieldType.int)) ∈ hp_ws := hp_in (i := 583) rfl (by decide +kernel)
theorem wd_584 : (Jvm.Cond.methodLink "VersionJoinsModel" (135 : Nat) ({ cls := "VersionJoinsModel", name := "isConflict", desc := "(II)Z" } : Jvm.MethodName)) ∈ hp_ws := hp_in (i := 584) (by decide +kernel) (by decide +kernel)
theorem wd_586 : (Jvm.Cond.instanceMethod ({ cls := "VersionJoinsModel", name := "isConflict", desc := "(II)Z" } : Jvm.MethodName)) ∈ hp_ws := hp_in (i := 586) (by decide +kernel) (by decide +kernel)
set_option maxRecDepth 20000 in
theorem wd_587 : (Jvm.Cond.code ({ cls := "VersionJoinsModel", name := "isConflict", desc := "(II)Z" } : Jvm.MethodName) prog_6_method_20_code (4 : Nat) (Option.some Jvm.ClassFile.FieldType.boolean)) ∈ hp_ws := hp_in (i := 587) rfl (by decide +kernel)
theorem wd_588 : (Jvm.Cond.constantLong "VersionJoinsModel" (138 : Nat) (1000000000000 : Int64)) ∈ hp_ws := hp_in (i := 588) (by decide +kernel) (by decide +kernel)
theorem wd_589 : (Jvm.Cond.constantLong "VersionJoinsModel" (140 : Nat) (-1000000000000 : Int64)) ∈ hp_ws := hp_in (i := 589) (by decide +kernel) (by decide +kernel)
theorem wd_590 : (Jvm.Cond.methodLink "VersionJoinsModel" (142 : Nat) ({ cls := "VersionJoinsModel", name := "keepConflicts", desc := "(I)V" } : Jvm.MethodName)) ∈ hp_ws := hp_in (i := 590) (by decide +kernel) (by decide +kernel)
theorem wd_592 : (Jvm.Cond.instanceMethod ({ cls := "VersionJoinsModel", name := "keepConflicts", desc := "(I)V" } : Jvm.MethodName)) ∈ hp_ws := hp_in (i := 592) (by decide +kernel) (by decide +kernel)
set_option maxRecDepth 20000 in
theorem wd_593 : (Jvm.Cond.code ({ cls := "VersionJoinsModel", name := "keepConflicts", desc := "(I)V" } : Jvm.MethodName) prog_6_method_21_code (3 : Nat) (Option.none : Option Jvm.ClassFile.FieldType)) ∈ hp_ws := hp_in (i := 593) rfl (by decide +kernel)
theorem wd_594 : (Jvm.Cond.methodLink "VersionJoinsLaw" (57 : Nat) ({ cls := "VersionJoinsModel", name := "conflict", desc := "(II)J" } : Jvm.MethodName)) ∈ hp_ws := hp_in (i := 594) (by decide +kernel) (by decide +kernel)
theorem wd_595 : (Jvm.Cond.instanceMethod ({ cls := "VersionJoinsModel", name := "conflict", desc := "(II)J" } : Jvm.MethodName)) ∈ hp_ws := hp_in (i := 595) (by decide +kernel) (by decide +kernel)
theorem wd_596 : (Jvm.Cond.selects "VersionJoinsModel" ({ cls := "VersionJoinsModel", name := "conflict", desc := "(II)J" } : Jvm.MethodName) ({ cls := "VersionJoinsModel", name := "conflict", desc := "(II)J" } : Jvm.MethodName)) ∈ hp_ws := hp_in (i := 596) (by decide +kernel) (by decide +kernel)
set_option maxRecDepth 20000 in
theorem wd_597 : (Jvm.Cond.code ({ cls := "VersionJoinsModel", name := "conflict", desc := "(II)J" } : Jvm.MethodName) prog_6_method_23_code (3 : Nat) (Option.some Jvm.ClassFile.FieldType.long)) ∈ hp_ws := hp_in (i := 597) rfl (by decide +kernel)
theorem wd_598 : (Jvm.Cond.constantLong "VersionJoinsModel" (146 : Nat) (-1 : Int64)) ∈ hp_ws := hp_in (i := 598) (by decide +kernel) (by decide +kernel)
theorem wd_599 : (Jvm.Cond.constantLong "VersionJoinsModel" (148 : Nat) (-2 : Int64)) ∈ hp_ws := hp_in (i := 599) (by decide +kernel) (by decide +kernel)
theorem wd_600 : (Jvm.Cond.methodLink "VersionJoinsLaw" (61 : Nat) ({ cls := "VersionJoinsModel", name := "settle", desc := "(II)Z" } : Jvm.MethodName)) ∈ hp_ws := hp_in (i := 600) (by decide +kernel) (by decide +kernel)
theorem wd_601 : (Jvm.Cond.instanceMethod ({ cls := "VersionJoinsModel", name := "settle", desc := "(II)Z" } : Jvm.MethodName)) ∈ hp_ws := hp_in (i := 601) (by decide +kernel) (by decide +kernel)
theorem wd_602 : (Jvm.Cond.selects "VersionJoinsModel" ({ cls := "VersionJoinsModel", name := "settle", desc := "(II)Z" } : Jvm.MethodName) ({ cls := "VersionJoinsModel", name := "settle", desc := "(II)Z" } : Jvm.MethodName)) ∈ hp_ws := hp_in (i := 602) (by decide +kernel) (by decide +kernel)
set_option maxRecDepth 20000 in
theorem wd_603 : (Jvm.Cond.code ({ cls := "VersionJoinsModel", name := "settle", desc := "(II)Z" } : Jvm.MethodName) prog_6_method_24_code (4 : Nat) (Option.some Jvm.ClassFile.FieldType.boolean)) ∈ hp_ws := hp_in (i := 603) rfl (by decide +kernel)
theorem wd_604 : (Jvm.Cond.methodLink "VersionJoinsLaw" (66 : Nat) ({ cls := "VersionJoinsModel", name := "stale", desc := "(I)Z" } : Jvm.MethodName)) ∈ hp_ws := hp_in (i := 604) (by decide +kernel) (by decide +kernel)
theorem wd_605 : (Jvm.Cond.instanceMethod ({ cls := "VersionJoinsModel", name := "stale", desc := "(I)Z" } : Jvm.MethodName)) ∈ hp_ws := hp_in (i := 605) (by decide +kernel) (by decide +kernel)
theorem wd_606 : (Jvm.Cond.selects "VersionJoinsModel" ({ cls := "VersionJoinsModel", name := "stale", desc := "(I)Z" } : Jvm.MethodName) ({ cls := "VersionJoinsModel", name := "stale", desc := "(I)Z" } : Jvm.MethodName)) ∈ hp_ws := hp_in (i := 606) (by decide +kernel) (by decide +kernel)
set_option maxRecDepth 20000 in
theorem wd_607 : (Jvm.Cond.code ({ cls := "VersionJoinsModel", name := "stale", desc := "(I)Z" } : Jvm.MethodName) prog_6_method_26_code (3 : Nat) (Option.some Jvm.ClassFile.FieldType.boolean)) ∈ hp_ws := hp_in (i := 607) rfl (by decide +kernel)
theorem wd_608 : (Jvm.Cond.methodLink "VersionJoinsModel" (150 : Nat) ({ cls := "VersionJoinsModel", name := "isOff", desc := "(I)Z" } : Jvm.MethodName)) ∈ hp_ws := hp_in (i := 608) (by decide +kernel) (by decide +kernel)
theorem wd_610 : (Jvm.Cond.instanceMethod ({ cls := "VersionJoinsModel", name := "isOff", desc := "(I)Z" } : Jvm.MethodName)) ∈ hp_ws := hp_in (i := 610) (by decide +kernel) (by decide +kernel)
set_option maxRecDepth 20000 in
theorem wd_611 : (Jvm.Cond.code ({ cls := "VersionJoinsModel", name := "isOff", desc := "(I)Z" } : Jvm.MethodName) prog_6_method_25_code (4 : Nat) (Option.some Jvm.ClassFile.FieldType.boolean)) ∈ hp_ws := hp_in (i := 611) rfl (by decide +kernel)
theorem wd_612 : (Jvm.Cond.methodLink "VersionJoinsLaw" (79 : Nat) ({ cls := "VersionJoinsModel", name := "run", desc := "(I)Z" } : Jvm.MethodName)) ∈ hp_ws := hp_in (i := 612) (by decide +kernel) (by decide +kernel)
theorem wd_613 : (Jvm.Cond.instanceMethod ({ cls := "VersionJoinsModel", name := "run", desc := "(I)Z" } : Jvm.MethodName)) ∈ hp_ws := hp_in (i := 613) (by decide +kernel) (by decide +kernel)
theorem wd_614 : (Jvm.Cond.selects "VersionJoinsModel" ({ cls := "VersionJoinsModel", name := "run", desc := "(I)Z" } : Jvm.MethodName) ({ cls := "VersionJoinsModel", name := "run", desc := "(I)Z" } : Jvm.MethodName)) ∈ hp_ws := hp_in (i := 614) (by decide +kernel) (by decide +kernel)
set_option maxRecDepth 20000 in
theorem wd_615 : (Jvm.Cond.code ({ cls := "VersionJoinsModel", name := "run", desc := "(I)Z" } : Jvm.MethodName) prog_6_method_33_code (2 : Nat) (Option.some Jvm.ClassFile.FieldType.boolean)) ∈ hp_ws := hp_in (i := 615) rfl (by decide +kernel)
theorem wd_616 : (Jvm.Cond.methodLink "VersionJoinsModel" (178 : Nat) ({ cls := "VersionJoinsModel", name := "go", desc := "(I)V" } : Jvm.MethodName)) ∈ hp_ws := hp_in (i := 616) (by decide +kernel) (by decide +kernel)
theorem wd_618 : (Jvm.Cond.instanceMethod ({ cls := "VersionJoinsModel", name := "go", desc := "(I)V" } : Jvm.MethodName)) ∈ hp_ws := hp_in (i := 618) (by decide +kernel) (by decide +kernel)
set_option maxRecDepth 20000 in
theorem wd_619 : (Jvm.Cond.code ({ cls := "VersionJoinsModel", name := "go", desc := "(I)V" } : Jvm.MethodName) prog_6_method_31_code (3 : Nat) (Option.none : Option Jvm.ClassFile.FieldType)) ∈ hp_ws := hp_in (i := 619) rfl (by decide +kernel)
theorem wd_620 : (Jvm.Cond.methodLink "VersionJoinsModel" (163 : Nat) ({ cls := "VersionJoinsModel", name := "isNext", desc := "(I)Z" } : Jvm.MethodName)) ∈ hp_ws := hp_in (i := 620) (by decide +kernel) (by decide +kernel)
theorem wd_622 : (Jvm.Cond.instanceMethod ({ cls := "VersionJoinsModel", name := "isNext", desc := "(I)Z" } : Jvm.MethodName)) ∈ hp_ws := hp_in (i := 622) (by decide +kernel) (by decide +kernel)
set_option maxRecDepth 20000 in
theorem wd_623 : (Jvm.Cond.code ({ cls := "VersionJoinsModel", name := "isNext", desc := "(I)Z" } : Jvm.MethodName) prog_6_method_30_code (4 : Nat) (Option.some Jvm.ClassFile.FieldType.boolean)) ∈ hp_ws := hp_in (i := 623) rfl (by decide +kernel)
theorem wd_624 : (Jvm.Cond.methodLink "VersionJoinsModel" (166 : Nat) ({ cls := "VersionJoinsModel", name := "isBefore", desc := "(II)Z" } : Jvm.MethodName)) ∈ hp_ws := hp_in (i := 624) (by decide +kernel) (by decide +kernel)
theorem wd_626 : (Jvm.Cond.instanceMethod ({ cls := "VersionJoinsModel", name := "isBefore", desc := "(II)Z" } : Jvm.MethodName)) ∈ hp_ws := hp_in (i := 626) (by decide +kernel) (by decide +kernel)
set_option maxRecDepth 20000 in
theorem wd_627 : (Jvm.Cond.code ({ cls := "VersionJoinsModel", name := "isBefore", desc := "(II)Z" } : Jvm.MethodName) prog_6_method_32_code (3 : Nat) (Option.some Jvm.ClassFile.FieldType.boolean)) ∈ hp_ws := hp_in (i := 627) rfl (by decide +kernel)
theorem wd_628 : (Jvm.Cond.methodLink "VersionJoinsModel" (169 : Nat) ({ cls := "VersionJoinsModel", name := "stale", desc := "(I)Z" } : Jvm.MethodName)) ∈ hp_ws := hp_in (i := 628) (by decide +kernel) (by decide +kernel)
theorem wd_629 : (Jvm.Cond.methodLink "VersionJoinsModel" (175 : Nat) ({ cls := "VersionJoinsModel", name := "give", desc := "(I)I" } : Jvm.MethodName)) ∈ hp_ws := hp_in (i := 629) (by decide +kernel) (by decide +kernel)
theorem wd_631 : (Jvm.Cond.instanceMethod ({ cls := "VersionJoinsModel", name := "give", desc := "(I)I" } : Jvm.MethodName)) ∈ hp_ws := hp_in (i := 631) (by decide +kernel) (by decide +kernel)
set_option maxRecDepth 20000 in
theorem wd_632 : (Jvm.Cond.code ({ cls := "VersionJoinsModel", name := "give", desc := "(I)I" } : Jvm.MethodName) prog_6_method_29_code (7 : Nat) (Option.some Jvm.ClassFile.FieldType.int)) ∈ hp_ws := hp_in (i := 632) rfl (by decide +kernel)
theorem wd_633 : (Jvm.Cond.methodLink "VersionJoinsModel" (156 : Nat) ({ cls := "VersionJoinsModel", name := "worth", desc := "(I)J" } : Jvm.MethodName)) ∈ hp_ws := hp_in (i := 633) (by decide +kernel) (by decide +kernel)
theorem wd_635 : (Jvm.Cond.instanceMethod ({ cls := "VersionJoinsModel", name := "worth", desc := "(I)J" } : Jvm.MethodName)) ∈ hp_ws := hp_in (i := 635) (by decide +kernel) (by decide +kernel)
set_option maxRecDepth 20000 in
theorem wd_636 : (Jvm.Cond.code ({ cls := "VersionJoinsModel", name := "worth", desc := "(I)J" } : Jvm.MethodName) prog_6_method_28_code (7 : Nat) (Option.some Jvm.ClassFile.FieldType.long)) ∈ hp_ws := hp_in (i := 636) rfl (by decide +kernel)
theorem wd_637 : (Jvm.Cond.methodLink "VersionJoinsModel" (153 : Nat) ({ cls := "VersionJoinsModel", name := "isEarlier", desc := "(II)Z" } : Jvm.MethodName)) ∈ hp_ws := hp_in (i := 637) (by decide +kernel) (by decide +kernel)
theorem wd_639 : (Jvm.Cond.instanceMethod ({ cls := "VersionJoinsModel", name := "isEarlier", desc := "(II)Z" } : Jvm.MethodName)) ∈ hp_ws := hp_in (i := 639) (by decide +kernel) (by decide +kernel)
set_option maxRecDepth 20000 in
theorem wd_640 : (Jvm.Cond.code ({ cls := "VersionJoinsModel", name := "isEarlier", desc := "(II)Z" } : Jvm.MethodName) prog_6_method_27_code (5 : Nat) (Option.some Jvm.ClassFile.FieldType.boolean)) ∈ hp_ws := hp_in (i := 640) rfl (by decide +kernel)
theorem wd_641 : (Jvm.Cond.methodLink "VersionJoinsLaw" (70 : Nat) ({ cls := "VersionJoinsModel", name := "branch", desc := "()I" } : Jvm.MethodName)) ∈ hp_ws := hp_in (i := 641) (by decide +kernel) (by decide +kernel)
theorem wd_642 : (Jvm.Cond.instanceMethod ({ cls := "VersionJoinsModel", name := "branch", desc := "()I" } : Jvm.MethodName)) ∈ hp_ws := hp_in (i := 642) (by decide +kernel) (by decide +kernel)
theorem wd_643 : (Jvm.Cond.selects "VersionJoinsModel" ({ cls := "VersionJoinsModel", name := "branch", desc := "()I" } : Jvm.MethodName) ({ cls := "VersionJoinsModel", name := "branch", desc := "()I" } : Jvm.MethodName)) ∈ hp_ws := hp_in (i := 643) (by decide +kernel) (by decide +kernel)
set_option maxRecDepth 20000 in
theorem wd_644 : (Jvm.Cond.code ({ cls := "VersionJoinsModel", name := "branch", desc := "()I" } : Jvm.MethodName) prog_6_method_34_code (2 : Nat) (Option.some Jvm.ClassFile.FieldType.int)) ∈ hp_ws := hp_in (i := 644) rfl (by decide +kernel)
theorem wd_645 : (Jvm.Cond.methodLink "VersionJoinsLaw" (75 : Nat) ({ cls := "VersionJoinsModel", name := "from", desc := "(II)I" } : Jvm.MethodName)) ∈ hp_ws := hp_in (i := 645) (by decide +kernel) (by decide +kernel)
theorem wd_646 : (Jvm.Cond.instanceMethod ({ cls := "VersionJoinsModel", name := "from", desc := "(II)I" } : Jvm.MethodName)) ∈ hp_ws := hp_in (i := 646) (by decide +kernel) (by decide +kernel)
theorem wd_647 : (Jvm.Cond.selects "VersionJoinsModel" ({ cls := "VersionJoinsModel", name := "from", desc := "(II)I" } : Jvm.MethodName) ({ cls := "VersionJoinsModel", name := "from", desc := "(II)I" } : Jvm.MethodName)) ∈ hp_ws := hp_in (i := 647) (by decide +kernel) (by decide +kernel)
set_option maxRecDepth 20000 in
theorem wd_648 : (Jvm.Cond.code ({ cls := "VersionJoinsModel", name := "from", desc := "(II)I" } : Jvm.MethodName) prog_6_method_35_code (6 : Nat) (Option.some Jvm.ClassFile.FieldType.int)) ∈ hp_ws := hp_in (i := 648) rfl (by decide +kernel)
theorem wd_649 : (Jvm.Cond.methodLink "VersionJoinsLaw" (83 : Nat) ({ cls := "VersionJoinsModel", name := "value", desc := "(II)J" } : Jvm.MethodName)) ∈ hp_ws := hp_in (i := 649) (by decide +kernel) (by decide +kernel)
theorem wd_650 : (Jvm.Cond.instanceMethod ({ cls := "VersionJoinsModel", name := "value", desc := "(II)J" } : Jvm.MethodName)) ∈ hp_ws := hp_in (i := 650) (by decide +kernel) (by decide +kernel)
theorem wd_651 : (Jvm.Cond.selects "VersionJoinsModel" ({ cls := "VersionJoinsModel", name := "value", desc := "(II)J" } : Jvm.MethodName) ({ cls := "VersionJoinsModel", name := "value", desc := "(II)J" } : Jvm.MethodName)) ∈ hp_ws := hp_in (i := 651) (by decide +kernel) (by decide +kernel)
set_option maxRecDepth 20000 in
theorem wd_652 : (Jvm.Cond.code ({ cls := "VersionJoinsModel", name := "value", desc := "(II)J" } : Jvm.MethodName) prog_6_method_36_code (3 : Nat) (Option.some Jvm.ClassFile.FieldType.long)) ∈ hp_ws := hp_in (i := 652) rfl (by decide +kernel)
theorem wd_653 : (Jvm.Cond.methodLink "VersionJoinsLaw" (88 : Nat) ({ cls := "VersionJoinsModel", name := "play", desc := "(JI)I" } : Jvm.MethodName)) ∈ hp_ws := hp_in (i := 653) (by decide +kernel) (by decide +kernel)
theorem wd_654 : (Jvm.Cond.instanceMethod ({ cls := "VersionJoinsModel", name := "play", desc := "(JI)I" } : Jvm.MethodName)) ∈ hp_ws := hp_in (i := 654) (by decide +kernel) (by decide +kernel)
theorem wd_655 : (Jvm.Cond.selects "VersionJoinsModel" ({ cls := "VersionJoinsModel", name := "play", desc := "(JI)I" } : Jvm.MethodName) ({ cls := "VersionJoinsModel", name := "play", desc := "(JI)I" } : Jvm.MethodName)) ∈ hp_ws := hp_in (i := 655) (by decide +kernel) (by decide +kernel)
set_option maxRecDepth 20000 in
theorem wd_656 : (Jvm.Cond.code ({ cls := "VersionJoinsModel", name := "play", desc := "(JI)I" } : Jvm.MethodName) prog_6_method_37_code (12 : Nat) (Option.some Jvm.ClassFile.FieldType.int)) ∈ hp_ws := hp_in (i := 656) rfl (by decide +kernel)
theorem wd_657 : (Jvm.Cond.constantLong "VersionJoinsModel" (181 : Nat) (6364136223846793005 : Int64)) ∈ hp_ws := hp_in (i := 657) (by decide +kernel) (by decide +kernel)
theorem wd_658 : (Jvm.Cond.constantLong "VersionJoinsModel" (183 : Nat) (1442695040888963407 : Int64)) ∈ hp_ws := hp_in (i := 658) (by decide +kernel) (by decide +kernel)
theorem wd_659 : (Jvm.Cond.constantLong "VersionJoinsModel" (185 : Nat) (255 : Int64)) ∈ hp_ws := hp_in (i := 659) (by decide +kernel) (by decide +kernel)
theorem wd_660 : (Jvm.Cond.constantLong "VersionJoinsLaw" (13 : Nat) (4294967295 : Int64)) ∈ hp_ws := hp_in (i := 660) (by decide +kernel) (by decide +kernel)
end
section
def TX0 : u_T := fun k => match k with
  | 0 => ("VersionJoins$Conflicts", "things", "[I", true)
  | 1 => ("VersionJoins$Conflicts", "own", "[J", true)
  | 2 => ("VersionJoins$Conflicts", "others", "[J", true)
  | 3 => ("VersionJoins$Conflicts", "settled", "[Z", true)
  | 4 => ("VersionJoins$Conflicts", "owner", "LVersionJoins$Session;", false)
  | _ => ("VersionJoins$Conflicts", "count", "I", false)
def tyX0 : Nat → FieldType := fun k => match k with
  | 0 => .array .int
  | 1 => .array .long
  | 2 => .array .long
  | 3 => .array .boolean
  | 4 => .object "VersionJoins$Session"
  | _ => .int
theorem nmX0 : ∀ a, a < 6 → ∀ b, b < 6 → a ≠ b → (TX0 a).2.1 ≠ (TX0 b).2.1 := by decide +kernel
theorem okX0 : ∀ k, k < 6 → parseFieldDescriptor (TX0 k).2.2.1 = some (tyX0 k) := by decide +kernel
theorem hiX0 : ∀ w ∈ u_ws "VersionJoins$Conflicts" TX0 6, w ∈ hp_ws := by
  intro w hw
  obtain ⟨k, hk, rfl⟩ := List.mem_map.mp hw
  have hk := List.mem_range.mp hk
  match k, hk with
  | 0, _ => exact wd_78
  | 1, _ => exact wd_80
  | 2, _ => exact wd_82
  | 3, _ => exact wd_84
  | 4, _ => exact wd_86
  | 5, _ => exact wd_88
  | k + 6, h => exact absurd h (by omega)
def TX1 : u_T := fun k => match k with
  | 0 => ("VersionJoins$Session", "touched", "[Z", true)
  | 1 => ("VersionJoins$Session", "bases", "[J", true)
  | 2 => ("VersionJoins$Session", "wrote", "[Z", true)
  | 3 => ("VersionJoins$Session", "written", "[J", true)
  | _ => ("VersionJoins$Session", "open", "Z", false)
def tyX1 : Nat → FieldType := fun k => match k with
  | 0 => .array .boolean
  | 1 => .array .long
  | 2 => .array .boolean
  | 3 => .array .long
  | _ => .boolean
theorem nmX1 : ∀ a, a < 5 → ∀ b, b < 5 → a ≠ b → (TX1 a).2.1 ≠ (TX1 b).2.1 := by decide +kernel
theorem okX1 : ∀ k, k < 5 → parseFieldDescriptor (TX1 k).2.2.1 = some (tyX1 k) := by decide +kernel
theorem hiX1 : ∀ w ∈ u_ws "VersionJoins$Session" TX1 5, w ∈ hp_ws := by
  intro w hw
  obtain ⟨k, hk, rfl⟩ := List.mem_map.mp hw
  have hk := List.mem_range.mp hk
  match k, hk with
  | 0, _ => exact wd_243
  | 1, _ => exact wd_245
  | 2, _ => exact wd_247
  | 3, _ => exact wd_249
  | 4, _ => exact wd_251
  | k + 5, h => exact absurd h (by omega)
def TX2 : u_T := fun k => match k with
  | 0 => ("VersionJoins$Step", "kind", "I", true)
  | 1 => ("VersionJoins$Step", "used", "[I", true)
  | 2 => ("VersionJoins$Step", "made", "[I", true)
  | 3 => ("VersionJoins$Step", "inputs", "[J", true)
  | 4 => ("VersionJoins$Step", "usedCount", "I", false)
  | 5 => ("VersionJoins$Step", "madeCount", "I", false)
  | 6 => ("VersionJoins$Step", "above", "I", false)
  | 7 => ("VersionJoins$Step", "ran", "Z", false)
  | 8 => ("VersionJoins$Step", "usedThen", "I", false)
  | 9 => ("VersionJoins$Step", "madeThen", "I", false)
  | _ => ("VersionJoins$Step", "result", "J", false)
def tyX2 : Nat → FieldType := fun k => match k with
  | 0 => .int
  | 1 => .array .int
  | 2 => .array .int
  | 3 => .array .long
  | 4 => .int
  | 5 => .int
  | 6 => .int
  | 7 => .boolean
  | 8 => .int
  | 9 => .int
  | _ => .long
theorem nmX2 : ∀ a, a < 11 → ∀ b, b < 11 → a ≠ b → (TX2 a).2.1 ≠ (TX2 b).2.1 := by decide +kernel
theorem okX2 : ∀ k, k < 11 → parseFieldDescriptor (TX2 k).2.2.1 = some (tyX2 k) := by decide +kernel
theorem hiX2 : ∀ w ∈ u_ws "VersionJoins$Step" TX2 11, w ∈ hp_ws := by
  intro w hw
  obtain ⟨k, hk, rfl⟩ := List.mem_map.mp hw
  have hk := List.mem_range.mp hk
  match k, hk with
  | 0, _ => exact wd_159
  | 1, _ => exact wd_161
  | 2, _ => exact wd_163
  | 3, _ => exact wd_165
  | 4, _ => exact wd_167
  | 5, _ => exact wd_169
  | 6, _ => exact wd_171
  | 7, _ => exact wd_173
  | 8, _ => exact wd_175
  | 9, _ => exact wd_177
  | 10, _ => exact wd_179
  | k + 11, h => exact absurd h (by omega)
def TX3 : u_T := fun k => match k with
  | 0 => ("VersionJoins", "branches", "[[J", true)
  | 1 => ("VersionJoins", "current", "[J", true)
  | 2 => ("VersionJoins", "makers", "[I", true)
  | 3 => ("VersionJoins", "steps", "[LVersionJoins$Step;", true)
  | 4 => ("VersionJoins", "sessions", "[LVersionJoins$Session;", true)
  | 5 => ("VersionJoins", "conflicts", "LVersionJoins$Conflicts;", true)
  | 6 => ("VersionJoins", "thingCount", "I", false)
  | 7 => ("VersionJoins", "branchCount", "I", false)
  | 8 => ("VersionJoins", "stepCount", "I", false)
  | 9 => ("VersionJoins", "sessionCount", "I", false)
  | _ => ("VersionJoins", "changes", "I", false)
def tyX3 : Nat → FieldType := fun k => match k with
  | 0 => .array (.array .long)
  | 1 => .array .long
  | 2 => .array .int
  | 3 => .array (.object "VersionJoins$Step")
  | 4 => .array (.object "VersionJoins$Session")
  | 5 => .object "VersionJoins$Conflicts"
  | 6 => .int
  | 7 => .int
  | 8 => .int
  | 9 => .int
  | _ => .int
theorem nmX3 : ∀ a, a < 11 → ∀ b, b < 11 → a ≠ b → (TX3 a).2.1 ≠ (TX3 b).2.1 := by decide +kernel
theorem okX3 : ∀ k, k < 11 → parseFieldDescriptor (TX3 k).2.2.1 = some (tyX3 k) := by decide +kernel
theorem hiX3 : ∀ w ∈ u_ws "VersionJoins" TX3 11, w ∈ hp_ws := by
  intro w hw
  obtain ⟨k, hk, rfl⟩ := List.mem_map.mp hw
  have hk := List.mem_range.mp hk
  match k, hk with
  | 0, _ => exact wd_105
  | 1, _ => exact wd_107
  | 2, _ => exact wd_109
  | 3, _ => exact wd_111
  | 4, _ => exact wd_113
  | 5, _ => exact wd_115
  | 6, _ => exact wd_117
  | 7, _ => exact wd_119
  | 8, _ => exact wd_121
  | 9, _ => exact wd_123
  | 10, _ => exact wd_125
  | k + 11, h => exact absurd h (by omega)
def TX4 : u_T := fun k => match k with
  | 0 => ("VersionJoinsModel", "things", "I", false)
  | 1 => ("VersionJoinsModel", "branches", "I", false)
  | 2 => ("VersionJoinsModel", "values", "[J", true)
  | 3 => ("VersionJoinsModel", "sessions", "I", false)
  | 4 => ("VersionJoinsModel", "isOpen", "[Z", true)
  | 5 => ("VersionJoinsModel", "isTouched", "[Z", true)
  | 6 => ("VersionJoinsModel", "isWritten", "[Z", true)
  | 7 => ("VersionJoinsModel", "bases", "[J", true)
  | 8 => ("VersionJoinsModel", "written", "[J", true)
  | 9 => ("VersionJoinsModel", "conflicts", "I", false)
  | 10 => ("VersionJoinsModel", "conflictSession", "I", false)
  | 11 => ("VersionJoinsModel", "conflictThings", "[I", true)
  | 12 => ("VersionJoinsModel", "conflictOwn", "[J", true)
  | 13 => ("VersionJoinsModel", "conflictOther", "[J", true)
  | 14 => ("VersionJoinsModel", "isSettled", "[Z", true)
  | 15 => ("VersionJoinsModel", "steps", "I", false)
  | 16 => ("VersionJoinsModel", "kinds", "[I", true)
  | 17 => ("VersionJoinsModel", "uses", "[I", true)
  | 18 => ("VersionJoinsModel", "useCounts", "[I", true)
  | 19 => ("VersionJoinsModel", "makes", "[I", true)
  | 20 => ("VersionJoinsModel", "makeCounts", "[I", true)
  | 21 => ("VersionJoinsModel", "hasRun", "[Z", true)
  | 22 => ("VersionJoinsModel", "lastUses", "[I", true)
  | 23 => ("VersionJoinsModel", "lastMakes", "[I", true)
  | 24 => ("VersionJoinsModel", "lastValues", "[J", true)
  | 25 => ("VersionJoinsModel", "lastMade", "[J", true)
  | 26 => ("VersionJoinsModel", "isMarked", "[Z", true)
  | 27 => ("VersionJoinsModel", "isDone", "[Z", true)
  | 28 => ("VersionJoinsModel", "changed", "I", false)
  | _ => ("VersionJoinsModel", "ran", "Z", false)
def tyX4 : Nat → FieldType := fun k => match k with
  | 0 => .int
  | 1 => .int
  | 2 => .array .long
  | 3 => .int
  | 4 => .array .boolean
  | 5 => .array .boolean
  | 6 => .array .boolean
  | 7 => .array .long
  | 8 => .array .long
  | 9 => .int
  | 10 => .int
  | 11 => .array .int
  | 12 => .array .long
  | 13 => .array .long
  | 14 => .array .boolean
  | 15 => .int
  | 16 => .array .int
  | 17 => .array .int
  | 18 => .array .int
  | 19 => .array .int
  | 20 => .array .int
  | 21 => .array .boolean
  | 22 => .array .int
  | 23 => .array .int
  | 24 => .array .long
  | 25 => .array .long
  | 26 => .array .boolean
  | 27 => .array .boolean
  | 28 => .int
  | _ => .boolean
theorem nmX4 : ∀ a, a < 30 → ∀ b, b < 30 → a ≠ b → (TX4 a).2.1 ≠ (TX4 b).2.1 := by decide +kernel
theorem okX4 : ∀ k, k < 30 → parseFieldDescriptor (TX4 k).2.2.1 = some (tyX4 k) := by decide +kernel
theorem hiX4 : ∀ w ∈ u_ws "VersionJoinsModel" TX4 30, w ∈ hp_ws := by
  intro w hw
  obtain ⟨k, hk, rfl⟩ := List.mem_map.mp hw
  have hk := List.mem_range.mp hk
  match k, hk with
  | 0, _ => exact wd_447
  | 1, _ => exact wd_449
  | 2, _ => exact wd_451
  | 3, _ => exact wd_453
  | 4, _ => exact wd_455
  | 5, _ => exact wd_457
  | 6, _ => exact wd_459
  | 7, _ => exact wd_461
  | 8, _ => exact wd_463
  | 9, _ => exact wd_465
  | 10, _ => exact wd_467
  | 11, _ => exact wd_469
  | 12, _ => exact wd_471
  | 13, _ => exact wd_473
  | 14, _ => exact wd_475
  | 15, _ => exact wd_477
  | 16, _ => exact wd_479
  | 17, _ => exact wd_481
  | 18, _ => exact wd_483
  | 19, _ => exact wd_485
  | 20, _ => exact wd_487
  | 21, _ => exact wd_489
  | 22, _ => exact wd_491
  | 23, _ => exact wd_493
  | 24, _ => exact wd_495
  | 25, _ => exact wd_497
  | 26, _ => exact wd_499
  | 27, _ => exact wd_501
  | 28, _ => exact wd_503
  | 29, _ => exact wd_505
  | k + 30, h => exact absurd h (by omega)
def vwCl : List vw_C := [("VersionJoins$Conflicts", TX0, 6), ("VersionJoins$Session", TX1, 5), ("VersionJoins$Step", TX2, 11), ("VersionJoins", TX3, 11), ("VersionJoinsModel", TX4, 30)]
def yX0_init : MethodName := ⟨"VersionJoins$Conflicts", "<init>", "()V"⟩
abbrev cX0_init : ByteArray := prog_2_method_1_code
def yX0_has : MethodName := ⟨"VersionJoins$Conflicts", "has", "(I)Z"⟩
abbrev cX0_has : ByteArray := prog_2_method_2_code
def yX0_put : MethodName := ⟨"VersionJoins$Conflicts", "put", "(IIJJ)V"⟩
abbrev cX0_put : ByteArray := prog_2_method_3_code
def yX1_init : MethodName := ⟨"VersionJoins$Session", "<init>", "()V"⟩
abbrev cX1_init : ByteArray := prog_3_method_1_code
def yX1_touch : MethodName := ⟨"VersionJoins$Session", "touch", "(IJ)V"⟩
abbrev cX1_touch : ByteArray := prog_3_method_2_code
def yX1_keepWritten : MethodName := ⟨"VersionJoins$Session", "keepWritten", "(IJ)V"⟩
abbrev cX1_keepWritten : ByteArray := prog_3_method_3_code
def yX1_dropWritten : MethodName := ⟨"VersionJoins$Session", "dropWritten", "(I)V"⟩
abbrev cX1_dropWritten : ByteArray := prog_3_method_4_code
def yX1_rebase : MethodName := ⟨"VersionJoins$Session", "rebase", "(IJ)V"⟩
abbrev cX1_rebase : ByteArray := prog_3_method_5_code
def yX1_view : MethodName := ⟨"VersionJoins$Session", "view", "(I)J"⟩
abbrev cX1_view : ByteArray := prog_3_method_6_code
def yX1_isConflict : MethodName := ⟨"VersionJoins$Session", "isConflict", "(IJ)Z"⟩
abbrev cX1_isConflict : ByteArray := prog_3_method_7_code
def yX1_isWithinBounds : MethodName := ⟨"VersionJoins$Session", "isWithinBounds", "()Z"⟩
abbrev cX1_isWithinBounds : ByteArray := prog_3_method_8_code
def yX2_init : MethodName := ⟨"VersionJoins$Step", "<init>", "(I)V"⟩
abbrev cX2_init : ByteArray := prog_4_method_1_code
def yX2_withAbove : MethodName := ⟨"VersionJoins$Step", "withAbove", "(I)I"⟩
abbrev cX2_withAbove : ByteArray := prog_4_method_2_code
def yX2_isUsing : MethodName := ⟨"VersionJoins$Step", "isUsing", "(I)Z"⟩
abbrev cX2_isUsing : ByteArray := prog_4_method_3_code
def yX2_hasMade : MethodName := ⟨"VersionJoins$Step", "hasMade", "(I)Z"⟩
abbrev cX2_hasMade : ByteArray := prog_4_method_4_code
def yX2_addUsed : MethodName := ⟨"VersionJoins$Step", "addUsed", "(I)V"⟩
abbrev cX2_addUsed : ByteArray := prog_4_method_5_code
def yX2_addMade : MethodName := ⟨"VersionJoins$Step", "addMade", "(I)V"⟩
abbrev cX2_addMade : ByteArray := prog_4_method_6_code
def yX2_isOutdated : MethodName := ⟨"VersionJoins$Step", "isOutdated", "([J)Z"⟩
abbrev cX2_isOutdated : ByteArray := prog_4_method_7_code
def yX2_work : MethodName := ⟨"VersionJoins$Step", "work", "([J)V"⟩
abbrev cX2_work : ByteArray := prog_4_method_8_code
def yX2_resultOfKind : MethodName := ⟨"VersionJoins$Step", "resultOfKind", "()J"⟩
abbrev cX2_resultOfKind : ByteArray := prog_4_method_9_code
def yX2_sum : MethodName := ⟨"VersionJoins$Step", "sum", "()J"⟩
abbrev cX2_sum : ByteArray := prog_4_method_10_code
def yX2_greatest : MethodName := ⟨"VersionJoins$Step", "greatest", "()J"⟩
abbrev cX2_greatest : ByteArray := prog_4_method_11_code
def yX2_exclusiveOr : MethodName := ⟨"VersionJoins$Step", "exclusiveOr", "()J"⟩
abbrev cX2_exclusiveOr : ByteArray := prog_4_method_12_code
def yX2_differentOnes : MethodName := ⟨"VersionJoins$Step", "differentOnes", "()J"⟩
abbrev cX2_differentOnes : ByteArray := prog_4_method_13_code
def yX2_isFirstOfItsValue : MethodName := ⟨"VersionJoins$Step", "isFirstOfItsValue", "(I)Z"⟩
abbrev cX2_isFirstOfItsValue : ByteArray := prog_4_method_14_code
def yX3_init : MethodName := ⟨"VersionJoins", "<init>", "()V"⟩
abbrev cX3_init : ByteArray := prog_1_method_1_code
def yX3_thing : MethodName := ⟨"VersionJoins", "thing", "(J)I"⟩
abbrev cX3_thing : ByteArray := prog_1_method_2_code
def yX3_step : MethodName := ⟨"VersionJoins", "step", "(I)I"⟩
abbrev cX3_step : ByteArray := prog_1_method_3_code
def yX3_uses : MethodName := ⟨"VersionJoins", "uses", "(II)Z"⟩
abbrev cX3_uses : ByteArray := prog_1_method_4_code
def yX3_makes : MethodName := ⟨"VersionJoins", "makes", "(II)Z"⟩
abbrev cX3_makes : ByteArray := prog_1_method_5_code
def yX3_session : MethodName := ⟨"VersionJoins", "session", "()I"⟩
abbrev cX3_session : ByteArray := prog_1_method_6_code
def yX3_read : MethodName := ⟨"VersionJoins", "read", "(II)J"⟩
abbrev cX3_read : ByteArray := prog_1_method_7_code
def yX3_write : MethodName := ⟨"VersionJoins", "write", "(IIJ)Z"⟩
abbrev cX3_write : ByteArray := prog_1_method_8_code
def yX3_join : MethodName := ⟨"VersionJoins", "join", "(IZ)I"⟩
abbrev cX3_join : ByteArray := prog_1_method_9_code
def yX3_conflict : MethodName := ⟨"VersionJoins", "conflict", "(II)J"⟩
abbrev cX3_conflict : ByteArray := prog_1_method_10_code
def yX3_settle : MethodName := ⟨"VersionJoins", "settle", "(II)Z"⟩
abbrev cX3_settle : ByteArray := prog_1_method_11_code
def yX3_stale : MethodName := ⟨"VersionJoins", "stale", "(I)Z"⟩
abbrev cX3_stale : ByteArray := prog_1_method_12_code
def yX3_branch : MethodName := ⟨"VersionJoins", "branch", "()I"⟩
abbrev cX3_branch : ByteArray := prog_1_method_13_code
def yX3_from : MethodName := ⟨"VersionJoins", "from", "(II)I"⟩
abbrev cX3_from : ByteArray := prog_1_method_14_code
def yX3_run : MethodName := ⟨"VersionJoins", "run", "(I)Z"⟩
abbrev cX3_run : ByteArray := prog_1_method_15_code
def yX3_value : MethodName := ⟨"VersionJoins", "value", "(II)J"⟩
abbrev cX3_value : ByteArray := prog_1_method_16_code
def yX3_play : MethodName := ⟨"VersionJoins", "play", "(JI)I"⟩
abbrev cX3_play : ByteArray := prog_1_method_17_code
def yX3_isThing : MethodName := ⟨"VersionJoins", "isThing", "(I)Z"⟩
abbrev cX3_isThing : ByteArray := prog_1_method_18_code
def yX3_isStep : MethodName := ⟨"VersionJoins", "isStep", "(I)Z"⟩
abbrev cX3_isStep : ByteArray := prog_1_method_19_code
def yX3_isOpen : MethodName := ⟨"VersionJoins", "isOpen", "(I)Z"⟩
abbrev cX3_isOpen : ByteArray := prog_1_method_20_code
def yX3_give : MethodName := ⟨"VersionJoins", "give", "(IJ)V"⟩
abbrev cX3_give : ByteArray := prog_1_method_21_code
def yX3_giveWritten : MethodName := ⟨"VersionJoins", "giveWritten", "(LVersionJoins$Session;)V"⟩
abbrev cX3_giveWritten : ByteArray := prog_1_method_22_code
def yX3_collectConflicts : MethodName := ⟨"VersionJoins", "collectConflicts", "(LVersionJoins$Session;)I"⟩
abbrev cX3_collectConflicts : ByteArray := prog_1_method_23_code
def yX3_isSameOrAbove : MethodName := ⟨"VersionJoins", "isSameOrAbove", "(II)Z"⟩
abbrev cX3_isSameOrAbove : ByteArray := prog_1_method_24_code
def yX3_hasUserAtOrAbove : MethodName := ⟨"VersionJoins", "hasUserAtOrAbove", "(II)Z"⟩
abbrev cX3_hasUserAtOrAbove : ByteArray := prog_1_method_25_code
def yX3_putAbove : MethodName := ⟨"VersionJoins", "putAbove", "(II)V"⟩
abbrev cX3_putAbove : ByteArray := prog_1_method_26_code
def yX3_isStale : MethodName := ⟨"VersionJoins", "isStale", "(I)Z"⟩
abbrev cX3_isStale : ByteArray := prog_1_method_27_code
def yX3_refresh : MethodName := ⟨"VersionJoins", "refresh", "(II)Z"⟩
abbrev cX3_refresh : ByteArray := prog_1_method_28_code
def yX3_refreshAll : MethodName := ⟨"VersionJoins", "refreshAll", "()V"⟩
abbrev cX3_refreshAll : ByteArray := prog_1_method_29_code
def yX4_init : MethodName := ⟨"VersionJoinsModel", "<init>", "()V"⟩
abbrev cX4_init : ByteArray := prog_6_method_1_code
def yX4_isThing : MethodName := ⟨"VersionJoinsModel", "isThing", "(I)Z"⟩
abbrev cX4_isThing : ByteArray := prog_6_method_2_code
def yX4_isStep : MethodName := ⟨"VersionJoinsModel", "isStep", "(I)Z"⟩
abbrev cX4_isStep : ByteArray := prog_6_method_3_code
def yX4_thing : MethodName := ⟨"VersionJoinsModel", "thing", "(J)I"⟩
abbrev cX4_thing : ByteArray := prog_6_method_4_code
def yX4_step : MethodName := ⟨"VersionJoinsModel", "step", "(I)I"⟩
abbrev cX4_step : ByteArray := prog_6_method_5_code
def yX4_doesUse : MethodName := ⟨"VersionJoinsModel", "doesUse", "(II)Z"⟩
abbrev cX4_doesUse : ByteArray := prog_6_method_6_code
def yX4_doesMake : MethodName := ⟨"VersionJoinsModel", "doesMake", "(II)Z"⟩
abbrev cX4_doesMake : ByteArray := prog_6_method_7_code
def yX4_maker : MethodName := ⟨"VersionJoinsModel", "maker", "(I)I"⟩
abbrev cX4_maker : ByteArray := prog_6_method_8_code
def yX4_isBehind : MethodName := ⟨"VersionJoinsModel", "isBehind", "(II)Z"⟩
abbrev cX4_isBehind : ByteArray := prog_6_method_9_code
def yX4_markBehind : MethodName := ⟨"VersionJoinsModel", "markBehind", "()V"⟩
abbrev cX4_markBehind : ByteArray := prog_6_method_10_code
def yX4_unmark : MethodName := ⟨"VersionJoinsModel", "unmark", "()V"⟩
abbrev cX4_unmark : ByteArray := prog_6_method_11_code
def yX4_uses : MethodName := ⟨"VersionJoinsModel", "uses", "(II)Z"⟩
abbrev cX4_uses : ByteArray := prog_6_method_12_code
def yX4_makes : MethodName := ⟨"VersionJoinsModel", "makes", "(II)Z"⟩
abbrev cX4_makes : ByteArray := prog_6_method_13_code
def yX4_session : MethodName := ⟨"VersionJoinsModel", "session", "()I"⟩
abbrev cX4_session : ByteArray := prog_6_method_14_code
def yX4_goes : MethodName := ⟨"VersionJoinsModel", "goes", "(II)Z"⟩
abbrev cX4_goes : ByteArray := prog_6_method_15_code
def yX4_touch : MethodName := ⟨"VersionJoinsModel", "touch", "(II)V"⟩
abbrev cX4_touch : ByteArray := prog_6_method_16_code
def yX4_own : MethodName := ⟨"VersionJoinsModel", "own", "(I)J"⟩
abbrev cX4_own : ByteArray := prog_6_method_17_code
def yX4_read : MethodName := ⟨"VersionJoinsModel", "read", "(II)J"⟩
abbrev cX4_read : ByteArray := prog_6_method_18_code
def yX4_write : MethodName := ⟨"VersionJoinsModel", "write", "(IIJ)Z"⟩
abbrev cX4_write : ByteArray := prog_6_method_19_code
def yX4_isConflict : MethodName := ⟨"VersionJoinsModel", "isConflict", "(II)Z"⟩
abbrev cX4_isConflict : ByteArray := prog_6_method_20_code
def yX4_keepConflicts : MethodName := ⟨"VersionJoinsModel", "keepConflicts", "(I)V"⟩
abbrev cX4_keepConflicts : ByteArray := prog_6_method_21_code
def yX4_join : MethodName := ⟨"VersionJoinsModel", "join", "(IZ)I"⟩
abbrev cX4_join : ByteArray := prog_6_method_22_code
def yX4_conflict : MethodName := ⟨"VersionJoinsModel", "conflict", "(II)J"⟩
abbrev cX4_conflict : ByteArray := prog_6_method_23_code
def yX4_settle : MethodName := ⟨"VersionJoinsModel", "settle", "(II)Z"⟩
abbrev cX4_settle : ByteArray := prog_6_method_24_code
def yX4_isOff : MethodName := ⟨"VersionJoinsModel", "isOff", "(I)Z"⟩
abbrev cX4_isOff : ByteArray := prog_6_method_25_code
def yX4_stale : MethodName := ⟨"VersionJoinsModel", "stale", "(I)Z"⟩
abbrev cX4_stale : ByteArray := prog_6_method_26_code
def yX4_isEarlier : MethodName := ⟨"VersionJoinsModel", "isEarlier", "(II)Z"⟩
abbrev cX4_isEarlier : ByteArray := prog_6_method_27_code
def yX4_worth : MethodName := ⟨"VersionJoinsModel", "worth", "(I)J"⟩
abbrev cX4_worth : ByteArray := prog_6_method_28_code
def yX4_give : MethodName := ⟨"VersionJoinsModel", "give", "(I)I"⟩
abbrev cX4_give : ByteArray := prog_6_method_29_code
def yX4_isNext : MethodName := ⟨"VersionJoinsModel", "isNext", "(I)Z"⟩
abbrev cX4_isNext : ByteArray := prog_6_method_30_code
def yX4_go : MethodName := ⟨"VersionJoinsModel", "go", "(I)V"⟩
abbrev cX4_go : ByteArray := prog_6_method_31_code
def yX4_isBefore : MethodName := ⟨"VersionJoinsModel", "isBefore", "(II)Z"⟩
abbrev cX4_isBefore : ByteArray := prog_6_method_32_code
def yX4_run : MethodName := ⟨"VersionJoinsModel", "run", "(I)Z"⟩
abbrev cX4_run : ByteArray := prog_6_method_33_code
def yX4_branch : MethodName := ⟨"VersionJoinsModel", "branch", "()I"⟩
abbrev cX4_branch : ByteArray := prog_6_method_34_code
def yX4_from : MethodName := ⟨"VersionJoinsModel", "from", "(II)I"⟩
abbrev cX4_from : ByteArray := prog_6_method_35_code
def yX4_value : MethodName := ⟨"VersionJoinsModel", "value", "(II)J"⟩
abbrev cX4_value : ByteArray := prog_6_method_36_code
def yX4_play : MethodName := ⟨"VersionJoinsModel", "play", "(JI)I"⟩
abbrev cX4_play : ByteArray := prog_6_method_37_code
end
section
theorem dX0_init_0 : decode cX0_init 0 = .ok (.aload_n 0, 1) := by decide +kernel
theorem dX0_init_1 : decode cX0_init 1 = .ok (.invokespecial 3, 3) := by decide +kernel
theorem dX0_init_4 : decode cX0_init 4 = .ok (.aload_n 0, 1) := by decide +kernel
theorem dX0_init_5 : decode cX0_init 5 = .ok (.bipush 24, 2) := by decide +kernel
theorem dX0_init_7 : decode cX0_init 7 = .ok (.newarray .int, 2) := by decide +kernel
theorem dX0_init_9 : decode cX0_init 9 = .ok (.putfield 9, 3) := by decide +kernel
theorem dX0_init_12 : decode cX0_init 12 = .ok (.aload_n 0, 1) := by decide +kernel
theorem dX0_init_13 : decode cX0_init 13 = .ok (.bipush 24, 2) := by decide +kernel
theorem dX0_init_15 : decode cX0_init 15 = .ok (.newarray .long, 2) := by decide +kernel
theorem dX0_init_17 : decode cX0_init 17 = .ok (.putfield 15, 3) := by decide +kernel
theorem dX0_init_20 : decode cX0_init 20 = .ok (.aload_n 0, 1) := by decide +kernel
theorem dX0_init_21 : decode cX0_init 21 = .ok (.bipush 24, 2) := by decide +kernel
theorem dX0_init_23 : decode cX0_init 23 = .ok (.newarray .long, 2) := by decide +kernel
theorem dX0_init_25 : decode cX0_init 25 = .ok (.putfield 19, 3) := by decide +kernel
theorem dX0_init_28 : decode cX0_init 28 = .ok (.aload_n 0, 1) := by decide +kernel
theorem dX0_init_29 : decode cX0_init 29 = .ok (.bipush 24, 2) := by decide +kernel
theorem dX0_init_31 : decode cX0_init 31 = .ok (.newarray .boolean, 2) := by decide +kernel
theorem dX0_init_33 : decode cX0_init 33 = .ok (.putfield 22, 3) := by decide +kernel
theorem dX0_init_36 : decode cX0_init 36 = .ok (.aload_n 0, 1) := by decide +kernel
theorem dX0_init_37 : decode cX0_init 37 = .ok (.aconst_null, 1) := by decide +kernel
theorem dX0_init_38 : decode cX0_init 38 = .ok (.putfield 26, 3) := by decide +kernel
theorem dX0_init_41 : decode cX0_init 41 = .ok (.aload_n 0, 1) := by decide +kernel
theorem dX0_init_42 : decode cX0_init 42 = .ok (.iconst 0, 1) := by decide +kernel
theorem dX0_init_43 : decode cX0_init 43 = .ok (.putfield 30, 3) := by decide +kernel
theorem dX0_init_46 : decode cX0_init 46 = .ok (.return_, 1) := by decide +kernel
theorem dX0_has_0 : decode cX0_has 0 = .ok (.iload_n 1, 1) := by decide +kernel
theorem dX0_has_1 : decode cX0_has 1 = .ok (.ifCond .lt 15, 3) := by decide +kernel
theorem dX0_has_4 : decode cX0_has 4 = .ok (.iload_n 1, 1) := by decide +kernel
theorem dX0_has_5 : decode cX0_has 5 = .ok (.aload_n 0, 1) := by decide +kernel
theorem dX0_has_6 : decode cX0_has 6 = .ok (.getfield 30, 3) := by decide +kernel
theorem dX0_has_9 : decode cX0_has 9 = .ok (.if_icmp .ge 7, 3) := by decide +kernel
theorem dX0_has_12 : decode cX0_has 12 = .ok (.iconst 1, 1) := by decide +kernel
theorem dX0_has_13 : decode cX0_has 13 = .ok (.goto 4, 3) := by decide +kernel
theorem dX0_has_16 : decode cX0_has 16 = .ok (.iconst 0, 1) := by decide +kernel
theorem dX0_has_17 : decode cX0_has 17 = .ok (.ireturn, 1) := by decide +kernel
theorem dX0_put_0 : decode cX0_put 0 = .ok (.aload_n 0, 1) := by decide +kernel
theorem dX0_put_1 : decode cX0_put 1 = .ok (.getfield 9, 3) := by decide +kernel
theorem dX0_put_4 : decode cX0_put 4 = .ok (.iload_n 1, 1) := by decide +kernel
theorem dX0_put_5 : decode cX0_put 5 = .ok (.iload_n 2, 1) := by decide +kernel
theorem dX0_put_6 : decode cX0_put 6 = .ok (.iastore, 1) := by decide +kernel
theorem dX0_put_7 : decode cX0_put 7 = .ok (.aload_n 0, 1) := by decide +kernel
theorem dX0_put_8 : decode cX0_put 8 = .ok (.getfield 15, 3) := by decide +kernel
theorem dX0_put_11 : decode cX0_put 11 = .ok (.iload_n 1, 1) := by decide +kernel
theorem dX0_put_12 : decode cX0_put 12 = .ok (.lload_n 3, 1) := by decide +kernel
theorem dX0_put_13 : decode cX0_put 13 = .ok (.lastore, 1) := by decide +kernel
theorem dX0_put_14 : decode cX0_put 14 = .ok (.aload_n 0, 1) := by decide +kernel
theorem dX0_put_15 : decode cX0_put 15 = .ok (.getfield 19, 3) := by decide +kernel
theorem dX0_put_18 : decode cX0_put 18 = .ok (.iload_n 1, 1) := by decide +kernel
theorem dX0_put_19 : decode cX0_put 19 = .ok (.lload 5, 2) := by decide +kernel
theorem dX0_put_21 : decode cX0_put 21 = .ok (.lastore, 1) := by decide +kernel
theorem dX0_put_22 : decode cX0_put 22 = .ok (.aload_n 0, 1) := by decide +kernel
theorem dX0_put_23 : decode cX0_put 23 = .ok (.getfield 22, 3) := by decide +kernel
theorem dX0_put_26 : decode cX0_put 26 = .ok (.iload_n 1, 1) := by decide +kernel
theorem dX0_put_27 : decode cX0_put 27 = .ok (.iconst 0, 1) := by decide +kernel
theorem dX0_put_28 : decode cX0_put 28 = .ok (.bastore, 1) := by decide +kernel
theorem dX0_put_29 : decode cX0_put 29 = .ok (.return_, 1) := by decide +kernel
theorem dX1_init_0 : decode cX1_init 0 = .ok (.aload_n 0, 1) := by decide +kernel
theorem dX1_init_1 : decode cX1_init 1 = .ok (.invokespecial 3, 3) := by decide +kernel
theorem dX1_init_4 : decode cX1_init 4 = .ok (.aload_n 0, 1) := by decide +kernel
theorem dX1_init_5 : decode cX1_init 5 = .ok (.bipush 24, 2) := by decide +kernel
theorem dX1_init_7 : decode cX1_init 7 = .ok (.newarray .boolean, 2) := by decide +kernel
theorem dX1_init_9 : decode cX1_init 9 = .ok (.putfield 9, 3) := by decide +kernel
theorem dX1_init_12 : decode cX1_init 12 = .ok (.aload_n 0, 1) := by decide +kernel
theorem dX1_init_13 : decode cX1_init 13 = .ok (.bipush 24, 2) := by decide +kernel
theorem dX1_init_15 : decode cX1_init 15 = .ok (.newarray .long, 2) := by decide +kernel
theorem dX1_init_17 : decode cX1_init 17 = .ok (.putfield 15, 3) := by decide +kernel
theorem dX1_init_20 : decode cX1_init 20 = .ok (.aload_n 0, 1) := by decide +kernel
theorem dX1_init_21 : decode cX1_init 21 = .ok (.bipush 24, 2) := by decide +kernel
theorem dX1_init_23 : decode cX1_init 23 = .ok (.newarray .boolean, 2) := by decide +kernel
theorem dX1_init_25 : decode cX1_init 25 = .ok (.putfield 19, 3) := by decide +kernel
theorem dX1_init_28 : decode cX1_init 28 = .ok (.aload_n 0, 1) := by decide +kernel
theorem dX1_init_29 : decode cX1_init 29 = .ok (.bipush 24, 2) := by decide +kernel
theorem dX1_init_31 : decode cX1_init 31 = .ok (.newarray .long, 2) := by decide +kernel
theorem dX1_init_33 : decode cX1_init 33 = .ok (.putfield 22, 3) := by decide +kernel
theorem dX1_init_36 : decode cX1_init 36 = .ok (.aload_n 0, 1) := by decide +kernel
theorem dX1_init_37 : decode cX1_init 37 = .ok (.iconst 1, 1) := by decide +kernel
theorem dX1_init_38 : decode cX1_init 38 = .ok (.putfield 25, 3) := by decide +kernel
theorem dX1_init_41 : decode cX1_init 41 = .ok (.return_, 1) := by decide +kernel
theorem dX1_touch_0 : decode cX1_touch 0 = .ok (.aload_n 0, 1) := by decide +kernel
theorem dX1_touch_1 : decode cX1_touch 1 = .ok (.getfield 9, 3) := by decide +kernel
theorem dX1_touch_4 : decode cX1_touch 4 = .ok (.iload_n 1, 1) := by decide +kernel
theorem dX1_touch_5 : decode cX1_touch 5 = .ok (.baload, 1) := by decide +kernel
theorem dX1_touch_6 : decode cX1_touch 6 = .ok (.ifCond .ne 17, 3) := by decide +kernel
theorem dX1_touch_9 : decode cX1_touch 9 = .ok (.aload_n 0, 1) := by decide +kernel
theorem dX1_touch_10 : decode cX1_touch 10 = .ok (.getfield 9, 3) := by decide +kernel
theorem dX1_touch_13 : decode cX1_touch 13 = .ok (.iload_n 1, 1) := by decide +kernel
theorem dX1_touch_14 : decode cX1_touch 14 = .ok (.iconst 1, 1) := by decide +kernel
theorem dX1_touch_15 : decode cX1_touch 15 = .ok (.bastore, 1) := by decide +kernel
theorem dX1_touch_16 : decode cX1_touch 16 = .ok (.aload_n 0, 1) := by decide +kernel
theorem dX1_touch_17 : decode cX1_touch 17 = .ok (.getfield 15, 3) := by decide +kernel
theorem dX1_touch_20 : decode cX1_touch 20 = .ok (.iload_n 1, 1) := by decide +kernel
theorem dX1_touch_21 : decode cX1_touch 21 = .ok (.lload_n 2, 1) := by decide +kernel
theorem dX1_touch_22 : decode cX1_touch 22 = .ok (.lastore, 1) := by decide +kernel
theorem dX1_touch_23 : decode cX1_touch 23 = .ok (.return_, 1) := by decide +kernel
theorem dX1_keepWritten_0 : decode cX1_keepWritten 0 = .ok (.aload_n 0, 1) := by decide +kernel
theorem dX1_keepWritten_1 : decode cX1_keepWritten 1 = .ok (.getfield 19, 3) := by decide +kernel
theorem dX1_keepWritten_4 : decode cX1_keepWritten 4 = .ok (.iload_n 1, 1) := by decide +kernel
theorem dX1_keepWritten_5 : decode cX1_keepWritten 5 = .ok (.iconst 1, 1) := by decide +kernel
theorem dX1_keepWritten_6 : decode cX1_keepWritten 6 = .ok (.bastore, 1) := by decide +kernel
theorem dX1_keepWritten_7 : decode cX1_keepWritten 7 = .ok (.aload_n 0, 1) := by decide +kernel
theorem dX1_keepWritten_8 : decode cX1_keepWritten 8 = .ok (.getfield 22, 3) := by decide +kernel
theorem dX1_keepWritten_11 : decode cX1_keepWritten 11 = .ok (.iload_n 1, 1) := by decide +kernel
theorem dX1_keepWritten_12 : decode cX1_keepWritten 12 = .ok (.lload_n 2, 1) := by decide +kernel
theorem dX1_keepWritten_13 : decode cX1_keepWritten 13 = .ok (.lastore, 1) := by decide +kernel
theorem dX1_keepWritten_14 : decode cX1_keepWritten 14 = .ok (.return_, 1) := by decide +kernel
theorem dX1_dropWritten_0 : decode cX1_dropWritten 0 = .ok (.aload_n 0, 1) := by decide +kernel
theorem dX1_dropWritten_1 : decode cX1_dropWritten 1 = .ok (.getfield 19, 3) := by decide +kernel
theorem dX1_dropWritten_4 : decode cX1_dropWritten 4 = .ok (.iload_n 1, 1) := by decide +kernel
theorem dX1_dropWritten_5 : decode cX1_dropWritten 5 = .ok (.iconst 0, 1) := by decide +kernel
theorem dX1_dropWritten_6 : decode cX1_dropWritten 6 = .ok (.bastore, 1) := by decide +kernel
theorem dX1_dropWritten_7 : decode cX1_dropWritten 7 = .ok (.return_, 1) := by decide +kernel
theorem dX1_rebase_0 : decode cX1_rebase 0 = .ok (.aload_n 0, 1) := by decide +kernel
theorem dX1_rebase_1 : decode cX1_rebase 1 = .ok (.getfield 15, 3) := by decide +kernel
theorem dX1_rebase_4 : decode cX1_rebase 4 = .ok (.iload_n 1, 1) := by decide +kernel
theorem dX1_rebase_5 : decode cX1_rebase 5 = .ok (.lload_n 2, 1) := by decide +kernel
theorem dX1_rebase_6 : decode cX1_rebase 6 = .ok (.lastore, 1) := by decide +kernel
theorem dX1_rebase_7 : decode cX1_rebase 7 = .ok (.return_, 1) := by decide +kernel
theorem dX1_view_0 : decode cX1_view 0 = .ok (.aload_n 0, 1) := by decide +kernel
theorem dX1_view_1 : decode cX1_view 1 = .ok (.getfield 19, 3) := by decide +kernel
theorem dX1_view_4 : decode cX1_view 4 = .ok (.iload_n 1, 1) := by decide +kernel
theorem dX1_view_5 : decode cX1_view 5 = .ok (.baload, 1) := by decide +kernel
theorem dX1_view_6 : decode cX1_view 6 = .ok (.ifCond .eq 12, 3) := by decide +kernel
theorem dX1_view_9 : decode cX1_view 9 = .ok (.aload_n 0, 1) := by decide +kernel
theorem dX1_view_10 : decode cX1_view 10 = .ok (.getfield 22, 3) := by decide +kernel
theorem dX1_view_13 : decode cX1_view 13 = .ok (.iload_n 1, 1) := by decide +kernel
theorem dX1_view_14 : decode cX1_view 14 = .ok (.laload, 1) := by decide +kernel
theorem dX1_view_15 : decode cX1_view 15 = .ok (.goto 9, 3) := by decide +kernel
theorem dX1_view_18 : decode cX1_view 18 = .ok (.aload_n 0, 1) := by decide +kernel
theorem dX1_view_19 : decode cX1_view 19 = .ok (.getfield 15, 3) := by decide +kernel
theorem dX1_view_22 : decode cX1_view 22 = .ok (.iload_n 1, 1) := by decide +kernel
theorem dX1_view_23 : decode cX1_view 23 = .ok (.laload, 1) := by decide +kernel
theorem dX1_view_24 : decode cX1_view 24 = .ok (.lreturn, 1) := by decide +kernel
theorem dX1_isConflict_0 : decode cX1_isConflict 0 = .ok (.aload_n 0, 1) := by decide +kernel
theorem dX1_isConflict_1 : decode cX1_isConflict 1 = .ok (.getfield 9, 3) := by decide +kernel
theorem dX1_isConflict_4 : decode cX1_isConflict 4 = .ok (.iload_n 1, 1) := by decide +kernel
theorem dX1_isConflict_5 : decode cX1_isConflict 5 = .ok (.baload, 1) := by decide +kernel
theorem dX1_isConflict_6 : decode cX1_isConflict 6 = .ok (.ifCond .eq 38, 3) := by decide +kernel
theorem dX1_isConflict_9 : decode cX1_isConflict 9 = .ok (.aload_n 0, 1) := by decide +kernel
theorem dX1_isConflict_10 : decode cX1_isConflict 10 = .ok (.getfield 15, 3) := by decide +kernel
theorem dX1_isConflict_13 : decode cX1_isConflict 13 = .ok (.iload_n 1, 1) := by decide +kernel
theorem dX1_isConflict_14 : decode cX1_isConflict 14 = .ok (.laload, 1) := by decide +kernel
theorem dX1_isConflict_15 : decode cX1_isConflict 15 = .ok (.lload_n 2, 1) := by decide +kernel
theorem dX1_isConflict_16 : decode cX1_isConflict 16 = .ok (.lcmp, 1) := by decide +kernel
theorem dX1_isConflict_17 : decode cX1_isConflict 17 = .ok (.ifCond .eq 27, 3) := by decide +kernel
theorem dX1_isConflict_20 : decode cX1_isConflict 20 = .ok (.aload_n 0, 1) := by decide +kernel
theorem dX1_isConflict_21 : decode cX1_isConflict 21 = .ok (.getfield 19, 3) := by decide +kernel
theorem dX1_isConflict_24 : decode cX1_isConflict 24 = .ok (.iload_n 1, 1) := by decide +kernel
theorem dX1_isConflict_25 : decode cX1_isConflict 25 = .ok (.baload, 1) := by decide +kernel
theorem dX1_isConflict_26 : decode cX1_isConflict 26 = .ok (.ifCond .eq 14, 3) := by decide +kernel
theorem dX1_isConflict_29 : decode cX1_isConflict 29 = .ok (.aload_n 0, 1) := by decide +kernel
theorem dX1_isConflict_30 : decode cX1_isConflict 30 = .ok (.getfield 22, 3) := by decide +kernel
theorem dX1_isConflict_33 : decode cX1_isConflict 33 = .ok (.iload_n 1, 1) := by decide +kernel
theorem dX1_isConflict_34 : decode cX1_isConflict 34 = .ok (.laload, 1) := by decide +kernel
theorem dX1_isConflict_35 : decode cX1_isConflict 35 = .ok (.lload_n 2, 1) := by decide +kernel
theorem dX1_isConflict_36 : decode cX1_isConflict 36 = .ok (.lcmp, 1) := by decide +kernel
theorem dX1_isConflict_37 : decode cX1_isConflict 37 = .ok (.ifCond .eq 7, 3) := by decide +kernel
theorem dX1_isConflict_40 : decode cX1_isConflict 40 = .ok (.iconst 1, 1) := by decide +kernel
theorem dX1_isConflict_41 : decode cX1_isConflict 41 = .ok (.goto 4, 3) := by decide +kernel
theorem dX1_isConflict_44 : decode cX1_isConflict 44 = .ok (.iconst 0, 1) := by decide +kernel
theorem dX1_isConflict_45 : decode cX1_isConflict 45 = .ok (.ireturn, 1) := by decide +kernel
theorem dX1_isWithinBounds_0 : decode cX1_isWithinBounds 0 = .ok (.iconst 0, 1) := by decide +kernel
theorem dX1_isWithinBounds_1 : decode cX1_isWithinBounds 1 = .ok (.istore_n 1, 1) := by decide +kernel
theorem dX1_isWithinBounds_2 : decode cX1_isWithinBounds 2 = .ok (.iload_n 1, 1) := by decide +kernel
theorem dX1_isWithinBounds_3 : decode cX1_isWithinBounds 3 = .ok (.bipush 24, 2) := by decide +kernel
theorem dX1_isWithinBounds_5 : decode cX1_isWithinBounds 5 = .ok (.if_icmp .ge 46, 3) := by decide +kernel
theorem dX1_isWithinBounds_8 : decode cX1_isWithinBounds 8 = .ok (.aload_n 0, 1) := by decide +kernel
theorem dX1_isWithinBounds_9 : decode cX1_isWithinBounds 9 = .ok (.getfield 19, 3) := by decide +kernel
theorem dX1_isWithinBounds_12 : decode cX1_isWithinBounds 12 = .ok (.iload_n 1, 1) := by decide +kernel
theorem dX1_isWithinBounds_13 : decode cX1_isWithinBounds 13 = .ok (.baload, 1) := by decide +kernel
theorem dX1_isWithinBounds_14 : decode cX1_isWithinBounds 14 = .ok (.ifCond .eq 31, 3) := by decide +kernel
theorem dX1_isWithinBounds_17 : decode cX1_isWithinBounds 17 = .ok (.aload_n 0, 1) := by decide +kernel
theorem dX1_isWithinBounds_18 : decode cX1_isWithinBounds 18 = .ok (.getfield 22, 3) := by decide +kernel
theorem dX1_isWithinBounds_21 : decode cX1_isWithinBounds 21 = .ok (.iload_n 1, 1) := by decide +kernel
theorem dX1_isWithinBounds_22 : decode cX1_isWithinBounds 22 = .ok (.laload, 1) := by decide +kernel
theorem dX1_isWithinBounds_23 : decode cX1_isWithinBounds 23 = .ok (.ldc2_w 29, 3) := by decide +kernel
theorem dX1_isWithinBounds_26 : decode cX1_isWithinBounds 26 = .ok (.lcmp, 1) := by decide +kernel
theorem dX1_isWithinBounds_27 : decode cX1_isWithinBounds 27 = .ok (.ifCond .gt 16, 3) := by decide +kernel
theorem dX1_isWithinBounds_30 : decode cX1_isWithinBounds 30 = .ok (.aload_n 0, 1) := by decide +kernel
theorem dX1_isWithinBounds_31 : decode cX1_isWithinBounds 31 = .ok (.getfield 22, 3) := by decide +kernel
theorem dX1_isWithinBounds_34 : decode cX1_isWithinBounds 34 = .ok (.iload_n 1, 1) := by decide +kernel
theorem dX1_isWithinBounds_35 : decode cX1_isWithinBounds 35 = .ok (.laload, 1) := by decide +kernel
theorem dX1_isWithinBounds_36 : decode cX1_isWithinBounds 36 = .ok (.ldc2_w 31, 3) := by decide +kernel
theorem dX1_isWithinBounds_39 : decode cX1_isWithinBounds 39 = .ok (.lcmp, 1) := by decide +kernel
theorem dX1_isWithinBounds_40 : decode cX1_isWithinBounds 40 = .ok (.ifCond .ge 5, 3) := by decide +kernel
theorem dX1_isWithinBounds_43 : decode cX1_isWithinBounds 43 = .ok (.iconst 0, 1) := by decide +kernel
theorem dX1_isWithinBounds_44 : decode cX1_isWithinBounds 44 = .ok (.ireturn, 1) := by decide +kernel
theorem dX1_isWithinBounds_45 : decode cX1_isWithinBounds 45 = .ok (.iinc 1 1, 3) := by decide +kernel
theorem dX1_isWithinBounds_48 : decode cX1_isWithinBounds 48 = .ok (.goto (-46), 3) := by decide +kernel
theorem dX1_isWithinBounds_51 : decode cX1_isWithinBounds 51 = .ok (.iconst 1, 1) := by decide +kernel
theorem dX1_isWithinBounds_52 : decode cX1_isWithinBounds 52 = .ok (.ireturn, 1) := by decide +kernel
theorem dX2_init_0 : decode cX2_init 0 = .ok (.aload_n 0, 1) := by decide +kernel
theorem dX2_init_1 : decode cX2_init 1 = .ok (.invokespecial 3, 3) := by decide +kernel
theorem dX2_init_4 : decode cX2_init 4 = .ok (.aload_n 0, 1) := by decide +kernel
theorem dX2_init_5 : decode cX2_init 5 = .ok (.bipush 8, 2) := by decide +kernel
theorem dX2_init_7 : decode cX2_init 7 = .ok (.newarray .int, 2) := by decide +kernel
theorem dX2_init_9 : decode cX2_init 9 = .ok (.putfield 9, 3) := by decide +kernel
theorem dX2_init_12 : decode cX2_init 12 = .ok (.aload_n 0, 1) := by decide +kernel
theorem dX2_init_13 : decode cX2_init 13 = .ok (.iconst 4, 1) := by decide +kernel
theorem dX2_init_14 : decode cX2_init 14 = .ok (.newarray .int, 2) := by decide +kernel
theorem dX2_init_16 : decode cX2_init 16 = .ok (.putfield 15, 3) := by decide +kernel
theorem dX2_init_19 : decode cX2_init 19 = .ok (.aload_n 0, 1) := by decide +kernel
theorem dX2_init_20 : decode cX2_init 20 = .ok (.bipush 8, 2) := by decide +kernel
theorem dX2_init_22 : decode cX2_init 22 = .ok (.newarray .long, 2) := by decide +kernel
theorem dX2_init_24 : decode cX2_init 24 = .ok (.putfield 18, 3) := by decide +kernel
theorem dX2_init_27 : decode cX2_init 27 = .ok (.aload_n 0, 1) := by decide +kernel
theorem dX2_init_28 : decode cX2_init 28 = .ok (.iconst 0, 1) := by decide +kernel
theorem dX2_init_29 : decode cX2_init 29 = .ok (.putfield 22, 3) := by decide +kernel
theorem dX2_init_32 : decode cX2_init 32 = .ok (.aload_n 0, 1) := by decide +kernel
theorem dX2_init_33 : decode cX2_init 33 = .ok (.iconst 0, 1) := by decide +kernel
theorem dX2_init_34 : decode cX2_init 34 = .ok (.putfield 26, 3) := by decide +kernel
theorem dX2_init_37 : decode cX2_init 37 = .ok (.aload_n 0, 1) := by decide +kernel
theorem dX2_init_38 : decode cX2_init 38 = .ok (.iconst 0, 1) := by decide +kernel
theorem dX2_init_39 : decode cX2_init 39 = .ok (.putfield 29, 3) := by decide +kernel
theorem dX2_init_42 : decode cX2_init 42 = .ok (.aload_n 0, 1) := by decide +kernel
theorem dX2_init_43 : decode cX2_init 43 = .ok (.iconst 0, 1) := by decide +kernel
theorem dX2_init_44 : decode cX2_init 44 = .ok (.putfield 32, 3) := by decide +kernel
theorem dX2_init_47 : decode cX2_init 47 = .ok (.aload_n 0, 1) := by decide +kernel
theorem dX2_init_48 : decode cX2_init 48 = .ok (.iconst 0, 1) := by decide +kernel
theorem dX2_init_49 : decode cX2_init 49 = .ok (.putfield 36, 3) := by decide +kernel
theorem dX2_init_52 : decode cX2_init 52 = .ok (.aload_n 0, 1) := by decide +kernel
theorem dX2_init_53 : decode cX2_init 53 = .ok (.iconst 0, 1) := by decide +kernel
theorem dX2_init_54 : decode cX2_init 54 = .ok (.putfield 39, 3) := by decide +kernel
theorem dX2_init_57 : decode cX2_init 57 = .ok (.aload_n 0, 1) := by decide +kernel
theorem dX2_init_58 : decode cX2_init 58 = .ok (.lconst 0, 1) := by decide +kernel
theorem dX2_init_59 : decode cX2_init 59 = .ok (.putfield 42, 3) := by decide +kernel
theorem dX2_init_62 : decode cX2_init 62 = .ok (.aload_n 0, 1) := by decide +kernel
theorem dX2_init_63 : decode cX2_init 63 = .ok (.iload_n 1, 1) := by decide +kernel
theorem dX2_init_64 : decode cX2_init 64 = .ok (.putfield 46, 3) := by decide +kernel
theorem dX2_init_67 : decode cX2_init 67 = .ok (.return_, 1) := by decide +kernel
theorem dX2_withAbove_0 : decode cX2_withAbove 0 = .ok (.aload_n 0, 1) := by decide +kernel
theorem dX2_withAbove_1 : decode cX2_withAbove 1 = .ok (.getfield 29, 3) := by decide +kernel
theorem dX2_withAbove_4 : decode cX2_withAbove 4 = .ok (.iconst 1, 1) := by decide +kernel
theorem dX2_withAbove_5 : decode cX2_withAbove 5 = .ok (.iload_n 1, 1) := by decide +kernel
theorem dX2_withAbove_6 : decode cX2_withAbove 6 = .ok (.ishl, 1) := by decide +kernel
theorem dX2_withAbove_7 : decode cX2_withAbove 7 = .ok (.ior, 1) := by decide +kernel
theorem dX2_withAbove_8 : decode cX2_withAbove 8 = .ok (.ireturn, 1) := by decide +kernel
theorem dX2_isUsing_0 : decode cX2_isUsing 0 = .ok (.iconst 0, 1) := by decide +kernel
theorem dX2_isUsing_1 : decode cX2_isUsing 1 = .ok (.istore_n 2, 1) := by decide +kernel
theorem dX2_isUsing_2 : decode cX2_isUsing 2 = .ok (.iload_n 2, 1) := by decide +kernel
theorem dX2_isUsing_3 : decode cX2_isUsing 3 = .ok (.aload_n 0, 1) := by decide +kernel
theorem dX2_isUsing_4 : decode cX2_isUsing 4 = .ok (.getfield 22, 3) := by decide +kernel
theorem dX2_isUsing_7 : decode cX2_isUsing 7 = .ok (.if_icmp .ge 21, 3) := by decide +kernel
theorem dX2_isUsing_10 : decode cX2_isUsing 10 = .ok (.aload_n 0, 1) := by decide +kernel
theorem dX2_isUsing_11 : decode cX2_isUsing 11 = .ok (.getfield 9, 3) := by decide +kernel
theorem dX2_isUsing_14 : decode cX2_isUsing 14 = .ok (.iload_n 2, 1) := by decide +kernel
theorem dX2_isUsing_15 : decode cX2_isUsing 15 = .ok (.iaload, 1) := by decide +kernel
theorem dX2_isUsing_16 : decode cX2_isUsing 16 = .ok (.iload_n 1, 1) := by decide +kernel
theorem dX2_isUsing_17 : decode cX2_isUsing 17 = .ok (.if_icmp .ne 5, 3) := by decide +kernel
theorem dX2_isUsing_20 : decode cX2_isUsing 20 = .ok (.iconst 1, 1) := by decide +kernel
theorem dX2_isUsing_21 : decode cX2_isUsing 21 = .ok (.ireturn, 1) := by decide +kernel
theorem dX2_isUsing_22 : decode cX2_isUsing 22 = .ok (.iinc 2 1, 3) := by decide +kernel
theorem dX2_isUsing_25 : decode cX2_isUsing 25 = .ok (.goto (-23), 3) := by decide +kernel
theorem dX2_isUsing_28 : decode cX2_isUsing 28 = .ok (.iconst 0, 1) := by decide +kernel
theorem dX2_isUsing_29 : decode cX2_isUsing 29 = .ok (.ireturn, 1) := by decide +kernel
theorem dX2_hasMade_0 : decode cX2_hasMade 0 = .ok (.iconst 0, 1) := by decide +kernel
theorem dX2_hasMade_1 : decode cX2_hasMade 1 = .ok (.istore_n 2, 1) := by decide +kernel
theorem dX2_hasMade_2 : decode cX2_hasMade 2 = .ok (.iload_n 2, 1) := by decide +kernel
theorem dX2_hasMade_3 : decode cX2_hasMade 3 = .ok (.aload_n 0, 1) := by decide +kernel
theorem dX2_hasMade_4 : decode cX2_hasMade 4 = .ok (.getfield 39, 3) := by decide +kernel
theorem dX2_hasMade_7 : decode cX2_hasMade 7 = .ok (.if_icmp .ge 21, 3) := by decide +kernel
theorem dX2_hasMade_10 : decode cX2_hasMade 10 = .ok (.aload_n 0, 1) := by decide +kernel
theorem dX2_hasMade_11 : decode cX2_hasMade 11 = .ok (.getfield 15, 3) := by decide +kernel
theorem dX2_hasMade_14 : decode cX2_hasMade 14 = .ok (.iload_n 2, 1) := by decide +kernel
theorem dX2_hasMade_15 : decode cX2_hasMade 15 = .ok (.iaload, 1) := by decide +kernel
theorem dX2_hasMade_16 : decode cX2_hasMade 16 = .ok (.iload_n 1, 1) := by decide +kernel
theorem dX2_hasMade_17 : decode cX2_hasMade 17 = .ok (.if_icmp .ne 5, 3) := by decide +kernel
theorem dX2_hasMade_20 : decode cX2_hasMade 20 = .ok (.iconst 1, 1) := by decide +kernel
theorem dX2_hasMade_21 : decode cX2_hasMade 21 = .ok (.ireturn, 1) := by decide +kernel
theorem dX2_hasMade_22 : decode cX2_hasMade 22 = .ok (.iinc 2 1, 3) := by decide +kernel
theorem dX2_hasMade_25 : decode cX2_hasMade 25 = .ok (.goto (-23), 3) := by decide +kernel
theorem dX2_hasMade_28 : decode cX2_hasMade 28 = .ok (.iconst 0, 1) := by decide +kernel
theorem dX2_hasMade_29 : decode cX2_hasMade 29 = .ok (.ireturn, 1) := by decide +kernel
theorem dX2_addUsed_0 : decode cX2_addUsed 0 = .ok (.aload_n 0, 1) := by decide +kernel
theorem dX2_addUsed_1 : decode cX2_addUsed 1 = .ok (.getfield 9, 3) := by decide +kernel
theorem dX2_addUsed_4 : decode cX2_addUsed 4 = .ok (.aload_n 0, 1) := by decide +kernel
theorem dX2_addUsed_5 : decode cX2_addUsed 5 = .ok (.getfield 22, 3) := by decide +kernel
theorem dX2_addUsed_8 : decode cX2_addUsed 8 = .ok (.iload_n 1, 1) := by decide +kernel
theorem dX2_addUsed_9 : decode cX2_addUsed 9 = .ok (.iastore, 1) := by decide +kernel
theorem dX2_addUsed_10 : decode cX2_addUsed 10 = .ok (.aload_n 0, 1) := by decide +kernel
theorem dX2_addUsed_11 : decode cX2_addUsed 11 = .ok (.dup, 1) := by decide +kernel
theorem dX2_addUsed_12 : decode cX2_addUsed 12 = .ok (.getfield 22, 3) := by decide +kernel
theorem dX2_addUsed_15 : decode cX2_addUsed 15 = .ok (.iconst 1, 1) := by decide +kernel
theorem dX2_addUsed_16 : decode cX2_addUsed 16 = .ok (.iadd, 1) := by decide +kernel
theorem dX2_addUsed_17 : decode cX2_addUsed 17 = .ok (.putfield 22, 3) := by decide +kernel
theorem dX2_addUsed_20 : decode cX2_addUsed 20 = .ok (.return_, 1) := by decide +kernel
theorem dX2_addMade_0 : decode cX2_addMade 0 = .ok (.aload_n 0, 1) := by decide +kernel
theorem dX2_addMade_1 : decode cX2_addMade 1 = .ok (.getfield 15, 3) := by decide +kernel
theorem dX2_addMade_4 : decode cX2_addMade 4 = .ok (.aload_n 0, 1) := by decide +kernel
theorem dX2_addMade_5 : decode cX2_addMade 5 = .ok (.getfield 26, 3) := by decide +kernel
theorem dX2_addMade_8 : decode cX2_addMade 8 = .ok (.iload_n 1, 1) := by decide +kernel
theorem dX2_addMade_9 : decode cX2_addMade 9 = .ok (.iastore, 1) := by decide +kernel
theorem dX2_addMade_10 : decode cX2_addMade 10 = .ok (.aload_n 0, 1) := by decide +kernel
theorem dX2_addMade_11 : decode cX2_addMade 11 = .ok (.dup, 1) := by decide +kernel
theorem dX2_addMade_12 : decode cX2_addMade 12 = .ok (.getfield 26, 3) := by decide +kernel
theorem dX2_addMade_15 : decode cX2_addMade 15 = .ok (.iconst 1, 1) := by decide +kernel
theorem dX2_addMade_16 : decode cX2_addMade 16 = .ok (.iadd, 1) := by decide +kernel
theorem dX2_addMade_17 : decode cX2_addMade 17 = .ok (.putfield 26, 3) := by decide +kernel
theorem dX2_addMade_20 : decode cX2_addMade 20 = .ok (.return_, 1) := by decide +kernel
theorem dX2_isOutdated_0 : decode cX2_isOutdated 0 = .ok (.aload_n 0, 1) := by decide +kernel
theorem dX2_isOutdated_1 : decode cX2_isOutdated 1 = .ok (.getfield 32, 3) := by decide +kernel
theorem dX2_isOutdated_4 : decode cX2_isOutdated 4 = .ok (.ifCond .eq 25, 3) := by decide +kernel
theorem dX2_isOutdated_7 : decode cX2_isOutdated 7 = .ok (.aload_n 0, 1) := by decide +kernel
theorem dX2_isOutdated_8 : decode cX2_isOutdated 8 = .ok (.getfield 22, 3) := by decide +kernel
theorem dX2_isOutdated_11 : decode cX2_isOutdated 11 = .ok (.aload_n 0, 1) := by decide +kernel
theorem dX2_isOutdated_12 : decode cX2_isOutdated 12 = .ok (.getfield 36, 3) := by decide +kernel
theorem dX2_isOutdated_15 : decode cX2_isOutdated 15 = .ok (.if_icmp .ne 14, 3) := by decide +kernel
theorem dX2_isOutdated_18 : decode cX2_isOutdated 18 = .ok (.aload_n 0, 1) := by decide +kernel
theorem dX2_isOutdated_19 : decode cX2_isOutdated 19 = .ok (.getfield 26, 3) := by decide +kernel
theorem dX2_isOutdated_22 : decode cX2_isOutdated 22 = .ok (.aload_n 0, 1) := by decide +kernel
theorem dX2_isOutdated_23 : decode cX2_isOutdated 23 = .ok (.getfield 39, 3) := by decide +kernel
theorem dX2_isOutdated_26 : decode cX2_isOutdated 26 = .ok (.if_icmp .eq 5, 3) := by decide +kernel
theorem dX2_isOutdated_29 : decode cX2_isOutdated 29 = .ok (.iconst 1, 1) := by decide +kernel
theorem dX2_isOutdated_30 : decode cX2_isOutdated 30 = .ok (.ireturn, 1) := by decide +kernel
theorem dX2_isOutdated_31 : decode cX2_isOutdated 31 = .ok (.iconst 0, 1) := by decide +kernel
theorem dX2_isOutdated_32 : decode cX2_isOutdated 32 = .ok (.istore_n 2, 1) := by decide +kernel
theorem dX2_isOutdated_33 : decode cX2_isOutdated 33 = .ok (.iload_n 2, 1) := by decide +kernel
theorem dX2_isOutdated_34 : decode cX2_isOutdated 34 = .ok (.aload_n 0, 1) := by decide +kernel
theorem dX2_isOutdated_35 : decode cX2_isOutdated 35 = .ok (.getfield 22, 3) := by decide +kernel
theorem dX2_isOutdated_38 : decode cX2_isOutdated 38 = .ok (.if_icmp .ge 29, 3) := by decide +kernel
theorem dX2_isOutdated_41 : decode cX2_isOutdated 41 = .ok (.aload_n 1, 1) := by decide +kernel
theorem dX2_isOutdated_42 : decode cX2_isOutdated 42 = .ok (.aload_n 0, 1) := by decide +kernel
theorem dX2_isOutdated_43 : decode cX2_isOutdated 43 = .ok (.getfield 9, 3) := by decide +kernel
theorem dX2_isOutdated_46 : decode cX2_isOutdated 46 = .ok (.iload_n 2, 1) := by decide +kernel
theorem dX2_isOutdated_47 : decode cX2_isOutdated 47 = .ok (.iaload, 1) := by decide +kernel
theorem dX2_isOutdated_48 : decode cX2_isOutdated 48 = .ok (.laload, 1) := by decide +kernel
theorem dX2_isOutdated_49 : decode cX2_isOutdated 49 = .ok (.aload_n 0, 1) := by decide +kernel
theorem dX2_isOutdated_50 : decode cX2_isOutdated 50 = .ok (.getfield 18, 3) := by decide +kernel
theorem dX2_isOutdated_53 : decode cX2_isOutdated 53 = .ok (.iload_n 2, 1) := by decide +kernel
theorem dX2_isOutdated_54 : decode cX2_isOutdated 54 = .ok (.laload, 1) := by decide +kernel
theorem dX2_isOutdated_55 : decode cX2_isOutdated 55 = .ok (.lcmp, 1) := by decide +kernel
theorem dX2_isOutdated_56 : decode cX2_isOutdated 56 = .ok (.ifCond .eq 5, 3) := by decide +kernel
theorem dX2_isOutdated_59 : decode cX2_isOutdated 59 = .ok (.iconst 1, 1) := by decide +kernel
theorem dX2_isOutdated_60 : decode cX2_isOutdated 60 = .ok (.ireturn, 1) := by decide +kernel
theorem dX2_isOutdated_61 : decode cX2_isOutdated 61 = .ok (.iinc 2 1, 3) := by decide +kernel
theorem dX2_isOutdated_64 : decode cX2_isOutdated 64 = .ok (.goto (-31), 3) := by decide +kernel
theorem dX2_isOutdated_67 : decode cX2_isOutdated 67 = .ok (.iconst 0, 1) := by decide +kernel
theorem dX2_isOutdated_68 : decode cX2_isOutdated 68 = .ok (.istore_n 2, 1) := by decide +kernel
theorem dX2_isOutdated_69 : decode cX2_isOutdated 69 = .ok (.iload_n 2, 1) := by decide +kernel
theorem dX2_isOutdated_70 : decode cX2_isOutdated 70 = .ok (.aload_n 0, 1) := by decide +kernel
theorem dX2_isOutdated_71 : decode cX2_isOutdated 71 = .ok (.getfield 26, 3) := by decide +kernel
theorem dX2_isOutdated_74 : decode cX2_isOutdated 74 = .ok (.if_icmp .ge 27, 3) := by decide +kernel
theorem dX2_isOutdated_77 : decode cX2_isOutdated 77 = .ok (.aload_n 1, 1) := by decide +kernel
theorem dX2_isOutdated_78 : decode cX2_isOutdated 78 = .ok (.aload_n 0, 1) := by decide +kernel
theorem dX2_isOutdated_79 : decode cX2_isOutdated 79 = .ok (.getfield 15, 3) := by decide +kernel
theorem dX2_isOutdated_82 : decode cX2_isOutdated 82 = .ok (.iload_n 2, 1) := by decide +kernel
theorem dX2_isOutdated_83 : decode cX2_isOutdated 83 = .ok (.iaload, 1) := by decide +kernel
theorem dX2_isOutdated_84 : decode cX2_isOutdated 84 = .ok (.laload, 1) := by decide +kernel
theorem dX2_isOutdated_85 : decode cX2_isOutdated 85 = .ok (.aload_n 0, 1) := by decide +kernel
theorem dX2_isOutdated_86 : decode cX2_isOutdated 86 = .ok (.getfield 42, 3) := by decide +kernel
theorem dX2_isOutdated_89 : decode cX2_isOutdated 89 = .ok (.lcmp, 1) := by decide +kernel
theorem dX2_isOutdated_90 : decode cX2_isOutdated 90 = .ok (.ifCond .eq 5, 3) := by decide +kernel
theorem dX2_isOutdated_93 : decode cX2_isOutdated 93 = .ok (.iconst 1, 1) := by decide +kernel
theorem dX2_isOutdated_94 : decode cX2_isOutdated 94 = .ok (.ireturn, 1) := by decide +kernel
theorem dX2_isOutdated_95 : decode cX2_isOutdated 95 = .ok (.iinc 2 1, 3) := by decide +kernel
theorem dX2_isOutdated_98 : decode cX2_isOutdated 98 = .ok (.goto (-29), 3) := by decide +kernel
theorem dX2_isOutdated_101 : decode cX2_isOutdated 101 = .ok (.iconst 0, 1) := by decide +kernel
theorem dX2_isOutdated_102 : decode cX2_isOutdated 102 = .ok (.ireturn, 1) := by decide +kernel
theorem dX2_work_0 : decode cX2_work 0 = .ok (.iconst 0, 1) := by decide +kernel
theorem dX2_work_1 : decode cX2_work 1 = .ok (.istore_n 2, 1) := by decide +kernel
theorem dX2_work_2 : decode cX2_work 2 = .ok (.iload_n 2, 1) := by decide +kernel
theorem dX2_work_3 : decode cX2_work 3 = .ok (.aload_n 0, 1) := by decide +kernel
theorem dX2_work_4 : decode cX2_work 4 = .ok (.getfield 22, 3) := by decide +kernel
theorem dX2_work_7 : decode cX2_work 7 = .ok (.if_icmp .ge 23, 3) := by decide +kernel
theorem dX2_work_10 : decode cX2_work 10 = .ok (.aload_n 0, 1) := by decide +kernel
theorem dX2_work_11 : decode cX2_work 11 = .ok (.getfield 18, 3) := by decide +kernel
theorem dX2_work_14 : decode cX2_work 14 = .ok (.iload_n 2, 1) := by decide +kernel
theorem dX2_work_15 : decode cX2_work 15 = .ok (.aload_n 1, 1) := by decide +kernel
theorem dX2_work_16 : decode cX2_work 16 = .ok (.aload_n 0, 1) := by decide +kernel
theorem dX2_work_17 : decode cX2_work 17 = .ok (.getfield 9, 3) := by decide +kernel
theorem dX2_work_20 : decode cX2_work 20 = .ok (.iload_n 2, 1) := by decide +kernel
theorem dX2_work_21 : decode cX2_work 21 = .ok (.iaload, 1) := by decide +kernel
theorem dX2_work_22 : decode cX2_work 22 = .ok (.laload, 1) := by decide +kernel
theorem dX2_work_23 : decode cX2_work 23 = .ok (.lastore, 1) := by decide +kernel
theorem dX2_work_24 : decode cX2_work 24 = .ok (.iinc 2 1, 3) := by decide +kernel
theorem dX2_work_27 : decode cX2_work 27 = .ok (.goto (-25), 3) := by decide +kernel
theorem dX2_work_30 : decode cX2_work 30 = .ok (.aload_n 0, 1) := by decide +kernel
theorem dX2_work_31 : decode cX2_work 31 = .ok (.iconst 1, 1) := by decide +kernel
theorem dX2_work_32 : decode cX2_work 32 = .ok (.putfield 32, 3) := by decide +kernel
theorem dX2_work_35 : decode cX2_work 35 = .ok (.aload_n 0, 1) := by decide +kernel
theorem dX2_work_36 : decode cX2_work 36 = .ok (.aload_n 0, 1) := by decide +kernel
theorem dX2_work_37 : decode cX2_work 37 = .ok (.getfield 22, 3) := by decide +kernel
theorem dX2_work_40 : decode cX2_work 40 = .ok (.putfield 36, 3) := by decide +kernel
theorem dX2_work_43 : decode cX2_work 43 = .ok (.aload_n 0, 1) := by decide +kernel
theorem dX2_work_44 : decode cX2_work 44 = .ok (.aload_n 0, 1) := by decide +kernel
theorem dX2_work_45 : decode cX2_work 45 = .ok (.getfield 26, 3) := by decide +kernel
theorem dX2_work_48 : decode cX2_work 48 = .ok (.putfield 39, 3) := by decide +kernel
theorem dX2_work_51 : decode cX2_work 51 = .ok (.aload_n 0, 1) := by decide +kernel
theorem dX2_work_52 : decode cX2_work 52 = .ok (.aload_n 0, 1) := by decide +kernel
theorem dX2_work_53 : decode cX2_work 53 = .ok (.invokevirtual 49, 3) := by decide +kernel
theorem dX2_work_56 : decode cX2_work 56 = .ok (.putfield 42, 3) := by decide +kernel
theorem dX2_work_59 : decode cX2_work 59 = .ok (.return_, 1) := by decide +kernel
theorem dX2_resultOfKind_0 : decode cX2_resultOfKind 0 = .ok (.aload_n 0, 1) := by decide +kernel
theorem dX2_resultOfKind_1 : decode cX2_resultOfKind 1 = .ok (.getfield 46, 3) := by decide +kernel
theorem dX2_resultOfKind_4 : decode cX2_resultOfKind 4 = .ok (.tableswitch 43 0 2 #[28, 33, 38], 28) := by decide +kernel
theorem dX2_resultOfKind_32 : decode cX2_resultOfKind 32 = .ok (.aload_n 0, 1) := by decide +kernel
theorem dX2_resultOfKind_33 : decode cX2_resultOfKind 33 = .ok (.invokevirtual 53, 3) := by decide +kernel
theorem dX2_resultOfKind_36 : decode cX2_resultOfKind 36 = .ok (.lreturn, 1) := by decide +kernel
theorem dX2_resultOfKind_37 : decode cX2_resultOfKind 37 = .ok (.aload_n 0, 1) := by decide +kernel
theorem dX2_resultOfKind_38 : decode cX2_resultOfKind 38 = .ok (.invokevirtual 56, 3) := by decide +kernel
theorem dX2_resultOfKind_41 : decode cX2_resultOfKind 41 = .ok (.lreturn, 1) := by decide +kernel
theorem dX2_resultOfKind_42 : decode cX2_resultOfKind 42 = .ok (.aload_n 0, 1) := by decide +kernel
theorem dX2_resultOfKind_43 : decode cX2_resultOfKind 43 = .ok (.invokevirtual 59, 3) := by decide +kernel
theorem dX2_resultOfKind_46 : decode cX2_resultOfKind 46 = .ok (.lreturn, 1) := by decide +kernel
theorem dX2_resultOfKind_47 : decode cX2_resultOfKind 47 = .ok (.aload_n 0, 1) := by decide +kernel
theorem dX2_resultOfKind_48 : decode cX2_resultOfKind 48 = .ok (.invokevirtual 62, 3) := by decide +kernel
theorem dX2_resultOfKind_51 : decode cX2_resultOfKind 51 = .ok (.lreturn, 1) := by decide +kernel
theorem dX2_sum_0 : decode cX2_sum 0 = .ok (.lconst 0, 1) := by decide +kernel
theorem dX2_sum_1 : decode cX2_sum 1 = .ok (.lstore_n 1, 1) := by decide +kernel
theorem dX2_sum_2 : decode cX2_sum 2 = .ok (.iconst 0, 1) := by decide +kernel
theorem dX2_sum_3 : decode cX2_sum 3 = .ok (.istore_n 3, 1) := by decide +kernel
theorem dX2_sum_4 : decode cX2_sum 4 = .ok (.iload_n 3, 1) := by decide +kernel
theorem dX2_sum_5 : decode cX2_sum 5 = .ok (.aload_n 0, 1) := by decide +kernel
theorem dX2_sum_6 : decode cX2_sum 6 = .ok (.getfield 36, 3) := by decide +kernel
theorem dX2_sum_9 : decode cX2_sum 9 = .ok (.if_icmp .ge 18, 3) := by decide +kernel
theorem dX2_sum_12 : decode cX2_sum 12 = .ok (.lload_n 1, 1) := by decide +kernel
theorem dX2_sum_13 : decode cX2_sum 13 = .ok (.aload_n 0, 1) := by decide +kernel
theorem dX2_sum_14 : decode cX2_sum 14 = .ok (.getfield 18, 3) := by decide +kernel
theorem dX2_sum_17 : decode cX2_sum 17 = .ok (.iload_n 3, 1) := by decide +kernel
theorem dX2_sum_18 : decode cX2_sum 18 = .ok (.laload, 1) := by decide +kernel
theorem dX2_sum_19 : decode cX2_sum 19 = .ok (.ladd, 1) := by decide +kernel
theorem dX2_sum_20 : decode cX2_sum 20 = .ok (.lstore_n 1, 1) := by decide +kernel
theorem dX2_sum_21 : decode cX2_sum 21 = .ok (.iinc 3 1, 3) := by decide +kernel
theorem dX2_sum_24 : decode cX2_sum 24 = .ok (.goto (-20), 3) := by decide +kernel
theorem dX2_sum_27 : decode cX2_sum 27 = .ok (.lload_n 1, 1) := by decide +kernel
theorem dX2_sum_28 : decode cX2_sum 28 = .ok (.lreturn, 1) := by decide +kernel
theorem dX2_greatest_0 : decode cX2_greatest 0 = .ok (.aload_n 0, 1) := by decide +kernel
theorem dX2_greatest_1 : decode cX2_greatest 1 = .ok (.getfield 36, 3) := by decide +kernel
theorem dX2_greatest_4 : decode cX2_greatest 4 = .ok (.ifCond .le 12, 3) := by decide +kernel
theorem dX2_greatest_7 : decode cX2_greatest 7 = .ok (.aload_n 0, 1) := by decide +kernel
theorem dX2_greatest_8 : decode cX2_greatest 8 = .ok (.getfield 18, 3) := by decide +kernel
theorem dX2_greatest_11 : decode cX2_greatest 11 = .ok (.iconst 0, 1) := by decide +kernel
theorem dX2_greatest_12 : decode cX2_greatest 12 = .ok (.laload, 1) := by decide +kernel
theorem dX2_greatest_13 : decode cX2_greatest 13 = .ok (.goto 4, 3) := by decide +kernel
theorem dX2_greatest_16 : decode cX2_greatest 16 = .ok (.lconst 0, 1) := by decide +kernel
theorem dX2_greatest_17 : decode cX2_greatest 17 = .ok (.lstore_n 1, 1) := by decide +kernel
theorem dX2_greatest_18 : decode cX2_greatest 18 = .ok (.iconst 1, 1) := by decide +kernel
theorem dX2_greatest_19 : decode cX2_greatest 19 = .ok (.istore_n 3, 1) := by decide +kernel
theorem dX2_greatest_20 : decode cX2_greatest 20 = .ok (.iload_n 3, 1) := by decide +kernel
theorem dX2_greatest_21 : decode cX2_greatest 21 = .ok (.aload_n 0, 1) := by decide +kernel
theorem dX2_greatest_22 : decode cX2_greatest 22 = .ok (.getfield 36, 3) := by decide +kernel
theorem dX2_greatest_25 : decode cX2_greatest 25 = .ok (.if_icmp .ge 20, 3) := by decide +kernel
theorem dX2_greatest_28 : decode cX2_greatest 28 = .ok (.lload_n 1, 1) := by decide +kernel
theorem dX2_greatest_29 : decode cX2_greatest 29 = .ok (.aload_n 0, 1) := by decide +kernel
theorem dX2_greatest_30 : decode cX2_greatest 30 = .ok (.getfield 18, 3) := by decide +kernel
theorem dX2_greatest_33 : decode cX2_greatest 33 = .ok (.iload_n 3, 1) := by decide +kernel
theorem dX2_greatest_34 : decode cX2_greatest 34 = .ok (.laload, 1) := by decide +kernel
theorem dX2_greatest_35 : decode cX2_greatest 35 = .ok (.invokestatic 65, 3) := by decide +kernel
theorem dX2_greatest_38 : decode cX2_greatest 38 = .ok (.lstore_n 1, 1) := by decide +kernel
theorem dX2_greatest_39 : decode cX2_greatest 39 = .ok (.iinc 3 1, 3) := by decide +kernel
theorem dX2_greatest_42 : decode cX2_greatest 42 = .ok (.goto (-22), 3) := by decide +kernel
theorem dX2_greatest_45 : decode cX2_greatest 45 = .ok (.lload_n 1, 1) := by decide +kernel
theorem dX2_greatest_46 : decode cX2_greatest 46 = .ok (.lreturn, 1) := by decide +kernel
theorem dX2_exclusiveOr_0 : decode cX2_exclusiveOr 0 = .ok (.lconst 0, 1) := by decide +kernel
theorem dX2_exclusiveOr_1 : decode cX2_exclusiveOr 1 = .ok (.lstore_n 1, 1) := by decide +kernel
theorem dX2_exclusiveOr_2 : decode cX2_exclusiveOr 2 = .ok (.iconst 0, 1) := by decide +kernel
theorem dX2_exclusiveOr_3 : decode cX2_exclusiveOr 3 = .ok (.istore_n 3, 1) := by decide +kernel
theorem dX2_exclusiveOr_4 : decode cX2_exclusiveOr 4 = .ok (.iload_n 3, 1) := by decide +kernel
theorem dX2_exclusiveOr_5 : decode cX2_exclusiveOr 5 = .ok (.aload_n 0, 1) := by decide +kernel
theorem dX2_exclusiveOr_6 : decode cX2_exclusiveOr 6 = .ok (.getfield 36, 3) := by decide +kernel
theorem dX2_exclusiveOr_9 : decode cX2_exclusiveOr 9 = .ok (.if_icmp .ge 18, 3) := by decide +kernel
theorem dX2_exclusiveOr_12 : decode cX2_exclusiveOr 12 = .ok (.lload_n 1, 1) := by decide +kernel
theorem dX2_exclusiveOr_13 : decode cX2_exclusiveOr 13 = .ok (.aload_n 0, 1) := by decide +kernel
theorem dX2_exclusiveOr_14 : decode cX2_exclusiveOr 14 = .ok (.getfield 18, 3) := by decide +kernel
theorem dX2_exclusiveOr_17 : decode cX2_exclusiveOr 17 = .ok (.iload_n 3, 1) := by decide +kernel
theorem dX2_exclusiveOr_18 : decode cX2_exclusiveOr 18 = .ok (.laload, 1) := by decide +kernel
theorem dX2_exclusiveOr_19 : decode cX2_exclusiveOr 19 = .ok (.lxor, 1) := by decide +kernel
theorem dX2_exclusiveOr_20 : decode cX2_exclusiveOr 20 = .ok (.lstore_n 1, 1) := by decide +kernel
theorem dX2_exclusiveOr_21 : decode cX2_exclusiveOr 21 = .ok (.iinc 3 1, 3) := by decide +kernel
theorem dX2_exclusiveOr_24 : decode cX2_exclusiveOr 24 = .ok (.goto (-20), 3) := by decide +kernel
theorem dX2_exclusiveOr_27 : decode cX2_exclusiveOr 27 = .ok (.lload_n 1, 1) := by decide +kernel
theorem dX2_exclusiveOr_28 : decode cX2_exclusiveOr 28 = .ok (.lreturn, 1) := by decide +kernel
theorem dX2_differentOnes_0 : decode cX2_differentOnes 0 = .ok (.lconst 0, 1) := by decide +kernel
theorem dX2_differentOnes_1 : decode cX2_differentOnes 1 = .ok (.lstore_n 1, 1) := by decide +kernel
theorem dX2_differentOnes_2 : decode cX2_differentOnes 2 = .ok (.iconst 0, 1) := by decide +kernel
theorem dX2_differentOnes_3 : decode cX2_differentOnes 3 = .ok (.istore_n 3, 1) := by decide +kernel
theorem dX2_differentOnes_4 : decode cX2_differentOnes 4 = .ok (.iload_n 3, 1) := by decide +kernel
theorem dX2_differentOnes_5 : decode cX2_differentOnes 5 = .ok (.aload_n 0, 1) := by decide +kernel
theorem dX2_differentOnes_6 : decode cX2_differentOnes 6 = .ok (.getfield 36, 3) := by decide +kernel
theorem dX2_differentOnes_9 : decode cX2_differentOnes 9 = .ok (.if_icmp .ge 21, 3) := by decide +kernel
theorem dX2_differentOnes_12 : decode cX2_differentOnes 12 = .ok (.aload_n 0, 1) := by decide +kernel
theorem dX2_differentOnes_13 : decode cX2_differentOnes 13 = .ok (.iload_n 3, 1) := by decide +kernel
theorem dX2_differentOnes_14 : decode cX2_differentOnes 14 = .ok (.invokevirtual 71, 3) := by decide +kernel
theorem dX2_differentOnes_17 : decode cX2_differentOnes 17 = .ok (.ifCond .eq 7, 3) := by decide +kernel
theorem dX2_differentOnes_20 : decode cX2_differentOnes 20 = .ok (.lload_n 1, 1) := by decide +kernel
theorem dX2_differentOnes_21 : decode cX2_differentOnes 21 = .ok (.lconst 1, 1) := by decide +kernel
theorem dX2_differentOnes_22 : decode cX2_differentOnes 22 = .ok (.ladd, 1) := by decide +kernel
theorem dX2_differentOnes_23 : decode cX2_differentOnes 23 = .ok (.lstore_n 1, 1) := by decide +kernel
theorem dX2_differentOnes_24 : decode cX2_differentOnes 24 = .ok (.iinc 3 1, 3) := by decide +kernel
theorem dX2_differentOnes_27 : decode cX2_differentOnes 27 = .ok (.goto (-23), 3) := by decide +kernel
theorem dX2_differentOnes_30 : decode cX2_differentOnes 30 = .ok (.lload_n 1, 1) := by decide +kernel
theorem dX2_differentOnes_31 : decode cX2_differentOnes 31 = .ok (.lreturn, 1) := by decide +kernel
theorem dX2_isFirstOfItsValue_0 : decode cX2_isFirstOfItsValue 0 = .ok (.iconst 0, 1) := by decide +kernel
theorem dX2_isFirstOfItsValue_1 : decode cX2_isFirstOfItsValue 1 = .ok (.istore_n 2, 1) := by decide +kernel
theorem dX2_isFirstOfItsValue_2 : decode cX2_isFirstOfItsValue 2 = .ok (.iload_n 2, 1) := by decide +kernel
theorem dX2_isFirstOfItsValue_3 : decode cX2_isFirstOfItsValue 3 = .ok (.iload_n 1, 1) := by decide +kernel
theorem dX2_isFirstOfItsValue_4 : decode cX2_isFirstOfItsValue 4 = .ok (.if_icmp .ge 27, 3) := by decide +kernel
theorem dX2_isFirstOfItsValue_7 : decode cX2_isFirstOfItsValue 7 = .ok (.aload_n 0, 1) := by decide +kernel
theorem dX2_isFirstOfItsValue_8 : decode cX2_isFirstOfItsValue 8 = .ok (.getfield 18, 3) := by decide +kernel
theorem dX2_isFirstOfItsValue_11 : decode cX2_isFirstOfItsValue 11 = .ok (.iload_n 2, 1) := by decide +kernel
theorem dX2_isFirstOfItsValue_12 : decode cX2_isFirstOfItsValue 12 = .ok (.laload, 1) := by decide +kernel
end
section
theorem dX2_isFirstOfItsValue_13 : decode cX2_isFirstOfItsValue 13 = .ok (.aload_n 0, 1) := by decide +kernel
theorem dX2_isFirstOfItsValue_14 : decode cX2_isFirstOfItsValue 14 = .ok (.getfield 18, 3) := by decide +kernel
theorem dX2_isFirstOfItsValue_17 : decode cX2_isFirstOfItsValue 17 = .ok (.iload_n 1, 1) := by decide +kernel
theorem dX2_isFirstOfItsValue_18 : decode cX2_isFirstOfItsValue 18 = .ok (.laload, 1) := by decide +kernel
theorem dX2_isFirstOfItsValue_19 : decode cX2_isFirstOfItsValue 19 = .ok (.lcmp, 1) := by decide +kernel
theorem dX2_isFirstOfItsValue_20 : decode cX2_isFirstOfItsValue 20 = .ok (.ifCond .ne 5, 3) := by decide +kernel
theorem dX2_isFirstOfItsValue_23 : decode cX2_isFirstOfItsValue 23 = .ok (.iconst 0, 1) := by decide +kernel
theorem dX2_isFirstOfItsValue_24 : decode cX2_isFirstOfItsValue 24 = .ok (.ireturn, 1) := by decide +kernel
theorem dX2_isFirstOfItsValue_25 : decode cX2_isFirstOfItsValue 25 = .ok (.iinc 2 1, 3) := by decide +kernel
theorem dX2_isFirstOfItsValue_28 : decode cX2_isFirstOfItsValue 28 = .ok (.goto (-26), 3) := by decide +kernel
theorem dX2_isFirstOfItsValue_31 : decode cX2_isFirstOfItsValue 31 = .ok (.iconst 1, 1) := by decide +kernel
theorem dX2_isFirstOfItsValue_32 : decode cX2_isFirstOfItsValue 32 = .ok (.ireturn, 1) := by decide +kernel
theorem dX3_init_0 : decode cX3_init 0 = .ok (.aload_n 0, 1) := by decide +kernel
theorem dX3_init_1 : decode cX3_init 1 = .ok (.invokespecial 1, 3) := by decide +kernel
theorem dX3_init_4 : decode cX3_init 4 = .ok (.aload_n 0, 1) := by decide +kernel
theorem dX3_init_5 : decode cX3_init 5 = .ok (.bipush 6, 2) := by decide +kernel
theorem dX3_init_7 : decode cX3_init 7 = .ok (.bipush 24, 2) := by decide +kernel
theorem dX3_init_9 : decode cX3_init 9 = .ok (.multianewarray 9 2, 4) := by decide +kernel
theorem dX3_init_13 : decode cX3_init 13 = .ok (.putfield 11, 3) := by decide +kernel
theorem dX3_init_16 : decode cX3_init 16 = .ok (.aload_n 0, 1) := by decide +kernel
theorem dX3_init_17 : decode cX3_init 17 = .ok (.aload_n 0, 1) := by decide +kernel
theorem dX3_init_18 : decode cX3_init 18 = .ok (.getfield 11, 3) := by decide +kernel
theorem dX3_init_21 : decode cX3_init 21 = .ok (.iconst 0, 1) := by decide +kernel
theorem dX3_init_22 : decode cX3_init 22 = .ok (.aaload, 1) := by decide +kernel
theorem dX3_init_23 : decode cX3_init 23 = .ok (.putfield 14, 3) := by decide +kernel
theorem dX3_init_26 : decode cX3_init 26 = .ok (.aload_n 0, 1) := by decide +kernel
theorem dX3_init_27 : decode cX3_init 27 = .ok (.bipush 24, 2) := by decide +kernel
theorem dX3_init_29 : decode cX3_init 29 = .ok (.newarray .int, 2) := by decide +kernel
theorem dX3_init_31 : decode cX3_init 31 = .ok (.putfield 18, 3) := by decide +kernel
theorem dX3_init_34 : decode cX3_init 34 = .ok (.aload_n 0, 1) := by decide +kernel
theorem dX3_init_35 : decode cX3_init 35 = .ok (.bipush 12, 2) := by decide +kernel
theorem dX3_init_37 : decode cX3_init 37 = .ok (.anewarray 22, 3) := by decide +kernel
theorem dX3_init_40 : decode cX3_init 40 = .ok (.putfield 24, 3) := by decide +kernel
theorem dX3_init_43 : decode cX3_init 43 = .ok (.aload_n 0, 1) := by decide +kernel
theorem dX3_init_44 : decode cX3_init 44 = .ok (.bipush 40, 2) := by decide +kernel
theorem dX3_init_46 : decode cX3_init 46 = .ok (.anewarray 28, 3) := by decide +kernel
theorem dX3_init_49 : decode cX3_init 49 = .ok (.putfield 30, 3) := by decide +kernel
theorem dX3_init_52 : decode cX3_init 52 = .ok (.aload_n 0, 1) := by decide +kernel
theorem dX3_init_53 : decode cX3_init 53 = .ok (.new 34, 3) := by decide +kernel
theorem dX3_init_56 : decode cX3_init 56 = .ok (.dup, 1) := by decide +kernel
theorem dX3_init_57 : decode cX3_init 57 = .ok (.invokespecial 36, 3) := by decide +kernel
theorem dX3_init_60 : decode cX3_init 60 = .ok (.putfield 37, 3) := by decide +kernel
theorem dX3_init_63 : decode cX3_init 63 = .ok (.aload_n 0, 1) := by decide +kernel
theorem dX3_init_64 : decode cX3_init 64 = .ok (.iconst 0, 1) := by decide +kernel
theorem dX3_init_65 : decode cX3_init 65 = .ok (.putfield 41, 3) := by decide +kernel
theorem dX3_init_68 : decode cX3_init 68 = .ok (.aload_n 0, 1) := by decide +kernel
theorem dX3_init_69 : decode cX3_init 69 = .ok (.iconst 1, 1) := by decide +kernel
theorem dX3_init_70 : decode cX3_init 70 = .ok (.putfield 45, 3) := by decide +kernel
theorem dX3_init_73 : decode cX3_init 73 = .ok (.aload_n 0, 1) := by decide +kernel
theorem dX3_init_74 : decode cX3_init 74 = .ok (.iconst 0, 1) := by decide +kernel
theorem dX3_init_75 : decode cX3_init 75 = .ok (.putfield 48, 3) := by decide +kernel
theorem dX3_init_78 : decode cX3_init 78 = .ok (.aload_n 0, 1) := by decide +kernel
theorem dX3_init_79 : decode cX3_init 79 = .ok (.iconst 0, 1) := by decide +kernel
theorem dX3_init_80 : decode cX3_init 80 = .ok (.putfield 51, 3) := by decide +kernel
theorem dX3_init_83 : decode cX3_init 83 = .ok (.aload_n 0, 1) := by decide +kernel
theorem dX3_init_84 : decode cX3_init 84 = .ok (.iconst 0, 1) := by decide +kernel
theorem dX3_init_85 : decode cX3_init 85 = .ok (.putfield 54, 3) := by decide +kernel
theorem dX3_init_88 : decode cX3_init 88 = .ok (.return_, 1) := by decide +kernel
theorem dX3_thing_0 : decode cX3_thing 0 = .ok (.aload_n 0, 1) := by decide +kernel
theorem dX3_thing_1 : decode cX3_thing 1 = .ok (.getfield 41, 3) := by decide +kernel
theorem dX3_thing_4 : decode cX3_thing 4 = .ok (.bipush 24, 2) := by decide +kernel
theorem dX3_thing_6 : decode cX3_thing 6 = .ok (.if_icmp .lt 5, 3) := by decide +kernel
theorem dX3_thing_9 : decode cX3_thing 9 = .ok (.iconst (-1), 1) := by decide +kernel
theorem dX3_thing_10 : decode cX3_thing 10 = .ok (.ireturn, 1) := by decide +kernel
theorem dX3_thing_11 : decode cX3_thing 11 = .ok (.iconst 0, 1) := by decide +kernel
theorem dX3_thing_12 : decode cX3_thing 12 = .ok (.istore_n 3, 1) := by decide +kernel
theorem dX3_thing_13 : decode cX3_thing 13 = .ok (.iload_n 3, 1) := by decide +kernel
theorem dX3_thing_14 : decode cX3_thing 14 = .ok (.bipush 6, 2) := by decide +kernel
theorem dX3_thing_16 : decode cX3_thing 16 = .ok (.if_icmp .ge 21, 3) := by decide +kernel
theorem dX3_thing_19 : decode cX3_thing 19 = .ok (.aload_n 0, 1) := by decide +kernel
theorem dX3_thing_20 : decode cX3_thing 20 = .ok (.getfield 11, 3) := by decide +kernel
theorem dX3_thing_23 : decode cX3_thing 23 = .ok (.iload_n 3, 1) := by decide +kernel
theorem dX3_thing_24 : decode cX3_thing 24 = .ok (.aaload, 1) := by decide +kernel
theorem dX3_thing_25 : decode cX3_thing 25 = .ok (.aload_n 0, 1) := by decide +kernel
theorem dX3_thing_26 : decode cX3_thing 26 = .ok (.getfield 41, 3) := by decide +kernel
theorem dX3_thing_29 : decode cX3_thing 29 = .ok (.lload_n 1, 1) := by decide +kernel
theorem dX3_thing_30 : decode cX3_thing 30 = .ok (.lastore, 1) := by decide +kernel
theorem dX3_thing_31 : decode cX3_thing 31 = .ok (.iinc 3 1, 3) := by decide +kernel
theorem dX3_thing_34 : decode cX3_thing 34 = .ok (.goto (-21), 3) := by decide +kernel
theorem dX3_thing_37 : decode cX3_thing 37 = .ok (.aload_n 0, 1) := by decide +kernel
theorem dX3_thing_38 : decode cX3_thing 38 = .ok (.getfield 18, 3) := by decide +kernel
theorem dX3_thing_41 : decode cX3_thing 41 = .ok (.aload_n 0, 1) := by decide +kernel
theorem dX3_thing_42 : decode cX3_thing 42 = .ok (.getfield 41, 3) := by decide +kernel
theorem dX3_thing_45 : decode cX3_thing 45 = .ok (.iconst (-1), 1) := by decide +kernel
theorem dX3_thing_46 : decode cX3_thing 46 = .ok (.iastore, 1) := by decide +kernel
theorem dX3_thing_47 : decode cX3_thing 47 = .ok (.aload_n 0, 1) := by decide +kernel
theorem dX3_thing_48 : decode cX3_thing 48 = .ok (.dup, 1) := by decide +kernel
theorem dX3_thing_49 : decode cX3_thing 49 = .ok (.getfield 41, 3) := by decide +kernel
theorem dX3_thing_52 : decode cX3_thing 52 = .ok (.iconst 1, 1) := by decide +kernel
theorem dX3_thing_53 : decode cX3_thing 53 = .ok (.iadd, 1) := by decide +kernel
theorem dX3_thing_54 : decode cX3_thing 54 = .ok (.putfield 41, 3) := by decide +kernel
theorem dX3_thing_57 : decode cX3_thing 57 = .ok (.aload_n 0, 1) := by decide +kernel
theorem dX3_thing_58 : decode cX3_thing 58 = .ok (.getfield 41, 3) := by decide +kernel
theorem dX3_thing_61 : decode cX3_thing 61 = .ok (.iconst 1, 1) := by decide +kernel
theorem dX3_thing_62 : decode cX3_thing 62 = .ok (.isub, 1) := by decide +kernel
theorem dX3_thing_63 : decode cX3_thing 63 = .ok (.ireturn, 1) := by decide +kernel
theorem dX3_step_0 : decode cX3_step 0 = .ok (.iload_n 1, 1) := by decide +kernel
theorem dX3_step_1 : decode cX3_step 1 = .ok (.ifCond .lt 8, 3) := by decide +kernel
theorem dX3_step_4 : decode cX3_step 4 = .ok (.iload_n 1, 1) := by decide +kernel
theorem dX3_step_5 : decode cX3_step 5 = .ok (.iconst 3, 1) := by decide +kernel
theorem dX3_step_6 : decode cX3_step 6 = .ok (.if_icmp .le 6, 3) := by decide +kernel
theorem dX3_step_9 : decode cX3_step 9 = .ok (.bipush (-2), 2) := by decide +kernel
theorem dX3_step_11 : decode cX3_step 11 = .ok (.ireturn, 1) := by decide +kernel
theorem dX3_step_12 : decode cX3_step 12 = .ok (.aload_n 0, 1) := by decide +kernel
theorem dX3_step_13 : decode cX3_step 13 = .ok (.getfield 48, 3) := by decide +kernel
theorem dX3_step_16 : decode cX3_step 16 = .ok (.bipush 12, 2) := by decide +kernel
theorem dX3_step_18 : decode cX3_step 18 = .ok (.if_icmp .lt 5, 3) := by decide +kernel
theorem dX3_step_21 : decode cX3_step 21 = .ok (.iconst (-1), 1) := by decide +kernel
theorem dX3_step_22 : decode cX3_step 22 = .ok (.ireturn, 1) := by decide +kernel
theorem dX3_step_23 : decode cX3_step 23 = .ok (.aload_n 0, 1) := by decide +kernel
theorem dX3_step_24 : decode cX3_step 24 = .ok (.getfield 24, 3) := by decide +kernel
theorem dX3_step_27 : decode cX3_step 27 = .ok (.aload_n 0, 1) := by decide +kernel
theorem dX3_step_28 : decode cX3_step 28 = .ok (.getfield 48, 3) := by decide +kernel
theorem dX3_step_31 : decode cX3_step 31 = .ok (.new 22, 3) := by decide +kernel
theorem dX3_step_34 : decode cX3_step 34 = .ok (.dup, 1) := by decide +kernel
theorem dX3_step_35 : decode cX3_step 35 = .ok (.iload_n 1, 1) := by decide +kernel
theorem dX3_step_36 : decode cX3_step 36 = .ok (.invokespecial 57, 3) := by decide +kernel
theorem dX3_step_39 : decode cX3_step 39 = .ok (.aastore, 1) := by decide +kernel
theorem dX3_step_40 : decode cX3_step 40 = .ok (.aload_n 0, 1) := by decide +kernel
theorem dX3_step_41 : decode cX3_step 41 = .ok (.dup, 1) := by decide +kernel
theorem dX3_step_42 : decode cX3_step 42 = .ok (.getfield 48, 3) := by decide +kernel
theorem dX3_step_45 : decode cX3_step 45 = .ok (.iconst 1, 1) := by decide +kernel
theorem dX3_step_46 : decode cX3_step 46 = .ok (.iadd, 1) := by decide +kernel
theorem dX3_step_47 : decode cX3_step 47 = .ok (.putfield 48, 3) := by decide +kernel
theorem dX3_step_50 : decode cX3_step 50 = .ok (.aload_n 0, 1) := by decide +kernel
theorem dX3_step_51 : decode cX3_step 51 = .ok (.getfield 48, 3) := by decide +kernel
theorem dX3_step_54 : decode cX3_step 54 = .ok (.iconst 1, 1) := by decide +kernel
theorem dX3_step_55 : decode cX3_step 55 = .ok (.isub, 1) := by decide +kernel
theorem dX3_step_56 : decode cX3_step 56 = .ok (.ireturn, 1) := by decide +kernel
theorem dX3_uses_0 : decode cX3_uses 0 = .ok (.aload_n 0, 1) := by decide +kernel
theorem dX3_uses_1 : decode cX3_uses 1 = .ok (.iload_n 1, 1) := by decide +kernel
theorem dX3_uses_2 : decode cX3_uses 2 = .ok (.invokevirtual 60, 3) := by decide +kernel
theorem dX3_uses_5 : decode cX3_uses 5 = .ok (.ifCond .eq 11, 3) := by decide +kernel
theorem dX3_uses_8 : decode cX3_uses 8 = .ok (.aload_n 0, 1) := by decide +kernel
theorem dX3_uses_9 : decode cX3_uses 9 = .ok (.iload_n 2, 1) := by decide +kernel
theorem dX3_uses_10 : decode cX3_uses 10 = .ok (.invokevirtual 64, 3) := by decide +kernel
theorem dX3_uses_13 : decode cX3_uses 13 = .ok (.ifCond .ne 5, 3) := by decide +kernel
theorem dX3_uses_16 : decode cX3_uses 16 = .ok (.iconst 0, 1) := by decide +kernel
theorem dX3_uses_17 : decode cX3_uses 17 = .ok (.ireturn, 1) := by decide +kernel
theorem dX3_uses_18 : decode cX3_uses 18 = .ok (.aload_n 0, 1) := by decide +kernel
theorem dX3_uses_19 : decode cX3_uses 19 = .ok (.getfield 24, 3) := by decide +kernel
theorem dX3_uses_22 : decode cX3_uses 22 = .ok (.iload_n 1, 1) := by decide +kernel
theorem dX3_uses_23 : decode cX3_uses 23 = .ok (.aaload, 1) := by decide +kernel
theorem dX3_uses_24 : decode cX3_uses 24 = .ok (.astore_n 3, 1) := by decide +kernel
theorem dX3_uses_25 : decode cX3_uses 25 = .ok (.aload_n 3, 1) := by decide +kernel
theorem dX3_uses_26 : decode cX3_uses 26 = .ok (.iload_n 2, 1) := by decide +kernel
theorem dX3_uses_27 : decode cX3_uses 27 = .ok (.invokevirtual 67, 3) := by decide +kernel
theorem dX3_uses_30 : decode cX3_uses 30 = .ok (.ifCond .ne 12, 3) := by decide +kernel
theorem dX3_uses_33 : decode cX3_uses 33 = .ok (.aload_n 3, 1) := by decide +kernel
theorem dX3_uses_34 : decode cX3_uses 34 = .ok (.getfield 70, 3) := by decide +kernel
theorem dX3_uses_37 : decode cX3_uses 37 = .ok (.bipush 8, 2) := by decide +kernel
theorem dX3_uses_39 : decode cX3_uses 39 = .ok (.if_icmp .lt 5, 3) := by decide +kernel
theorem dX3_uses_42 : decode cX3_uses 42 = .ok (.iconst 0, 1) := by decide +kernel
theorem dX3_uses_43 : decode cX3_uses 43 = .ok (.ireturn, 1) := by decide +kernel
theorem dX3_uses_44 : decode cX3_uses 44 = .ok (.aload_n 0, 1) := by decide +kernel
theorem dX3_uses_45 : decode cX3_uses 45 = .ok (.getfield 18, 3) := by decide +kernel
theorem dX3_uses_48 : decode cX3_uses 48 = .ok (.iload_n 2, 1) := by decide +kernel
theorem dX3_uses_49 : decode cX3_uses 49 = .ok (.iaload, 1) := by decide +kernel
theorem dX3_uses_50 : decode cX3_uses 50 = .ok (.istore 4, 2) := by decide +kernel
theorem dX3_uses_52 : decode cX3_uses 52 = .ok (.iload 4, 2) := by decide +kernel
theorem dX3_uses_54 : decode cX3_uses 54 = .ok (.iconst (-1), 1) := by decide +kernel
theorem dX3_uses_55 : decode cX3_uses 55 = .ok (.if_icmp .eq 22, 3) := by decide +kernel
theorem dX3_uses_58 : decode cX3_uses 58 = .ok (.aload_n 0, 1) := by decide +kernel
theorem dX3_uses_59 : decode cX3_uses 59 = .ok (.iload_n 1, 1) := by decide +kernel
theorem dX3_uses_60 : decode cX3_uses 60 = .ok (.iload 4, 2) := by decide +kernel
theorem dX3_uses_62 : decode cX3_uses 62 = .ok (.invokevirtual 73, 3) := by decide +kernel
theorem dX3_uses_65 : decode cX3_uses 65 = .ok (.ifCond .eq 5, 3) := by decide +kernel
theorem dX3_uses_68 : decode cX3_uses 68 = .ok (.iconst 0, 1) := by decide +kernel
theorem dX3_uses_69 : decode cX3_uses 69 = .ok (.ireturn, 1) := by decide +kernel
theorem dX3_uses_70 : decode cX3_uses 70 = .ok (.aload_n 0, 1) := by decide +kernel
theorem dX3_uses_71 : decode cX3_uses 71 = .ok (.iload 4, 2) := by decide +kernel
theorem dX3_uses_73 : decode cX3_uses 73 = .ok (.iload_n 1, 1) := by decide +kernel
theorem dX3_uses_74 : decode cX3_uses 74 = .ok (.invokevirtual 77, 3) := by decide +kernel
theorem dX3_uses_77 : decode cX3_uses 77 = .ok (.aload_n 3, 1) := by decide +kernel
theorem dX3_uses_78 : decode cX3_uses 78 = .ok (.iload_n 2, 1) := by decide +kernel
theorem dX3_uses_79 : decode cX3_uses 79 = .ok (.invokevirtual 81, 3) := by decide +kernel
theorem dX3_uses_82 : decode cX3_uses 82 = .ok (.iconst 1, 1) := by decide +kernel
theorem dX3_uses_83 : decode cX3_uses 83 = .ok (.ireturn, 1) := by decide +kernel
theorem dX3_makes_0 : decode cX3_makes 0 = .ok (.aload_n 0, 1) := by decide +kernel
theorem dX3_makes_1 : decode cX3_makes 1 = .ok (.iload_n 1, 1) := by decide +kernel
theorem dX3_makes_2 : decode cX3_makes 2 = .ok (.invokevirtual 60, 3) := by decide +kernel
theorem dX3_makes_5 : decode cX3_makes 5 = .ok (.ifCond .eq 11, 3) := by decide +kernel
theorem dX3_makes_8 : decode cX3_makes 8 = .ok (.aload_n 0, 1) := by decide +kernel
theorem dX3_makes_9 : decode cX3_makes 9 = .ok (.iload_n 2, 1) := by decide +kernel
theorem dX3_makes_10 : decode cX3_makes 10 = .ok (.invokevirtual 64, 3) := by decide +kernel
theorem dX3_makes_13 : decode cX3_makes 13 = .ok (.ifCond .ne 5, 3) := by decide +kernel
theorem dX3_makes_16 : decode cX3_makes 16 = .ok (.iconst 0, 1) := by decide +kernel
theorem dX3_makes_17 : decode cX3_makes 17 = .ok (.ireturn, 1) := by decide +kernel
theorem dX3_makes_18 : decode cX3_makes 18 = .ok (.aload_n 0, 1) := by decide +kernel
theorem dX3_makes_19 : decode cX3_makes 19 = .ok (.getfield 24, 3) := by decide +kernel
theorem dX3_makes_22 : decode cX3_makes 22 = .ok (.iload_n 1, 1) := by decide +kernel
theorem dX3_makes_23 : decode cX3_makes 23 = .ok (.aaload, 1) := by decide +kernel
theorem dX3_makes_24 : decode cX3_makes 24 = .ok (.astore_n 3, 1) := by decide +kernel
theorem dX3_makes_25 : decode cX3_makes 25 = .ok (.aload_n 0, 1) := by decide +kernel
theorem dX3_makes_26 : decode cX3_makes 26 = .ok (.getfield 18, 3) := by decide +kernel
theorem dX3_makes_29 : decode cX3_makes 29 = .ok (.iload_n 2, 1) := by decide +kernel
theorem dX3_makes_30 : decode cX3_makes 30 = .ok (.iaload, 1) := by decide +kernel
theorem dX3_makes_31 : decode cX3_makes 31 = .ok (.iconst (-1), 1) := by decide +kernel
theorem dX3_makes_32 : decode cX3_makes 32 = .ok (.if_icmp .ne 20, 3) := by decide +kernel
theorem dX3_makes_35 : decode cX3_makes 35 = .ok (.aload_n 3, 1) := by decide +kernel
theorem dX3_makes_36 : decode cX3_makes 36 = .ok (.getfield 84, 3) := by decide +kernel
theorem dX3_makes_39 : decode cX3_makes 39 = .ok (.iconst 4, 1) := by decide +kernel
theorem dX3_makes_40 : decode cX3_makes 40 = .ok (.if_icmp .ge 12, 3) := by decide +kernel
theorem dX3_makes_43 : decode cX3_makes 43 = .ok (.aload_n 0, 1) := by decide +kernel
theorem dX3_makes_44 : decode cX3_makes 44 = .ok (.iload_n 2, 1) := by decide +kernel
theorem dX3_makes_45 : decode cX3_makes 45 = .ok (.iload_n 1, 1) := by decide +kernel
theorem dX3_makes_46 : decode cX3_makes 46 = .ok (.invokevirtual 87, 3) := by decide +kernel
theorem dX3_makes_49 : decode cX3_makes 49 = .ok (.ifCond .eq 5, 3) := by decide +kernel
theorem dX3_makes_52 : decode cX3_makes 52 = .ok (.iconst 0, 1) := by decide +kernel
theorem dX3_makes_53 : decode cX3_makes 53 = .ok (.ireturn, 1) := by decide +kernel
theorem dX3_makes_54 : decode cX3_makes 54 = .ok (.iconst 0, 1) := by decide +kernel
theorem dX3_makes_55 : decode cX3_makes 55 = .ok (.istore 4, 2) := by decide +kernel
theorem dX3_makes_57 : decode cX3_makes 57 = .ok (.iload 4, 2) := by decide +kernel
theorem dX3_makes_59 : decode cX3_makes 59 = .ok (.aload_n 0, 1) := by decide +kernel
theorem dX3_makes_60 : decode cX3_makes 60 = .ok (.getfield 48, 3) := by decide +kernel
theorem dX3_makes_63 : decode cX3_makes 63 = .ok (.if_icmp .ge 30, 3) := by decide +kernel
theorem dX3_makes_66 : decode cX3_makes 66 = .ok (.aload_n 0, 1) := by decide +kernel
theorem dX3_makes_67 : decode cX3_makes 67 = .ok (.getfield 24, 3) := by decide +kernel
theorem dX3_makes_70 : decode cX3_makes 70 = .ok (.iload 4, 2) := by decide +kernel
theorem dX3_makes_72 : decode cX3_makes 72 = .ok (.aaload, 1) := by decide +kernel
theorem dX3_makes_73 : decode cX3_makes 73 = .ok (.iload_n 2, 1) := by decide +kernel
theorem dX3_makes_74 : decode cX3_makes 74 = .ok (.invokevirtual 67, 3) := by decide +kernel
theorem dX3_makes_77 : decode cX3_makes 77 = .ok (.ifCond .eq 10, 3) := by decide +kernel
theorem dX3_makes_80 : decode cX3_makes 80 = .ok (.aload_n 0, 1) := by decide +kernel
theorem dX3_makes_81 : decode cX3_makes 81 = .ok (.iload_n 1, 1) := by decide +kernel
theorem dX3_makes_82 : decode cX3_makes 82 = .ok (.iload 4, 2) := by decide +kernel
theorem dX3_makes_84 : decode cX3_makes 84 = .ok (.invokevirtual 77, 3) := by decide +kernel
theorem dX3_makes_87 : decode cX3_makes 87 = .ok (.iinc 4 1, 3) := by decide +kernel
theorem dX3_makes_90 : decode cX3_makes 90 = .ok (.goto (-33), 3) := by decide +kernel
theorem dX3_makes_93 : decode cX3_makes 93 = .ok (.aload_n 3, 1) := by decide +kernel
theorem dX3_makes_94 : decode cX3_makes 94 = .ok (.iload_n 2, 1) := by decide +kernel
theorem dX3_makes_95 : decode cX3_makes 95 = .ok (.invokevirtual 90, 3) := by decide +kernel
theorem dX3_makes_98 : decode cX3_makes 98 = .ok (.aload_n 0, 1) := by decide +kernel
theorem dX3_makes_99 : decode cX3_makes 99 = .ok (.getfield 18, 3) := by decide +kernel
theorem dX3_makes_102 : decode cX3_makes 102 = .ok (.iload_n 2, 1) := by decide +kernel
theorem dX3_makes_103 : decode cX3_makes 103 = .ok (.iload_n 1, 1) := by decide +kernel
theorem dX3_makes_104 : decode cX3_makes 104 = .ok (.iastore, 1) := by decide +kernel
theorem dX3_makes_105 : decode cX3_makes 105 = .ok (.iconst 1, 1) := by decide +kernel
theorem dX3_makes_106 : decode cX3_makes 106 = .ok (.ireturn, 1) := by decide +kernel
theorem dX3_session_0 : decode cX3_session 0 = .ok (.aload_n 0, 1) := by decide +kernel
theorem dX3_session_1 : decode cX3_session 1 = .ok (.getfield 51, 3) := by decide +kernel
theorem dX3_session_4 : decode cX3_session 4 = .ok (.bipush 40, 2) := by decide +kernel
theorem dX3_session_6 : decode cX3_session 6 = .ok (.if_icmp .lt 5, 3) := by decide +kernel
theorem dX3_session_9 : decode cX3_session 9 = .ok (.iconst (-1), 1) := by decide +kernel
theorem dX3_session_10 : decode cX3_session 10 = .ok (.ireturn, 1) := by decide +kernel
theorem dX3_session_11 : decode cX3_session 11 = .ok (.aload_n 0, 1) := by decide +kernel
theorem dX3_session_12 : decode cX3_session 12 = .ok (.getfield 30, 3) := by decide +kernel
theorem dX3_session_15 : decode cX3_session 15 = .ok (.aload_n 0, 1) := by decide +kernel
theorem dX3_session_16 : decode cX3_session 16 = .ok (.getfield 51, 3) := by decide +kernel
theorem dX3_session_19 : decode cX3_session 19 = .ok (.new 28, 3) := by decide +kernel
theorem dX3_session_22 : decode cX3_session 22 = .ok (.dup, 1) := by decide +kernel
theorem dX3_session_23 : decode cX3_session 23 = .ok (.invokespecial 93, 3) := by decide +kernel
theorem dX3_session_26 : decode cX3_session 26 = .ok (.aastore, 1) := by decide +kernel
theorem dX3_session_27 : decode cX3_session 27 = .ok (.aload_n 0, 1) := by decide +kernel
theorem dX3_session_28 : decode cX3_session 28 = .ok (.dup, 1) := by decide +kernel
theorem dX3_session_29 : decode cX3_session 29 = .ok (.getfield 51, 3) := by decide +kernel
theorem dX3_session_32 : decode cX3_session 32 = .ok (.iconst 1, 1) := by decide +kernel
theorem dX3_session_33 : decode cX3_session 33 = .ok (.iadd, 1) := by decide +kernel
theorem dX3_session_34 : decode cX3_session 34 = .ok (.putfield 51, 3) := by decide +kernel
theorem dX3_session_37 : decode cX3_session 37 = .ok (.aload_n 0, 1) := by decide +kernel
theorem dX3_session_38 : decode cX3_session 38 = .ok (.getfield 51, 3) := by decide +kernel
theorem dX3_session_41 : decode cX3_session 41 = .ok (.iconst 1, 1) := by decide +kernel
theorem dX3_session_42 : decode cX3_session 42 = .ok (.isub, 1) := by decide +kernel
theorem dX3_session_43 : decode cX3_session 43 = .ok (.ireturn, 1) := by decide +kernel
theorem dX3_read_0 : decode cX3_read 0 = .ok (.aload_n 0, 1) := by decide +kernel
theorem dX3_read_1 : decode cX3_read 1 = .ok (.iload_n 1, 1) := by decide +kernel
theorem dX3_read_2 : decode cX3_read 2 = .ok (.invokevirtual 94, 3) := by decide +kernel
theorem dX3_read_5 : decode cX3_read 5 = .ok (.ifCond .eq 11, 3) := by decide +kernel
theorem dX3_read_8 : decode cX3_read 8 = .ok (.aload_n 0, 1) := by decide +kernel
theorem dX3_read_9 : decode cX3_read 9 = .ok (.iload_n 2, 1) := by decide +kernel
theorem dX3_read_10 : decode cX3_read 10 = .ok (.invokevirtual 64, 3) := by decide +kernel
theorem dX3_read_13 : decode cX3_read 13 = .ok (.ifCond .ne 5, 3) := by decide +kernel
theorem dX3_read_16 : decode cX3_read 16 = .ok (.lconst 0, 1) := by decide +kernel
theorem dX3_read_17 : decode cX3_read 17 = .ok (.lreturn, 1) := by decide +kernel
theorem dX3_read_18 : decode cX3_read 18 = .ok (.aload_n 0, 1) := by decide +kernel
theorem dX3_read_19 : decode cX3_read 19 = .ok (.getfield 30, 3) := by decide +kernel
theorem dX3_read_22 : decode cX3_read 22 = .ok (.iload_n 1, 1) := by decide +kernel
theorem dX3_read_23 : decode cX3_read 23 = .ok (.aaload, 1) := by decide +kernel
theorem dX3_read_24 : decode cX3_read 24 = .ok (.astore_n 3, 1) := by decide +kernel
theorem dX3_read_25 : decode cX3_read 25 = .ok (.aload_n 3, 1) := by decide +kernel
theorem dX3_read_26 : decode cX3_read 26 = .ok (.iload_n 2, 1) := by decide +kernel
theorem dX3_read_27 : decode cX3_read 27 = .ok (.aload_n 0, 1) := by decide +kernel
theorem dX3_read_28 : decode cX3_read 28 = .ok (.getfield 14, 3) := by decide +kernel
theorem dX3_read_31 : decode cX3_read 31 = .ok (.iload_n 2, 1) := by decide +kernel
theorem dX3_read_32 : decode cX3_read 32 = .ok (.laload, 1) := by decide +kernel
theorem dX3_read_33 : decode cX3_read 33 = .ok (.invokevirtual 97, 3) := by decide +kernel
theorem dX3_read_36 : decode cX3_read 36 = .ok (.aload_n 3, 1) := by decide +kernel
theorem dX3_read_37 : decode cX3_read 37 = .ok (.iload_n 2, 1) := by decide +kernel
theorem dX3_read_38 : decode cX3_read 38 = .ok (.invokevirtual 101, 3) := by decide +kernel
theorem dX3_read_41 : decode cX3_read 41 = .ok (.lreturn, 1) := by decide +kernel
theorem dX3_write_0 : decode cX3_write 0 = .ok (.aload_n 0, 1) := by decide +kernel
theorem dX3_write_1 : decode cX3_write 1 = .ok (.iload_n 1, 1) := by decide +kernel
theorem dX3_write_2 : decode cX3_write 2 = .ok (.invokevirtual 94, 3) := by decide +kernel
theorem dX3_write_5 : decode cX3_write 5 = .ok (.ifCond .eq 11, 3) := by decide +kernel
theorem dX3_write_8 : decode cX3_write 8 = .ok (.aload_n 0, 1) := by decide +kernel
theorem dX3_write_9 : decode cX3_write 9 = .ok (.iload_n 2, 1) := by decide +kernel
theorem dX3_write_10 : decode cX3_write 10 = .ok (.invokevirtual 64, 3) := by decide +kernel
theorem dX3_write_13 : decode cX3_write 13 = .ok (.ifCond .ne 5, 3) := by decide +kernel
theorem dX3_write_16 : decode cX3_write 16 = .ok (.iconst 0, 1) := by decide +kernel
theorem dX3_write_17 : decode cX3_write 17 = .ok (.ireturn, 1) := by decide +kernel
theorem dX3_write_18 : decode cX3_write 18 = .ok (.aload_n 0, 1) := by decide +kernel
theorem dX3_write_19 : decode cX3_write 19 = .ok (.getfield 30, 3) := by decide +kernel
theorem dX3_write_22 : decode cX3_write 22 = .ok (.iload_n 1, 1) := by decide +kernel
theorem dX3_write_23 : decode cX3_write 23 = .ok (.aaload, 1) := by decide +kernel
theorem dX3_write_24 : decode cX3_write 24 = .ok (.astore 5, 2) := by decide +kernel
theorem dX3_write_26 : decode cX3_write 26 = .ok (.aload 5, 2) := by decide +kernel
theorem dX3_write_28 : decode cX3_write 28 = .ok (.iload_n 2, 1) := by decide +kernel
theorem dX3_write_29 : decode cX3_write 29 = .ok (.aload_n 0, 1) := by decide +kernel
theorem dX3_write_30 : decode cX3_write 30 = .ok (.getfield 14, 3) := by decide +kernel
theorem dX3_write_33 : decode cX3_write 33 = .ok (.iload_n 2, 1) := by decide +kernel
theorem dX3_write_34 : decode cX3_write 34 = .ok (.laload, 1) := by decide +kernel
theorem dX3_write_35 : decode cX3_write 35 = .ok (.invokevirtual 97, 3) := by decide +kernel
theorem dX3_write_38 : decode cX3_write 38 = .ok (.aload 5, 2) := by decide +kernel
theorem dX3_write_40 : decode cX3_write 40 = .ok (.iload_n 2, 1) := by decide +kernel
theorem dX3_write_41 : decode cX3_write 41 = .ok (.lload_n 3, 1) := by decide +kernel
theorem dX3_write_42 : decode cX3_write 42 = .ok (.invokevirtual 105, 3) := by decide +kernel
theorem dX3_write_45 : decode cX3_write 45 = .ok (.iconst 1, 1) := by decide +kernel
theorem dX3_write_46 : decode cX3_write 46 = .ok (.ireturn, 1) := by decide +kernel
theorem dX3_join_0 : decode cX3_join 0 = .ok (.aload_n 0, 1) := by decide +kernel
theorem dX3_join_1 : decode cX3_join 1 = .ok (.iload_n 1, 1) := by decide +kernel
theorem dX3_join_2 : decode cX3_join 2 = .ok (.invokevirtual 94, 3) := by decide +kernel
theorem dX3_join_5 : decode cX3_join 5 = .ok (.ifCond .ne 6, 3) := by decide +kernel
theorem dX3_join_8 : decode cX3_join 8 = .ok (.bipush (-2), 2) := by decide +kernel
theorem dX3_join_10 : decode cX3_join 10 = .ok (.ireturn, 1) := by decide +kernel
theorem dX3_join_11 : decode cX3_join 11 = .ok (.aload_n 0, 1) := by decide +kernel
theorem dX3_join_12 : decode cX3_join 12 = .ok (.getfield 30, 3) := by decide +kernel
theorem dX3_join_15 : decode cX3_join 15 = .ok (.iload_n 1, 1) := by decide +kernel
theorem dX3_join_16 : decode cX3_join 16 = .ok (.aaload, 1) := by decide +kernel
theorem dX3_join_17 : decode cX3_join 17 = .ok (.astore_n 3, 1) := by decide +kernel
theorem dX3_join_18 : decode cX3_join 18 = .ok (.aload_n 0, 1) := by decide +kernel
theorem dX3_join_19 : decode cX3_join 19 = .ok (.aload_n 3, 1) := by decide +kernel
theorem dX3_join_20 : decode cX3_join 20 = .ok (.invokevirtual 108, 3) := by decide +kernel
theorem dX3_join_23 : decode cX3_join 23 = .ok (.istore 4, 2) := by decide +kernel
theorem dX3_join_25 : decode cX3_join 25 = .ok (.iload 4, 2) := by decide +kernel
theorem dX3_join_27 : decode cX3_join 27 = .ok (.ifCond .le 6, 3) := by decide +kernel
theorem dX3_join_30 : decode cX3_join 30 = .ok (.iload 4, 2) := by decide +kernel
theorem dX3_join_32 : decode cX3_join 32 = .ok (.ireturn, 1) := by decide +kernel
theorem dX3_join_33 : decode cX3_join 33 = .ok (.iload_n 2, 1) := by decide +kernel
theorem dX3_join_34 : decode cX3_join 34 = .ok (.ifCond .ne 10, 3) := by decide +kernel
theorem dX3_join_37 : decode cX3_join 37 = .ok (.aload_n 3, 1) := by decide +kernel
theorem dX3_join_38 : decode cX3_join 38 = .ok (.invokevirtual 112, 3) := by decide +kernel
theorem dX3_join_41 : decode cX3_join 41 = .ok (.ifCond .ne 5, 3) := by decide +kernel
theorem dX3_join_44 : decode cX3_join 44 = .ok (.iconst (-1), 1) := by decide +kernel
theorem dX3_join_45 : decode cX3_join 45 = .ok (.ireturn, 1) := by decide +kernel
theorem dX3_join_46 : decode cX3_join 46 = .ok (.aload_n 0, 1) := by decide +kernel
theorem dX3_join_47 : decode cX3_join 47 = .ok (.aload_n 3, 1) := by decide +kernel
theorem dX3_join_48 : decode cX3_join 48 = .ok (.invokevirtual 116, 3) := by decide +kernel
theorem dX3_join_51 : decode cX3_join 51 = .ok (.aload_n 3, 1) := by decide +kernel
theorem dX3_join_52 : decode cX3_join 52 = .ok (.iconst 0, 1) := by decide +kernel
theorem dX3_join_53 : decode cX3_join 53 = .ok (.putfield 120, 3) := by decide +kernel
theorem dX3_join_56 : decode cX3_join 56 = .ok (.iconst 0, 1) := by decide +kernel
theorem dX3_join_57 : decode cX3_join 57 = .ok (.ireturn, 1) := by decide +kernel
theorem dX3_conflict_0 : decode cX3_conflict 0 = .ok (.aload_n 0, 1) := by decide +kernel
theorem dX3_conflict_1 : decode cX3_conflict 1 = .ok (.getfield 37, 3) := by decide +kernel
theorem dX3_conflict_4 : decode cX3_conflict 4 = .ok (.iload_n 1, 1) := by decide +kernel
theorem dX3_conflict_5 : decode cX3_conflict 5 = .ok (.invokevirtual 124, 3) := by decide +kernel
theorem dX3_conflict_8 : decode cX3_conflict 8 = .ok (.ifCond .ne 7, 3) := by decide +kernel
theorem dX3_conflict_11 : decode cX3_conflict 11 = .ok (.ldc2_w 127, 3) := by decide +kernel
theorem dX3_conflict_14 : decode cX3_conflict 14 = .ok (.lreturn, 1) := by decide +kernel
theorem dX3_conflict_15 : decode cX3_conflict 15 = .ok (.iload_n 2, 1) := by decide +kernel
theorem dX3_conflict_16 : decode cX3_conflict 16 = .ok (.tableswitch 59 0 2 #[28, 39, 49], 28) := by decide +kernel
theorem dX3_conflict_44 : decode cX3_conflict 44 = .ok (.aload_n 0, 1) := by decide +kernel
theorem dX3_conflict_45 : decode cX3_conflict 45 = .ok (.getfield 37, 3) := by decide +kernel
theorem dX3_conflict_48 : decode cX3_conflict 48 = .ok (.getfield 129, 3) := by decide +kernel
theorem dX3_conflict_51 : decode cX3_conflict 51 = .ok (.iload_n 1, 1) := by decide +kernel
theorem dX3_conflict_52 : decode cX3_conflict 52 = .ok (.iaload, 1) := by decide +kernel
theorem dX3_conflict_53 : decode cX3_conflict 53 = .ok (.i2l, 1) := by decide +kernel
theorem dX3_conflict_54 : decode cX3_conflict 54 = .ok (.lreturn, 1) := by decide +kernel
theorem dX3_conflict_55 : decode cX3_conflict 55 = .ok (.aload_n 0, 1) := by decide +kernel
theorem dX3_conflict_56 : decode cX3_conflict 56 = .ok (.getfield 37, 3) := by decide +kernel
theorem dX3_conflict_59 : decode cX3_conflict 59 = .ok (.getfield 132, 3) := by decide +kernel
theorem dX3_conflict_62 : decode cX3_conflict 62 = .ok (.iload_n 1, 1) := by decide +kernel
theorem dX3_conflict_63 : decode cX3_conflict 63 = .ok (.laload, 1) := by decide +kernel
theorem dX3_conflict_64 : decode cX3_conflict 64 = .ok (.lreturn, 1) := by decide +kernel
theorem dX3_conflict_65 : decode cX3_conflict 65 = .ok (.aload_n 0, 1) := by decide +kernel
theorem dX3_conflict_66 : decode cX3_conflict 66 = .ok (.getfield 37, 3) := by decide +kernel
theorem dX3_conflict_69 : decode cX3_conflict 69 = .ok (.getfield 135, 3) := by decide +kernel
theorem dX3_conflict_72 : decode cX3_conflict 72 = .ok (.iload_n 1, 1) := by decide +kernel
theorem dX3_conflict_73 : decode cX3_conflict 73 = .ok (.laload, 1) := by decide +kernel
theorem dX3_conflict_74 : decode cX3_conflict 74 = .ok (.lreturn, 1) := by decide +kernel
theorem dX3_conflict_75 : decode cX3_conflict 75 = .ok (.ldc2_w 138, 3) := by decide +kernel
theorem dX3_conflict_78 : decode cX3_conflict 78 = .ok (.lreturn, 1) := by decide +kernel
theorem dX3_settle_0 : decode cX3_settle 0 = .ok (.aload_n 0, 1) := by decide +kernel
theorem dX3_settle_1 : decode cX3_settle 1 = .ok (.getfield 37, 3) := by decide +kernel
theorem dX3_settle_4 : decode cX3_settle 4 = .ok (.iload_n 1, 1) := by decide +kernel
theorem dX3_settle_5 : decode cX3_settle 5 = .ok (.invokevirtual 124, 3) := by decide +kernel
theorem dX3_settle_8 : decode cX3_settle 8 = .ok (.ifCond .eq 12, 3) := by decide +kernel
theorem dX3_settle_11 : decode cX3_settle 11 = .ok (.iload_n 2, 1) := by decide +kernel
theorem dX3_settle_12 : decode cX3_settle 12 = .ok (.ifCond .lt 8, 3) := by decide +kernel
theorem dX3_settle_15 : decode cX3_settle 15 = .ok (.iload_n 2, 1) := by decide +kernel
theorem dX3_settle_16 : decode cX3_settle 16 = .ok (.iconst 1, 1) := by decide +kernel
theorem dX3_settle_17 : decode cX3_settle 17 = .ok (.if_icmp .le 5, 3) := by decide +kernel
theorem dX3_settle_20 : decode cX3_settle 20 = .ok (.iconst 0, 1) := by decide +kernel
theorem dX3_settle_21 : decode cX3_settle 21 = .ok (.ireturn, 1) := by decide +kernel
theorem dX3_settle_22 : decode cX3_settle 22 = .ok (.aload_n 0, 1) := by decide +kernel
theorem dX3_settle_23 : decode cX3_settle 23 = .ok (.getfield 37, 3) := by decide +kernel
theorem dX3_settle_26 : decode cX3_settle 26 = .ok (.getfield 140, 3) := by decide +kernel
theorem dX3_settle_29 : decode cX3_settle 29 = .ok (.astore_n 3, 1) := by decide +kernel
theorem dX3_settle_30 : decode cX3_settle 30 = .ok (.aload_n 3, 1) := by decide +kernel
theorem dX3_settle_31 : decode cX3_settle 31 = .ok (.ifnull 22, 3) := by decide +kernel
theorem dX3_settle_34 : decode cX3_settle 34 = .ok (.aload_n 3, 1) := by decide +kernel
theorem dX3_settle_35 : decode cX3_settle 35 = .ok (.getfield 120, 3) := by decide +kernel
theorem dX3_settle_38 : decode cX3_settle 38 = .ok (.ifCond .eq 15, 3) := by decide +kernel
theorem dX3_settle_41 : decode cX3_settle 41 = .ok (.aload_n 0, 1) := by decide +kernel
theorem dX3_settle_42 : decode cX3_settle 42 = .ok (.getfield 37, 3) := by decide +kernel
theorem dX3_settle_45 : decode cX3_settle 45 = .ok (.getfield 144, 3) := by decide +kernel
theorem dX3_settle_48 : decode cX3_settle 48 = .ok (.iload_n 1, 1) := by decide +kernel
theorem dX3_settle_49 : decode cX3_settle 49 = .ok (.baload, 1) := by decide +kernel
theorem dX3_settle_50 : decode cX3_settle 50 = .ok (.ifCond .eq 5, 3) := by decide +kernel
theorem dX3_settle_53 : decode cX3_settle 53 = .ok (.iconst 0, 1) := by decide +kernel
theorem dX3_settle_54 : decode cX3_settle 54 = .ok (.ireturn, 1) := by decide +kernel
theorem dX3_settle_55 : decode cX3_settle 55 = .ok (.aload_n 0, 1) := by decide +kernel
theorem dX3_settle_56 : decode cX3_settle 56 = .ok (.getfield 37, 3) := by decide +kernel
theorem dX3_settle_59 : decode cX3_settle 59 = .ok (.getfield 144, 3) := by decide +kernel
theorem dX3_settle_62 : decode cX3_settle 62 = .ok (.iload_n 1, 1) := by decide +kernel
theorem dX3_settle_63 : decode cX3_settle 63 = .ok (.iconst 1, 1) := by decide +kernel
theorem dX3_settle_64 : decode cX3_settle 64 = .ok (.bastore, 1) := by decide +kernel
theorem dX3_settle_65 : decode cX3_settle 65 = .ok (.aload_n 0, 1) := by decide +kernel
theorem dX3_settle_66 : decode cX3_settle 66 = .ok (.getfield 37, 3) := by decide +kernel
theorem dX3_settle_69 : decode cX3_settle 69 = .ok (.getfield 129, 3) := by decide +kernel
theorem dX3_settle_72 : decode cX3_settle 72 = .ok (.iload_n 1, 1) := by decide +kernel
theorem dX3_settle_73 : decode cX3_settle 73 = .ok (.iaload, 1) := by decide +kernel
theorem dX3_settle_74 : decode cX3_settle 74 = .ok (.istore 4, 2) := by decide +kernel
theorem dX3_settle_76 : decode cX3_settle 76 = .ok (.aload_n 3, 1) := by decide +kernel
theorem dX3_settle_77 : decode cX3_settle 77 = .ok (.iload 4, 2) := by decide +kernel
theorem dX3_settle_79 : decode cX3_settle 79 = .ok (.aload_n 0, 1) := by decide +kernel
theorem dX3_settle_80 : decode cX3_settle 80 = .ok (.getfield 37, 3) := by decide +kernel
theorem dX3_settle_83 : decode cX3_settle 83 = .ok (.getfield 135, 3) := by decide +kernel
theorem dX3_settle_86 : decode cX3_settle 86 = .ok (.iload_n 1, 1) := by decide +kernel
theorem dX3_settle_87 : decode cX3_settle 87 = .ok (.laload, 1) := by decide +kernel
theorem dX3_settle_88 : decode cX3_settle 88 = .ok (.invokevirtual 148, 3) := by decide +kernel
theorem dX3_settle_91 : decode cX3_settle 91 = .ok (.iload_n 2, 1) := by decide +kernel
theorem dX3_settle_92 : decode cX3_settle 92 = .ok (.iconst 1, 1) := by decide +kernel
theorem dX3_settle_93 : decode cX3_settle 93 = .ok (.if_icmp .ne 9, 3) := by decide +kernel
theorem dX3_settle_96 : decode cX3_settle 96 = .ok (.aload_n 3, 1) := by decide +kernel
theorem dX3_settle_97 : decode cX3_settle 97 = .ok (.iload 4, 2) := by decide +kernel
theorem dX3_settle_99 : decode cX3_settle 99 = .ok (.invokevirtual 151, 3) := by decide +kernel
theorem dX3_settle_102 : decode cX3_settle 102 = .ok (.iconst 1, 1) := by decide +kernel
theorem dX3_settle_103 : decode cX3_settle 103 = .ok (.ireturn, 1) := by decide +kernel
theorem dX3_stale_0 : decode cX3_stale 0 = .ok (.aload_n 0, 1) := by decide +kernel
theorem dX3_stale_1 : decode cX3_stale 1 = .ok (.iload_n 1, 1) := by decide +kernel
theorem dX3_stale_2 : decode cX3_stale 2 = .ok (.invokevirtual 60, 3) := by decide +kernel
theorem dX3_stale_5 : decode cX3_stale 5 = .ok (.ifCond .eq 15, 3) := by decide +kernel
theorem dX3_stale_8 : decode cX3_stale 8 = .ok (.aload_n 0, 1) := by decide +kernel
theorem dX3_stale_9 : decode cX3_stale 9 = .ok (.iload_n 1, 1) := by decide +kernel
theorem dX3_stale_10 : decode cX3_stale 10 = .ok (.invokevirtual 154, 3) := by decide +kernel
theorem dX3_stale_13 : decode cX3_stale 13 = .ok (.ifCond .eq 7, 3) := by decide +kernel
theorem dX3_stale_16 : decode cX3_stale 16 = .ok (.iconst 1, 1) := by decide +kernel
theorem dX3_stale_17 : decode cX3_stale 17 = .ok (.goto 4, 3) := by decide +kernel
theorem dX3_stale_20 : decode cX3_stale 20 = .ok (.iconst 0, 1) := by decide +kernel
theorem dX3_stale_21 : decode cX3_stale 21 = .ok (.ireturn, 1) := by decide +kernel
theorem dX3_branch_0 : decode cX3_branch 0 = .ok (.aload_n 0, 1) := by decide +kernel
theorem dX3_branch_1 : decode cX3_branch 1 = .ok (.getfield 45, 3) := by decide +kernel
theorem dX3_branch_4 : decode cX3_branch 4 = .ok (.bipush 6, 2) := by decide +kernel
theorem dX3_branch_6 : decode cX3_branch 6 = .ok (.if_icmp .lt 5, 3) := by decide +kernel
theorem dX3_branch_9 : decode cX3_branch 9 = .ok (.iconst (-1), 1) := by decide +kernel
theorem dX3_branch_10 : decode cX3_branch 10 = .ok (.ireturn, 1) := by decide +kernel
theorem dX3_branch_11 : decode cX3_branch 11 = .ok (.aload_n 0, 1) := by decide +kernel
theorem dX3_branch_12 : decode cX3_branch 12 = .ok (.getfield 14, 3) := by decide +kernel
theorem dX3_branch_15 : decode cX3_branch 15 = .ok (.iconst 0, 1) := by decide +kernel
theorem dX3_branch_16 : decode cX3_branch 16 = .ok (.aload_n 0, 1) := by decide +kernel
theorem dX3_branch_17 : decode cX3_branch 17 = .ok (.getfield 11, 3) := by decide +kernel
theorem dX3_branch_20 : decode cX3_branch 20 = .ok (.aload_n 0, 1) := by decide +kernel
theorem dX3_branch_21 : decode cX3_branch 21 = .ok (.getfield 45, 3) := by decide +kernel
theorem dX3_branch_24 : decode cX3_branch 24 = .ok (.aaload, 1) := by decide +kernel
theorem dX3_branch_25 : decode cX3_branch 25 = .ok (.iconst 0, 1) := by decide +kernel
theorem dX3_branch_26 : decode cX3_branch 26 = .ok (.bipush 24, 2) := by decide +kernel
theorem dX3_branch_28 : decode cX3_branch 28 = .ok (.invokestatic 157, 3) := by decide +kernel
theorem dX3_branch_31 : decode cX3_branch 31 = .ok (.aload_n 0, 1) := by decide +kernel
theorem dX3_branch_32 : decode cX3_branch 32 = .ok (.dup, 1) := by decide +kernel
theorem dX3_branch_33 : decode cX3_branch 33 = .ok (.getfield 45, 3) := by decide +kernel
theorem dX3_branch_36 : decode cX3_branch 36 = .ok (.iconst 1, 1) := by decide +kernel
theorem dX3_branch_37 : decode cX3_branch 37 = .ok (.iadd, 1) := by decide +kernel
theorem dX3_branch_38 : decode cX3_branch 38 = .ok (.putfield 45, 3) := by decide +kernel
theorem dX3_branch_41 : decode cX3_branch 41 = .ok (.aload_n 0, 1) := by decide +kernel
theorem dX3_branch_42 : decode cX3_branch 42 = .ok (.getfield 45, 3) := by decide +kernel
theorem dX3_branch_45 : decode cX3_branch 45 = .ok (.iconst 1, 1) := by decide +kernel
theorem dX3_branch_46 : decode cX3_branch 46 = .ok (.isub, 1) := by decide +kernel
theorem dX3_branch_47 : decode cX3_branch 47 = .ok (.ireturn, 1) := by decide +kernel
theorem dX3_from_0 : decode cX3_from 0 = .ok (.aload_n 0, 1) := by decide +kernel
theorem dX3_from_1 : decode cX3_from 1 = .ok (.iload_n 1, 1) := by decide +kernel
theorem dX3_from_2 : decode cX3_from 2 = .ok (.invokevirtual 64, 3) := by decide +kernel
theorem dX3_from_5 : decode cX3_from 5 = .ok (.ifCond .eq 13, 3) := by decide +kernel
theorem dX3_from_8 : decode cX3_from 8 = .ok (.aload_n 0, 1) := by decide +kernel
theorem dX3_from_9 : decode cX3_from 9 = .ok (.getfield 18, 3) := by decide +kernel
theorem dX3_from_12 : decode cX3_from 12 = .ok (.iload_n 1, 1) := by decide +kernel
theorem dX3_from_13 : decode cX3_from 13 = .ok (.iaload, 1) := by decide +kernel
theorem dX3_from_14 : decode cX3_from 14 = .ok (.iconst (-1), 1) := by decide +kernel
theorem dX3_from_15 : decode cX3_from 15 = .ok (.if_icmp .ne 5, 3) := by decide +kernel
theorem dX3_from_18 : decode cX3_from 18 = .ok (.iconst (-1), 1) := by decide +kernel
theorem dX3_from_19 : decode cX3_from 19 = .ok (.ireturn, 1) := by decide +kernel
theorem dX3_from_20 : decode cX3_from 20 = .ok (.aload_n 0, 1) := by decide +kernel
theorem dX3_from_21 : decode cX3_from 21 = .ok (.getfield 24, 3) := by decide +kernel
theorem dX3_from_24 : decode cX3_from 24 = .ok (.aload_n 0, 1) := by decide +kernel
theorem dX3_from_25 : decode cX3_from 25 = .ok (.getfield 18, 3) := by decide +kernel
theorem dX3_from_28 : decode cX3_from 28 = .ok (.iload_n 1, 1) := by decide +kernel
theorem dX3_from_29 : decode cX3_from 29 = .ok (.iaload, 1) := by decide +kernel
theorem dX3_from_30 : decode cX3_from 30 = .ok (.aaload, 1) := by decide +kernel
theorem dX3_from_31 : decode cX3_from 31 = .ok (.astore_n 3, 1) := by decide +kernel
theorem dX3_from_32 : decode cX3_from 32 = .ok (.aload_n 3, 1) := by decide +kernel
end
section
theorem dX3_from_33 : decode cX3_from 33 = .ok (.iload_n 1, 1) := by decide +kernel
theorem dX3_from_34 : decode cX3_from 34 = .ok (.invokevirtual 163, 3) := by decide +kernel
theorem dX3_from_37 : decode cX3_from 37 = .ok (.ifCond .eq 29, 3) := by decide +kernel
theorem dX3_from_40 : decode cX3_from 40 = .ok (.aload_n 0, 1) := by decide +kernel
theorem dX3_from_41 : decode cX3_from 41 = .ok (.getfield 14, 3) := by decide +kernel
theorem dX3_from_44 : decode cX3_from 44 = .ok (.iload_n 1, 1) := by decide +kernel
theorem dX3_from_45 : decode cX3_from 45 = .ok (.laload, 1) := by decide +kernel
theorem dX3_from_46 : decode cX3_from 46 = .ok (.aload_n 3, 1) := by decide +kernel
theorem dX3_from_47 : decode cX3_from 47 = .ok (.getfield 166, 3) := by decide +kernel
theorem dX3_from_50 : decode cX3_from 50 = .ok (.lcmp, 1) := by decide +kernel
theorem dX3_from_51 : decode cX3_from 51 = .ok (.ifCond .ne 15, 3) := by decide +kernel
theorem dX3_from_54 : decode cX3_from 54 = .ok (.iload_n 2, 1) := by decide +kernel
theorem dX3_from_55 : decode cX3_from 55 = .ok (.ifCond .lt 11, 3) := by decide +kernel
theorem dX3_from_58 : decode cX3_from 58 = .ok (.iload_n 2, 1) := by decide +kernel
theorem dX3_from_59 : decode cX3_from 59 = .ok (.aload_n 3, 1) := by decide +kernel
theorem dX3_from_60 : decode cX3_from 60 = .ok (.getfield 170, 3) := by decide +kernel
theorem dX3_from_63 : decode cX3_from 63 = .ok (.if_icmp .lt 5, 3) := by decide +kernel
theorem dX3_from_66 : decode cX3_from 66 = .ok (.iconst (-1), 1) := by decide +kernel
theorem dX3_from_67 : decode cX3_from 67 = .ok (.ireturn, 1) := by decide +kernel
theorem dX3_from_68 : decode cX3_from 68 = .ok (.aload_n 3, 1) := by decide +kernel
theorem dX3_from_69 : decode cX3_from 69 = .ok (.getfield 173, 3) := by decide +kernel
theorem dX3_from_72 : decode cX3_from 72 = .ok (.iload_n 2, 1) := by decide +kernel
theorem dX3_from_73 : decode cX3_from 73 = .ok (.iaload, 1) := by decide +kernel
theorem dX3_from_74 : decode cX3_from 74 = .ok (.ireturn, 1) := by decide +kernel
theorem dX3_run_0 : decode cX3_run 0 = .ok (.aload_n 0, 1) := by decide +kernel
theorem dX3_run_1 : decode cX3_run 1 = .ok (.iload_n 1, 1) := by decide +kernel
theorem dX3_run_2 : decode cX3_run 2 = .ok (.invokevirtual 60, 3) := by decide +kernel
theorem dX3_run_5 : decode cX3_run 5 = .ok (.ifCond .eq 16, 3) := by decide +kernel
theorem dX3_run_8 : decode cX3_run 8 = .ok (.aload_n 0, 1) := by decide +kernel
theorem dX3_run_9 : decode cX3_run 9 = .ok (.iload_n 1, 1) := by decide +kernel
theorem dX3_run_10 : decode cX3_run 10 = .ok (.iconst 0, 1) := by decide +kernel
theorem dX3_run_11 : decode cX3_run 11 = .ok (.invokevirtual 176, 3) := by decide +kernel
theorem dX3_run_14 : decode cX3_run 14 = .ok (.ifCond .eq 7, 3) := by decide +kernel
theorem dX3_run_17 : decode cX3_run 17 = .ok (.iconst 1, 1) := by decide +kernel
theorem dX3_run_18 : decode cX3_run 18 = .ok (.goto 4, 3) := by decide +kernel
theorem dX3_run_21 : decode cX3_run 21 = .ok (.iconst 0, 1) := by decide +kernel
theorem dX3_run_22 : decode cX3_run 22 = .ok (.ireturn, 1) := by decide +kernel
theorem dX3_value_0 : decode cX3_value 0 = .ok (.iload_n 1, 1) := by decide +kernel
theorem dX3_value_1 : decode cX3_value 1 = .ok (.ifCond .lt 19, 3) := by decide +kernel
theorem dX3_value_4 : decode cX3_value 4 = .ok (.iload_n 1, 1) := by decide +kernel
theorem dX3_value_5 : decode cX3_value 5 = .ok (.aload_n 0, 1) := by decide +kernel
theorem dX3_value_6 : decode cX3_value 6 = .ok (.getfield 45, 3) := by decide +kernel
theorem dX3_value_9 : decode cX3_value 9 = .ok (.if_icmp .ge 11, 3) := by decide +kernel
theorem dX3_value_12 : decode cX3_value 12 = .ok (.aload_n 0, 1) := by decide +kernel
theorem dX3_value_13 : decode cX3_value 13 = .ok (.iload_n 2, 1) := by decide +kernel
theorem dX3_value_14 : decode cX3_value 14 = .ok (.invokevirtual 64, 3) := by decide +kernel
theorem dX3_value_17 : decode cX3_value 17 = .ok (.ifCond .ne 5, 3) := by decide +kernel
theorem dX3_value_20 : decode cX3_value 20 = .ok (.lconst 0, 1) := by decide +kernel
theorem dX3_value_21 : decode cX3_value 21 = .ok (.lreturn, 1) := by decide +kernel
theorem dX3_value_22 : decode cX3_value 22 = .ok (.aload_n 0, 1) := by decide +kernel
theorem dX3_value_23 : decode cX3_value 23 = .ok (.getfield 11, 3) := by decide +kernel
theorem dX3_value_26 : decode cX3_value 26 = .ok (.iload_n 1, 1) := by decide +kernel
theorem dX3_value_27 : decode cX3_value 27 = .ok (.aaload, 1) := by decide +kernel
theorem dX3_value_28 : decode cX3_value 28 = .ok (.iload_n 2, 1) := by decide +kernel
theorem dX3_value_29 : decode cX3_value 29 = .ok (.laload, 1) := by decide +kernel
theorem dX3_value_30 : decode cX3_value 30 = .ok (.lreturn, 1) := by decide +kernel
theorem dX3_play_0 : decode cX3_play 0 = .ok (.iload_n 3, 1) := by decide +kernel
theorem dX3_play_1 : decode cX3_play 1 = .ok (.ifCond .lt 16, 3) := by decide +kernel
theorem dX3_play_4 : decode cX3_play 4 = .ok (.iload_n 3, 1) := by decide +kernel
theorem dX3_play_5 : decode cX3_play 5 = .ok (.bipush 50, 2) := by decide +kernel
theorem dX3_play_7 : decode cX3_play 7 = .ok (.if_icmp .gt 10, 3) := by decide +kernel
theorem dX3_play_10 : decode cX3_play 10 = .ok (.aload_n 0, 1) := by decide +kernel
theorem dX3_play_11 : decode cX3_play 11 = .ok (.getfield 41, 3) := by decide +kernel
theorem dX3_play_14 : decode cX3_play 14 = .ok (.ifCond .ne 5, 3) := by decide +kernel
theorem dX3_play_17 : decode cX3_play 17 = .ok (.iconst 0, 1) := by decide +kernel
theorem dX3_play_18 : decode cX3_play 18 = .ok (.ireturn, 1) := by decide +kernel
theorem dX3_play_19 : decode cX3_play 19 = .ok (.aload_n 0, 1) := by decide +kernel
theorem dX3_play_20 : decode cX3_play 20 = .ok (.getfield 54, 3) := by decide +kernel
theorem dX3_play_23 : decode cX3_play 23 = .ok (.istore 4, 2) := by decide +kernel
theorem dX3_play_25 : decode cX3_play 25 = .ok (.lload_n 1, 1) := by decide +kernel
theorem dX3_play_26 : decode cX3_play 26 = .ok (.lstore 5, 2) := by decide +kernel
theorem dX3_play_28 : decode cX3_play 28 = .ok (.iconst 0, 1) := by decide +kernel
theorem dX3_play_29 : decode cX3_play 29 = .ok (.istore 7, 2) := by decide +kernel
theorem dX3_play_31 : decode cX3_play 31 = .ok (.iload 7, 2) := by decide +kernel
theorem dX3_play_33 : decode cX3_play 33 = .ok (.iload_n 3, 1) := by decide +kernel
theorem dX3_play_34 : decode cX3_play 34 = .ok (.if_icmp .ge 57, 3) := by decide +kernel
theorem dX3_play_37 : decode cX3_play 37 = .ok (.lload 5, 2) := by decide +kernel
theorem dX3_play_39 : decode cX3_play 39 = .ok (.ldc2_w 179, 3) := by decide +kernel
theorem dX3_play_42 : decode cX3_play 42 = .ok (.lmul, 1) := by decide +kernel
theorem dX3_play_43 : decode cX3_play 43 = .ok (.ldc2_w 181, 3) := by decide +kernel
theorem dX3_play_46 : decode cX3_play 46 = .ok (.ladd, 1) := by decide +kernel
theorem dX3_play_47 : decode cX3_play 47 = .ok (.lstore 5, 2) := by decide +kernel
theorem dX3_play_49 : decode cX3_play 49 = .ok (.aload_n 0, 1) := by decide +kernel
theorem dX3_play_50 : decode cX3_play 50 = .ok (.lload 5, 2) := by decide +kernel
theorem dX3_play_52 : decode cX3_play 52 = .ok (.bipush 33, 2) := by decide +kernel
theorem dX3_play_54 : decode cX3_play 54 = .ok (.lushr, 1) := by decide +kernel
theorem dX3_play_55 : decode cX3_play 55 = .ok (.aload_n 0, 1) := by decide +kernel
theorem dX3_play_56 : decode cX3_play 56 = .ok (.getfield 41, 3) := by decide +kernel
theorem dX3_play_59 : decode cX3_play 59 = .ok (.i2l, 1) := by decide +kernel
theorem dX3_play_60 : decode cX3_play 60 = .ok (.lrem, 1) := by decide +kernel
theorem dX3_play_61 : decode cX3_play 61 = .ok (.l2i, 1) := by decide +kernel
theorem dX3_play_62 : decode cX3_play 62 = .ok (.lload 5, 2) := by decide +kernel
theorem dX3_play_64 : decode cX3_play 64 = .ok (.bipush 20, 2) := by decide +kernel
theorem dX3_play_66 : decode cX3_play 66 = .ok (.lushr, 1) := by decide +kernel
theorem dX3_play_67 : decode cX3_play 67 = .ok (.ldc2_w 183, 3) := by decide +kernel
theorem dX3_play_70 : decode cX3_play 70 = .ok (.land, 1) := by decide +kernel
theorem dX3_play_71 : decode cX3_play 71 = .ok (.invokevirtual 185, 3) := by decide +kernel
theorem dX3_play_74 : decode cX3_play 74 = .ok (.lload 5, 2) := by decide +kernel
theorem dX3_play_76 : decode cX3_play 76 = .ok (.lconst 0, 1) := by decide +kernel
theorem dX3_play_77 : decode cX3_play 77 = .ok (.lcmp, 1) := by decide +kernel
theorem dX3_play_78 : decode cX3_play 78 = .ok (.ifCond .ge 7, 3) := by decide +kernel
theorem dX3_play_81 : decode cX3_play 81 = .ok (.aload_n 0, 1) := by decide +kernel
theorem dX3_play_82 : decode cX3_play 82 = .ok (.invokevirtual 188, 3) := by decide +kernel
theorem dX3_play_85 : decode cX3_play 85 = .ok (.iinc 7 1, 3) := by decide +kernel
theorem dX3_play_88 : decode cX3_play 88 = .ok (.goto (-57), 3) := by decide +kernel
theorem dX3_play_91 : decode cX3_play 91 = .ok (.aload_n 0, 1) := by decide +kernel
theorem dX3_play_92 : decode cX3_play 92 = .ok (.getfield 54, 3) := by decide +kernel
theorem dX3_play_95 : decode cX3_play 95 = .ok (.iload 4, 2) := by decide +kernel
theorem dX3_play_97 : decode cX3_play 97 = .ok (.isub, 1) := by decide +kernel
theorem dX3_play_98 : decode cX3_play 98 = .ok (.ireturn, 1) := by decide +kernel
theorem dX3_isThing_0 : decode cX3_isThing 0 = .ok (.iload_n 1, 1) := by decide +kernel
theorem dX3_isThing_1 : decode cX3_isThing 1 = .ok (.ifCond .lt 15, 3) := by decide +kernel
theorem dX3_isThing_4 : decode cX3_isThing 4 = .ok (.iload_n 1, 1) := by decide +kernel
theorem dX3_isThing_5 : decode cX3_isThing 5 = .ok (.aload_n 0, 1) := by decide +kernel
theorem dX3_isThing_6 : decode cX3_isThing 6 = .ok (.getfield 41, 3) := by decide +kernel
theorem dX3_isThing_9 : decode cX3_isThing 9 = .ok (.if_icmp .ge 7, 3) := by decide +kernel
theorem dX3_isThing_12 : decode cX3_isThing 12 = .ok (.iconst 1, 1) := by decide +kernel
theorem dX3_isThing_13 : decode cX3_isThing 13 = .ok (.goto 4, 3) := by decide +kernel
theorem dX3_isThing_16 : decode cX3_isThing 16 = .ok (.iconst 0, 1) := by decide +kernel
theorem dX3_isThing_17 : decode cX3_isThing 17 = .ok (.ireturn, 1) := by decide +kernel
theorem dX3_isStep_0 : decode cX3_isStep 0 = .ok (.iload_n 1, 1) := by decide +kernel
theorem dX3_isStep_1 : decode cX3_isStep 1 = .ok (.ifCond .lt 15, 3) := by decide +kernel
theorem dX3_isStep_4 : decode cX3_isStep 4 = .ok (.iload_n 1, 1) := by decide +kernel
theorem dX3_isStep_5 : decode cX3_isStep 5 = .ok (.aload_n 0, 1) := by decide +kernel
theorem dX3_isStep_6 : decode cX3_isStep 6 = .ok (.getfield 48, 3) := by decide +kernel
theorem dX3_isStep_9 : decode cX3_isStep 9 = .ok (.if_icmp .ge 7, 3) := by decide +kernel
theorem dX3_isStep_12 : decode cX3_isStep 12 = .ok (.iconst 1, 1) := by decide +kernel
theorem dX3_isStep_13 : decode cX3_isStep 13 = .ok (.goto 4, 3) := by decide +kernel
theorem dX3_isStep_16 : decode cX3_isStep 16 = .ok (.iconst 0, 1) := by decide +kernel
theorem dX3_isStep_17 : decode cX3_isStep 17 = .ok (.ireturn, 1) := by decide +kernel
theorem dX3_isOpen_0 : decode cX3_isOpen 0 = .ok (.iload_n 1, 1) := by decide +kernel
theorem dX3_isOpen_1 : decode cX3_isOpen 1 = .ok (.ifCond .lt 27, 3) := by decide +kernel
theorem dX3_isOpen_4 : decode cX3_isOpen 4 = .ok (.iload_n 1, 1) := by decide +kernel
theorem dX3_isOpen_5 : decode cX3_isOpen 5 = .ok (.aload_n 0, 1) := by decide +kernel
theorem dX3_isOpen_6 : decode cX3_isOpen 6 = .ok (.getfield 51, 3) := by decide +kernel
theorem dX3_isOpen_9 : decode cX3_isOpen 9 = .ok (.if_icmp .ge 19, 3) := by decide +kernel
theorem dX3_isOpen_12 : decode cX3_isOpen 12 = .ok (.aload_n 0, 1) := by decide +kernel
theorem dX3_isOpen_13 : decode cX3_isOpen 13 = .ok (.getfield 30, 3) := by decide +kernel
theorem dX3_isOpen_16 : decode cX3_isOpen 16 = .ok (.iload_n 1, 1) := by decide +kernel
theorem dX3_isOpen_17 : decode cX3_isOpen 17 = .ok (.aaload, 1) := by decide +kernel
theorem dX3_isOpen_18 : decode cX3_isOpen 18 = .ok (.getfield 120, 3) := by decide +kernel
theorem dX3_isOpen_21 : decode cX3_isOpen 21 = .ok (.ifCond .eq 7, 3) := by decide +kernel
theorem dX3_isOpen_24 : decode cX3_isOpen 24 = .ok (.iconst 1, 1) := by decide +kernel
theorem dX3_isOpen_25 : decode cX3_isOpen 25 = .ok (.goto 4, 3) := by decide +kernel
theorem dX3_isOpen_28 : decode cX3_isOpen 28 = .ok (.iconst 0, 1) := by decide +kernel
theorem dX3_isOpen_29 : decode cX3_isOpen 29 = .ok (.ireturn, 1) := by decide +kernel
theorem dX3_give_0 : decode cX3_give 0 = .ok (.aload_n 0, 1) := by decide +kernel
theorem dX3_give_1 : decode cX3_give 1 = .ok (.getfield 14, 3) := by decide +kernel
theorem dX3_give_4 : decode cX3_give 4 = .ok (.iload_n 1, 1) := by decide +kernel
theorem dX3_give_5 : decode cX3_give 5 = .ok (.laload, 1) := by decide +kernel
theorem dX3_give_6 : decode cX3_give 6 = .ok (.lload_n 2, 1) := by decide +kernel
theorem dX3_give_7 : decode cX3_give 7 = .ok (.lcmp, 1) := by decide +kernel
theorem dX3_give_8 : decode cX3_give 8 = .ok (.ifCond .eq 20, 3) := by decide +kernel
theorem dX3_give_11 : decode cX3_give 11 = .ok (.aload_n 0, 1) := by decide +kernel
theorem dX3_give_12 : decode cX3_give 12 = .ok (.getfield 14, 3) := by decide +kernel
theorem dX3_give_15 : decode cX3_give 15 = .ok (.iload_n 1, 1) := by decide +kernel
theorem dX3_give_16 : decode cX3_give 16 = .ok (.lload_n 2, 1) := by decide +kernel
theorem dX3_give_17 : decode cX3_give 17 = .ok (.lastore, 1) := by decide +kernel
theorem dX3_give_18 : decode cX3_give 18 = .ok (.aload_n 0, 1) := by decide +kernel
theorem dX3_give_19 : decode cX3_give 19 = .ok (.dup, 1) := by decide +kernel
theorem dX3_give_20 : decode cX3_give 20 = .ok (.getfield 54, 3) := by decide +kernel
theorem dX3_give_23 : decode cX3_give 23 = .ok (.iconst 1, 1) := by decide +kernel
theorem dX3_give_24 : decode cX3_give 24 = .ok (.iadd, 1) := by decide +kernel
theorem dX3_give_25 : decode cX3_give 25 = .ok (.putfield 54, 3) := by decide +kernel
theorem dX3_give_28 : decode cX3_give 28 = .ok (.return_, 1) := by decide +kernel
theorem dX3_giveWritten_0 : decode cX3_giveWritten 0 = .ok (.iconst 0, 1) := by decide +kernel
theorem dX3_giveWritten_1 : decode cX3_giveWritten 1 = .ok (.istore_n 2, 1) := by decide +kernel
theorem dX3_giveWritten_2 : decode cX3_giveWritten 2 = .ok (.iload_n 2, 1) := by decide +kernel
theorem dX3_giveWritten_3 : decode cX3_giveWritten 3 = .ok (.aload_n 0, 1) := by decide +kernel
theorem dX3_giveWritten_4 : decode cX3_giveWritten 4 = .ok (.getfield 41, 3) := by decide +kernel
theorem dX3_giveWritten_7 : decode cX3_giveWritten 7 = .ok (.if_icmp .ge 29, 3) := by decide +kernel
theorem dX3_giveWritten_10 : decode cX3_giveWritten 10 = .ok (.aload_n 1, 1) := by decide +kernel
theorem dX3_giveWritten_11 : decode cX3_giveWritten 11 = .ok (.getfield 191, 3) := by decide +kernel
theorem dX3_giveWritten_14 : decode cX3_giveWritten 14 = .ok (.iload_n 2, 1) := by decide +kernel
theorem dX3_giveWritten_15 : decode cX3_giveWritten 15 = .ok (.baload, 1) := by decide +kernel
theorem dX3_giveWritten_16 : decode cX3_giveWritten 16 = .ok (.ifCond .eq 14, 3) := by decide +kernel
theorem dX3_giveWritten_19 : decode cX3_giveWritten 19 = .ok (.aload_n 0, 1) := by decide +kernel
theorem dX3_giveWritten_20 : decode cX3_giveWritten 20 = .ok (.iload_n 2, 1) := by decide +kernel
theorem dX3_giveWritten_21 : decode cX3_giveWritten 21 = .ok (.aload_n 1, 1) := by decide +kernel
theorem dX3_giveWritten_22 : decode cX3_giveWritten 22 = .ok (.getfield 194, 3) := by decide +kernel
theorem dX3_giveWritten_25 : decode cX3_giveWritten 25 = .ok (.iload_n 2, 1) := by decide +kernel
theorem dX3_giveWritten_26 : decode cX3_giveWritten 26 = .ok (.laload, 1) := by decide +kernel
theorem dX3_giveWritten_27 : decode cX3_giveWritten 27 = .ok (.invokevirtual 185, 3) := by decide +kernel
theorem dX3_giveWritten_30 : decode cX3_giveWritten 30 = .ok (.iinc 2 1, 3) := by decide +kernel
theorem dX3_giveWritten_33 : decode cX3_giveWritten 33 = .ok (.goto (-31), 3) := by decide +kernel
theorem dX3_giveWritten_36 : decode cX3_giveWritten 36 = .ok (.return_, 1) := by decide +kernel
theorem dX3_collectConflicts_0 : decode cX3_collectConflicts 0 = .ok (.iconst 0, 1) := by decide +kernel
theorem dX3_collectConflicts_1 : decode cX3_collectConflicts 1 = .ok (.istore_n 2, 1) := by decide +kernel
theorem dX3_collectConflicts_2 : decode cX3_collectConflicts 2 = .ok (.iconst 0, 1) := by decide +kernel
theorem dX3_collectConflicts_3 : decode cX3_collectConflicts 3 = .ok (.istore_n 3, 1) := by decide +kernel
theorem dX3_collectConflicts_4 : decode cX3_collectConflicts 4 = .ok (.iload_n 3, 1) := by decide +kernel
theorem dX3_collectConflicts_5 : decode cX3_collectConflicts 5 = .ok (.aload_n 0, 1) := by decide +kernel
theorem dX3_collectConflicts_6 : decode cX3_collectConflicts 6 = .ok (.getfield 41, 3) := by decide +kernel
theorem dX3_collectConflicts_9 : decode cX3_collectConflicts 9 = .ok (.if_icmp .ge 46, 3) := by decide +kernel
theorem dX3_collectConflicts_12 : decode cX3_collectConflicts 12 = .ok (.aload_n 1, 1) := by decide +kernel
theorem dX3_collectConflicts_13 : decode cX3_collectConflicts 13 = .ok (.iload_n 3, 1) := by decide +kernel
theorem dX3_collectConflicts_14 : decode cX3_collectConflicts 14 = .ok (.aload_n 0, 1) := by decide +kernel
theorem dX3_collectConflicts_15 : decode cX3_collectConflicts 15 = .ok (.getfield 14, 3) := by decide +kernel
theorem dX3_collectConflicts_18 : decode cX3_collectConflicts 18 = .ok (.iload_n 3, 1) := by decide +kernel
theorem dX3_collectConflicts_19 : decode cX3_collectConflicts 19 = .ok (.laload, 1) := by decide +kernel
theorem dX3_collectConflicts_20 : decode cX3_collectConflicts 20 = .ok (.invokevirtual 197, 3) := by decide +kernel
theorem dX3_collectConflicts_23 : decode cX3_collectConflicts 23 = .ok (.ifCond .eq 26, 3) := by decide +kernel
theorem dX3_collectConflicts_26 : decode cX3_collectConflicts 26 = .ok (.aload_n 0, 1) := by decide +kernel
theorem dX3_collectConflicts_27 : decode cX3_collectConflicts 27 = .ok (.getfield 37, 3) := by decide +kernel
theorem dX3_collectConflicts_30 : decode cX3_collectConflicts 30 = .ok (.iload_n 2, 1) := by decide +kernel
theorem dX3_collectConflicts_31 : decode cX3_collectConflicts 31 = .ok (.iload_n 3, 1) := by decide +kernel
theorem dX3_collectConflicts_32 : decode cX3_collectConflicts 32 = .ok (.aload_n 1, 1) := by decide +kernel
theorem dX3_collectConflicts_33 : decode cX3_collectConflicts 33 = .ok (.iload_n 3, 1) := by decide +kernel
theorem dX3_collectConflicts_34 : decode cX3_collectConflicts 34 = .ok (.invokevirtual 101, 3) := by decide +kernel
theorem dX3_collectConflicts_37 : decode cX3_collectConflicts 37 = .ok (.aload_n 0, 1) := by decide +kernel
theorem dX3_collectConflicts_38 : decode cX3_collectConflicts 38 = .ok (.getfield 14, 3) := by decide +kernel
theorem dX3_collectConflicts_41 : decode cX3_collectConflicts 41 = .ok (.iload_n 3, 1) := by decide +kernel
theorem dX3_collectConflicts_42 : decode cX3_collectConflicts 42 = .ok (.laload, 1) := by decide +kernel
theorem dX3_collectConflicts_43 : decode cX3_collectConflicts 43 = .ok (.invokevirtual 201, 3) := by decide +kernel
theorem dX3_collectConflicts_46 : decode cX3_collectConflicts 46 = .ok (.iinc 2 1, 3) := by decide +kernel
theorem dX3_collectConflicts_49 : decode cX3_collectConflicts 49 = .ok (.iinc 3 1, 3) := by decide +kernel
theorem dX3_collectConflicts_52 : decode cX3_collectConflicts 52 = .ok (.goto (-48), 3) := by decide +kernel
theorem dX3_collectConflicts_55 : decode cX3_collectConflicts 55 = .ok (.iload_n 2, 1) := by decide +kernel
theorem dX3_collectConflicts_56 : decode cX3_collectConflicts 56 = .ok (.ifCond .le 19, 3) := by decide +kernel
theorem dX3_collectConflicts_59 : decode cX3_collectConflicts 59 = .ok (.aload_n 0, 1) := by decide +kernel
theorem dX3_collectConflicts_60 : decode cX3_collectConflicts 60 = .ok (.getfield 37, 3) := by decide +kernel
theorem dX3_collectConflicts_63 : decode cX3_collectConflicts 63 = .ok (.aload_n 1, 1) := by decide +kernel
theorem dX3_collectConflicts_64 : decode cX3_collectConflicts 64 = .ok (.putfield 140, 3) := by decide +kernel
theorem dX3_collectConflicts_67 : decode cX3_collectConflicts 67 = .ok (.aload_n 0, 1) := by decide +kernel
theorem dX3_collectConflicts_68 : decode cX3_collectConflicts 68 = .ok (.getfield 37, 3) := by decide +kernel
theorem dX3_collectConflicts_71 : decode cX3_collectConflicts 71 = .ok (.iload_n 2, 1) := by decide +kernel
theorem dX3_collectConflicts_72 : decode cX3_collectConflicts 72 = .ok (.putfield 205, 3) := by decide +kernel
theorem dX3_collectConflicts_75 : decode cX3_collectConflicts 75 = .ok (.iload_n 2, 1) := by decide +kernel
theorem dX3_collectConflicts_76 : decode cX3_collectConflicts 76 = .ok (.ireturn, 1) := by decide +kernel
theorem dX3_isSameOrAbove_0 : decode cX3_isSameOrAbove 0 = .ok (.aload_n 0, 1) := by decide +kernel
theorem dX3_isSameOrAbove_1 : decode cX3_isSameOrAbove 1 = .ok (.getfield 24, 3) := by decide +kernel
theorem dX3_isSameOrAbove_4 : decode cX3_isSameOrAbove 4 = .ok (.iload_n 2, 1) := by decide +kernel
theorem dX3_isSameOrAbove_5 : decode cX3_isSameOrAbove 5 = .ok (.aaload, 1) := by decide +kernel
theorem dX3_isSameOrAbove_6 : decode cX3_isSameOrAbove 6 = .ok (.iload_n 2, 1) := by decide +kernel
theorem dX3_isSameOrAbove_7 : decode cX3_isSameOrAbove 7 = .ok (.invokevirtual 208, 3) := by decide +kernel
theorem dX3_isSameOrAbove_10 : decode cX3_isSameOrAbove 10 = .ok (.iload_n 1, 1) := by decide +kernel
theorem dX3_isSameOrAbove_11 : decode cX3_isSameOrAbove 11 = .ok (.iushr, 1) := by decide +kernel
theorem dX3_isSameOrAbove_12 : decode cX3_isSameOrAbove 12 = .ok (.iconst 1, 1) := by decide +kernel
theorem dX3_isSameOrAbove_13 : decode cX3_isSameOrAbove 13 = .ok (.iand, 1) := by decide +kernel
theorem dX3_isSameOrAbove_14 : decode cX3_isSameOrAbove 14 = .ok (.ifCond .eq 7, 3) := by decide +kernel
theorem dX3_isSameOrAbove_17 : decode cX3_isSameOrAbove 17 = .ok (.iconst 1, 1) := by decide +kernel
theorem dX3_isSameOrAbove_18 : decode cX3_isSameOrAbove 18 = .ok (.goto 4, 3) := by decide +kernel
theorem dX3_isSameOrAbove_21 : decode cX3_isSameOrAbove 21 = .ok (.iconst 0, 1) := by decide +kernel
theorem dX3_isSameOrAbove_22 : decode cX3_isSameOrAbove 22 = .ok (.ireturn, 1) := by decide +kernel
theorem dX3_hasUserAtOrAbove_0 : decode cX3_hasUserAtOrAbove 0 = .ok (.iconst 0, 1) := by decide +kernel
theorem dX3_hasUserAtOrAbove_1 : decode cX3_hasUserAtOrAbove 1 = .ok (.istore_n 3, 1) := by decide +kernel
theorem dX3_hasUserAtOrAbove_2 : decode cX3_hasUserAtOrAbove 2 = .ok (.iload_n 3, 1) := by decide +kernel
theorem dX3_hasUserAtOrAbove_3 : decode cX3_hasUserAtOrAbove 3 = .ok (.aload_n 0, 1) := by decide +kernel
theorem dX3_hasUserAtOrAbove_4 : decode cX3_hasUserAtOrAbove 4 = .ok (.getfield 48, 3) := by decide +kernel
theorem dX3_hasUserAtOrAbove_7 : decode cX3_hasUserAtOrAbove 7 = .ok (.if_icmp .ge 33, 3) := by decide +kernel
theorem dX3_hasUserAtOrAbove_10 : decode cX3_hasUserAtOrAbove 10 = .ok (.aload_n 0, 1) := by decide +kernel
theorem dX3_hasUserAtOrAbove_11 : decode cX3_hasUserAtOrAbove 11 = .ok (.getfield 24, 3) := by decide +kernel
theorem dX3_hasUserAtOrAbove_14 : decode cX3_hasUserAtOrAbove 14 = .ok (.iload_n 3, 1) := by decide +kernel
theorem dX3_hasUserAtOrAbove_15 : decode cX3_hasUserAtOrAbove 15 = .ok (.aaload, 1) := by decide +kernel
theorem dX3_hasUserAtOrAbove_16 : decode cX3_hasUserAtOrAbove 16 = .ok (.iload_n 1, 1) := by decide +kernel
theorem dX3_hasUserAtOrAbove_17 : decode cX3_hasUserAtOrAbove 17 = .ok (.invokevirtual 67, 3) := by decide +kernel
theorem dX3_hasUserAtOrAbove_20 : decode cX3_hasUserAtOrAbove 20 = .ok (.ifCond .eq 14, 3) := by decide +kernel
theorem dX3_hasUserAtOrAbove_23 : decode cX3_hasUserAtOrAbove 23 = .ok (.aload_n 0, 1) := by decide +kernel
theorem dX3_hasUserAtOrAbove_24 : decode cX3_hasUserAtOrAbove 24 = .ok (.iload_n 3, 1) := by decide +kernel
theorem dX3_hasUserAtOrAbove_25 : decode cX3_hasUserAtOrAbove 25 = .ok (.iload_n 2, 1) := by decide +kernel
theorem dX3_hasUserAtOrAbove_26 : decode cX3_hasUserAtOrAbove 26 = .ok (.invokevirtual 73, 3) := by decide +kernel
theorem dX3_hasUserAtOrAbove_29 : decode cX3_hasUserAtOrAbove 29 = .ok (.ifCond .eq 5, 3) := by decide +kernel
theorem dX3_hasUserAtOrAbove_32 : decode cX3_hasUserAtOrAbove 32 = .ok (.iconst 1, 1) := by decide +kernel
theorem dX3_hasUserAtOrAbove_33 : decode cX3_hasUserAtOrAbove 33 = .ok (.ireturn, 1) := by decide +kernel
theorem dX3_hasUserAtOrAbove_34 : decode cX3_hasUserAtOrAbove 34 = .ok (.iinc 3 1, 3) := by decide +kernel
theorem dX3_hasUserAtOrAbove_37 : decode cX3_hasUserAtOrAbove 37 = .ok (.goto (-35), 3) := by decide +kernel
theorem dX3_hasUserAtOrAbove_40 : decode cX3_hasUserAtOrAbove 40 = .ok (.iconst 0, 1) := by decide +kernel
theorem dX3_hasUserAtOrAbove_41 : decode cX3_hasUserAtOrAbove 41 = .ok (.ireturn, 1) := by decide +kernel
theorem dX3_putAbove_0 : decode cX3_putAbove 0 = .ok (.aload_n 0, 1) := by decide +kernel
theorem dX3_putAbove_1 : decode cX3_putAbove 1 = .ok (.getfield 24, 3) := by decide +kernel
theorem dX3_putAbove_4 : decode cX3_putAbove 4 = .ok (.iload_n 1, 1) := by decide +kernel
theorem dX3_putAbove_5 : decode cX3_putAbove 5 = .ok (.aaload, 1) := by decide +kernel
theorem dX3_putAbove_6 : decode cX3_putAbove 6 = .ok (.iload_n 1, 1) := by decide +kernel
theorem dX3_putAbove_7 : decode cX3_putAbove 7 = .ok (.invokevirtual 208, 3) := by decide +kernel
theorem dX3_putAbove_10 : decode cX3_putAbove 10 = .ok (.istore_n 3, 1) := by decide +kernel
theorem dX3_putAbove_11 : decode cX3_putAbove 11 = .ok (.iconst 0, 1) := by decide +kernel
theorem dX3_putAbove_12 : decode cX3_putAbove 12 = .ok (.istore 4, 2) := by decide +kernel
theorem dX3_putAbove_14 : decode cX3_putAbove 14 = .ok (.iload 4, 2) := by decide +kernel
theorem dX3_putAbove_16 : decode cX3_putAbove 16 = .ok (.aload_n 0, 1) := by decide +kernel
theorem dX3_putAbove_17 : decode cX3_putAbove 17 = .ok (.getfield 48, 3) := by decide +kernel
theorem dX3_putAbove_20 : decode cX3_putAbove 20 = .ok (.if_icmp .ge 35, 3) := by decide +kernel
theorem dX3_putAbove_23 : decode cX3_putAbove 23 = .ok (.aload_n 0, 1) := by decide +kernel
theorem dX3_putAbove_24 : decode cX3_putAbove 24 = .ok (.iload_n 2, 1) := by decide +kernel
theorem dX3_putAbove_25 : decode cX3_putAbove 25 = .ok (.iload 4, 2) := by decide +kernel
theorem dX3_putAbove_27 : decode cX3_putAbove 27 = .ok (.invokevirtual 73, 3) := by decide +kernel
theorem dX3_putAbove_30 : decode cX3_putAbove 30 = .ok (.ifCond .eq 19, 3) := by decide +kernel
theorem dX3_putAbove_33 : decode cX3_putAbove 33 = .ok (.aload_n 0, 1) := by decide +kernel
theorem dX3_putAbove_34 : decode cX3_putAbove 34 = .ok (.getfield 24, 3) := by decide +kernel
theorem dX3_putAbove_37 : decode cX3_putAbove 37 = .ok (.iload 4, 2) := by decide +kernel
theorem dX3_putAbove_39 : decode cX3_putAbove 39 = .ok (.aaload, 1) := by decide +kernel
theorem dX3_putAbove_40 : decode cX3_putAbove 40 = .ok (.dup, 1) := by decide +kernel
theorem dX3_putAbove_41 : decode cX3_putAbove 41 = .ok (.getfield 212, 3) := by decide +kernel
theorem dX3_putAbove_44 : decode cX3_putAbove 44 = .ok (.iload_n 3, 1) := by decide +kernel
theorem dX3_putAbove_45 : decode cX3_putAbove 45 = .ok (.ior, 1) := by decide +kernel
theorem dX3_putAbove_46 : decode cX3_putAbove 46 = .ok (.putfield 212, 3) := by decide +kernel
theorem dX3_putAbove_49 : decode cX3_putAbove 49 = .ok (.iinc 4 1, 3) := by decide +kernel
theorem dX3_putAbove_52 : decode cX3_putAbove 52 = .ok (.goto (-38), 3) := by decide +kernel
theorem dX3_putAbove_55 : decode cX3_putAbove 55 = .ok (.return_, 1) := by decide +kernel
theorem dX3_isStale_0 : decode cX3_isStale 0 = .ok (.aload_n 0, 1) := by decide +kernel
theorem dX3_isStale_1 : decode cX3_isStale 1 = .ok (.getfield 24, 3) := by decide +kernel
theorem dX3_isStale_4 : decode cX3_isStale 4 = .ok (.iload_n 1, 1) := by decide +kernel
theorem dX3_isStale_5 : decode cX3_isStale 5 = .ok (.aaload, 1) := by decide +kernel
theorem dX3_isStale_6 : decode cX3_isStale 6 = .ok (.iload_n 1, 1) := by decide +kernel
theorem dX3_isStale_7 : decode cX3_isStale 7 = .ok (.invokevirtual 208, 3) := by decide +kernel
theorem dX3_isStale_10 : decode cX3_isStale 10 = .ok (.istore_n 2, 1) := by decide +kernel
theorem dX3_isStale_11 : decode cX3_isStale 11 = .ok (.iconst 0, 1) := by decide +kernel
theorem dX3_isStale_12 : decode cX3_isStale 12 = .ok (.istore_n 3, 1) := by decide +kernel
theorem dX3_isStale_13 : decode cX3_isStale 13 = .ok (.iload_n 3, 1) := by decide +kernel
theorem dX3_isStale_14 : decode cX3_isStale 14 = .ok (.aload_n 0, 1) := by decide +kernel
theorem dX3_isStale_15 : decode cX3_isStale 15 = .ok (.getfield 48, 3) := by decide +kernel
theorem dX3_isStale_18 : decode cX3_isStale 18 = .ok (.if_icmp .ge 35, 3) := by decide +kernel
theorem dX3_isStale_21 : decode cX3_isStale 21 = .ok (.iload_n 2, 1) := by decide +kernel
theorem dX3_isStale_22 : decode cX3_isStale 22 = .ok (.iload_n 3, 1) := by decide +kernel
theorem dX3_isStale_23 : decode cX3_isStale 23 = .ok (.iushr, 1) := by decide +kernel
theorem dX3_isStale_24 : decode cX3_isStale 24 = .ok (.iconst 1, 1) := by decide +kernel
theorem dX3_isStale_25 : decode cX3_isStale 25 = .ok (.iand, 1) := by decide +kernel
theorem dX3_isStale_26 : decode cX3_isStale 26 = .ok (.ifCond .eq 21, 3) := by decide +kernel
theorem dX3_isStale_29 : decode cX3_isStale 29 = .ok (.aload_n 0, 1) := by decide +kernel
theorem dX3_isStale_30 : decode cX3_isStale 30 = .ok (.getfield 24, 3) := by decide +kernel
theorem dX3_isStale_33 : decode cX3_isStale 33 = .ok (.iload_n 3, 1) := by decide +kernel
theorem dX3_isStale_34 : decode cX3_isStale 34 = .ok (.aaload, 1) := by decide +kernel
theorem dX3_isStale_35 : decode cX3_isStale 35 = .ok (.aload_n 0, 1) := by decide +kernel
theorem dX3_isStale_36 : decode cX3_isStale 36 = .ok (.getfield 14, 3) := by decide +kernel
theorem dX3_isStale_39 : decode cX3_isStale 39 = .ok (.invokevirtual 215, 3) := by decide +kernel
theorem dX3_isStale_42 : decode cX3_isStale 42 = .ok (.ifCond .eq 5, 3) := by decide +kernel
theorem dX3_isStale_45 : decode cX3_isStale 45 = .ok (.iconst 1, 1) := by decide +kernel
theorem dX3_isStale_46 : decode cX3_isStale 46 = .ok (.ireturn, 1) := by decide +kernel
theorem dX3_isStale_47 : decode cX3_isStale 47 = .ok (.iinc 3 1, 3) := by decide +kernel
theorem dX3_isStale_50 : decode cX3_isStale 50 = .ok (.goto (-37), 3) := by decide +kernel
theorem dX3_isStale_53 : decode cX3_isStale 53 = .ok (.iconst 0, 1) := by decide +kernel
theorem dX3_isStale_54 : decode cX3_isStale 54 = .ok (.ireturn, 1) := by decide +kernel
theorem dX3_refresh_0 : decode cX3_refresh 0 = .ok (.iload_n 2, 1) := by decide +kernel
theorem dX3_refresh_1 : decode cX3_refresh 1 = .ok (.bipush 12, 2) := by decide +kernel
theorem dX3_refresh_3 : decode cX3_refresh 3 = .ok (.if_icmp .ge 11, 3) := by decide +kernel
theorem dX3_refresh_6 : decode cX3_refresh 6 = .ok (.aload_n 0, 1) := by decide +kernel
theorem dX3_refresh_7 : decode cX3_refresh 7 = .ok (.iload_n 1, 1) := by decide +kernel
theorem dX3_refresh_8 : decode cX3_refresh 8 = .ok (.invokevirtual 154, 3) := by decide +kernel
theorem dX3_refresh_11 : decode cX3_refresh 11 = .ok (.ifCond .ne 5, 3) := by decide +kernel
theorem dX3_refresh_14 : decode cX3_refresh 14 = .ok (.iconst 0, 1) := by decide +kernel
theorem dX3_refresh_15 : decode cX3_refresh 15 = .ok (.ireturn, 1) := by decide +kernel
theorem dX3_refresh_16 : decode cX3_refresh 16 = .ok (.aload_n 0, 1) := by decide +kernel
theorem dX3_refresh_17 : decode cX3_refresh 17 = .ok (.getfield 24, 3) := by decide +kernel
theorem dX3_refresh_20 : decode cX3_refresh 20 = .ok (.iload_n 1, 1) := by decide +kernel
theorem dX3_refresh_21 : decode cX3_refresh 21 = .ok (.aaload, 1) := by decide +kernel
theorem dX3_refresh_22 : decode cX3_refresh 22 = .ok (.astore_n 3, 1) := by decide +kernel
theorem dX3_refresh_23 : decode cX3_refresh 23 = .ok (.iconst 0, 1) := by decide +kernel
theorem dX3_refresh_24 : decode cX3_refresh 24 = .ok (.istore 4, 2) := by decide +kernel
theorem dX3_refresh_26 : decode cX3_refresh 26 = .ok (.iload 4, 2) := by decide +kernel
theorem dX3_refresh_28 : decode cX3_refresh 28 = .ok (.aload_n 3, 1) := by decide +kernel
theorem dX3_refresh_29 : decode cX3_refresh 29 = .ok (.getfield 70, 3) := by decide +kernel
theorem dX3_refresh_32 : decode cX3_refresh 32 = .ok (.if_icmp .ge 39, 3) := by decide +kernel
theorem dX3_refresh_35 : decode cX3_refresh 35 = .ok (.aload_n 0, 1) := by decide +kernel
theorem dX3_refresh_36 : decode cX3_refresh 36 = .ok (.getfield 18, 3) := by decide +kernel
theorem dX3_refresh_39 : decode cX3_refresh 39 = .ok (.aload_n 3, 1) := by decide +kernel
theorem dX3_refresh_40 : decode cX3_refresh 40 = .ok (.getfield 173, 3) := by decide +kernel
theorem dX3_refresh_43 : decode cX3_refresh 43 = .ok (.iload 4, 2) := by decide +kernel
theorem dX3_refresh_45 : decode cX3_refresh 45 = .ok (.iaload, 1) := by decide +kernel
theorem dX3_refresh_46 : decode cX3_refresh 46 = .ok (.iaload, 1) := by decide +kernel
theorem dX3_refresh_47 : decode cX3_refresh 47 = .ok (.istore 5, 2) := by decide +kernel
theorem dX3_refresh_49 : decode cX3_refresh 49 = .ok (.iload 5, 2) := by decide +kernel
theorem dX3_refresh_51 : decode cX3_refresh 51 = .ok (.iconst (-1), 1) := by decide +kernel
theorem dX3_refresh_52 : decode cX3_refresh 52 = .ok (.if_icmp .eq 13, 3) := by decide +kernel
theorem dX3_refresh_55 : decode cX3_refresh 55 = .ok (.aload_n 0, 1) := by decide +kernel
theorem dX3_refresh_56 : decode cX3_refresh 56 = .ok (.iload 5, 2) := by decide +kernel
theorem dX3_refresh_58 : decode cX3_refresh 58 = .ok (.iload_n 2, 1) := by decide +kernel
theorem dX3_refresh_59 : decode cX3_refresh 59 = .ok (.iconst 1, 1) := by decide +kernel
theorem dX3_refresh_60 : decode cX3_refresh 60 = .ok (.iadd, 1) := by decide +kernel
theorem dX3_refresh_61 : decode cX3_refresh 61 = .ok (.invokevirtual 176, 3) := by decide +kernel
theorem dX3_refresh_64 : decode cX3_refresh 64 = .ok (.pop, 1) := by decide +kernel
theorem dX3_refresh_65 : decode cX3_refresh 65 = .ok (.iinc 4 1, 3) := by decide +kernel
theorem dX3_refresh_68 : decode cX3_refresh 68 = .ok (.goto (-42), 3) := by decide +kernel
theorem dX3_refresh_71 : decode cX3_refresh 71 = .ok (.aload_n 0, 1) := by decide +kernel
theorem dX3_refresh_72 : decode cX3_refresh 72 = .ok (.iload_n 1, 1) := by decide +kernel
theorem dX3_refresh_73 : decode cX3_refresh 73 = .ok (.invokevirtual 154, 3) := by decide +kernel
theorem dX3_refresh_76 : decode cX3_refresh 76 = .ok (.ifCond .ne 5, 3) := by decide +kernel
theorem dX3_refresh_79 : decode cX3_refresh 79 = .ok (.iconst 0, 1) := by decide +kernel
theorem dX3_refresh_80 : decode cX3_refresh 80 = .ok (.ireturn, 1) := by decide +kernel
theorem dX3_refresh_81 : decode cX3_refresh 81 = .ok (.aload_n 3, 1) := by decide +kernel
theorem dX3_refresh_82 : decode cX3_refresh 82 = .ok (.aload_n 0, 1) := by decide +kernel
theorem dX3_refresh_83 : decode cX3_refresh 83 = .ok (.getfield 14, 3) := by decide +kernel
theorem dX3_refresh_86 : decode cX3_refresh 86 = .ok (.invokevirtual 219, 3) := by decide +kernel
theorem dX3_refresh_89 : decode cX3_refresh 89 = .ok (.iconst 0, 1) := by decide +kernel
theorem dX3_refresh_90 : decode cX3_refresh 90 = .ok (.istore 4, 2) := by decide +kernel
theorem dX3_refresh_92 : decode cX3_refresh 92 = .ok (.iload 4, 2) := by decide +kernel
theorem dX3_refresh_94 : decode cX3_refresh 94 = .ok (.aload_n 3, 1) := by decide +kernel
theorem dX3_refresh_95 : decode cX3_refresh 95 = .ok (.getfield 84, 3) := by decide +kernel
theorem dX3_refresh_98 : decode cX3_refresh 98 = .ok (.if_icmp .ge 24, 3) := by decide +kernel
theorem dX3_refresh_101 : decode cX3_refresh 101 = .ok (.aload_n 0, 1) := by decide +kernel
theorem dX3_refresh_102 : decode cX3_refresh 102 = .ok (.aload_n 3, 1) := by decide +kernel
theorem dX3_refresh_103 : decode cX3_refresh 103 = .ok (.getfield 223, 3) := by decide +kernel
theorem dX3_refresh_106 : decode cX3_refresh 106 = .ok (.iload 4, 2) := by decide +kernel
theorem dX3_refresh_108 : decode cX3_refresh 108 = .ok (.iaload, 1) := by decide +kernel
theorem dX3_refresh_109 : decode cX3_refresh 109 = .ok (.aload_n 3, 1) := by decide +kernel
theorem dX3_refresh_110 : decode cX3_refresh 110 = .ok (.getfield 166, 3) := by decide +kernel
theorem dX3_refresh_113 : decode cX3_refresh 113 = .ok (.invokevirtual 185, 3) := by decide +kernel
theorem dX3_refresh_116 : decode cX3_refresh 116 = .ok (.iinc 4 1, 3) := by decide +kernel
theorem dX3_refresh_119 : decode cX3_refresh 119 = .ok (.goto (-27), 3) := by decide +kernel
theorem dX3_refresh_122 : decode cX3_refresh 122 = .ok (.iconst 1, 1) := by decide +kernel
theorem dX3_refresh_123 : decode cX3_refresh 123 = .ok (.ireturn, 1) := by decide +kernel
theorem dX3_refreshAll_0 : decode cX3_refreshAll 0 = .ok (.iconst 0, 1) := by decide +kernel
theorem dX3_refreshAll_1 : decode cX3_refreshAll 1 = .ok (.istore_n 1, 1) := by decide +kernel
theorem dX3_refreshAll_2 : decode cX3_refreshAll 2 = .ok (.iload_n 1, 1) := by decide +kernel
theorem dX3_refreshAll_3 : decode cX3_refreshAll 3 = .ok (.aload_n 0, 1) := by decide +kernel
theorem dX3_refreshAll_4 : decode cX3_refreshAll 4 = .ok (.getfield 48, 3) := by decide +kernel
theorem dX3_refreshAll_7 : decode cX3_refreshAll 7 = .ok (.if_icmp .ge 16, 3) := by decide +kernel
theorem dX3_refreshAll_10 : decode cX3_refreshAll 10 = .ok (.aload_n 0, 1) := by decide +kernel
theorem dX3_refreshAll_11 : decode cX3_refreshAll 11 = .ok (.iload_n 1, 1) := by decide +kernel
theorem dX3_refreshAll_12 : decode cX3_refreshAll 12 = .ok (.iconst 0, 1) := by decide +kernel
theorem dX3_refreshAll_13 : decode cX3_refreshAll 13 = .ok (.invokevirtual 176, 3) := by decide +kernel
theorem dX3_refreshAll_16 : decode cX3_refreshAll 16 = .ok (.pop, 1) := by decide +kernel
theorem dX3_refreshAll_17 : decode cX3_refreshAll 17 = .ok (.iinc 1 1, 3) := by decide +kernel
theorem dX3_refreshAll_20 : decode cX3_refreshAll 20 = .ok (.goto (-18), 3) := by decide +kernel
theorem dX3_refreshAll_23 : decode cX3_refreshAll 23 = .ok (.return_, 1) := by decide +kernel
theorem dX4_init_0 : decode cX4_init 0 = .ok (.aload_n 0, 1) := by decide +kernel
theorem dX4_init_1 : decode cX4_init 1 = .ok (.invokespecial 1, 3) := by decide +kernel
theorem dX4_init_4 : decode cX4_init 4 = .ok (.aload_n 0, 1) := by decide +kernel
theorem dX4_init_5 : decode cX4_init 5 = .ok (.iconst 1, 1) := by decide +kernel
theorem dX4_init_6 : decode cX4_init 6 = .ok (.putfield 7, 3) := by decide +kernel
theorem dX4_init_9 : decode cX4_init 9 = .ok (.aload_n 0, 1) := by decide +kernel
theorem dX4_init_10 : decode cX4_init 10 = .ok (.sipush 144, 3) := by decide +kernel
theorem dX4_init_13 : decode cX4_init 13 = .ok (.newarray .long, 2) := by decide +kernel
theorem dX4_init_15 : decode cX4_init 15 = .ok (.putfield 13, 3) := by decide +kernel
theorem dX4_init_18 : decode cX4_init 18 = .ok (.aload_n 0, 1) := by decide +kernel
theorem dX4_init_19 : decode cX4_init 19 = .ok (.bipush 40, 2) := by decide +kernel
theorem dX4_init_21 : decode cX4_init 21 = .ok (.newarray .boolean, 2) := by decide +kernel
theorem dX4_init_23 : decode cX4_init 23 = .ok (.putfield 17, 3) := by decide +kernel
theorem dX4_init_26 : decode cX4_init 26 = .ok (.aload_n 0, 1) := by decide +kernel
theorem dX4_init_27 : decode cX4_init 27 = .ok (.sipush 960, 3) := by decide +kernel
theorem dX4_init_30 : decode cX4_init 30 = .ok (.newarray .boolean, 2) := by decide +kernel
theorem dX4_init_32 : decode cX4_init 32 = .ok (.putfield 21, 3) := by decide +kernel
theorem dX4_init_35 : decode cX4_init 35 = .ok (.aload_n 0, 1) := by decide +kernel
theorem dX4_init_36 : decode cX4_init 36 = .ok (.sipush 960, 3) := by decide +kernel
theorem dX4_init_39 : decode cX4_init 39 = .ok (.newarray .boolean, 2) := by decide +kernel
theorem dX4_init_41 : decode cX4_init 41 = .ok (.putfield 24, 3) := by decide +kernel
theorem dX4_init_44 : decode cX4_init 44 = .ok (.aload_n 0, 1) := by decide +kernel
theorem dX4_init_45 : decode cX4_init 45 = .ok (.sipush 960, 3) := by decide +kernel
theorem dX4_init_48 : decode cX4_init 48 = .ok (.newarray .long, 2) := by decide +kernel
theorem dX4_init_50 : decode cX4_init 50 = .ok (.putfield 27, 3) := by decide +kernel
theorem dX4_init_53 : decode cX4_init 53 = .ok (.aload_n 0, 1) := by decide +kernel
theorem dX4_init_54 : decode cX4_init 54 = .ok (.sipush 960, 3) := by decide +kernel
theorem dX4_init_57 : decode cX4_init 57 = .ok (.newarray .long, 2) := by decide +kernel
theorem dX4_init_59 : decode cX4_init 59 = .ok (.putfield 30, 3) := by decide +kernel
theorem dX4_init_62 : decode cX4_init 62 = .ok (.aload_n 0, 1) := by decide +kernel
theorem dX4_init_63 : decode cX4_init 63 = .ok (.bipush 24, 2) := by decide +kernel
theorem dX4_init_65 : decode cX4_init 65 = .ok (.newarray .int, 2) := by decide +kernel
theorem dX4_init_67 : decode cX4_init 67 = .ok (.putfield 33, 3) := by decide +kernel
theorem dX4_init_70 : decode cX4_init 70 = .ok (.aload_n 0, 1) := by decide +kernel
theorem dX4_init_71 : decode cX4_init 71 = .ok (.bipush 24, 2) := by decide +kernel
theorem dX4_init_73 : decode cX4_init 73 = .ok (.newarray .long, 2) := by decide +kernel
theorem dX4_init_75 : decode cX4_init 75 = .ok (.putfield 37, 3) := by decide +kernel
theorem dX4_init_78 : decode cX4_init 78 = .ok (.aload_n 0, 1) := by decide +kernel
theorem dX4_init_79 : decode cX4_init 79 = .ok (.bipush 24, 2) := by decide +kernel
theorem dX4_init_81 : decode cX4_init 81 = .ok (.newarray .long, 2) := by decide +kernel
theorem dX4_init_83 : decode cX4_init 83 = .ok (.putfield 40, 3) := by decide +kernel
theorem dX4_init_86 : decode cX4_init 86 = .ok (.aload_n 0, 1) := by decide +kernel
theorem dX4_init_87 : decode cX4_init 87 = .ok (.bipush 24, 2) := by decide +kernel
theorem dX4_init_89 : decode cX4_init 89 = .ok (.newarray .boolean, 2) := by decide +kernel
theorem dX4_init_91 : decode cX4_init 91 = .ok (.putfield 43, 3) := by decide +kernel
theorem dX4_init_94 : decode cX4_init 94 = .ok (.aload_n 0, 1) := by decide +kernel
theorem dX4_init_95 : decode cX4_init 95 = .ok (.bipush 12, 2) := by decide +kernel
theorem dX4_init_97 : decode cX4_init 97 = .ok (.newarray .int, 2) := by decide +kernel
theorem dX4_init_99 : decode cX4_init 99 = .ok (.putfield 46, 3) := by decide +kernel
theorem dX4_init_102 : decode cX4_init 102 = .ok (.aload_n 0, 1) := by decide +kernel
theorem dX4_init_103 : decode cX4_init 103 = .ok (.bipush 96, 2) := by decide +kernel
theorem dX4_init_105 : decode cX4_init 105 = .ok (.newarray .int, 2) := by decide +kernel
theorem dX4_init_107 : decode cX4_init 107 = .ok (.putfield 49, 3) := by decide +kernel
theorem dX4_init_110 : decode cX4_init 110 = .ok (.aload_n 0, 1) := by decide +kernel
theorem dX4_init_111 : decode cX4_init 111 = .ok (.bipush 12, 2) := by decide +kernel
theorem dX4_init_113 : decode cX4_init 113 = .ok (.newarray .int, 2) := by decide +kernel
theorem dX4_init_115 : decode cX4_init 115 = .ok (.putfield 52, 3) := by decide +kernel
theorem dX4_init_118 : decode cX4_init 118 = .ok (.aload_n 0, 1) := by decide +kernel
theorem dX4_init_119 : decode cX4_init 119 = .ok (.bipush 48, 2) := by decide +kernel
theorem dX4_init_121 : decode cX4_init 121 = .ok (.newarray .int, 2) := by decide +kernel
theorem dX4_init_123 : decode cX4_init 123 = .ok (.putfield 55, 3) := by decide +kernel
theorem dX4_init_126 : decode cX4_init 126 = .ok (.aload_n 0, 1) := by decide +kernel
theorem dX4_init_127 : decode cX4_init 127 = .ok (.bipush 12, 2) := by decide +kernel
theorem dX4_init_129 : decode cX4_init 129 = .ok (.newarray .int, 2) := by decide +kernel
theorem dX4_init_131 : decode cX4_init 131 = .ok (.putfield 58, 3) := by decide +kernel
theorem dX4_init_134 : decode cX4_init 134 = .ok (.aload_n 0, 1) := by decide +kernel
theorem dX4_init_135 : decode cX4_init 135 = .ok (.bipush 12, 2) := by decide +kernel
theorem dX4_init_137 : decode cX4_init 137 = .ok (.newarray .boolean, 2) := by decide +kernel
theorem dX4_init_139 : decode cX4_init 139 = .ok (.putfield 61, 3) := by decide +kernel
theorem dX4_init_142 : decode cX4_init 142 = .ok (.aload_n 0, 1) := by decide +kernel
theorem dX4_init_143 : decode cX4_init 143 = .ok (.bipush 12, 2) := by decide +kernel
theorem dX4_init_145 : decode cX4_init 145 = .ok (.newarray .int, 2) := by decide +kernel
theorem dX4_init_147 : decode cX4_init 147 = .ok (.putfield 64, 3) := by decide +kernel
theorem dX4_init_150 : decode cX4_init 150 = .ok (.aload_n 0, 1) := by decide +kernel
theorem dX4_init_151 : decode cX4_init 151 = .ok (.bipush 12, 2) := by decide +kernel
theorem dX4_init_153 : decode cX4_init 153 = .ok (.newarray .int, 2) := by decide +kernel
theorem dX4_init_155 : decode cX4_init 155 = .ok (.putfield 67, 3) := by decide +kernel
theorem dX4_init_158 : decode cX4_init 158 = .ok (.aload_n 0, 1) := by decide +kernel
theorem dX4_init_159 : decode cX4_init 159 = .ok (.bipush 96, 2) := by decide +kernel
theorem dX4_init_161 : decode cX4_init 161 = .ok (.newarray .long, 2) := by decide +kernel
theorem dX4_init_163 : decode cX4_init 163 = .ok (.putfield 70, 3) := by decide +kernel
theorem dX4_init_166 : decode cX4_init 166 = .ok (.aload_n 0, 1) := by decide +kernel
theorem dX4_init_167 : decode cX4_init 167 = .ok (.bipush 12, 2) := by decide +kernel
theorem dX4_init_169 : decode cX4_init 169 = .ok (.newarray .long, 2) := by decide +kernel
theorem dX4_init_171 : decode cX4_init 171 = .ok (.putfield 73, 3) := by decide +kernel
theorem dX4_init_174 : decode cX4_init 174 = .ok (.aload_n 0, 1) := by decide +kernel
theorem dX4_init_175 : decode cX4_init 175 = .ok (.bipush 12, 2) := by decide +kernel
end
section
theorem dX4_init_177 : decode cX4_init 177 = .ok (.newarray .boolean, 2) := by decide +kernel
theorem dX4_init_179 : decode cX4_init 179 = .ok (.putfield 76, 3) := by decide +kernel
theorem dX4_init_182 : decode cX4_init 182 = .ok (.aload_n 0, 1) := by decide +kernel
theorem dX4_init_183 : decode cX4_init 183 = .ok (.bipush 12, 2) := by decide +kernel
theorem dX4_init_185 : decode cX4_init 185 = .ok (.newarray .boolean, 2) := by decide +kernel
theorem dX4_init_187 : decode cX4_init 187 = .ok (.putfield 79, 3) := by decide +kernel
theorem dX4_init_190 : decode cX4_init 190 = .ok (.return_, 1) := by decide +kernel
theorem dX4_isThing_0 : decode cX4_isThing 0 = .ok (.iload_n 1, 1) := by decide +kernel
theorem dX4_isThing_1 : decode cX4_isThing 1 = .ok (.ifCond .lt 15, 3) := by decide +kernel
theorem dX4_isThing_4 : decode cX4_isThing 4 = .ok (.iload_n 1, 1) := by decide +kernel
theorem dX4_isThing_5 : decode cX4_isThing 5 = .ok (.aload_n 0, 1) := by decide +kernel
theorem dX4_isThing_6 : decode cX4_isThing 6 = .ok (.getfield 82, 3) := by decide +kernel
theorem dX4_isThing_9 : decode cX4_isThing 9 = .ok (.if_icmp .ge 7, 3) := by decide +kernel
theorem dX4_isThing_12 : decode cX4_isThing 12 = .ok (.iconst 1, 1) := by decide +kernel
theorem dX4_isThing_13 : decode cX4_isThing 13 = .ok (.goto 4, 3) := by decide +kernel
theorem dX4_isThing_16 : decode cX4_isThing 16 = .ok (.iconst 0, 1) := by decide +kernel
theorem dX4_isThing_17 : decode cX4_isThing 17 = .ok (.ireturn, 1) := by decide +kernel
theorem dX4_isStep_0 : decode cX4_isStep 0 = .ok (.iload_n 1, 1) := by decide +kernel
theorem dX4_isStep_1 : decode cX4_isStep 1 = .ok (.ifCond .lt 15, 3) := by decide +kernel
theorem dX4_isStep_4 : decode cX4_isStep 4 = .ok (.iload_n 1, 1) := by decide +kernel
theorem dX4_isStep_5 : decode cX4_isStep 5 = .ok (.aload_n 0, 1) := by decide +kernel
theorem dX4_isStep_6 : decode cX4_isStep 6 = .ok (.getfield 85, 3) := by decide +kernel
theorem dX4_isStep_9 : decode cX4_isStep 9 = .ok (.if_icmp .ge 7, 3) := by decide +kernel
theorem dX4_isStep_12 : decode cX4_isStep 12 = .ok (.iconst 1, 1) := by decide +kernel
theorem dX4_isStep_13 : decode cX4_isStep 13 = .ok (.goto 4, 3) := by decide +kernel
theorem dX4_isStep_16 : decode cX4_isStep 16 = .ok (.iconst 0, 1) := by decide +kernel
theorem dX4_isStep_17 : decode cX4_isStep 17 = .ok (.ireturn, 1) := by decide +kernel
theorem dX4_thing_0 : decode cX4_thing 0 = .ok (.aload_n 0, 1) := by decide +kernel
theorem dX4_thing_1 : decode cX4_thing 1 = .ok (.getfield 82, 3) := by decide +kernel
theorem dX4_thing_4 : decode cX4_thing 4 = .ok (.bipush 24, 2) := by decide +kernel
theorem dX4_thing_6 : decode cX4_thing 6 = .ok (.if_icmp .ne 5, 3) := by decide +kernel
theorem dX4_thing_9 : decode cX4_thing 9 = .ok (.iconst (-1), 1) := by decide +kernel
theorem dX4_thing_10 : decode cX4_thing 10 = .ok (.ireturn, 1) := by decide +kernel
theorem dX4_thing_11 : decode cX4_thing 11 = .ok (.iconst 0, 1) := by decide +kernel
theorem dX4_thing_12 : decode cX4_thing 12 = .ok (.istore_n 3, 1) := by decide +kernel
theorem dX4_thing_13 : decode cX4_thing 13 = .ok (.iload_n 3, 1) := by decide +kernel
theorem dX4_thing_14 : decode cX4_thing 14 = .ok (.bipush 6, 2) := by decide +kernel
theorem dX4_thing_16 : decode cX4_thing 16 = .ok (.if_icmp .ge 24, 3) := by decide +kernel
theorem dX4_thing_19 : decode cX4_thing 19 = .ok (.aload_n 0, 1) := by decide +kernel
theorem dX4_thing_20 : decode cX4_thing 20 = .ok (.getfield 13, 3) := by decide +kernel
theorem dX4_thing_23 : decode cX4_thing 23 = .ok (.bipush 24, 2) := by decide +kernel
theorem dX4_thing_25 : decode cX4_thing 25 = .ok (.iload_n 3, 1) := by decide +kernel
theorem dX4_thing_26 : decode cX4_thing 26 = .ok (.imul, 1) := by decide +kernel
theorem dX4_thing_27 : decode cX4_thing 27 = .ok (.aload_n 0, 1) := by decide +kernel
theorem dX4_thing_28 : decode cX4_thing 28 = .ok (.getfield 82, 3) := by decide +kernel
theorem dX4_thing_31 : decode cX4_thing 31 = .ok (.iadd, 1) := by decide +kernel
theorem dX4_thing_32 : decode cX4_thing 32 = .ok (.lload_n 1, 1) := by decide +kernel
theorem dX4_thing_33 : decode cX4_thing 33 = .ok (.lastore, 1) := by decide +kernel
theorem dX4_thing_34 : decode cX4_thing 34 = .ok (.iinc 3 1, 3) := by decide +kernel
theorem dX4_thing_37 : decode cX4_thing 37 = .ok (.goto (-24), 3) := by decide +kernel
theorem dX4_thing_40 : decode cX4_thing 40 = .ok (.aload_n 0, 1) := by decide +kernel
theorem dX4_thing_41 : decode cX4_thing 41 = .ok (.dup, 1) := by decide +kernel
theorem dX4_thing_42 : decode cX4_thing 42 = .ok (.getfield 82, 3) := by decide +kernel
theorem dX4_thing_45 : decode cX4_thing 45 = .ok (.iconst 1, 1) := by decide +kernel
theorem dX4_thing_46 : decode cX4_thing 46 = .ok (.iadd, 1) := by decide +kernel
theorem dX4_thing_47 : decode cX4_thing 47 = .ok (.putfield 82, 3) := by decide +kernel
theorem dX4_thing_50 : decode cX4_thing 50 = .ok (.aload_n 0, 1) := by decide +kernel
theorem dX4_thing_51 : decode cX4_thing 51 = .ok (.getfield 82, 3) := by decide +kernel
theorem dX4_thing_54 : decode cX4_thing 54 = .ok (.iconst 1, 1) := by decide +kernel
theorem dX4_thing_55 : decode cX4_thing 55 = .ok (.isub, 1) := by decide +kernel
theorem dX4_thing_56 : decode cX4_thing 56 = .ok (.ireturn, 1) := by decide +kernel
theorem dX4_step_0 : decode cX4_step 0 = .ok (.iload_n 1, 1) := by decide +kernel
theorem dX4_step_1 : decode cX4_step 1 = .ok (.ifCond .lt 8, 3) := by decide +kernel
theorem dX4_step_4 : decode cX4_step 4 = .ok (.iload_n 1, 1) := by decide +kernel
theorem dX4_step_5 : decode cX4_step 5 = .ok (.iconst 3, 1) := by decide +kernel
theorem dX4_step_6 : decode cX4_step 6 = .ok (.if_icmp .le 6, 3) := by decide +kernel
theorem dX4_step_9 : decode cX4_step 9 = .ok (.bipush (-2), 2) := by decide +kernel
theorem dX4_step_11 : decode cX4_step 11 = .ok (.ireturn, 1) := by decide +kernel
theorem dX4_step_12 : decode cX4_step 12 = .ok (.aload_n 0, 1) := by decide +kernel
theorem dX4_step_13 : decode cX4_step 13 = .ok (.getfield 85, 3) := by decide +kernel
theorem dX4_step_16 : decode cX4_step 16 = .ok (.bipush 12, 2) := by decide +kernel
theorem dX4_step_18 : decode cX4_step 18 = .ok (.if_icmp .ne 5, 3) := by decide +kernel
theorem dX4_step_21 : decode cX4_step 21 = .ok (.iconst (-1), 1) := by decide +kernel
theorem dX4_step_22 : decode cX4_step 22 = .ok (.ireturn, 1) := by decide +kernel
theorem dX4_step_23 : decode cX4_step 23 = .ok (.aload_n 0, 1) := by decide +kernel
theorem dX4_step_24 : decode cX4_step 24 = .ok (.getfield 46, 3) := by decide +kernel
theorem dX4_step_27 : decode cX4_step 27 = .ok (.aload_n 0, 1) := by decide +kernel
theorem dX4_step_28 : decode cX4_step 28 = .ok (.getfield 85, 3) := by decide +kernel
theorem dX4_step_31 : decode cX4_step 31 = .ok (.iload_n 1, 1) := by decide +kernel
theorem dX4_step_32 : decode cX4_step 32 = .ok (.iastore, 1) := by decide +kernel
theorem dX4_step_33 : decode cX4_step 33 = .ok (.aload_n 0, 1) := by decide +kernel
theorem dX4_step_34 : decode cX4_step 34 = .ok (.dup, 1) := by decide +kernel
theorem dX4_step_35 : decode cX4_step 35 = .ok (.getfield 85, 3) := by decide +kernel
theorem dX4_step_38 : decode cX4_step 38 = .ok (.iconst 1, 1) := by decide +kernel
theorem dX4_step_39 : decode cX4_step 39 = .ok (.iadd, 1) := by decide +kernel
theorem dX4_step_40 : decode cX4_step 40 = .ok (.putfield 85, 3) := by decide +kernel
theorem dX4_step_43 : decode cX4_step 43 = .ok (.aload_n 0, 1) := by decide +kernel
theorem dX4_step_44 : decode cX4_step 44 = .ok (.getfield 85, 3) := by decide +kernel
theorem dX4_step_47 : decode cX4_step 47 = .ok (.iconst 1, 1) := by decide +kernel
theorem dX4_step_48 : decode cX4_step 48 = .ok (.isub, 1) := by decide +kernel
theorem dX4_step_49 : decode cX4_step 49 = .ok (.ireturn, 1) := by decide +kernel
theorem dX4_doesUse_0 : decode cX4_doesUse 0 = .ok (.iconst 0, 1) := by decide +kernel
theorem dX4_doesUse_1 : decode cX4_doesUse 1 = .ok (.istore_n 3, 1) := by decide +kernel
theorem dX4_doesUse_2 : decode cX4_doesUse 2 = .ok (.iconst 0, 1) := by decide +kernel
theorem dX4_doesUse_3 : decode cX4_doesUse 3 = .ok (.istore 4, 2) := by decide +kernel
theorem dX4_doesUse_5 : decode cX4_doesUse 5 = .ok (.iload 4, 2) := by decide +kernel
theorem dX4_doesUse_7 : decode cX4_doesUse 7 = .ok (.aload_n 0, 1) := by decide +kernel
theorem dX4_doesUse_8 : decode cX4_doesUse 8 = .ok (.getfield 52, 3) := by decide +kernel
theorem dX4_doesUse_11 : decode cX4_doesUse 11 = .ok (.iload_n 1, 1) := by decide +kernel
theorem dX4_doesUse_12 : decode cX4_doesUse 12 = .ok (.iaload, 1) := by decide +kernel
theorem dX4_doesUse_13 : decode cX4_doesUse 13 = .ok (.if_icmp .ge 35, 3) := by decide +kernel
theorem dX4_doesUse_16 : decode cX4_doesUse 16 = .ok (.iload_n 3, 1) := by decide +kernel
theorem dX4_doesUse_17 : decode cX4_doesUse 17 = .ok (.ifCond .ne 19, 3) := by decide +kernel
theorem dX4_doesUse_20 : decode cX4_doesUse 20 = .ok (.aload_n 0, 1) := by decide +kernel
theorem dX4_doesUse_21 : decode cX4_doesUse 21 = .ok (.getfield 49, 3) := by decide +kernel
theorem dX4_doesUse_24 : decode cX4_doesUse 24 = .ok (.bipush 8, 2) := by decide +kernel
theorem dX4_doesUse_26 : decode cX4_doesUse 26 = .ok (.iload_n 1, 1) := by decide +kernel
theorem dX4_doesUse_27 : decode cX4_doesUse 27 = .ok (.imul, 1) := by decide +kernel
theorem dX4_doesUse_28 : decode cX4_doesUse 28 = .ok (.iload 4, 2) := by decide +kernel
theorem dX4_doesUse_30 : decode cX4_doesUse 30 = .ok (.iadd, 1) := by decide +kernel
theorem dX4_doesUse_31 : decode cX4_doesUse 31 = .ok (.iaload, 1) := by decide +kernel
theorem dX4_doesUse_32 : decode cX4_doesUse 32 = .ok (.iload_n 2, 1) := by decide +kernel
theorem dX4_doesUse_33 : decode cX4_doesUse 33 = .ok (.if_icmp .ne 7, 3) := by decide +kernel
theorem dX4_doesUse_36 : decode cX4_doesUse 36 = .ok (.iconst 1, 1) := by decide +kernel
theorem dX4_doesUse_37 : decode cX4_doesUse 37 = .ok (.goto 4, 3) := by decide +kernel
theorem dX4_doesUse_40 : decode cX4_doesUse 40 = .ok (.iconst 0, 1) := by decide +kernel
theorem dX4_doesUse_41 : decode cX4_doesUse 41 = .ok (.istore_n 3, 1) := by decide +kernel
theorem dX4_doesUse_42 : decode cX4_doesUse 42 = .ok (.iinc 4 1, 3) := by decide +kernel
theorem dX4_doesUse_45 : decode cX4_doesUse 45 = .ok (.goto (-40), 3) := by decide +kernel
theorem dX4_doesUse_48 : decode cX4_doesUse 48 = .ok (.iload_n 3, 1) := by decide +kernel
theorem dX4_doesUse_49 : decode cX4_doesUse 49 = .ok (.ireturn, 1) := by decide +kernel
theorem dX4_doesMake_0 : decode cX4_doesMake 0 = .ok (.iconst 0, 1) := by decide +kernel
theorem dX4_doesMake_1 : decode cX4_doesMake 1 = .ok (.istore_n 3, 1) := by decide +kernel
theorem dX4_doesMake_2 : decode cX4_doesMake 2 = .ok (.iconst 0, 1) := by decide +kernel
theorem dX4_doesMake_3 : decode cX4_doesMake 3 = .ok (.istore 4, 2) := by decide +kernel
theorem dX4_doesMake_5 : decode cX4_doesMake 5 = .ok (.iload 4, 2) := by decide +kernel
theorem dX4_doesMake_7 : decode cX4_doesMake 7 = .ok (.aload_n 0, 1) := by decide +kernel
theorem dX4_doesMake_8 : decode cX4_doesMake 8 = .ok (.getfield 58, 3) := by decide +kernel
theorem dX4_doesMake_11 : decode cX4_doesMake 11 = .ok (.iload_n 1, 1) := by decide +kernel
theorem dX4_doesMake_12 : decode cX4_doesMake 12 = .ok (.iaload, 1) := by decide +kernel
theorem dX4_doesMake_13 : decode cX4_doesMake 13 = .ok (.if_icmp .ge 34, 3) := by decide +kernel
theorem dX4_doesMake_16 : decode cX4_doesMake 16 = .ok (.iload_n 3, 1) := by decide +kernel
theorem dX4_doesMake_17 : decode cX4_doesMake 17 = .ok (.ifCond .ne 18, 3) := by decide +kernel
theorem dX4_doesMake_20 : decode cX4_doesMake 20 = .ok (.aload_n 0, 1) := by decide +kernel
theorem dX4_doesMake_21 : decode cX4_doesMake 21 = .ok (.getfield 55, 3) := by decide +kernel
theorem dX4_doesMake_24 : decode cX4_doesMake 24 = .ok (.iconst 4, 1) := by decide +kernel
theorem dX4_doesMake_25 : decode cX4_doesMake 25 = .ok (.iload_n 1, 1) := by decide +kernel
theorem dX4_doesMake_26 : decode cX4_doesMake 26 = .ok (.imul, 1) := by decide +kernel
theorem dX4_doesMake_27 : decode cX4_doesMake 27 = .ok (.iload 4, 2) := by decide +kernel
theorem dX4_doesMake_29 : decode cX4_doesMake 29 = .ok (.iadd, 1) := by decide +kernel
theorem dX4_doesMake_30 : decode cX4_doesMake 30 = .ok (.iaload, 1) := by decide +kernel
theorem dX4_doesMake_31 : decode cX4_doesMake 31 = .ok (.iload_n 2, 1) := by decide +kernel
theorem dX4_doesMake_32 : decode cX4_doesMake 32 = .ok (.if_icmp .ne 7, 3) := by decide +kernel
theorem dX4_doesMake_35 : decode cX4_doesMake 35 = .ok (.iconst 1, 1) := by decide +kernel
theorem dX4_doesMake_36 : decode cX4_doesMake 36 = .ok (.goto 4, 3) := by decide +kernel
theorem dX4_doesMake_39 : decode cX4_doesMake 39 = .ok (.iconst 0, 1) := by decide +kernel
theorem dX4_doesMake_40 : decode cX4_doesMake 40 = .ok (.istore_n 3, 1) := by decide +kernel
theorem dX4_doesMake_41 : decode cX4_doesMake 41 = .ok (.iinc 4 1, 3) := by decide +kernel
theorem dX4_doesMake_44 : decode cX4_doesMake 44 = .ok (.goto (-39), 3) := by decide +kernel
theorem dX4_doesMake_47 : decode cX4_doesMake 47 = .ok (.iload_n 3, 1) := by decide +kernel
theorem dX4_doesMake_48 : decode cX4_doesMake 48 = .ok (.ireturn, 1) := by decide +kernel
theorem dX4_maker_0 : decode cX4_maker 0 = .ok (.iconst (-1), 1) := by decide +kernel
theorem dX4_maker_1 : decode cX4_maker 1 = .ok (.istore_n 2, 1) := by decide +kernel
theorem dX4_maker_2 : decode cX4_maker 2 = .ok (.iconst 0, 1) := by decide +kernel
theorem dX4_maker_3 : decode cX4_maker 3 = .ok (.istore_n 3, 1) := by decide +kernel
theorem dX4_maker_4 : decode cX4_maker 4 = .ok (.iload_n 3, 1) := by decide +kernel
theorem dX4_maker_5 : decode cX4_maker 5 = .ok (.aload_n 0, 1) := by decide +kernel
theorem dX4_maker_6 : decode cX4_maker 6 = .ok (.getfield 85, 3) := by decide +kernel
theorem dX4_maker_9 : decode cX4_maker 9 = .ok (.if_icmp .ge 24, 3) := by decide +kernel
theorem dX4_maker_12 : decode cX4_maker 12 = .ok (.aload_n 0, 1) := by decide +kernel
theorem dX4_maker_13 : decode cX4_maker 13 = .ok (.iload_n 3, 1) := by decide +kernel
theorem dX4_maker_14 : decode cX4_maker 14 = .ok (.iload_n 1, 1) := by decide +kernel
theorem dX4_maker_15 : decode cX4_maker 15 = .ok (.invokevirtual 88, 3) := by decide +kernel
theorem dX4_maker_18 : decode cX4_maker 18 = .ok (.ifCond .eq 7, 3) := by decide +kernel
theorem dX4_maker_21 : decode cX4_maker 21 = .ok (.iload_n 3, 1) := by decide +kernel
theorem dX4_maker_22 : decode cX4_maker 22 = .ok (.goto 4, 3) := by decide +kernel
theorem dX4_maker_25 : decode cX4_maker 25 = .ok (.iload_n 2, 1) := by decide +kernel
theorem dX4_maker_26 : decode cX4_maker 26 = .ok (.istore_n 2, 1) := by decide +kernel
theorem dX4_maker_27 : decode cX4_maker 27 = .ok (.iinc 3 1, 3) := by decide +kernel
theorem dX4_maker_30 : decode cX4_maker 30 = .ok (.goto (-26), 3) := by decide +kernel
theorem dX4_maker_33 : decode cX4_maker 33 = .ok (.iload_n 2, 1) := by decide +kernel
theorem dX4_maker_34 : decode cX4_maker 34 = .ok (.ireturn, 1) := by decide +kernel
theorem dX4_isBehind_0 : decode cX4_isBehind 0 = .ok (.iconst 0, 1) := by decide +kernel
theorem dX4_isBehind_1 : decode cX4_isBehind 1 = .ok (.istore_n 3, 1) := by decide +kernel
theorem dX4_isBehind_2 : decode cX4_isBehind 2 = .ok (.iconst 0, 1) := by decide +kernel
theorem dX4_isBehind_3 : decode cX4_isBehind 3 = .ok (.istore 4, 2) := by decide +kernel
theorem dX4_isBehind_5 : decode cX4_isBehind 5 = .ok (.iload 4, 2) := by decide +kernel
theorem dX4_isBehind_7 : decode cX4_isBehind 7 = .ok (.aload_n 0, 1) := by decide +kernel
theorem dX4_isBehind_8 : decode cX4_isBehind 8 = .ok (.getfield 58, 3) := by decide +kernel
theorem dX4_isBehind_11 : decode cX4_isBehind 11 = .ok (.iload_n 2, 1) := by decide +kernel
theorem dX4_isBehind_12 : decode cX4_isBehind 12 = .ok (.iaload, 1) := by decide +kernel
theorem dX4_isBehind_13 : decode cX4_isBehind 13 = .ok (.if_icmp .ge 38, 3) := by decide +kernel
theorem dX4_isBehind_16 : decode cX4_isBehind 16 = .ok (.iload_n 3, 1) := by decide +kernel
theorem dX4_isBehind_17 : decode cX4_isBehind 17 = .ok (.ifCond .ne 22, 3) := by decide +kernel
theorem dX4_isBehind_20 : decode cX4_isBehind 20 = .ok (.aload_n 0, 1) := by decide +kernel
theorem dX4_isBehind_21 : decode cX4_isBehind 21 = .ok (.iload_n 1, 1) := by decide +kernel
theorem dX4_isBehind_22 : decode cX4_isBehind 22 = .ok (.aload_n 0, 1) := by decide +kernel
theorem dX4_isBehind_23 : decode cX4_isBehind 23 = .ok (.getfield 55, 3) := by decide +kernel
theorem dX4_isBehind_26 : decode cX4_isBehind 26 = .ok (.iconst 4, 1) := by decide +kernel
theorem dX4_isBehind_27 : decode cX4_isBehind 27 = .ok (.iload_n 2, 1) := by decide +kernel
theorem dX4_isBehind_28 : decode cX4_isBehind 28 = .ok (.imul, 1) := by decide +kernel
theorem dX4_isBehind_29 : decode cX4_isBehind 29 = .ok (.iload 4, 2) := by decide +kernel
theorem dX4_isBehind_31 : decode cX4_isBehind 31 = .ok (.iadd, 1) := by decide +kernel
theorem dX4_isBehind_32 : decode cX4_isBehind 32 = .ok (.iaload, 1) := by decide +kernel
theorem dX4_isBehind_33 : decode cX4_isBehind 33 = .ok (.invokevirtual 92, 3) := by decide +kernel
theorem dX4_isBehind_36 : decode cX4_isBehind 36 = .ok (.ifCond .eq 7, 3) := by decide +kernel
theorem dX4_isBehind_39 : decode cX4_isBehind 39 = .ok (.iconst 1, 1) := by decide +kernel
theorem dX4_isBehind_40 : decode cX4_isBehind 40 = .ok (.goto 4, 3) := by decide +kernel
theorem dX4_isBehind_43 : decode cX4_isBehind 43 = .ok (.iconst 0, 1) := by decide +kernel
theorem dX4_isBehind_44 : decode cX4_isBehind 44 = .ok (.istore_n 3, 1) := by decide +kernel
theorem dX4_isBehind_45 : decode cX4_isBehind 45 = .ok (.iinc 4 1, 3) := by decide +kernel
theorem dX4_isBehind_48 : decode cX4_isBehind 48 = .ok (.goto (-43), 3) := by decide +kernel
theorem dX4_isBehind_51 : decode cX4_isBehind 51 = .ok (.iload_n 3, 1) := by decide +kernel
theorem dX4_isBehind_52 : decode cX4_isBehind 52 = .ok (.ireturn, 1) := by decide +kernel
theorem dX4_markBehind_0 : decode cX4_markBehind 0 = .ok (.iconst 0, 1) := by decide +kernel
theorem dX4_markBehind_1 : decode cX4_markBehind 1 = .ok (.istore_n 1, 1) := by decide +kernel
theorem dX4_markBehind_2 : decode cX4_markBehind 2 = .ok (.iload_n 1, 1) := by decide +kernel
theorem dX4_markBehind_3 : decode cX4_markBehind 3 = .ok (.bipush 12, 2) := by decide +kernel
theorem dX4_markBehind_5 : decode cX4_markBehind 5 = .ok (.if_icmp .ge 79, 3) := by decide +kernel
theorem dX4_markBehind_8 : decode cX4_markBehind 8 = .ok (.iconst 0, 1) := by decide +kernel
theorem dX4_markBehind_9 : decode cX4_markBehind 9 = .ok (.istore_n 2, 1) := by decide +kernel
theorem dX4_markBehind_10 : decode cX4_markBehind 10 = .ok (.iload_n 2, 1) := by decide +kernel
theorem dX4_markBehind_11 : decode cX4_markBehind 11 = .ok (.aload_n 0, 1) := by decide +kernel
theorem dX4_markBehind_12 : decode cX4_markBehind 12 = .ok (.getfield 85, 3) := by decide +kernel
theorem dX4_markBehind_15 : decode cX4_markBehind 15 = .ok (.if_icmp .ge 63, 3) := by decide +kernel
theorem dX4_markBehind_18 : decode cX4_markBehind 18 = .ok (.iconst 0, 1) := by decide +kernel
theorem dX4_markBehind_19 : decode cX4_markBehind 19 = .ok (.istore_n 3, 1) := by decide +kernel
theorem dX4_markBehind_20 : decode cX4_markBehind 20 = .ok (.iload_n 3, 1) := by decide +kernel
theorem dX4_markBehind_21 : decode cX4_markBehind 21 = .ok (.aload_n 0, 1) := by decide +kernel
theorem dX4_markBehind_22 : decode cX4_markBehind 22 = .ok (.getfield 85, 3) := by decide +kernel
theorem dX4_markBehind_25 : decode cX4_markBehind 25 = .ok (.if_icmp .ge 47, 3) := by decide +kernel
theorem dX4_markBehind_28 : decode cX4_markBehind 28 = .ok (.aload_n 0, 1) := by decide +kernel
theorem dX4_markBehind_29 : decode cX4_markBehind 29 = .ok (.getfield 76, 3) := by decide +kernel
theorem dX4_markBehind_32 : decode cX4_markBehind 32 = .ok (.iload_n 2, 1) := by decide +kernel
theorem dX4_markBehind_33 : decode cX4_markBehind 33 = .ok (.aload_n 0, 1) := by decide +kernel
theorem dX4_markBehind_34 : decode cX4_markBehind 34 = .ok (.getfield 76, 3) := by decide +kernel
theorem dX4_markBehind_37 : decode cX4_markBehind 37 = .ok (.iload_n 2, 1) := by decide +kernel
theorem dX4_markBehind_38 : decode cX4_markBehind 38 = .ok (.baload, 1) := by decide +kernel
theorem dX4_markBehind_39 : decode cX4_markBehind 39 = .ok (.ifCond .ne 21, 3) := by decide +kernel
theorem dX4_markBehind_42 : decode cX4_markBehind 42 = .ok (.aload_n 0, 1) := by decide +kernel
theorem dX4_markBehind_43 : decode cX4_markBehind 43 = .ok (.getfield 76, 3) := by decide +kernel
theorem dX4_markBehind_46 : decode cX4_markBehind 46 = .ok (.iload_n 3, 1) := by decide +kernel
theorem dX4_markBehind_47 : decode cX4_markBehind 47 = .ok (.baload, 1) := by decide +kernel
theorem dX4_markBehind_48 : decode cX4_markBehind 48 = .ok (.ifCond .eq 16, 3) := by decide +kernel
theorem dX4_markBehind_51 : decode cX4_markBehind 51 = .ok (.aload_n 0, 1) := by decide +kernel
theorem dX4_markBehind_52 : decode cX4_markBehind 52 = .ok (.iload_n 2, 1) := by decide +kernel
theorem dX4_markBehind_53 : decode cX4_markBehind 53 = .ok (.iload_n 3, 1) := by decide +kernel
theorem dX4_markBehind_54 : decode cX4_markBehind 54 = .ok (.invokevirtual 95, 3) := by decide +kernel
theorem dX4_markBehind_57 : decode cX4_markBehind 57 = .ok (.ifCond .eq 7, 3) := by decide +kernel
theorem dX4_markBehind_60 : decode cX4_markBehind 60 = .ok (.iconst 1, 1) := by decide +kernel
theorem dX4_markBehind_61 : decode cX4_markBehind 61 = .ok (.goto 4, 3) := by decide +kernel
theorem dX4_markBehind_64 : decode cX4_markBehind 64 = .ok (.iconst 0, 1) := by decide +kernel
theorem dX4_markBehind_65 : decode cX4_markBehind 65 = .ok (.bastore, 1) := by decide +kernel
theorem dX4_markBehind_66 : decode cX4_markBehind 66 = .ok (.iinc 3 1, 3) := by decide +kernel
theorem dX4_markBehind_69 : decode cX4_markBehind 69 = .ok (.goto (-49), 3) := by decide +kernel
theorem dX4_markBehind_72 : decode cX4_markBehind 72 = .ok (.iinc 2 1, 3) := by decide +kernel
theorem dX4_markBehind_75 : decode cX4_markBehind 75 = .ok (.goto (-65), 3) := by decide +kernel
theorem dX4_markBehind_78 : decode cX4_markBehind 78 = .ok (.iinc 1 1, 3) := by decide +kernel
theorem dX4_markBehind_81 : decode cX4_markBehind 81 = .ok (.goto (-79), 3) := by decide +kernel
theorem dX4_markBehind_84 : decode cX4_markBehind 84 = .ok (.return_, 1) := by decide +kernel
theorem dX4_unmark_0 : decode cX4_unmark 0 = .ok (.iconst 0, 1) := by decide +kernel
theorem dX4_unmark_1 : decode cX4_unmark 1 = .ok (.istore_n 1, 1) := by decide +kernel
theorem dX4_unmark_2 : decode cX4_unmark 2 = .ok (.iload_n 1, 1) := by decide +kernel
theorem dX4_unmark_3 : decode cX4_unmark 3 = .ok (.bipush 12, 2) := by decide +kernel
theorem dX4_unmark_5 : decode cX4_unmark 5 = .ok (.if_icmp .ge 16, 3) := by decide +kernel
theorem dX4_unmark_8 : decode cX4_unmark 8 = .ok (.aload_n 0, 1) := by decide +kernel
theorem dX4_unmark_9 : decode cX4_unmark 9 = .ok (.getfield 76, 3) := by decide +kernel
theorem dX4_unmark_12 : decode cX4_unmark 12 = .ok (.iload_n 1, 1) := by decide +kernel
theorem dX4_unmark_13 : decode cX4_unmark 13 = .ok (.iconst 0, 1) := by decide +kernel
theorem dX4_unmark_14 : decode cX4_unmark 14 = .ok (.bastore, 1) := by decide +kernel
theorem dX4_unmark_15 : decode cX4_unmark 15 = .ok (.iinc 1 1, 3) := by decide +kernel
theorem dX4_unmark_18 : decode cX4_unmark 18 = .ok (.goto (-16), 3) := by decide +kernel
theorem dX4_unmark_21 : decode cX4_unmark 21 = .ok (.return_, 1) := by decide +kernel
theorem dX4_uses_0 : decode cX4_uses 0 = .ok (.aload_n 0, 1) := by decide +kernel
theorem dX4_uses_1 : decode cX4_uses 1 = .ok (.iload_n 1, 1) := by decide +kernel
theorem dX4_uses_2 : decode cX4_uses 2 = .ok (.invokevirtual 98, 3) := by decide +kernel
theorem dX4_uses_5 : decode cX4_uses 5 = .ok (.ifCond .eq 31, 3) := by decide +kernel
theorem dX4_uses_8 : decode cX4_uses 8 = .ok (.aload_n 0, 1) := by decide +kernel
theorem dX4_uses_9 : decode cX4_uses 9 = .ok (.iload_n 2, 1) := by decide +kernel
theorem dX4_uses_10 : decode cX4_uses 10 = .ok (.invokevirtual 102, 3) := by decide +kernel
theorem dX4_uses_13 : decode cX4_uses 13 = .ok (.ifCond .eq 23, 3) := by decide +kernel
theorem dX4_uses_16 : decode cX4_uses 16 = .ok (.aload_n 0, 1) := by decide +kernel
theorem dX4_uses_17 : decode cX4_uses 17 = .ok (.iload_n 1, 1) := by decide +kernel
theorem dX4_uses_18 : decode cX4_uses 18 = .ok (.iload_n 2, 1) := by decide +kernel
theorem dX4_uses_19 : decode cX4_uses 19 = .ok (.invokevirtual 92, 3) := by decide +kernel
theorem dX4_uses_22 : decode cX4_uses 22 = .ok (.ifCond .ne 14, 3) := by decide +kernel
theorem dX4_uses_25 : decode cX4_uses 25 = .ok (.aload_n 0, 1) := by decide +kernel
theorem dX4_uses_26 : decode cX4_uses 26 = .ok (.getfield 52, 3) := by decide +kernel
theorem dX4_uses_29 : decode cX4_uses 29 = .ok (.iload_n 1, 1) := by decide +kernel
theorem dX4_uses_30 : decode cX4_uses 30 = .ok (.iaload, 1) := by decide +kernel
theorem dX4_uses_31 : decode cX4_uses 31 = .ok (.bipush 8, 2) := by decide +kernel
theorem dX4_uses_33 : decode cX4_uses 33 = .ok (.if_icmp .ne 5, 3) := by decide +kernel
theorem dX4_uses_36 : decode cX4_uses 36 = .ok (.iconst 0, 1) := by decide +kernel
theorem dX4_uses_37 : decode cX4_uses 37 = .ok (.ireturn, 1) := by decide +kernel
theorem dX4_uses_38 : decode cX4_uses 38 = .ok (.aload_n 0, 1) := by decide +kernel
theorem dX4_uses_39 : decode cX4_uses 39 = .ok (.invokevirtual 105, 3) := by decide +kernel
theorem dX4_uses_42 : decode cX4_uses 42 = .ok (.aload_n 0, 1) := by decide +kernel
theorem dX4_uses_43 : decode cX4_uses 43 = .ok (.getfield 76, 3) := by decide +kernel
theorem dX4_uses_46 : decode cX4_uses 46 = .ok (.iload_n 1, 1) := by decide +kernel
theorem dX4_uses_47 : decode cX4_uses 47 = .ok (.iconst 1, 1) := by decide +kernel
theorem dX4_uses_48 : decode cX4_uses 48 = .ok (.bastore, 1) := by decide +kernel
theorem dX4_uses_49 : decode cX4_uses 49 = .ok (.aload_n 0, 1) := by decide +kernel
theorem dX4_uses_50 : decode cX4_uses 50 = .ok (.invokevirtual 108, 3) := by decide +kernel
theorem dX4_uses_53 : decode cX4_uses 53 = .ok (.aload_n 0, 1) := by decide +kernel
theorem dX4_uses_54 : decode cX4_uses 54 = .ok (.iload_n 2, 1) := by decide +kernel
theorem dX4_uses_55 : decode cX4_uses 55 = .ok (.invokevirtual 111, 3) := by decide +kernel
theorem dX4_uses_58 : decode cX4_uses 58 = .ok (.istore_n 3, 1) := by decide +kernel
theorem dX4_uses_59 : decode cX4_uses 59 = .ok (.iload_n 3, 1) := by decide +kernel
theorem dX4_uses_60 : decode cX4_uses 60 = .ok (.ifCond .lt 14, 3) := by decide +kernel
theorem dX4_uses_63 : decode cX4_uses 63 = .ok (.aload_n 0, 1) := by decide +kernel
theorem dX4_uses_64 : decode cX4_uses 64 = .ok (.getfield 76, 3) := by decide +kernel
theorem dX4_uses_67 : decode cX4_uses 67 = .ok (.iload_n 3, 1) := by decide +kernel
theorem dX4_uses_68 : decode cX4_uses 68 = .ok (.baload, 1) := by decide +kernel
theorem dX4_uses_69 : decode cX4_uses 69 = .ok (.ifCond .eq 5, 3) := by decide +kernel
theorem dX4_uses_72 : decode cX4_uses 72 = .ok (.iconst 0, 1) := by decide +kernel
theorem dX4_uses_73 : decode cX4_uses 73 = .ok (.ireturn, 1) := by decide +kernel
theorem dX4_uses_74 : decode cX4_uses 74 = .ok (.aload_n 0, 1) := by decide +kernel
theorem dX4_uses_75 : decode cX4_uses 75 = .ok (.getfield 49, 3) := by decide +kernel
theorem dX4_uses_78 : decode cX4_uses 78 = .ok (.bipush 8, 2) := by decide +kernel
theorem dX4_uses_80 : decode cX4_uses 80 = .ok (.iload_n 1, 1) := by decide +kernel
theorem dX4_uses_81 : decode cX4_uses 81 = .ok (.imul, 1) := by decide +kernel
theorem dX4_uses_82 : decode cX4_uses 82 = .ok (.aload_n 0, 1) := by decide +kernel
theorem dX4_uses_83 : decode cX4_uses 83 = .ok (.getfield 52, 3) := by decide +kernel
theorem dX4_uses_86 : decode cX4_uses 86 = .ok (.iload_n 1, 1) := by decide +kernel
theorem dX4_uses_87 : decode cX4_uses 87 = .ok (.iaload, 1) := by decide +kernel
theorem dX4_uses_88 : decode cX4_uses 88 = .ok (.iadd, 1) := by decide +kernel
theorem dX4_uses_89 : decode cX4_uses 89 = .ok (.iload_n 2, 1) := by decide +kernel
theorem dX4_uses_90 : decode cX4_uses 90 = .ok (.iastore, 1) := by decide +kernel
theorem dX4_uses_91 : decode cX4_uses 91 = .ok (.aload_n 0, 1) := by decide +kernel
theorem dX4_uses_92 : decode cX4_uses 92 = .ok (.getfield 52, 3) := by decide +kernel
theorem dX4_uses_95 : decode cX4_uses 95 = .ok (.iload_n 1, 1) := by decide +kernel
theorem dX4_uses_96 : decode cX4_uses 96 = .ok (.dup2, 1) := by decide +kernel
theorem dX4_uses_97 : decode cX4_uses 97 = .ok (.iaload, 1) := by decide +kernel
theorem dX4_uses_98 : decode cX4_uses 98 = .ok (.iconst 1, 1) := by decide +kernel
theorem dX4_uses_99 : decode cX4_uses 99 = .ok (.iadd, 1) := by decide +kernel
theorem dX4_uses_100 : decode cX4_uses 100 = .ok (.iastore, 1) := by decide +kernel
theorem dX4_uses_101 : decode cX4_uses 101 = .ok (.iconst 1, 1) := by decide +kernel
theorem dX4_uses_102 : decode cX4_uses 102 = .ok (.ireturn, 1) := by decide +kernel
theorem dX4_makes_0 : decode cX4_makes 0 = .ok (.aload_n 0, 1) := by decide +kernel
theorem dX4_makes_1 : decode cX4_makes 1 = .ok (.iload_n 1, 1) := by decide +kernel
theorem dX4_makes_2 : decode cX4_makes 2 = .ok (.invokevirtual 98, 3) := by decide +kernel
theorem dX4_makes_5 : decode cX4_makes 5 = .ok (.ifCond .eq 29, 3) := by decide +kernel
theorem dX4_makes_8 : decode cX4_makes 8 = .ok (.aload_n 0, 1) := by decide +kernel
theorem dX4_makes_9 : decode cX4_makes 9 = .ok (.iload_n 2, 1) := by decide +kernel
theorem dX4_makes_10 : decode cX4_makes 10 = .ok (.invokevirtual 102, 3) := by decide +kernel
theorem dX4_makes_13 : decode cX4_makes 13 = .ok (.ifCond .eq 21, 3) := by decide +kernel
theorem dX4_makes_16 : decode cX4_makes 16 = .ok (.aload_n 0, 1) := by decide +kernel
theorem dX4_makes_17 : decode cX4_makes 17 = .ok (.iload_n 2, 1) := by decide +kernel
theorem dX4_makes_18 : decode cX4_makes 18 = .ok (.invokevirtual 111, 3) := by decide +kernel
theorem dX4_makes_21 : decode cX4_makes 21 = .ok (.ifCond .ge 13, 3) := by decide +kernel
theorem dX4_makes_24 : decode cX4_makes 24 = .ok (.aload_n 0, 1) := by decide +kernel
theorem dX4_makes_25 : decode cX4_makes 25 = .ok (.getfield 58, 3) := by decide +kernel
theorem dX4_makes_28 : decode cX4_makes 28 = .ok (.iload_n 1, 1) := by decide +kernel
theorem dX4_makes_29 : decode cX4_makes 29 = .ok (.iaload, 1) := by decide +kernel
theorem dX4_makes_30 : decode cX4_makes 30 = .ok (.iconst 4, 1) := by decide +kernel
theorem dX4_makes_31 : decode cX4_makes 31 = .ok (.if_icmp .ne 5, 3) := by decide +kernel
theorem dX4_makes_34 : decode cX4_makes 34 = .ok (.iconst 0, 1) := by decide +kernel
theorem dX4_makes_35 : decode cX4_makes 35 = .ok (.ireturn, 1) := by decide +kernel
theorem dX4_makes_36 : decode cX4_makes 36 = .ok (.aload_n 0, 1) := by decide +kernel
theorem dX4_makes_37 : decode cX4_makes 37 = .ok (.invokevirtual 105, 3) := by decide +kernel
theorem dX4_makes_40 : decode cX4_makes 40 = .ok (.iconst 0, 1) := by decide +kernel
theorem dX4_makes_41 : decode cX4_makes 41 = .ok (.istore_n 3, 1) := by decide +kernel
theorem dX4_makes_42 : decode cX4_makes 42 = .ok (.iload_n 3, 1) := by decide +kernel
theorem dX4_makes_43 : decode cX4_makes 43 = .ok (.aload_n 0, 1) := by decide +kernel
theorem dX4_makes_44 : decode cX4_makes 44 = .ok (.getfield 85, 3) := by decide +kernel
theorem dX4_makes_47 : decode cX4_makes 47 = .ok (.if_icmp .ge 21, 3) := by decide +kernel
theorem dX4_makes_50 : decode cX4_makes 50 = .ok (.aload_n 0, 1) := by decide +kernel
theorem dX4_makes_51 : decode cX4_makes 51 = .ok (.getfield 76, 3) := by decide +kernel
theorem dX4_makes_54 : decode cX4_makes 54 = .ok (.iload_n 3, 1) := by decide +kernel
theorem dX4_makes_55 : decode cX4_makes 55 = .ok (.aload_n 0, 1) := by decide +kernel
theorem dX4_makes_56 : decode cX4_makes 56 = .ok (.iload_n 3, 1) := by decide +kernel
theorem dX4_makes_57 : decode cX4_makes 57 = .ok (.iload_n 2, 1) := by decide +kernel
theorem dX4_makes_58 : decode cX4_makes 58 = .ok (.invokevirtual 92, 3) := by decide +kernel
theorem dX4_makes_61 : decode cX4_makes 61 = .ok (.bastore, 1) := by decide +kernel
theorem dX4_makes_62 : decode cX4_makes 62 = .ok (.iinc 3 1, 3) := by decide +kernel
theorem dX4_makes_65 : decode cX4_makes 65 = .ok (.goto (-23), 3) := by decide +kernel
theorem dX4_makes_68 : decode cX4_makes 68 = .ok (.aload_n 0, 1) := by decide +kernel
theorem dX4_makes_69 : decode cX4_makes 69 = .ok (.invokevirtual 108, 3) := by decide +kernel
theorem dX4_makes_72 : decode cX4_makes 72 = .ok (.aload_n 0, 1) := by decide +kernel
theorem dX4_makes_73 : decode cX4_makes 73 = .ok (.getfield 76, 3) := by decide +kernel
theorem dX4_makes_76 : decode cX4_makes 76 = .ok (.iload_n 1, 1) := by decide +kernel
theorem dX4_makes_77 : decode cX4_makes 77 = .ok (.baload, 1) := by decide +kernel
theorem dX4_makes_78 : decode cX4_makes 78 = .ok (.ifCond .eq 5, 3) := by decide +kernel
theorem dX4_makes_81 : decode cX4_makes 81 = .ok (.iconst 0, 1) := by decide +kernel
theorem dX4_makes_82 : decode cX4_makes 82 = .ok (.ireturn, 1) := by decide +kernel
theorem dX4_makes_83 : decode cX4_makes 83 = .ok (.aload_n 0, 1) := by decide +kernel
theorem dX4_makes_84 : decode cX4_makes 84 = .ok (.getfield 55, 3) := by decide +kernel
theorem dX4_makes_87 : decode cX4_makes 87 = .ok (.iconst 4, 1) := by decide +kernel
theorem dX4_makes_88 : decode cX4_makes 88 = .ok (.iload_n 1, 1) := by decide +kernel
theorem dX4_makes_89 : decode cX4_makes 89 = .ok (.imul, 1) := by decide +kernel
theorem dX4_makes_90 : decode cX4_makes 90 = .ok (.aload_n 0, 1) := by decide +kernel
theorem dX4_makes_91 : decode cX4_makes 91 = .ok (.getfield 58, 3) := by decide +kernel
theorem dX4_makes_94 : decode cX4_makes 94 = .ok (.iload_n 1, 1) := by decide +kernel
theorem dX4_makes_95 : decode cX4_makes 95 = .ok (.iaload, 1) := by decide +kernel
theorem dX4_makes_96 : decode cX4_makes 96 = .ok (.iadd, 1) := by decide +kernel
theorem dX4_makes_97 : decode cX4_makes 97 = .ok (.iload_n 2, 1) := by decide +kernel
theorem dX4_makes_98 : decode cX4_makes 98 = .ok (.iastore, 1) := by decide +kernel
theorem dX4_makes_99 : decode cX4_makes 99 = .ok (.aload_n 0, 1) := by decide +kernel
theorem dX4_makes_100 : decode cX4_makes 100 = .ok (.getfield 58, 3) := by decide +kernel
theorem dX4_makes_103 : decode cX4_makes 103 = .ok (.iload_n 1, 1) := by decide +kernel
theorem dX4_makes_104 : decode cX4_makes 104 = .ok (.dup2, 1) := by decide +kernel
theorem dX4_makes_105 : decode cX4_makes 105 = .ok (.iaload, 1) := by decide +kernel
theorem dX4_makes_106 : decode cX4_makes 106 = .ok (.iconst 1, 1) := by decide +kernel
theorem dX4_makes_107 : decode cX4_makes 107 = .ok (.iadd, 1) := by decide +kernel
theorem dX4_makes_108 : decode cX4_makes 108 = .ok (.iastore, 1) := by decide +kernel
theorem dX4_makes_109 : decode cX4_makes 109 = .ok (.iconst 1, 1) := by decide +kernel
theorem dX4_makes_110 : decode cX4_makes 110 = .ok (.ireturn, 1) := by decide +kernel
theorem dX4_session_0 : decode cX4_session 0 = .ok (.aload_n 0, 1) := by decide +kernel
theorem dX4_session_1 : decode cX4_session 1 = .ok (.getfield 115, 3) := by decide +kernel
theorem dX4_session_4 : decode cX4_session 4 = .ok (.bipush 40, 2) := by decide +kernel
theorem dX4_session_6 : decode cX4_session 6 = .ok (.if_icmp .ne 5, 3) := by decide +kernel
theorem dX4_session_9 : decode cX4_session 9 = .ok (.iconst (-1), 1) := by decide +kernel
theorem dX4_session_10 : decode cX4_session 10 = .ok (.ireturn, 1) := by decide +kernel
theorem dX4_session_11 : decode cX4_session 11 = .ok (.aload_n 0, 1) := by decide +kernel
theorem dX4_session_12 : decode cX4_session 12 = .ok (.getfield 17, 3) := by decide +kernel
theorem dX4_session_15 : decode cX4_session 15 = .ok (.aload_n 0, 1) := by decide +kernel
theorem dX4_session_16 : decode cX4_session 16 = .ok (.getfield 115, 3) := by decide +kernel
theorem dX4_session_19 : decode cX4_session 19 = .ok (.iconst 1, 1) := by decide +kernel
theorem dX4_session_20 : decode cX4_session 20 = .ok (.bastore, 1) := by decide +kernel
theorem dX4_session_21 : decode cX4_session 21 = .ok (.aload_n 0, 1) := by decide +kernel
theorem dX4_session_22 : decode cX4_session 22 = .ok (.dup, 1) := by decide +kernel
theorem dX4_session_23 : decode cX4_session 23 = .ok (.getfield 115, 3) := by decide +kernel
theorem dX4_session_26 : decode cX4_session 26 = .ok (.iconst 1, 1) := by decide +kernel
theorem dX4_session_27 : decode cX4_session 27 = .ok (.iadd, 1) := by decide +kernel
theorem dX4_session_28 : decode cX4_session 28 = .ok (.putfield 115, 3) := by decide +kernel
theorem dX4_session_31 : decode cX4_session 31 = .ok (.aload_n 0, 1) := by decide +kernel
theorem dX4_session_32 : decode cX4_session 32 = .ok (.getfield 115, 3) := by decide +kernel
theorem dX4_session_35 : decode cX4_session 35 = .ok (.iconst 1, 1) := by decide +kernel
theorem dX4_session_36 : decode cX4_session 36 = .ok (.isub, 1) := by decide +kernel
theorem dX4_session_37 : decode cX4_session 37 = .ok (.ireturn, 1) := by decide +kernel
theorem dX4_goes_0 : decode cX4_goes 0 = .ok (.iload_n 1, 1) := by decide +kernel
theorem dX4_goes_1 : decode cX4_goes 1 = .ok (.ifCond .lt 32, 3) := by decide +kernel
theorem dX4_goes_4 : decode cX4_goes 4 = .ok (.iload_n 1, 1) := by decide +kernel
theorem dX4_goes_5 : decode cX4_goes 5 = .ok (.aload_n 0, 1) := by decide +kernel
theorem dX4_goes_6 : decode cX4_goes 6 = .ok (.getfield 115, 3) := by decide +kernel
theorem dX4_goes_9 : decode cX4_goes 9 = .ok (.if_icmp .ge 24, 3) := by decide +kernel
theorem dX4_goes_12 : decode cX4_goes 12 = .ok (.aload_n 0, 1) := by decide +kernel
theorem dX4_goes_13 : decode cX4_goes 13 = .ok (.getfield 17, 3) := by decide +kernel
theorem dX4_goes_16 : decode cX4_goes 16 = .ok (.iload_n 1, 1) := by decide +kernel
theorem dX4_goes_17 : decode cX4_goes 17 = .ok (.baload, 1) := by decide +kernel
theorem dX4_goes_18 : decode cX4_goes 18 = .ok (.ifCond .eq 15, 3) := by decide +kernel
theorem dX4_goes_21 : decode cX4_goes 21 = .ok (.aload_n 0, 1) := by decide +kernel
theorem dX4_goes_22 : decode cX4_goes 22 = .ok (.iload_n 2, 1) := by decide +kernel
theorem dX4_goes_23 : decode cX4_goes 23 = .ok (.invokevirtual 102, 3) := by decide +kernel
theorem dX4_goes_26 : decode cX4_goes 26 = .ok (.ifCond .eq 7, 3) := by decide +kernel
theorem dX4_goes_29 : decode cX4_goes 29 = .ok (.iconst 1, 1) := by decide +kernel
theorem dX4_goes_30 : decode cX4_goes 30 = .ok (.goto 4, 3) := by decide +kernel
theorem dX4_goes_33 : decode cX4_goes 33 = .ok (.iconst 0, 1) := by decide +kernel
theorem dX4_goes_34 : decode cX4_goes 34 = .ok (.ireturn, 1) := by decide +kernel
theorem dX4_touch_0 : decode cX4_touch 0 = .ok (.aload_n 0, 1) := by decide +kernel
theorem dX4_touch_1 : decode cX4_touch 1 = .ok (.getfield 27, 3) := by decide +kernel
theorem dX4_touch_4 : decode cX4_touch 4 = .ok (.iload_n 1, 1) := by decide +kernel
theorem dX4_touch_5 : decode cX4_touch 5 = .ok (.aload_n 0, 1) := by decide +kernel
theorem dX4_touch_6 : decode cX4_touch 6 = .ok (.getfield 21, 3) := by decide +kernel
theorem dX4_touch_9 : decode cX4_touch 9 = .ok (.iload_n 1, 1) := by decide +kernel
theorem dX4_touch_10 : decode cX4_touch 10 = .ok (.baload, 1) := by decide +kernel
theorem dX4_touch_11 : decode cX4_touch 11 = .ok (.ifCond .eq 12, 3) := by decide +kernel
theorem dX4_touch_14 : decode cX4_touch 14 = .ok (.aload_n 0, 1) := by decide +kernel
theorem dX4_touch_15 : decode cX4_touch 15 = .ok (.getfield 27, 3) := by decide +kernel
theorem dX4_touch_18 : decode cX4_touch 18 = .ok (.iload_n 1, 1) := by decide +kernel
theorem dX4_touch_19 : decode cX4_touch 19 = .ok (.laload, 1) := by decide +kernel
theorem dX4_touch_20 : decode cX4_touch 20 = .ok (.goto 9, 3) := by decide +kernel
theorem dX4_touch_23 : decode cX4_touch 23 = .ok (.aload_n 0, 1) := by decide +kernel
theorem dX4_touch_24 : decode cX4_touch 24 = .ok (.getfield 13, 3) := by decide +kernel
theorem dX4_touch_27 : decode cX4_touch 27 = .ok (.iload_n 2, 1) := by decide +kernel
theorem dX4_touch_28 : decode cX4_touch 28 = .ok (.laload, 1) := by decide +kernel
theorem dX4_touch_29 : decode cX4_touch 29 = .ok (.lastore, 1) := by decide +kernel
theorem dX4_touch_30 : decode cX4_touch 30 = .ok (.aload_n 0, 1) := by decide +kernel
theorem dX4_touch_31 : decode cX4_touch 31 = .ok (.getfield 21, 3) := by decide +kernel
theorem dX4_touch_34 : decode cX4_touch 34 = .ok (.iload_n 1, 1) := by decide +kernel
theorem dX4_touch_35 : decode cX4_touch 35 = .ok (.iconst 1, 1) := by decide +kernel
theorem dX4_touch_36 : decode cX4_touch 36 = .ok (.bastore, 1) := by decide +kernel
theorem dX4_touch_37 : decode cX4_touch 37 = .ok (.return_, 1) := by decide +kernel
theorem dX4_own_0 : decode cX4_own 0 = .ok (.aload_n 0, 1) := by decide +kernel
theorem dX4_own_1 : decode cX4_own 1 = .ok (.getfield 24, 3) := by decide +kernel
theorem dX4_own_4 : decode cX4_own 4 = .ok (.iload_n 1, 1) := by decide +kernel
theorem dX4_own_5 : decode cX4_own 5 = .ok (.baload, 1) := by decide +kernel
theorem dX4_own_6 : decode cX4_own 6 = .ok (.ifCond .eq 12, 3) := by decide +kernel
theorem dX4_own_9 : decode cX4_own 9 = .ok (.aload_n 0, 1) := by decide +kernel
theorem dX4_own_10 : decode cX4_own 10 = .ok (.getfield 30, 3) := by decide +kernel
theorem dX4_own_13 : decode cX4_own 13 = .ok (.iload_n 1, 1) := by decide +kernel
theorem dX4_own_14 : decode cX4_own 14 = .ok (.laload, 1) := by decide +kernel
theorem dX4_own_15 : decode cX4_own 15 = .ok (.goto 9, 3) := by decide +kernel
theorem dX4_own_18 : decode cX4_own 18 = .ok (.aload_n 0, 1) := by decide +kernel
theorem dX4_own_19 : decode cX4_own 19 = .ok (.getfield 27, 3) := by decide +kernel
theorem dX4_own_22 : decode cX4_own 22 = .ok (.iload_n 1, 1) := by decide +kernel
theorem dX4_own_23 : decode cX4_own 23 = .ok (.laload, 1) := by decide +kernel
theorem dX4_own_24 : decode cX4_own 24 = .ok (.lreturn, 1) := by decide +kernel
theorem dX4_read_0 : decode cX4_read 0 = .ok (.aload_n 0, 1) := by decide +kernel
theorem dX4_read_1 : decode cX4_read 1 = .ok (.iload_n 1, 1) := by decide +kernel
theorem dX4_read_2 : decode cX4_read 2 = .ok (.iload_n 2, 1) := by decide +kernel
theorem dX4_read_3 : decode cX4_read 3 = .ok (.invokevirtual 118, 3) := by decide +kernel
theorem dX4_read_6 : decode cX4_read 6 = .ok (.ifCond .ne 5, 3) := by decide +kernel
theorem dX4_read_9 : decode cX4_read 9 = .ok (.lconst 0, 1) := by decide +kernel
theorem dX4_read_10 : decode cX4_read 10 = .ok (.lreturn, 1) := by decide +kernel
theorem dX4_read_11 : decode cX4_read 11 = .ok (.bipush 24, 2) := by decide +kernel
theorem dX4_read_13 : decode cX4_read 13 = .ok (.iload_n 1, 1) := by decide +kernel
theorem dX4_read_14 : decode cX4_read 14 = .ok (.imul, 1) := by decide +kernel
theorem dX4_read_15 : decode cX4_read 15 = .ok (.iload_n 2, 1) := by decide +kernel
theorem dX4_read_16 : decode cX4_read 16 = .ok (.iadd, 1) := by decide +kernel
theorem dX4_read_17 : decode cX4_read 17 = .ok (.istore_n 3, 1) := by decide +kernel
theorem dX4_read_18 : decode cX4_read 18 = .ok (.aload_n 0, 1) := by decide +kernel
theorem dX4_read_19 : decode cX4_read 19 = .ok (.iload_n 3, 1) := by decide +kernel
theorem dX4_read_20 : decode cX4_read 20 = .ok (.iload_n 2, 1) := by decide +kernel
theorem dX4_read_21 : decode cX4_read 21 = .ok (.invokevirtual 121, 3) := by decide +kernel
theorem dX4_read_24 : decode cX4_read 24 = .ok (.aload_n 0, 1) := by decide +kernel
theorem dX4_read_25 : decode cX4_read 25 = .ok (.iload_n 3, 1) := by decide +kernel
theorem dX4_read_26 : decode cX4_read 26 = .ok (.invokevirtual 125, 3) := by decide +kernel
theorem dX4_read_29 : decode cX4_read 29 = .ok (.lreturn, 1) := by decide +kernel
theorem dX4_write_0 : decode cX4_write 0 = .ok (.aload_n 0, 1) := by decide +kernel
end
section
theorem dX4_write_1 : decode cX4_write 1 = .ok (.iload_n 1, 1) := by decide +kernel
theorem dX4_write_2 : decode cX4_write 2 = .ok (.iload_n 2, 1) := by decide +kernel
theorem dX4_write_3 : decode cX4_write 3 = .ok (.invokevirtual 118, 3) := by decide +kernel
theorem dX4_write_6 : decode cX4_write 6 = .ok (.ifCond .ne 5, 3) := by decide +kernel
theorem dX4_write_9 : decode cX4_write 9 = .ok (.iconst 0, 1) := by decide +kernel
theorem dX4_write_10 : decode cX4_write 10 = .ok (.ireturn, 1) := by decide +kernel
theorem dX4_write_11 : decode cX4_write 11 = .ok (.bipush 24, 2) := by decide +kernel
theorem dX4_write_13 : decode cX4_write 13 = .ok (.iload_n 1, 1) := by decide +kernel
theorem dX4_write_14 : decode cX4_write 14 = .ok (.imul, 1) := by decide +kernel
theorem dX4_write_15 : decode cX4_write 15 = .ok (.iload_n 2, 1) := by decide +kernel
theorem dX4_write_16 : decode cX4_write 16 = .ok (.iadd, 1) := by decide +kernel
theorem dX4_write_17 : decode cX4_write 17 = .ok (.istore 5, 2) := by decide +kernel
theorem dX4_write_19 : decode cX4_write 19 = .ok (.aload_n 0, 1) := by decide +kernel
theorem dX4_write_20 : decode cX4_write 20 = .ok (.iload 5, 2) := by decide +kernel
theorem dX4_write_22 : decode cX4_write 22 = .ok (.iload_n 2, 1) := by decide +kernel
theorem dX4_write_23 : decode cX4_write 23 = .ok (.invokevirtual 121, 3) := by decide +kernel
theorem dX4_write_26 : decode cX4_write 26 = .ok (.aload_n 0, 1) := by decide +kernel
theorem dX4_write_27 : decode cX4_write 27 = .ok (.getfield 24, 3) := by decide +kernel
theorem dX4_write_30 : decode cX4_write 30 = .ok (.iload 5, 2) := by decide +kernel
theorem dX4_write_32 : decode cX4_write 32 = .ok (.iconst 1, 1) := by decide +kernel
theorem dX4_write_33 : decode cX4_write 33 = .ok (.bastore, 1) := by decide +kernel
theorem dX4_write_34 : decode cX4_write 34 = .ok (.aload_n 0, 1) := by decide +kernel
theorem dX4_write_35 : decode cX4_write 35 = .ok (.getfield 30, 3) := by decide +kernel
theorem dX4_write_38 : decode cX4_write 38 = .ok (.iload 5, 2) := by decide +kernel
theorem dX4_write_40 : decode cX4_write 40 = .ok (.lload_n 3, 1) := by decide +kernel
theorem dX4_write_41 : decode cX4_write 41 = .ok (.lastore, 1) := by decide +kernel
theorem dX4_write_42 : decode cX4_write 42 = .ok (.iconst 1, 1) := by decide +kernel
theorem dX4_write_43 : decode cX4_write 43 = .ok (.ireturn, 1) := by decide +kernel
theorem dX4_isConflict_0 : decode cX4_isConflict 0 = .ok (.bipush 24, 2) := by decide +kernel
theorem dX4_isConflict_2 : decode cX4_isConflict 2 = .ok (.iload_n 1, 1) := by decide +kernel
theorem dX4_isConflict_3 : decode cX4_isConflict 3 = .ok (.imul, 1) := by decide +kernel
theorem dX4_isConflict_4 : decode cX4_isConflict 4 = .ok (.iload_n 2, 1) := by decide +kernel
theorem dX4_isConflict_5 : decode cX4_isConflict 5 = .ok (.iadd, 1) := by decide +kernel
theorem dX4_isConflict_6 : decode cX4_isConflict 6 = .ok (.istore_n 3, 1) := by decide +kernel
theorem dX4_isConflict_7 : decode cX4_isConflict 7 = .ok (.aload_n 0, 1) := by decide +kernel
theorem dX4_isConflict_8 : decode cX4_isConflict 8 = .ok (.getfield 21, 3) := by decide +kernel
theorem dX4_isConflict_11 : decode cX4_isConflict 11 = .ok (.iload_n 3, 1) := by decide +kernel
theorem dX4_isConflict_12 : decode cX4_isConflict 12 = .ok (.baload, 1) := by decide +kernel
theorem dX4_isConflict_13 : decode cX4_isConflict 13 = .ok (.ifCond .eq 48, 3) := by decide +kernel
theorem dX4_isConflict_16 : decode cX4_isConflict 16 = .ok (.aload_n 0, 1) := by decide +kernel
theorem dX4_isConflict_17 : decode cX4_isConflict 17 = .ok (.getfield 13, 3) := by decide +kernel
theorem dX4_isConflict_20 : decode cX4_isConflict 20 = .ok (.iload_n 2, 1) := by decide +kernel
theorem dX4_isConflict_21 : decode cX4_isConflict 21 = .ok (.laload, 1) := by decide +kernel
theorem dX4_isConflict_22 : decode cX4_isConflict 22 = .ok (.aload_n 0, 1) := by decide +kernel
theorem dX4_isConflict_23 : decode cX4_isConflict 23 = .ok (.getfield 27, 3) := by decide +kernel
theorem dX4_isConflict_26 : decode cX4_isConflict 26 = .ok (.iload_n 3, 1) := by decide +kernel
theorem dX4_isConflict_27 : decode cX4_isConflict 27 = .ok (.laload, 1) := by decide +kernel
theorem dX4_isConflict_28 : decode cX4_isConflict 28 = .ok (.lcmp, 1) := by decide +kernel
theorem dX4_isConflict_29 : decode cX4_isConflict 29 = .ok (.ifCond .eq 32, 3) := by decide +kernel
theorem dX4_isConflict_32 : decode cX4_isConflict 32 = .ok (.aload_n 0, 1) := by decide +kernel
theorem dX4_isConflict_33 : decode cX4_isConflict 33 = .ok (.getfield 24, 3) := by decide +kernel
theorem dX4_isConflict_36 : decode cX4_isConflict 36 = .ok (.iload_n 3, 1) := by decide +kernel
theorem dX4_isConflict_37 : decode cX4_isConflict 37 = .ok (.baload, 1) := by decide +kernel
theorem dX4_isConflict_38 : decode cX4_isConflict 38 = .ok (.ifCond .eq 19, 3) := by decide +kernel
theorem dX4_isConflict_41 : decode cX4_isConflict 41 = .ok (.aload_n 0, 1) := by decide +kernel
theorem dX4_isConflict_42 : decode cX4_isConflict 42 = .ok (.getfield 13, 3) := by decide +kernel
theorem dX4_isConflict_45 : decode cX4_isConflict 45 = .ok (.iload_n 2, 1) := by decide +kernel
theorem dX4_isConflict_46 : decode cX4_isConflict 46 = .ok (.laload, 1) := by decide +kernel
theorem dX4_isConflict_47 : decode cX4_isConflict 47 = .ok (.aload_n 0, 1) := by decide +kernel
theorem dX4_isConflict_48 : decode cX4_isConflict 48 = .ok (.getfield 30, 3) := by decide +kernel
theorem dX4_isConflict_51 : decode cX4_isConflict 51 = .ok (.iload_n 3, 1) := by decide +kernel
theorem dX4_isConflict_52 : decode cX4_isConflict 52 = .ok (.laload, 1) := by decide +kernel
theorem dX4_isConflict_53 : decode cX4_isConflict 53 = .ok (.lcmp, 1) := by decide +kernel
theorem dX4_isConflict_54 : decode cX4_isConflict 54 = .ok (.ifCond .eq 7, 3) := by decide +kernel
theorem dX4_isConflict_57 : decode cX4_isConflict 57 = .ok (.iconst 1, 1) := by decide +kernel
theorem dX4_isConflict_58 : decode cX4_isConflict 58 = .ok (.goto 4, 3) := by decide +kernel
theorem dX4_isConflict_61 : decode cX4_isConflict 61 = .ok (.iconst 0, 1) := by decide +kernel
theorem dX4_isConflict_62 : decode cX4_isConflict 62 = .ok (.ireturn, 1) := by decide +kernel
theorem dX4_keepConflicts_0 : decode cX4_keepConflicts 0 = .ok (.aload_n 0, 1) := by decide +kernel
theorem dX4_keepConflicts_1 : decode cX4_keepConflicts 1 = .ok (.iconst 0, 1) := by decide +kernel
theorem dX4_keepConflicts_2 : decode cX4_keepConflicts 2 = .ok (.putfield 129, 3) := by decide +kernel
theorem dX4_keepConflicts_5 : decode cX4_keepConflicts 5 = .ok (.aload_n 0, 1) := by decide +kernel
theorem dX4_keepConflicts_6 : decode cX4_keepConflicts 6 = .ok (.iload_n 1, 1) := by decide +kernel
theorem dX4_keepConflicts_7 : decode cX4_keepConflicts 7 = .ok (.putfield 132, 3) := by decide +kernel
theorem dX4_keepConflicts_10 : decode cX4_keepConflicts 10 = .ok (.iconst 0, 1) := by decide +kernel
theorem dX4_keepConflicts_11 : decode cX4_keepConflicts 11 = .ok (.istore_n 2, 1) := by decide +kernel
theorem dX4_keepConflicts_12 : decode cX4_keepConflicts 12 = .ok (.iload_n 2, 1) := by decide +kernel
theorem dX4_keepConflicts_13 : decode cX4_keepConflicts 13 = .ok (.aload_n 0, 1) := by decide +kernel
theorem dX4_keepConflicts_14 : decode cX4_keepConflicts 14 = .ok (.getfield 82, 3) := by decide +kernel
theorem dX4_keepConflicts_17 : decode cX4_keepConflicts 17 = .ok (.if_icmp .ge 82, 3) := by decide +kernel
theorem dX4_keepConflicts_20 : decode cX4_keepConflicts 20 = .ok (.aload_n 0, 1) := by decide +kernel
theorem dX4_keepConflicts_21 : decode cX4_keepConflicts 21 = .ok (.iload_n 1, 1) := by decide +kernel
theorem dX4_keepConflicts_22 : decode cX4_keepConflicts 22 = .ok (.iload_n 2, 1) := by decide +kernel
theorem dX4_keepConflicts_23 : decode cX4_keepConflicts 23 = .ok (.invokevirtual 135, 3) := by decide +kernel
theorem dX4_keepConflicts_26 : decode cX4_keepConflicts 26 = .ok (.ifCond .eq 67, 3) := by decide +kernel
theorem dX4_keepConflicts_29 : decode cX4_keepConflicts 29 = .ok (.aload_n 0, 1) := by decide +kernel
theorem dX4_keepConflicts_30 : decode cX4_keepConflicts 30 = .ok (.getfield 33, 3) := by decide +kernel
theorem dX4_keepConflicts_33 : decode cX4_keepConflicts 33 = .ok (.aload_n 0, 1) := by decide +kernel
theorem dX4_keepConflicts_34 : decode cX4_keepConflicts 34 = .ok (.getfield 129, 3) := by decide +kernel
theorem dX4_keepConflicts_37 : decode cX4_keepConflicts 37 = .ok (.iload_n 2, 1) := by decide +kernel
theorem dX4_keepConflicts_38 : decode cX4_keepConflicts 38 = .ok (.iastore, 1) := by decide +kernel
theorem dX4_keepConflicts_39 : decode cX4_keepConflicts 39 = .ok (.aload_n 0, 1) := by decide +kernel
theorem dX4_keepConflicts_40 : decode cX4_keepConflicts 40 = .ok (.getfield 37, 3) := by decide +kernel
theorem dX4_keepConflicts_43 : decode cX4_keepConflicts 43 = .ok (.aload_n 0, 1) := by decide +kernel
theorem dX4_keepConflicts_44 : decode cX4_keepConflicts 44 = .ok (.getfield 129, 3) := by decide +kernel
theorem dX4_keepConflicts_47 : decode cX4_keepConflicts 47 = .ok (.aload_n 0, 1) := by decide +kernel
theorem dX4_keepConflicts_48 : decode cX4_keepConflicts 48 = .ok (.bipush 24, 2) := by decide +kernel
theorem dX4_keepConflicts_50 : decode cX4_keepConflicts 50 = .ok (.iload_n 1, 1) := by decide +kernel
theorem dX4_keepConflicts_51 : decode cX4_keepConflicts 51 = .ok (.imul, 1) := by decide +kernel
theorem dX4_keepConflicts_52 : decode cX4_keepConflicts 52 = .ok (.iload_n 2, 1) := by decide +kernel
theorem dX4_keepConflicts_53 : decode cX4_keepConflicts 53 = .ok (.iadd, 1) := by decide +kernel
theorem dX4_keepConflicts_54 : decode cX4_keepConflicts 54 = .ok (.invokevirtual 125, 3) := by decide +kernel
theorem dX4_keepConflicts_57 : decode cX4_keepConflicts 57 = .ok (.lastore, 1) := by decide +kernel
theorem dX4_keepConflicts_58 : decode cX4_keepConflicts 58 = .ok (.aload_n 0, 1) := by decide +kernel
theorem dX4_keepConflicts_59 : decode cX4_keepConflicts 59 = .ok (.getfield 40, 3) := by decide +kernel
theorem dX4_keepConflicts_62 : decode cX4_keepConflicts 62 = .ok (.aload_n 0, 1) := by decide +kernel
theorem dX4_keepConflicts_63 : decode cX4_keepConflicts 63 = .ok (.getfield 129, 3) := by decide +kernel
theorem dX4_keepConflicts_66 : decode cX4_keepConflicts 66 = .ok (.aload_n 0, 1) := by decide +kernel
theorem dX4_keepConflicts_67 : decode cX4_keepConflicts 67 = .ok (.getfield 13, 3) := by decide +kernel
theorem dX4_keepConflicts_70 : decode cX4_keepConflicts 70 = .ok (.iload_n 2, 1) := by decide +kernel
theorem dX4_keepConflicts_71 : decode cX4_keepConflicts 71 = .ok (.laload, 1) := by decide +kernel
theorem dX4_keepConflicts_72 : decode cX4_keepConflicts 72 = .ok (.lastore, 1) := by decide +kernel
theorem dX4_keepConflicts_73 : decode cX4_keepConflicts 73 = .ok (.aload_n 0, 1) := by decide +kernel
theorem dX4_keepConflicts_74 : decode cX4_keepConflicts 74 = .ok (.getfield 43, 3) := by decide +kernel
theorem dX4_keepConflicts_77 : decode cX4_keepConflicts 77 = .ok (.aload_n 0, 1) := by decide +kernel
theorem dX4_keepConflicts_78 : decode cX4_keepConflicts 78 = .ok (.getfield 129, 3) := by decide +kernel
theorem dX4_keepConflicts_81 : decode cX4_keepConflicts 81 = .ok (.iconst 0, 1) := by decide +kernel
theorem dX4_keepConflicts_82 : decode cX4_keepConflicts 82 = .ok (.bastore, 1) := by decide +kernel
theorem dX4_keepConflicts_83 : decode cX4_keepConflicts 83 = .ok (.aload_n 0, 1) := by decide +kernel
theorem dX4_keepConflicts_84 : decode cX4_keepConflicts 84 = .ok (.dup, 1) := by decide +kernel
theorem dX4_keepConflicts_85 : decode cX4_keepConflicts 85 = .ok (.getfield 129, 3) := by decide +kernel
theorem dX4_keepConflicts_88 : decode cX4_keepConflicts 88 = .ok (.iconst 1, 1) := by decide +kernel
theorem dX4_keepConflicts_89 : decode cX4_keepConflicts 89 = .ok (.iadd, 1) := by decide +kernel
theorem dX4_keepConflicts_90 : decode cX4_keepConflicts 90 = .ok (.putfield 129, 3) := by decide +kernel
theorem dX4_keepConflicts_93 : decode cX4_keepConflicts 93 = .ok (.iinc 2 1, 3) := by decide +kernel
theorem dX4_keepConflicts_96 : decode cX4_keepConflicts 96 = .ok (.goto (-84), 3) := by decide +kernel
theorem dX4_keepConflicts_99 : decode cX4_keepConflicts 99 = .ok (.return_, 1) := by decide +kernel
theorem dX4_join_0 : decode cX4_join 0 = .ok (.iload_n 1, 1) := by decide +kernel
theorem dX4_join_1 : decode cX4_join 1 = .ok (.ifCond .lt 20, 3) := by decide +kernel
theorem dX4_join_4 : decode cX4_join 4 = .ok (.iload_n 1, 1) := by decide +kernel
theorem dX4_join_5 : decode cX4_join 5 = .ok (.aload_n 0, 1) := by decide +kernel
theorem dX4_join_6 : decode cX4_join 6 = .ok (.getfield 115, 3) := by decide +kernel
theorem dX4_join_9 : decode cX4_join 9 = .ok (.if_icmp .ge 12, 3) := by decide +kernel
theorem dX4_join_12 : decode cX4_join 12 = .ok (.aload_n 0, 1) := by decide +kernel
theorem dX4_join_13 : decode cX4_join 13 = .ok (.getfield 17, 3) := by decide +kernel
theorem dX4_join_16 : decode cX4_join 16 = .ok (.iload_n 1, 1) := by decide +kernel
theorem dX4_join_17 : decode cX4_join 17 = .ok (.baload, 1) := by decide +kernel
theorem dX4_join_18 : decode cX4_join 18 = .ok (.ifCond .ne 6, 3) := by decide +kernel
theorem dX4_join_21 : decode cX4_join 21 = .ok (.bipush (-2), 2) := by decide +kernel
theorem dX4_join_23 : decode cX4_join 23 = .ok (.ireturn, 1) := by decide +kernel
theorem dX4_join_24 : decode cX4_join 24 = .ok (.iconst 0, 1) := by decide +kernel
theorem dX4_join_25 : decode cX4_join 25 = .ok (.istore_n 3, 1) := by decide +kernel
theorem dX4_join_26 : decode cX4_join 26 = .ok (.iload_n 2, 1) := by decide +kernel
theorem dX4_join_27 : decode cX4_join 27 = .ok (.istore 4, 2) := by decide +kernel
theorem dX4_join_29 : decode cX4_join 29 = .ok (.iconst 0, 1) := by decide +kernel
theorem dX4_join_30 : decode cX4_join 30 = .ok (.istore 5, 2) := by decide +kernel
theorem dX4_join_32 : decode cX4_join 32 = .ok (.iload 5, 2) := by decide +kernel
theorem dX4_join_34 : decode cX4_join 34 = .ok (.aload_n 0, 1) := by decide +kernel
theorem dX4_join_35 : decode cX4_join 35 = .ok (.getfield 82, 3) := by decide +kernel
theorem dX4_join_38 : decode cX4_join 38 = .ok (.if_icmp .ge 86, 3) := by decide +kernel
theorem dX4_join_41 : decode cX4_join 41 = .ok (.bipush 24, 2) := by decide +kernel
theorem dX4_join_43 : decode cX4_join 43 = .ok (.iload_n 1, 1) := by decide +kernel
theorem dX4_join_44 : decode cX4_join 44 = .ok (.imul, 1) := by decide +kernel
theorem dX4_join_45 : decode cX4_join 45 = .ok (.iload 5, 2) := by decide +kernel
theorem dX4_join_47 : decode cX4_join 47 = .ok (.iadd, 1) := by decide +kernel
theorem dX4_join_48 : decode cX4_join 48 = .ok (.istore 6, 2) := by decide +kernel
theorem dX4_join_50 : decode cX4_join 50 = .ok (.aload_n 0, 1) := by decide +kernel
theorem dX4_join_51 : decode cX4_join 51 = .ok (.iload_n 1, 1) := by decide +kernel
theorem dX4_join_52 : decode cX4_join 52 = .ok (.iload 5, 2) := by decide +kernel
theorem dX4_join_54 : decode cX4_join 54 = .ok (.invokevirtual 135, 3) := by decide +kernel
theorem dX4_join_57 : decode cX4_join 57 = .ok (.ifCond .eq 9, 3) := by decide +kernel
theorem dX4_join_60 : decode cX4_join 60 = .ok (.iload_n 3, 1) := by decide +kernel
theorem dX4_join_61 : decode cX4_join 61 = .ok (.iconst 1, 1) := by decide +kernel
theorem dX4_join_62 : decode cX4_join 62 = .ok (.iadd, 1) := by decide +kernel
theorem dX4_join_63 : decode cX4_join 63 = .ok (.goto 4, 3) := by decide +kernel
theorem dX4_join_66 : decode cX4_join 66 = .ok (.iload_n 3, 1) := by decide +kernel
theorem dX4_join_67 : decode cX4_join 67 = .ok (.istore_n 3, 1) := by decide +kernel
theorem dX4_join_68 : decode cX4_join 68 = .ok (.iload 4, 2) := by decide +kernel
theorem dX4_join_70 : decode cX4_join 70 = .ok (.ifCond .ne 41, 3) := by decide +kernel
theorem dX4_join_73 : decode cX4_join 73 = .ok (.aload_n 0, 1) := by decide +kernel
theorem dX4_join_74 : decode cX4_join 74 = .ok (.getfield 24, 3) := by decide +kernel
theorem dX4_join_77 : decode cX4_join 77 = .ok (.iload 6, 2) := by decide +kernel
theorem dX4_join_79 : decode cX4_join 79 = .ok (.baload, 1) := by decide +kernel
theorem dX4_join_80 : decode cX4_join 80 = .ok (.ifCond .eq 35, 3) := by decide +kernel
theorem dX4_join_83 : decode cX4_join 83 = .ok (.aload_n 0, 1) := by decide +kernel
theorem dX4_join_84 : decode cX4_join 84 = .ok (.getfield 30, 3) := by decide +kernel
theorem dX4_join_87 : decode cX4_join 87 = .ok (.iload 6, 2) := by decide +kernel
theorem dX4_join_89 : decode cX4_join 89 = .ok (.laload, 1) := by decide +kernel
theorem dX4_join_90 : decode cX4_join 90 = .ok (.ldc2_w 138, 3) := by decide +kernel
theorem dX4_join_93 : decode cX4_join 93 = .ok (.lcmp, 1) := by decide +kernel
theorem dX4_join_94 : decode cX4_join 94 = .ok (.ifCond .gt 17, 3) := by decide +kernel
theorem dX4_join_97 : decode cX4_join 97 = .ok (.aload_n 0, 1) := by decide +kernel
theorem dX4_join_98 : decode cX4_join 98 = .ok (.getfield 30, 3) := by decide +kernel
theorem dX4_join_101 : decode cX4_join 101 = .ok (.iload 6, 2) := by decide +kernel
theorem dX4_join_103 : decode cX4_join 103 = .ok (.laload, 1) := by decide +kernel
theorem dX4_join_104 : decode cX4_join 104 = .ok (.ldc2_w 140, 3) := by decide +kernel
theorem dX4_join_107 : decode cX4_join 107 = .ok (.lcmp, 1) := by decide +kernel
theorem dX4_join_108 : decode cX4_join 108 = .ok (.ifCond .ge 7, 3) := by decide +kernel
theorem dX4_join_111 : decode cX4_join 111 = .ok (.iconst 1, 1) := by decide +kernel
theorem dX4_join_112 : decode cX4_join 112 = .ok (.goto 4, 3) := by decide +kernel
theorem dX4_join_115 : decode cX4_join 115 = .ok (.iconst 0, 1) := by decide +kernel
theorem dX4_join_116 : decode cX4_join 116 = .ok (.istore 4, 2) := by decide +kernel
theorem dX4_join_118 : decode cX4_join 118 = .ok (.iinc 5 1, 3) := by decide +kernel
theorem dX4_join_121 : decode cX4_join 121 = .ok (.goto (-89), 3) := by decide +kernel
theorem dX4_join_124 : decode cX4_join 124 = .ok (.iload_n 3, 1) := by decide +kernel
theorem dX4_join_125 : decode cX4_join 125 = .ok (.ifCond .le 10, 3) := by decide +kernel
theorem dX4_join_128 : decode cX4_join 128 = .ok (.aload_n 0, 1) := by decide +kernel
theorem dX4_join_129 : decode cX4_join 129 = .ok (.iload_n 1, 1) := by decide +kernel
theorem dX4_join_130 : decode cX4_join 130 = .ok (.invokevirtual 142, 3) := by decide +kernel
theorem dX4_join_133 : decode cX4_join 133 = .ok (.iload_n 3, 1) := by decide +kernel
theorem dX4_join_134 : decode cX4_join 134 = .ok (.ireturn, 1) := by decide +kernel
theorem dX4_join_135 : decode cX4_join 135 = .ok (.iload 4, 2) := by decide +kernel
theorem dX4_join_137 : decode cX4_join 137 = .ok (.ifCond .eq 5, 3) := by decide +kernel
theorem dX4_join_140 : decode cX4_join 140 = .ok (.iconst (-1), 1) := by decide +kernel
theorem dX4_join_141 : decode cX4_join 141 = .ok (.ireturn, 1) := by decide +kernel
theorem dX4_join_142 : decode cX4_join 142 = .ok (.iconst 0, 1) := by decide +kernel
theorem dX4_join_143 : decode cX4_join 143 = .ok (.istore 5, 2) := by decide +kernel
theorem dX4_join_145 : decode cX4_join 145 = .ok (.iload 5, 2) := by decide +kernel
theorem dX4_join_147 : decode cX4_join 147 = .ok (.aload_n 0, 1) := by decide +kernel
theorem dX4_join_148 : decode cX4_join 148 = .ok (.getfield 82, 3) := by decide +kernel
theorem dX4_join_151 : decode cX4_join 151 = .ok (.if_icmp .ge 52, 3) := by decide +kernel
theorem dX4_join_154 : decode cX4_join 154 = .ok (.bipush 24, 2) := by decide +kernel
theorem dX4_join_156 : decode cX4_join 156 = .ok (.iload_n 1, 1) := by decide +kernel
theorem dX4_join_157 : decode cX4_join 157 = .ok (.imul, 1) := by decide +kernel
theorem dX4_join_158 : decode cX4_join 158 = .ok (.iload 5, 2) := by decide +kernel
theorem dX4_join_160 : decode cX4_join 160 = .ok (.iadd, 1) := by decide +kernel
theorem dX4_join_161 : decode cX4_join 161 = .ok (.istore 6, 2) := by decide +kernel
theorem dX4_join_163 : decode cX4_join 163 = .ok (.aload_n 0, 1) := by decide +kernel
theorem dX4_join_164 : decode cX4_join 164 = .ok (.getfield 13, 3) := by decide +kernel
theorem dX4_join_167 : decode cX4_join 167 = .ok (.iload 5, 2) := by decide +kernel
theorem dX4_join_169 : decode cX4_join 169 = .ok (.aload_n 0, 1) := by decide +kernel
theorem dX4_join_170 : decode cX4_join 170 = .ok (.getfield 24, 3) := by decide +kernel
theorem dX4_join_173 : decode cX4_join 173 = .ok (.iload 6, 2) := by decide +kernel
theorem dX4_join_175 : decode cX4_join 175 = .ok (.baload, 1) := by decide +kernel
theorem dX4_join_176 : decode cX4_join 176 = .ok (.ifCond .eq 13, 3) := by decide +kernel
theorem dX4_join_179 : decode cX4_join 179 = .ok (.aload_n 0, 1) := by decide +kernel
theorem dX4_join_180 : decode cX4_join 180 = .ok (.getfield 30, 3) := by decide +kernel
theorem dX4_join_183 : decode cX4_join 183 = .ok (.iload 6, 2) := by decide +kernel
theorem dX4_join_185 : decode cX4_join 185 = .ok (.laload, 1) := by decide +kernel
theorem dX4_join_186 : decode cX4_join 186 = .ok (.goto 10, 3) := by decide +kernel
theorem dX4_join_189 : decode cX4_join 189 = .ok (.aload_n 0, 1) := by decide +kernel
theorem dX4_join_190 : decode cX4_join 190 = .ok (.getfield 13, 3) := by decide +kernel
theorem dX4_join_193 : decode cX4_join 193 = .ok (.iload 5, 2) := by decide +kernel
theorem dX4_join_195 : decode cX4_join 195 = .ok (.laload, 1) := by decide +kernel
theorem dX4_join_196 : decode cX4_join 196 = .ok (.lastore, 1) := by decide +kernel
theorem dX4_join_197 : decode cX4_join 197 = .ok (.iinc 5 1, 3) := by decide +kernel
theorem dX4_join_200 : decode cX4_join 200 = .ok (.goto (-55), 3) := by decide +kernel
theorem dX4_join_203 : decode cX4_join 203 = .ok (.aload_n 0, 1) := by decide +kernel
theorem dX4_join_204 : decode cX4_join 204 = .ok (.getfield 17, 3) := by decide +kernel
theorem dX4_join_207 : decode cX4_join 207 = .ok (.iload_n 1, 1) := by decide +kernel
theorem dX4_join_208 : decode cX4_join 208 = .ok (.iconst 0, 1) := by decide +kernel
theorem dX4_join_209 : decode cX4_join 209 = .ok (.bastore, 1) := by decide +kernel
theorem dX4_join_210 : decode cX4_join 210 = .ok (.iconst 0, 1) := by decide +kernel
theorem dX4_join_211 : decode cX4_join 211 = .ok (.ireturn, 1) := by decide +kernel
theorem dX4_conflict_0 : decode cX4_conflict 0 = .ok (.iload_n 1, 1) := by decide +kernel
theorem dX4_conflict_1 : decode cX4_conflict 1 = .ok (.ifCond .lt 11, 3) := by decide +kernel
theorem dX4_conflict_4 : decode cX4_conflict 4 = .ok (.iload_n 1, 1) := by decide +kernel
theorem dX4_conflict_5 : decode cX4_conflict 5 = .ok (.aload_n 0, 1) := by decide +kernel
theorem dX4_conflict_6 : decode cX4_conflict 6 = .ok (.getfield 129, 3) := by decide +kernel
theorem dX4_conflict_9 : decode cX4_conflict 9 = .ok (.if_icmp .lt 7, 3) := by decide +kernel
theorem dX4_conflict_12 : decode cX4_conflict 12 = .ok (.ldc2_w 146, 3) := by decide +kernel
theorem dX4_conflict_15 : decode cX4_conflict 15 = .ok (.lreturn, 1) := by decide +kernel
theorem dX4_conflict_16 : decode cX4_conflict 16 = .ok (.iload_n 2, 1) := by decide +kernel
theorem dX4_conflict_17 : decode cX4_conflict 17 = .ok (.ifCond .ne 13, 3) := by decide +kernel
theorem dX4_conflict_20 : decode cX4_conflict 20 = .ok (.aload_n 0, 1) := by decide +kernel
theorem dX4_conflict_21 : decode cX4_conflict 21 = .ok (.getfield 33, 3) := by decide +kernel
theorem dX4_conflict_24 : decode cX4_conflict 24 = .ok (.iload_n 1, 1) := by decide +kernel
theorem dX4_conflict_25 : decode cX4_conflict 25 = .ok (.iaload, 1) := by decide +kernel
theorem dX4_conflict_26 : decode cX4_conflict 26 = .ok (.i2l, 1) := by decide +kernel
theorem dX4_conflict_27 : decode cX4_conflict 27 = .ok (.goto 34, 3) := by decide +kernel
theorem dX4_conflict_30 : decode cX4_conflict 30 = .ok (.iload_n 2, 1) := by decide +kernel
theorem dX4_conflict_31 : decode cX4_conflict 31 = .ok (.iconst 1, 1) := by decide +kernel
theorem dX4_conflict_32 : decode cX4_conflict 32 = .ok (.if_icmp .ne 12, 3) := by decide +kernel
theorem dX4_conflict_35 : decode cX4_conflict 35 = .ok (.aload_n 0, 1) := by decide +kernel
theorem dX4_conflict_36 : decode cX4_conflict 36 = .ok (.getfield 37, 3) := by decide +kernel
theorem dX4_conflict_39 : decode cX4_conflict 39 = .ok (.iload_n 1, 1) := by decide +kernel
theorem dX4_conflict_40 : decode cX4_conflict 40 = .ok (.laload, 1) := by decide +kernel
theorem dX4_conflict_41 : decode cX4_conflict 41 = .ok (.goto 20, 3) := by decide +kernel
theorem dX4_conflict_44 : decode cX4_conflict 44 = .ok (.iload_n 2, 1) := by decide +kernel
theorem dX4_conflict_45 : decode cX4_conflict 45 = .ok (.iconst 2, 1) := by decide +kernel
theorem dX4_conflict_46 : decode cX4_conflict 46 = .ok (.if_icmp .ne 12, 3) := by decide +kernel
theorem dX4_conflict_49 : decode cX4_conflict 49 = .ok (.aload_n 0, 1) := by decide +kernel
theorem dX4_conflict_50 : decode cX4_conflict 50 = .ok (.getfield 40, 3) := by decide +kernel
theorem dX4_conflict_53 : decode cX4_conflict 53 = .ok (.iload_n 1, 1) := by decide +kernel
theorem dX4_conflict_54 : decode cX4_conflict 54 = .ok (.laload, 1) := by decide +kernel
theorem dX4_conflict_55 : decode cX4_conflict 55 = .ok (.goto 6, 3) := by decide +kernel
theorem dX4_conflict_58 : decode cX4_conflict 58 = .ok (.ldc2_w 148, 3) := by decide +kernel
theorem dX4_conflict_61 : decode cX4_conflict 61 = .ok (.lreturn, 1) := by decide +kernel
theorem dX4_settle_0 : decode cX4_settle 0 = .ok (.iload_n 1, 1) := by decide +kernel
theorem dX4_settle_1 : decode cX4_settle 1 = .ok (.ifCond .lt 41, 3) := by decide +kernel
theorem dX4_settle_4 : decode cX4_settle 4 = .ok (.iload_n 1, 1) := by decide +kernel
theorem dX4_settle_5 : decode cX4_settle 5 = .ok (.aload_n 0, 1) := by decide +kernel
theorem dX4_settle_6 : decode cX4_settle 6 = .ok (.getfield 129, 3) := by decide +kernel
theorem dX4_settle_9 : decode cX4_settle 9 = .ok (.if_icmp .ge 33, 3) := by decide +kernel
theorem dX4_settle_12 : decode cX4_settle 12 = .ok (.iload_n 2, 1) := by decide +kernel
theorem dX4_settle_13 : decode cX4_settle 13 = .ok (.ifCond .lt 29, 3) := by decide +kernel
theorem dX4_settle_16 : decode cX4_settle 16 = .ok (.iload_n 2, 1) := by decide +kernel
theorem dX4_settle_17 : decode cX4_settle 17 = .ok (.iconst 1, 1) := by decide +kernel
theorem dX4_settle_18 : decode cX4_settle 18 = .ok (.if_icmp .gt 24, 3) := by decide +kernel
theorem dX4_settle_21 : decode cX4_settle 21 = .ok (.aload_n 0, 1) := by decide +kernel
theorem dX4_settle_22 : decode cX4_settle 22 = .ok (.getfield 43, 3) := by decide +kernel
theorem dX4_settle_25 : decode cX4_settle 25 = .ok (.iload_n 1, 1) := by decide +kernel
theorem dX4_settle_26 : decode cX4_settle 26 = .ok (.baload, 1) := by decide +kernel
theorem dX4_settle_27 : decode cX4_settle 27 = .ok (.ifCond .ne 15, 3) := by decide +kernel
theorem dX4_settle_30 : decode cX4_settle 30 = .ok (.aload_n 0, 1) := by decide +kernel
theorem dX4_settle_31 : decode cX4_settle 31 = .ok (.getfield 17, 3) := by decide +kernel
theorem dX4_settle_34 : decode cX4_settle 34 = .ok (.aload_n 0, 1) := by decide +kernel
theorem dX4_settle_35 : decode cX4_settle 35 = .ok (.getfield 132, 3) := by decide +kernel
theorem dX4_settle_38 : decode cX4_settle 38 = .ok (.baload, 1) := by decide +kernel
theorem dX4_settle_39 : decode cX4_settle 39 = .ok (.ifCond .ne 5, 3) := by decide +kernel
theorem dX4_settle_42 : decode cX4_settle 42 = .ok (.iconst 0, 1) := by decide +kernel
theorem dX4_settle_43 : decode cX4_settle 43 = .ok (.ireturn, 1) := by decide +kernel
theorem dX4_settle_44 : decode cX4_settle 44 = .ok (.bipush 24, 2) := by decide +kernel
theorem dX4_settle_46 : decode cX4_settle 46 = .ok (.aload_n 0, 1) := by decide +kernel
theorem dX4_settle_47 : decode cX4_settle 47 = .ok (.getfield 132, 3) := by decide +kernel
theorem dX4_settle_50 : decode cX4_settle 50 = .ok (.imul, 1) := by decide +kernel
theorem dX4_settle_51 : decode cX4_settle 51 = .ok (.aload_n 0, 1) := by decide +kernel
theorem dX4_settle_52 : decode cX4_settle 52 = .ok (.getfield 33, 3) := by decide +kernel
theorem dX4_settle_55 : decode cX4_settle 55 = .ok (.iload_n 1, 1) := by decide +kernel
theorem dX4_settle_56 : decode cX4_settle 56 = .ok (.iaload, 1) := by decide +kernel
theorem dX4_settle_57 : decode cX4_settle 57 = .ok (.iadd, 1) := by decide +kernel
theorem dX4_settle_58 : decode cX4_settle 58 = .ok (.istore_n 3, 1) := by decide +kernel
theorem dX4_settle_59 : decode cX4_settle 59 = .ok (.aload_n 0, 1) := by decide +kernel
theorem dX4_settle_60 : decode cX4_settle 60 = .ok (.getfield 43, 3) := by decide +kernel
theorem dX4_settle_63 : decode cX4_settle 63 = .ok (.iload_n 1, 1) := by decide +kernel
theorem dX4_settle_64 : decode cX4_settle 64 = .ok (.iconst 1, 1) := by decide +kernel
theorem dX4_settle_65 : decode cX4_settle 65 = .ok (.bastore, 1) := by decide +kernel
theorem dX4_settle_66 : decode cX4_settle 66 = .ok (.aload_n 0, 1) := by decide +kernel
theorem dX4_settle_67 : decode cX4_settle 67 = .ok (.getfield 27, 3) := by decide +kernel
theorem dX4_settle_70 : decode cX4_settle 70 = .ok (.iload_n 3, 1) := by decide +kernel
theorem dX4_settle_71 : decode cX4_settle 71 = .ok (.aload_n 0, 1) := by decide +kernel
theorem dX4_settle_72 : decode cX4_settle 72 = .ok (.getfield 40, 3) := by decide +kernel
theorem dX4_settle_75 : decode cX4_settle 75 = .ok (.iload_n 1, 1) := by decide +kernel
theorem dX4_settle_76 : decode cX4_settle 76 = .ok (.laload, 1) := by decide +kernel
theorem dX4_settle_77 : decode cX4_settle 77 = .ok (.lastore, 1) := by decide +kernel
theorem dX4_settle_78 : decode cX4_settle 78 = .ok (.aload_n 0, 1) := by decide +kernel
theorem dX4_settle_79 : decode cX4_settle 79 = .ok (.getfield 24, 3) := by decide +kernel
theorem dX4_settle_82 : decode cX4_settle 82 = .ok (.iload_n 3, 1) := by decide +kernel
theorem dX4_settle_83 : decode cX4_settle 83 = .ok (.aload_n 0, 1) := by decide +kernel
theorem dX4_settle_84 : decode cX4_settle 84 = .ok (.getfield 24, 3) := by decide +kernel
theorem dX4_settle_87 : decode cX4_settle 87 = .ok (.iload_n 3, 1) := by decide +kernel
theorem dX4_settle_88 : decode cX4_settle 88 = .ok (.baload, 1) := by decide +kernel
theorem dX4_settle_89 : decode cX4_settle 89 = .ok (.ifCond .eq 11, 3) := by decide +kernel
theorem dX4_settle_92 : decode cX4_settle 92 = .ok (.iload_n 2, 1) := by decide +kernel
theorem dX4_settle_93 : decode cX4_settle 93 = .ok (.ifCond .ne 7, 3) := by decide +kernel
theorem dX4_settle_96 : decode cX4_settle 96 = .ok (.iconst 1, 1) := by decide +kernel
theorem dX4_settle_97 : decode cX4_settle 97 = .ok (.goto 4, 3) := by decide +kernel
theorem dX4_settle_100 : decode cX4_settle 100 = .ok (.iconst 0, 1) := by decide +kernel
theorem dX4_settle_101 : decode cX4_settle 101 = .ok (.bastore, 1) := by decide +kernel
theorem dX4_settle_102 : decode cX4_settle 102 = .ok (.iconst 1, 1) := by decide +kernel
theorem dX4_settle_103 : decode cX4_settle 103 = .ok (.ireturn, 1) := by decide +kernel
theorem dX4_isOff_0 : decode cX4_isOff 0 = .ok (.aload_n 0, 1) := by decide +kernel
theorem dX4_isOff_1 : decode cX4_isOff 1 = .ok (.getfield 61, 3) := by decide +kernel
theorem dX4_isOff_4 : decode cX4_isOff 4 = .ok (.iload_n 1, 1) := by decide +kernel
theorem dX4_isOff_5 : decode cX4_isOff 5 = .ok (.baload, 1) := by decide +kernel
theorem dX4_isOff_6 : decode cX4_isOff 6 = .ok (.ifCond .eq 33, 3) := by decide +kernel
theorem dX4_isOff_9 : decode cX4_isOff 9 = .ok (.aload_n 0, 1) := by decide +kernel
theorem dX4_isOff_10 : decode cX4_isOff 10 = .ok (.getfield 64, 3) := by decide +kernel
theorem dX4_isOff_13 : decode cX4_isOff 13 = .ok (.iload_n 1, 1) := by decide +kernel
theorem dX4_isOff_14 : decode cX4_isOff 14 = .ok (.iaload, 1) := by decide +kernel
theorem dX4_isOff_15 : decode cX4_isOff 15 = .ok (.aload_n 0, 1) := by decide +kernel
theorem dX4_isOff_16 : decode cX4_isOff 16 = .ok (.getfield 52, 3) := by decide +kernel
theorem dX4_isOff_19 : decode cX4_isOff 19 = .ok (.iload_n 1, 1) := by decide +kernel
theorem dX4_isOff_20 : decode cX4_isOff 20 = .ok (.iaload, 1) := by decide +kernel
theorem dX4_isOff_21 : decode cX4_isOff 21 = .ok (.if_icmp .ne 18, 3) := by decide +kernel
theorem dX4_isOff_24 : decode cX4_isOff 24 = .ok (.aload_n 0, 1) := by decide +kernel
theorem dX4_isOff_25 : decode cX4_isOff 25 = .ok (.getfield 67, 3) := by decide +kernel
theorem dX4_isOff_28 : decode cX4_isOff 28 = .ok (.iload_n 1, 1) := by decide +kernel
theorem dX4_isOff_29 : decode cX4_isOff 29 = .ok (.iaload, 1) := by decide +kernel
theorem dX4_isOff_30 : decode cX4_isOff 30 = .ok (.aload_n 0, 1) := by decide +kernel
theorem dX4_isOff_31 : decode cX4_isOff 31 = .ok (.getfield 58, 3) := by decide +kernel
theorem dX4_isOff_34 : decode cX4_isOff 34 = .ok (.iload_n 1, 1) := by decide +kernel
theorem dX4_isOff_35 : decode cX4_isOff 35 = .ok (.iaload, 1) := by decide +kernel
theorem dX4_isOff_36 : decode cX4_isOff 36 = .ok (.if_icmp .eq 7, 3) := by decide +kernel
theorem dX4_isOff_39 : decode cX4_isOff 39 = .ok (.iconst 1, 1) := by decide +kernel
theorem dX4_isOff_40 : decode cX4_isOff 40 = .ok (.goto 4, 3) := by decide +kernel
theorem dX4_isOff_43 : decode cX4_isOff 43 = .ok (.iconst 0, 1) := by decide +kernel
theorem dX4_isOff_44 : decode cX4_isOff 44 = .ok (.istore_n 2, 1) := by decide +kernel
theorem dX4_isOff_45 : decode cX4_isOff 45 = .ok (.iconst 0, 1) := by decide +kernel
theorem dX4_isOff_46 : decode cX4_isOff 46 = .ok (.istore_n 3, 1) := by decide +kernel
theorem dX4_isOff_47 : decode cX4_isOff 47 = .ok (.iload_n 3, 1) := by decide +kernel
theorem dX4_isOff_48 : decode cX4_isOff 48 = .ok (.aload_n 0, 1) := by decide +kernel
theorem dX4_isOff_49 : decode cX4_isOff 49 = .ok (.getfield 52, 3) := by decide +kernel
theorem dX4_isOff_52 : decode cX4_isOff 52 = .ok (.iload_n 1, 1) := by decide +kernel
theorem dX4_isOff_53 : decode cX4_isOff 53 = .ok (.iaload, 1) := by decide +kernel
theorem dX4_isOff_54 : decode cX4_isOff 54 = .ok (.if_icmp .ge 50, 3) := by decide +kernel
theorem dX4_isOff_57 : decode cX4_isOff 57 = .ok (.iload_n 2, 1) := by decide +kernel
theorem dX4_isOff_58 : decode cX4_isOff 58 = .ok (.ifCond .ne 46, 3) := by decide +kernel
theorem dX4_isOff_61 : decode cX4_isOff 61 = .ok (.aload_n 0, 1) := by decide +kernel
theorem dX4_isOff_62 : decode cX4_isOff 62 = .ok (.getfield 13, 3) := by decide +kernel
theorem dX4_isOff_65 : decode cX4_isOff 65 = .ok (.aload_n 0, 1) := by decide +kernel
theorem dX4_isOff_66 : decode cX4_isOff 66 = .ok (.getfield 49, 3) := by decide +kernel
theorem dX4_isOff_69 : decode cX4_isOff 69 = .ok (.bipush 8, 2) := by decide +kernel
theorem dX4_isOff_71 : decode cX4_isOff 71 = .ok (.iload_n 1, 1) := by decide +kernel
theorem dX4_isOff_72 : decode cX4_isOff 72 = .ok (.imul, 1) := by decide +kernel
theorem dX4_isOff_73 : decode cX4_isOff 73 = .ok (.iload_n 3, 1) := by decide +kernel
theorem dX4_isOff_74 : decode cX4_isOff 74 = .ok (.iadd, 1) := by decide +kernel
theorem dX4_isOff_75 : decode cX4_isOff 75 = .ok (.iaload, 1) := by decide +kernel
theorem dX4_isOff_76 : decode cX4_isOff 76 = .ok (.laload, 1) := by decide +kernel
theorem dX4_isOff_77 : decode cX4_isOff 77 = .ok (.aload_n 0, 1) := by decide +kernel
theorem dX4_isOff_78 : decode cX4_isOff 78 = .ok (.getfield 70, 3) := by decide +kernel
theorem dX4_isOff_81 : decode cX4_isOff 81 = .ok (.bipush 8, 2) := by decide +kernel
theorem dX4_isOff_83 : decode cX4_isOff 83 = .ok (.iload_n 1, 1) := by decide +kernel
theorem dX4_isOff_84 : decode cX4_isOff 84 = .ok (.imul, 1) := by decide +kernel
theorem dX4_isOff_85 : decode cX4_isOff 85 = .ok (.iload_n 3, 1) := by decide +kernel
theorem dX4_isOff_86 : decode cX4_isOff 86 = .ok (.iadd, 1) := by decide +kernel
theorem dX4_isOff_87 : decode cX4_isOff 87 = .ok (.laload, 1) := by decide +kernel
theorem dX4_isOff_88 : decode cX4_isOff 88 = .ok (.lcmp, 1) := by decide +kernel
theorem dX4_isOff_89 : decode cX4_isOff 89 = .ok (.ifCond .eq 7, 3) := by decide +kernel
theorem dX4_isOff_92 : decode cX4_isOff 92 = .ok (.iconst 1, 1) := by decide +kernel
theorem dX4_isOff_93 : decode cX4_isOff 93 = .ok (.goto 4, 3) := by decide +kernel
theorem dX4_isOff_96 : decode cX4_isOff 96 = .ok (.iconst 0, 1) := by decide +kernel
theorem dX4_isOff_97 : decode cX4_isOff 97 = .ok (.istore_n 2, 1) := by decide +kernel
theorem dX4_isOff_98 : decode cX4_isOff 98 = .ok (.iinc 3 1, 3) := by decide +kernel
theorem dX4_isOff_101 : decode cX4_isOff 101 = .ok (.goto (-54), 3) := by decide +kernel
theorem dX4_isOff_104 : decode cX4_isOff 104 = .ok (.iconst 0, 1) := by decide +kernel
theorem dX4_isOff_105 : decode cX4_isOff 105 = .ok (.istore_n 3, 1) := by decide +kernel
theorem dX4_isOff_106 : decode cX4_isOff 106 = .ok (.iload_n 3, 1) := by decide +kernel
theorem dX4_isOff_107 : decode cX4_isOff 107 = .ok (.aload_n 0, 1) := by decide +kernel
theorem dX4_isOff_108 : decode cX4_isOff 108 = .ok (.getfield 58, 3) := by decide +kernel
theorem dX4_isOff_111 : decode cX4_isOff 111 = .ok (.iload_n 1, 1) := by decide +kernel
theorem dX4_isOff_112 : decode cX4_isOff 112 = .ok (.iaload, 1) := by decide +kernel
theorem dX4_isOff_113 : decode cX4_isOff 113 = .ok (.if_icmp .ge 44, 3) := by decide +kernel
theorem dX4_isOff_116 : decode cX4_isOff 116 = .ok (.iload_n 2, 1) := by decide +kernel
theorem dX4_isOff_117 : decode cX4_isOff 117 = .ok (.ifCond .ne 40, 3) := by decide +kernel
theorem dX4_isOff_120 : decode cX4_isOff 120 = .ok (.aload_n 0, 1) := by decide +kernel
theorem dX4_isOff_121 : decode cX4_isOff 121 = .ok (.getfield 13, 3) := by decide +kernel
theorem dX4_isOff_124 : decode cX4_isOff 124 = .ok (.aload_n 0, 1) := by decide +kernel
theorem dX4_isOff_125 : decode cX4_isOff 125 = .ok (.getfield 55, 3) := by decide +kernel
theorem dX4_isOff_128 : decode cX4_isOff 128 = .ok (.iconst 4, 1) := by decide +kernel
theorem dX4_isOff_129 : decode cX4_isOff 129 = .ok (.iload_n 1, 1) := by decide +kernel
theorem dX4_isOff_130 : decode cX4_isOff 130 = .ok (.imul, 1) := by decide +kernel
theorem dX4_isOff_131 : decode cX4_isOff 131 = .ok (.iload_n 3, 1) := by decide +kernel
theorem dX4_isOff_132 : decode cX4_isOff 132 = .ok (.iadd, 1) := by decide +kernel
theorem dX4_isOff_133 : decode cX4_isOff 133 = .ok (.iaload, 1) := by decide +kernel
theorem dX4_isOff_134 : decode cX4_isOff 134 = .ok (.laload, 1) := by decide +kernel
theorem dX4_isOff_135 : decode cX4_isOff 135 = .ok (.aload_n 0, 1) := by decide +kernel
theorem dX4_isOff_136 : decode cX4_isOff 136 = .ok (.getfield 73, 3) := by decide +kernel
theorem dX4_isOff_139 : decode cX4_isOff 139 = .ok (.iload_n 1, 1) := by decide +kernel
theorem dX4_isOff_140 : decode cX4_isOff 140 = .ok (.laload, 1) := by decide +kernel
theorem dX4_isOff_141 : decode cX4_isOff 141 = .ok (.lcmp, 1) := by decide +kernel
theorem dX4_isOff_142 : decode cX4_isOff 142 = .ok (.ifCond .eq 7, 3) := by decide +kernel
theorem dX4_isOff_145 : decode cX4_isOff 145 = .ok (.iconst 1, 1) := by decide +kernel
theorem dX4_isOff_146 : decode cX4_isOff 146 = .ok (.goto 4, 3) := by decide +kernel
theorem dX4_isOff_149 : decode cX4_isOff 149 = .ok (.iconst 0, 1) := by decide +kernel
theorem dX4_isOff_150 : decode cX4_isOff 150 = .ok (.istore_n 2, 1) := by decide +kernel
theorem dX4_isOff_151 : decode cX4_isOff 151 = .ok (.iinc 3 1, 3) := by decide +kernel
theorem dX4_isOff_154 : decode cX4_isOff 154 = .ok (.goto (-48), 3) := by decide +kernel
theorem dX4_isOff_157 : decode cX4_isOff 157 = .ok (.iload_n 2, 1) := by decide +kernel
theorem dX4_isOff_158 : decode cX4_isOff 158 = .ok (.ireturn, 1) := by decide +kernel
theorem dX4_stale_0 : decode cX4_stale 0 = .ok (.aload_n 0, 1) := by decide +kernel
theorem dX4_stale_1 : decode cX4_stale 1 = .ok (.iload_n 1, 1) := by decide +kernel
theorem dX4_stale_2 : decode cX4_stale 2 = .ok (.invokevirtual 98, 3) := by decide +kernel
theorem dX4_stale_5 : decode cX4_stale 5 = .ok (.ifCond .ne 5, 3) := by decide +kernel
theorem dX4_stale_8 : decode cX4_stale 8 = .ok (.iconst 0, 1) := by decide +kernel
theorem dX4_stale_9 : decode cX4_stale 9 = .ok (.ireturn, 1) := by decide +kernel
theorem dX4_stale_10 : decode cX4_stale 10 = .ok (.iconst 0, 1) := by decide +kernel
theorem dX4_stale_11 : decode cX4_stale 11 = .ok (.istore_n 2, 1) := by decide +kernel
theorem dX4_stale_12 : decode cX4_stale 12 = .ok (.iload_n 2, 1) := by decide +kernel
theorem dX4_stale_13 : decode cX4_stale 13 = .ok (.bipush 12, 2) := by decide +kernel
theorem dX4_stale_15 : decode cX4_stale 15 = .ok (.if_icmp .ge 36, 3) := by decide +kernel
theorem dX4_stale_18 : decode cX4_stale 18 = .ok (.aload_n 0, 1) := by decide +kernel
theorem dX4_stale_19 : decode cX4_stale 19 = .ok (.getfield 76, 3) := by decide +kernel
theorem dX4_stale_22 : decode cX4_stale 22 = .ok (.iload_n 2, 1) := by decide +kernel
theorem dX4_stale_23 : decode cX4_stale 23 = .ok (.iload_n 2, 1) := by decide +kernel
theorem dX4_stale_24 : decode cX4_stale 24 = .ok (.aload_n 0, 1) := by decide +kernel
theorem dX4_stale_25 : decode cX4_stale 25 = .ok (.getfield 85, 3) := by decide +kernel
theorem dX4_stale_28 : decode cX4_stale 28 = .ok (.if_icmp .ge 15, 3) := by decide +kernel
theorem dX4_stale_31 : decode cX4_stale 31 = .ok (.aload_n 0, 1) := by decide +kernel
theorem dX4_stale_32 : decode cX4_stale 32 = .ok (.iload_n 2, 1) := by decide +kernel
theorem dX4_stale_33 : decode cX4_stale 33 = .ok (.invokevirtual 150, 3) := by decide +kernel
theorem dX4_stale_36 : decode cX4_stale 36 = .ok (.ifCond .eq 7, 3) := by decide +kernel
theorem dX4_stale_39 : decode cX4_stale 39 = .ok (.iconst 1, 1) := by decide +kernel
theorem dX4_stale_40 : decode cX4_stale 40 = .ok (.goto 4, 3) := by decide +kernel
theorem dX4_stale_43 : decode cX4_stale 43 = .ok (.iconst 0, 1) := by decide +kernel
theorem dX4_stale_44 : decode cX4_stale 44 = .ok (.bastore, 1) := by decide +kernel
theorem dX4_stale_45 : decode cX4_stale 45 = .ok (.iinc 2 1, 3) := by decide +kernel
theorem dX4_stale_48 : decode cX4_stale 48 = .ok (.goto (-36), 3) := by decide +kernel
theorem dX4_stale_51 : decode cX4_stale 51 = .ok (.aload_n 0, 1) := by decide +kernel
theorem dX4_stale_52 : decode cX4_stale 52 = .ok (.invokevirtual 108, 3) := by decide +kernel
theorem dX4_stale_55 : decode cX4_stale 55 = .ok (.aload_n 0, 1) := by decide +kernel
theorem dX4_stale_56 : decode cX4_stale 56 = .ok (.getfield 76, 3) := by decide +kernel
theorem dX4_stale_59 : decode cX4_stale 59 = .ok (.iload_n 1, 1) := by decide +kernel
theorem dX4_stale_60 : decode cX4_stale 60 = .ok (.baload, 1) := by decide +kernel
theorem dX4_stale_61 : decode cX4_stale 61 = .ok (.ireturn, 1) := by decide +kernel
theorem dX4_isEarlier_0 : decode cX4_isEarlier 0 = .ok (.iconst 0, 1) := by decide +kernel
theorem dX4_isEarlier_1 : decode cX4_isEarlier 1 = .ok (.istore_n 3, 1) := by decide +kernel
theorem dX4_isEarlier_2 : decode cX4_isEarlier 2 = .ok (.iconst 0, 1) := by decide +kernel
theorem dX4_isEarlier_3 : decode cX4_isEarlier 3 = .ok (.istore 4, 2) := by decide +kernel
theorem dX4_isEarlier_5 : decode cX4_isEarlier 5 = .ok (.iload 4, 2) := by decide +kernel
theorem dX4_isEarlier_7 : decode cX4_isEarlier 7 = .ok (.iload_n 2, 1) := by decide +kernel
theorem dX4_isEarlier_8 : decode cX4_isEarlier 8 = .ok (.if_icmp .ge 56, 3) := by decide +kernel
theorem dX4_isEarlier_11 : decode cX4_isEarlier 11 = .ok (.iload_n 3, 1) := by decide +kernel
theorem dX4_isEarlier_12 : decode cX4_isEarlier 12 = .ok (.ifCond .ne 40, 3) := by decide +kernel
theorem dX4_isEarlier_15 : decode cX4_isEarlier 15 = .ok (.aload_n 0, 1) := by decide +kernel
theorem dX4_isEarlier_16 : decode cX4_isEarlier 16 = .ok (.getfield 13, 3) := by decide +kernel
theorem dX4_isEarlier_19 : decode cX4_isEarlier 19 = .ok (.aload_n 0, 1) := by decide +kernel
theorem dX4_isEarlier_20 : decode cX4_isEarlier 20 = .ok (.getfield 49, 3) := by decide +kernel
theorem dX4_isEarlier_23 : decode cX4_isEarlier 23 = .ok (.bipush 8, 2) := by decide +kernel
theorem dX4_isEarlier_25 : decode cX4_isEarlier 25 = .ok (.iload_n 1, 1) := by decide +kernel
theorem dX4_isEarlier_26 : decode cX4_isEarlier 26 = .ok (.imul, 1) := by decide +kernel
theorem dX4_isEarlier_27 : decode cX4_isEarlier 27 = .ok (.iload 4, 2) := by decide +kernel
theorem dX4_isEarlier_29 : decode cX4_isEarlier 29 = .ok (.iadd, 1) := by decide +kernel
theorem dX4_isEarlier_30 : decode cX4_isEarlier 30 = .ok (.iaload, 1) := by decide +kernel
theorem dX4_isEarlier_31 : decode cX4_isEarlier 31 = .ok (.laload, 1) := by decide +kernel
theorem dX4_isEarlier_32 : decode cX4_isEarlier 32 = .ok (.aload_n 0, 1) := by decide +kernel
theorem dX4_isEarlier_33 : decode cX4_isEarlier 33 = .ok (.getfield 13, 3) := by decide +kernel
theorem dX4_isEarlier_36 : decode cX4_isEarlier 36 = .ok (.aload_n 0, 1) := by decide +kernel
theorem dX4_isEarlier_37 : decode cX4_isEarlier 37 = .ok (.getfield 49, 3) := by decide +kernel
theorem dX4_isEarlier_40 : decode cX4_isEarlier 40 = .ok (.bipush 8, 2) := by decide +kernel
end
section
theorem dX4_isEarlier_42 : decode cX4_isEarlier 42 = .ok (.iload_n 1, 1) := by decide +kernel
theorem dX4_isEarlier_43 : decode cX4_isEarlier 43 = .ok (.imul, 1) := by decide +kernel
theorem dX4_isEarlier_44 : decode cX4_isEarlier 44 = .ok (.iload_n 2, 1) := by decide +kernel
theorem dX4_isEarlier_45 : decode cX4_isEarlier 45 = .ok (.iadd, 1) := by decide +kernel
theorem dX4_isEarlier_46 : decode cX4_isEarlier 46 = .ok (.iaload, 1) := by decide +kernel
theorem dX4_isEarlier_47 : decode cX4_isEarlier 47 = .ok (.laload, 1) := by decide +kernel
theorem dX4_isEarlier_48 : decode cX4_isEarlier 48 = .ok (.lcmp, 1) := by decide +kernel
theorem dX4_isEarlier_49 : decode cX4_isEarlier 49 = .ok (.ifCond .ne 7, 3) := by decide +kernel
theorem dX4_isEarlier_52 : decode cX4_isEarlier 52 = .ok (.iconst 1, 1) := by decide +kernel
theorem dX4_isEarlier_53 : decode cX4_isEarlier 53 = .ok (.goto 4, 3) := by decide +kernel
theorem dX4_isEarlier_56 : decode cX4_isEarlier 56 = .ok (.iconst 0, 1) := by decide +kernel
theorem dX4_isEarlier_57 : decode cX4_isEarlier 57 = .ok (.istore_n 3, 1) := by decide +kernel
theorem dX4_isEarlier_58 : decode cX4_isEarlier 58 = .ok (.iinc 4 1, 3) := by decide +kernel
theorem dX4_isEarlier_61 : decode cX4_isEarlier 61 = .ok (.goto (-56), 3) := by decide +kernel
theorem dX4_isEarlier_64 : decode cX4_isEarlier 64 = .ok (.iload_n 3, 1) := by decide +kernel
theorem dX4_isEarlier_65 : decode cX4_isEarlier 65 = .ok (.ireturn, 1) := by decide +kernel
theorem dX4_worth_0 : decode cX4_worth 0 = .ok (.lconst 0, 1) := by decide +kernel
theorem dX4_worth_1 : decode cX4_worth 1 = .ok (.lstore_n 2, 1) := by decide +kernel
theorem dX4_worth_2 : decode cX4_worth 2 = .ok (.iconst 0, 1) := by decide +kernel
theorem dX4_worth_3 : decode cX4_worth 3 = .ok (.istore 4, 2) := by decide +kernel
theorem dX4_worth_5 : decode cX4_worth 5 = .ok (.iload 4, 2) := by decide +kernel
theorem dX4_worth_7 : decode cX4_worth 7 = .ok (.aload_n 0, 1) := by decide +kernel
theorem dX4_worth_8 : decode cX4_worth 8 = .ok (.getfield 52, 3) := by decide +kernel
theorem dX4_worth_11 : decode cX4_worth 11 = .ok (.iload_n 1, 1) := by decide +kernel
theorem dX4_worth_12 : decode cX4_worth 12 = .ok (.iaload, 1) := by decide +kernel
theorem dX4_worth_13 : decode cX4_worth 13 = .ok (.if_icmp .ge 117, 3) := by decide +kernel
theorem dX4_worth_16 : decode cX4_worth 16 = .ok (.aload_n 0, 1) := by decide +kernel
theorem dX4_worth_17 : decode cX4_worth 17 = .ok (.getfield 13, 3) := by decide +kernel
theorem dX4_worth_20 : decode cX4_worth 20 = .ok (.aload_n 0, 1) := by decide +kernel
theorem dX4_worth_21 : decode cX4_worth 21 = .ok (.getfield 49, 3) := by decide +kernel
theorem dX4_worth_24 : decode cX4_worth 24 = .ok (.bipush 8, 2) := by decide +kernel
theorem dX4_worth_26 : decode cX4_worth 26 = .ok (.iload_n 1, 1) := by decide +kernel
theorem dX4_worth_27 : decode cX4_worth 27 = .ok (.imul, 1) := by decide +kernel
theorem dX4_worth_28 : decode cX4_worth 28 = .ok (.iload 4, 2) := by decide +kernel
theorem dX4_worth_30 : decode cX4_worth 30 = .ok (.iadd, 1) := by decide +kernel
theorem dX4_worth_31 : decode cX4_worth 31 = .ok (.iaload, 1) := by decide +kernel
theorem dX4_worth_32 : decode cX4_worth 32 = .ok (.laload, 1) := by decide +kernel
theorem dX4_worth_33 : decode cX4_worth 33 = .ok (.lstore 5, 2) := by decide +kernel
theorem dX4_worth_35 : decode cX4_worth 35 = .ok (.aload_n 0, 1) := by decide +kernel
theorem dX4_worth_36 : decode cX4_worth 36 = .ok (.getfield 46, 3) := by decide +kernel
theorem dX4_worth_39 : decode cX4_worth 39 = .ok (.iload_n 1, 1) := by decide +kernel
theorem dX4_worth_40 : decode cX4_worth 40 = .ok (.iaload, 1) := by decide +kernel
theorem dX4_worth_41 : decode cX4_worth 41 = .ok (.tableswitch 65 0 2 #[27, 35, 57], 27) := by decide +kernel
theorem dX4_worth_68 : decode cX4_worth 68 = .ok (.lload_n 2, 1) := by decide +kernel
theorem dX4_worth_69 : decode cX4_worth 69 = .ok (.lload 5, 2) := by decide +kernel
theorem dX4_worth_71 : decode cX4_worth 71 = .ok (.ladd, 1) := by decide +kernel
theorem dX4_worth_72 : decode cX4_worth 72 = .ok (.lstore_n 2, 1) := by decide +kernel
theorem dX4_worth_73 : decode cX4_worth 73 = .ok (.goto 51, 3) := by decide +kernel
theorem dX4_worth_76 : decode cX4_worth 76 = .ok (.iload 4, 2) := by decide +kernel
theorem dX4_worth_78 : decode cX4_worth 78 = .ok (.ifCond .eq 10, 3) := by decide +kernel
theorem dX4_worth_81 : decode cX4_worth 81 = .ok (.lload 5, 2) := by decide +kernel
theorem dX4_worth_83 : decode cX4_worth 83 = .ok (.lload_n 2, 1) := by decide +kernel
theorem dX4_worth_84 : decode cX4_worth 84 = .ok (.lcmp, 1) := by decide +kernel
theorem dX4_worth_85 : decode cX4_worth 85 = .ok (.ifCond .le 8, 3) := by decide +kernel
theorem dX4_worth_88 : decode cX4_worth 88 = .ok (.lload 5, 2) := by decide +kernel
theorem dX4_worth_90 : decode cX4_worth 90 = .ok (.goto 4, 3) := by decide +kernel
theorem dX4_worth_93 : decode cX4_worth 93 = .ok (.lload_n 2, 1) := by decide +kernel
theorem dX4_worth_94 : decode cX4_worth 94 = .ok (.lstore_n 2, 1) := by decide +kernel
theorem dX4_worth_95 : decode cX4_worth 95 = .ok (.goto 29, 3) := by decide +kernel
theorem dX4_worth_98 : decode cX4_worth 98 = .ok (.lload_n 2, 1) := by decide +kernel
theorem dX4_worth_99 : decode cX4_worth 99 = .ok (.lload 5, 2) := by decide +kernel
theorem dX4_worth_101 : decode cX4_worth 101 = .ok (.lxor, 1) := by decide +kernel
theorem dX4_worth_102 : decode cX4_worth 102 = .ok (.lstore_n 2, 1) := by decide +kernel
theorem dX4_worth_103 : decode cX4_worth 103 = .ok (.goto 21, 3) := by decide +kernel
theorem dX4_worth_106 : decode cX4_worth 106 = .ok (.aload_n 0, 1) := by decide +kernel
theorem dX4_worth_107 : decode cX4_worth 107 = .ok (.iload_n 1, 1) := by decide +kernel
theorem dX4_worth_108 : decode cX4_worth 108 = .ok (.iload 4, 2) := by decide +kernel
theorem dX4_worth_110 : decode cX4_worth 110 = .ok (.invokevirtual 153, 3) := by decide +kernel
theorem dX4_worth_113 : decode cX4_worth 113 = .ok (.ifCond .eq 7, 3) := by decide +kernel
theorem dX4_worth_116 : decode cX4_worth 116 = .ok (.lload_n 2, 1) := by decide +kernel
theorem dX4_worth_117 : decode cX4_worth 117 = .ok (.goto 6, 3) := by decide +kernel
theorem dX4_worth_120 : decode cX4_worth 120 = .ok (.lload_n 2, 1) := by decide +kernel
theorem dX4_worth_121 : decode cX4_worth 121 = .ok (.lconst 1, 1) := by decide +kernel
theorem dX4_worth_122 : decode cX4_worth 122 = .ok (.ladd, 1) := by decide +kernel
theorem dX4_worth_123 : decode cX4_worth 123 = .ok (.lstore_n 2, 1) := by decide +kernel
theorem dX4_worth_124 : decode cX4_worth 124 = .ok (.iinc 4 1, 3) := by decide +kernel
theorem dX4_worth_127 : decode cX4_worth 127 = .ok (.goto (-122), 3) := by decide +kernel
theorem dX4_worth_130 : decode cX4_worth 130 = .ok (.lload_n 2, 1) := by decide +kernel
theorem dX4_worth_131 : decode cX4_worth 131 = .ok (.lreturn, 1) := by decide +kernel
theorem dX4_give_0 : decode cX4_give 0 = .ok (.aload_n 0, 1) := by decide +kernel
theorem dX4_give_1 : decode cX4_give 1 = .ok (.iload_n 1, 1) := by decide +kernel
theorem dX4_give_2 : decode cX4_give 2 = .ok (.invokevirtual 156, 3) := by decide +kernel
theorem dX4_give_5 : decode cX4_give 5 = .ok (.lstore_n 2, 1) := by decide +kernel
theorem dX4_give_6 : decode cX4_give 6 = .ok (.iconst 0, 1) := by decide +kernel
theorem dX4_give_7 : decode cX4_give 7 = .ok (.istore 4, 2) := by decide +kernel
theorem dX4_give_9 : decode cX4_give 9 = .ok (.iconst 0, 1) := by decide +kernel
theorem dX4_give_10 : decode cX4_give 10 = .ok (.istore 5, 2) := by decide +kernel
theorem dX4_give_12 : decode cX4_give 12 = .ok (.iload 5, 2) := by decide +kernel
theorem dX4_give_14 : decode cX4_give 14 = .ok (.aload_n 0, 1) := by decide +kernel
theorem dX4_give_15 : decode cX4_give 15 = .ok (.getfield 52, 3) := by decide +kernel
theorem dX4_give_18 : decode cX4_give 18 = .ok (.iload_n 1, 1) := by decide +kernel
theorem dX4_give_19 : decode cX4_give 19 = .ok (.iaload, 1) := by decide +kernel
theorem dX4_give_20 : decode cX4_give 20 = .ok (.if_icmp .ge 38, 3) := by decide +kernel
theorem dX4_give_23 : decode cX4_give 23 = .ok (.aload_n 0, 1) := by decide +kernel
theorem dX4_give_24 : decode cX4_give 24 = .ok (.getfield 70, 3) := by decide +kernel
theorem dX4_give_27 : decode cX4_give 27 = .ok (.bipush 8, 2) := by decide +kernel
theorem dX4_give_29 : decode cX4_give 29 = .ok (.iload_n 1, 1) := by decide +kernel
theorem dX4_give_30 : decode cX4_give 30 = .ok (.imul, 1) := by decide +kernel
theorem dX4_give_31 : decode cX4_give 31 = .ok (.iload 5, 2) := by decide +kernel
theorem dX4_give_33 : decode cX4_give 33 = .ok (.iadd, 1) := by decide +kernel
theorem dX4_give_34 : decode cX4_give 34 = .ok (.aload_n 0, 1) := by decide +kernel
theorem dX4_give_35 : decode cX4_give 35 = .ok (.getfield 13, 3) := by decide +kernel
theorem dX4_give_38 : decode cX4_give 38 = .ok (.aload_n 0, 1) := by decide +kernel
theorem dX4_give_39 : decode cX4_give 39 = .ok (.getfield 49, 3) := by decide +kernel
theorem dX4_give_42 : decode cX4_give 42 = .ok (.bipush 8, 2) := by decide +kernel
theorem dX4_give_44 : decode cX4_give 44 = .ok (.iload_n 1, 1) := by decide +kernel
theorem dX4_give_45 : decode cX4_give 45 = .ok (.imul, 1) := by decide +kernel
theorem dX4_give_46 : decode cX4_give 46 = .ok (.iload 5, 2) := by decide +kernel
theorem dX4_give_48 : decode cX4_give 48 = .ok (.iadd, 1) := by decide +kernel
theorem dX4_give_49 : decode cX4_give 49 = .ok (.iaload, 1) := by decide +kernel
theorem dX4_give_50 : decode cX4_give 50 = .ok (.laload, 1) := by decide +kernel
theorem dX4_give_51 : decode cX4_give 51 = .ok (.lastore, 1) := by decide +kernel
theorem dX4_give_52 : decode cX4_give 52 = .ok (.iinc 5 1, 3) := by decide +kernel
theorem dX4_give_55 : decode cX4_give 55 = .ok (.goto (-43), 3) := by decide +kernel
theorem dX4_give_58 : decode cX4_give 58 = .ok (.iconst 0, 1) := by decide +kernel
theorem dX4_give_59 : decode cX4_give 59 = .ok (.istore 5, 2) := by decide +kernel
theorem dX4_give_61 : decode cX4_give 61 = .ok (.iload 5, 2) := by decide +kernel
theorem dX4_give_63 : decode cX4_give 63 = .ok (.aload_n 0, 1) := by decide +kernel
theorem dX4_give_64 : decode cX4_give 64 = .ok (.getfield 58, 3) := by decide +kernel
theorem dX4_give_67 : decode cX4_give 67 = .ok (.iload_n 1, 1) := by decide +kernel
theorem dX4_give_68 : decode cX4_give 68 = .ok (.iaload, 1) := by decide +kernel
theorem dX4_give_69 : decode cX4_give 69 = .ok (.if_icmp .ge 53, 3) := by decide +kernel
theorem dX4_give_72 : decode cX4_give 72 = .ok (.aload_n 0, 1) := by decide +kernel
theorem dX4_give_73 : decode cX4_give 73 = .ok (.getfield 55, 3) := by decide +kernel
theorem dX4_give_76 : decode cX4_give 76 = .ok (.iconst 4, 1) := by decide +kernel
theorem dX4_give_77 : decode cX4_give 77 = .ok (.iload_n 1, 1) := by decide +kernel
theorem dX4_give_78 : decode cX4_give 78 = .ok (.imul, 1) := by decide +kernel
theorem dX4_give_79 : decode cX4_give 79 = .ok (.iload 5, 2) := by decide +kernel
theorem dX4_give_81 : decode cX4_give 81 = .ok (.iadd, 1) := by decide +kernel
theorem dX4_give_82 : decode cX4_give 82 = .ok (.iaload, 1) := by decide +kernel
theorem dX4_give_83 : decode cX4_give 83 = .ok (.istore 6, 2) := by decide +kernel
theorem dX4_give_85 : decode cX4_give 85 = .ok (.aload_n 0, 1) := by decide +kernel
theorem dX4_give_86 : decode cX4_give 86 = .ok (.getfield 13, 3) := by decide +kernel
theorem dX4_give_89 : decode cX4_give 89 = .ok (.iload 6, 2) := by decide +kernel
theorem dX4_give_91 : decode cX4_give 91 = .ok (.laload, 1) := by decide +kernel
theorem dX4_give_92 : decode cX4_give 92 = .ok (.lload_n 2, 1) := by decide +kernel
theorem dX4_give_93 : decode cX4_give 93 = .ok (.lcmp, 1) := by decide +kernel
theorem dX4_give_94 : decode cX4_give 94 = .ok (.ifCond .eq 10, 3) := by decide +kernel
theorem dX4_give_97 : decode cX4_give 97 = .ok (.iload 4, 2) := by decide +kernel
theorem dX4_give_99 : decode cX4_give 99 = .ok (.iconst 1, 1) := by decide +kernel
theorem dX4_give_100 : decode cX4_give 100 = .ok (.iadd, 1) := by decide +kernel
theorem dX4_give_101 : decode cX4_give 101 = .ok (.goto 5, 3) := by decide +kernel
theorem dX4_give_104 : decode cX4_give 104 = .ok (.iload 4, 2) := by decide +kernel
theorem dX4_give_106 : decode cX4_give 106 = .ok (.istore 4, 2) := by decide +kernel
theorem dX4_give_108 : decode cX4_give 108 = .ok (.aload_n 0, 1) := by decide +kernel
theorem dX4_give_109 : decode cX4_give 109 = .ok (.getfield 13, 3) := by decide +kernel
theorem dX4_give_112 : decode cX4_give 112 = .ok (.iload 6, 2) := by decide +kernel
theorem dX4_give_114 : decode cX4_give 114 = .ok (.lload_n 2, 1) := by decide +kernel
theorem dX4_give_115 : decode cX4_give 115 = .ok (.lastore, 1) := by decide +kernel
theorem dX4_give_116 : decode cX4_give 116 = .ok (.iinc 5 1, 3) := by decide +kernel
theorem dX4_give_119 : decode cX4_give 119 = .ok (.goto (-58), 3) := by decide +kernel
theorem dX4_give_122 : decode cX4_give 122 = .ok (.aload_n 0, 1) := by decide +kernel
theorem dX4_give_123 : decode cX4_give 123 = .ok (.getfield 61, 3) := by decide +kernel
theorem dX4_give_126 : decode cX4_give 126 = .ok (.iload_n 1, 1) := by decide +kernel
theorem dX4_give_127 : decode cX4_give 127 = .ok (.iconst 1, 1) := by decide +kernel
theorem dX4_give_128 : decode cX4_give 128 = .ok (.bastore, 1) := by decide +kernel
theorem dX4_give_129 : decode cX4_give 129 = .ok (.aload_n 0, 1) := by decide +kernel
theorem dX4_give_130 : decode cX4_give 130 = .ok (.getfield 64, 3) := by decide +kernel
theorem dX4_give_133 : decode cX4_give 133 = .ok (.iload_n 1, 1) := by decide +kernel
theorem dX4_give_134 : decode cX4_give 134 = .ok (.aload_n 0, 1) := by decide +kernel
theorem dX4_give_135 : decode cX4_give 135 = .ok (.getfield 52, 3) := by decide +kernel
theorem dX4_give_138 : decode cX4_give 138 = .ok (.iload_n 1, 1) := by decide +kernel
theorem dX4_give_139 : decode cX4_give 139 = .ok (.iaload, 1) := by decide +kernel
theorem dX4_give_140 : decode cX4_give 140 = .ok (.iastore, 1) := by decide +kernel
theorem dX4_give_141 : decode cX4_give 141 = .ok (.aload_n 0, 1) := by decide +kernel
theorem dX4_give_142 : decode cX4_give 142 = .ok (.getfield 67, 3) := by decide +kernel
theorem dX4_give_145 : decode cX4_give 145 = .ok (.iload_n 1, 1) := by decide +kernel
theorem dX4_give_146 : decode cX4_give 146 = .ok (.aload_n 0, 1) := by decide +kernel
theorem dX4_give_147 : decode cX4_give 147 = .ok (.getfield 58, 3) := by decide +kernel
theorem dX4_give_150 : decode cX4_give 150 = .ok (.iload_n 1, 1) := by decide +kernel
theorem dX4_give_151 : decode cX4_give 151 = .ok (.iaload, 1) := by decide +kernel
theorem dX4_give_152 : decode cX4_give 152 = .ok (.iastore, 1) := by decide +kernel
theorem dX4_give_153 : decode cX4_give 153 = .ok (.aload_n 0, 1) := by decide +kernel
theorem dX4_give_154 : decode cX4_give 154 = .ok (.getfield 73, 3) := by decide +kernel
theorem dX4_give_157 : decode cX4_give 157 = .ok (.iload_n 1, 1) := by decide +kernel
theorem dX4_give_158 : decode cX4_give 158 = .ok (.lload_n 2, 1) := by decide +kernel
theorem dX4_give_159 : decode cX4_give 159 = .ok (.lastore, 1) := by decide +kernel
theorem dX4_give_160 : decode cX4_give 160 = .ok (.iload 4, 2) := by decide +kernel
theorem dX4_give_162 : decode cX4_give 162 = .ok (.ireturn, 1) := by decide +kernel
theorem dX4_isNext_0 : decode cX4_isNext 0 = .ok (.aload_n 0, 1) := by decide +kernel
theorem dX4_isNext_1 : decode cX4_isNext 1 = .ok (.getfield 79, 3) := by decide +kernel
theorem dX4_isNext_4 : decode cX4_isNext 4 = .ok (.iload_n 1, 1) := by decide +kernel
theorem dX4_isNext_5 : decode cX4_isNext 5 = .ok (.baload, 1) := by decide +kernel
theorem dX4_isNext_6 : decode cX4_isNext 6 = .ok (.ifCond .ne 7, 3) := by decide +kernel
theorem dX4_isNext_9 : decode cX4_isNext 9 = .ok (.iconst 1, 1) := by decide +kernel
theorem dX4_isNext_10 : decode cX4_isNext 10 = .ok (.goto 4, 3) := by decide +kernel
theorem dX4_isNext_13 : decode cX4_isNext 13 = .ok (.iconst 0, 1) := by decide +kernel
theorem dX4_isNext_14 : decode cX4_isNext 14 = .ok (.istore_n 2, 1) := by decide +kernel
theorem dX4_isNext_15 : decode cX4_isNext 15 = .ok (.iconst 0, 1) := by decide +kernel
theorem dX4_isNext_16 : decode cX4_isNext 16 = .ok (.istore_n 3, 1) := by decide +kernel
theorem dX4_isNext_17 : decode cX4_isNext 17 = .ok (.iload_n 3, 1) := by decide +kernel
theorem dX4_isNext_18 : decode cX4_isNext 18 = .ok (.aload_n 0, 1) := by decide +kernel
theorem dX4_isNext_19 : decode cX4_isNext 19 = .ok (.getfield 85, 3) := by decide +kernel
theorem dX4_isNext_22 : decode cX4_isNext 22 = .ok (.if_icmp .ge 37, 3) := by decide +kernel
theorem dX4_isNext_25 : decode cX4_isNext 25 = .ok (.iload_n 2, 1) := by decide +kernel
theorem dX4_isNext_26 : decode cX4_isNext 26 = .ok (.ifCond .eq 25, 3) := by decide +kernel
theorem dX4_isNext_29 : decode cX4_isNext 29 = .ok (.aload_n 0, 1) := by decide +kernel
theorem dX4_isNext_30 : decode cX4_isNext 30 = .ok (.getfield 79, 3) := by decide +kernel
theorem dX4_isNext_33 : decode cX4_isNext 33 = .ok (.iload_n 3, 1) := by decide +kernel
theorem dX4_isNext_34 : decode cX4_isNext 34 = .ok (.baload, 1) := by decide +kernel
theorem dX4_isNext_35 : decode cX4_isNext 35 = .ok (.ifCond .ne 12, 3) := by decide +kernel
theorem dX4_isNext_38 : decode cX4_isNext 38 = .ok (.aload_n 0, 1) := by decide +kernel
theorem dX4_isNext_39 : decode cX4_isNext 39 = .ok (.iload_n 1, 1) := by decide +kernel
theorem dX4_isNext_40 : decode cX4_isNext 40 = .ok (.iload_n 3, 1) := by decide +kernel
theorem dX4_isNext_41 : decode cX4_isNext 41 = .ok (.invokevirtual 95, 3) := by decide +kernel
theorem dX4_isNext_44 : decode cX4_isNext 44 = .ok (.ifCond .ne 7, 3) := by decide +kernel
theorem dX4_isNext_47 : decode cX4_isNext 47 = .ok (.iconst 1, 1) := by decide +kernel
theorem dX4_isNext_48 : decode cX4_isNext 48 = .ok (.goto 4, 3) := by decide +kernel
theorem dX4_isNext_51 : decode cX4_isNext 51 = .ok (.iconst 0, 1) := by decide +kernel
theorem dX4_isNext_52 : decode cX4_isNext 52 = .ok (.istore_n 2, 1) := by decide +kernel
theorem dX4_isNext_53 : decode cX4_isNext 53 = .ok (.iinc 3 1, 3) := by decide +kernel
theorem dX4_isNext_56 : decode cX4_isNext 56 = .ok (.goto (-39), 3) := by decide +kernel
theorem dX4_isNext_59 : decode cX4_isNext 59 = .ok (.iload_n 2, 1) := by decide +kernel
theorem dX4_isNext_60 : decode cX4_isNext 60 = .ok (.ireturn, 1) := by decide +kernel
theorem dX4_go_0 : decode cX4_go 0 = .ok (.aload_n 0, 1) := by decide +kernel
theorem dX4_go_1 : decode cX4_go 1 = .ok (.iconst 0, 1) := by decide +kernel
theorem dX4_go_2 : decode cX4_go 2 = .ok (.putfield 159, 3) := by decide +kernel
theorem dX4_go_5 : decode cX4_go 5 = .ok (.iconst 0, 1) := by decide +kernel
theorem dX4_go_6 : decode cX4_go 6 = .ok (.istore_n 2, 1) := by decide +kernel
theorem dX4_go_7 : decode cX4_go 7 = .ok (.iload_n 2, 1) := by decide +kernel
theorem dX4_go_8 : decode cX4_go 8 = .ok (.bipush 12, 2) := by decide +kernel
theorem dX4_go_10 : decode cX4_go 10 = .ok (.if_icmp .ge 16, 3) := by decide +kernel
theorem dX4_go_13 : decode cX4_go 13 = .ok (.aload_n 0, 1) := by decide +kernel
theorem dX4_go_14 : decode cX4_go 14 = .ok (.getfield 79, 3) := by decide +kernel
theorem dX4_go_17 : decode cX4_go 17 = .ok (.iload_n 2, 1) := by decide +kernel
theorem dX4_go_18 : decode cX4_go 18 = .ok (.iconst 0, 1) := by decide +kernel
theorem dX4_go_19 : decode cX4_go 19 = .ok (.bastore, 1) := by decide +kernel
theorem dX4_go_20 : decode cX4_go 20 = .ok (.iinc 2 1, 3) := by decide +kernel
theorem dX4_go_23 : decode cX4_go 23 = .ok (.goto (-16), 3) := by decide +kernel
theorem dX4_go_26 : decode cX4_go 26 = .ok (.aload_n 0, 1) := by decide +kernel
theorem dX4_go_27 : decode cX4_go 27 = .ok (.getfield 79, 3) := by decide +kernel
theorem dX4_go_30 : decode cX4_go 30 = .ok (.iload_n 1, 1) := by decide +kernel
theorem dX4_go_31 : decode cX4_go 31 = .ok (.baload, 1) := by decide +kernel
theorem dX4_go_32 : decode cX4_go 32 = .ok (.ifCond .ne 89, 3) := by decide +kernel
theorem dX4_go_35 : decode cX4_go 35 = .ok (.iconst 0, 1) := by decide +kernel
theorem dX4_go_36 : decode cX4_go 36 = .ok (.istore_n 2, 1) := by decide +kernel
theorem dX4_go_37 : decode cX4_go 37 = .ok (.iload_n 2, 1) := by decide +kernel
theorem dX4_go_38 : decode cX4_go 38 = .ok (.aload_n 0, 1) := by decide +kernel
theorem dX4_go_39 : decode cX4_go 39 = .ok (.getfield 85, 3) := by decide +kernel
theorem dX4_go_42 : decode cX4_go 42 = .ok (.if_icmp .ge 76, 3) := by decide +kernel
theorem dX4_go_45 : decode cX4_go 45 = .ok (.aload_n 0, 1) := by decide +kernel
theorem dX4_go_46 : decode cX4_go 46 = .ok (.iload_n 2, 1) := by decide +kernel
theorem dX4_go_47 : decode cX4_go 47 = .ok (.invokevirtual 163, 3) := by decide +kernel
theorem dX4_go_50 : decode cX4_go 50 = .ok (.ifCond .eq 62, 3) := by decide +kernel
theorem dX4_go_53 : decode cX4_go 53 = .ok (.aload_n 0, 1) := by decide +kernel
theorem dX4_go_54 : decode cX4_go 54 = .ok (.iload_n 2, 1) := by decide +kernel
theorem dX4_go_55 : decode cX4_go 55 = .ok (.iload_n 1, 1) := by decide +kernel
theorem dX4_go_56 : decode cX4_go 56 = .ok (.invokevirtual 166, 3) := by decide +kernel
theorem dX4_go_59 : decode cX4_go 59 = .ok (.ifCond .eq 46, 3) := by decide +kernel
theorem dX4_go_62 : decode cX4_go 62 = .ok (.aload_n 0, 1) := by decide +kernel
theorem dX4_go_63 : decode cX4_go 63 = .ok (.iload_n 2, 1) := by decide +kernel
theorem dX4_go_64 : decode cX4_go 64 = .ok (.invokevirtual 169, 3) := by decide +kernel
theorem dX4_go_67 : decode cX4_go 67 = .ok (.ifCond .eq 38, 3) := by decide +kernel
theorem dX4_go_70 : decode cX4_go 70 = .ok (.aload_n 0, 1) := by decide +kernel
theorem dX4_go_71 : decode cX4_go 71 = .ok (.dup, 1) := by decide +kernel
theorem dX4_go_72 : decode cX4_go 72 = .ok (.getfield 172, 3) := by decide +kernel
theorem dX4_go_75 : decode cX4_go 75 = .ok (.aload_n 0, 1) := by decide +kernel
theorem dX4_go_76 : decode cX4_go 76 = .ok (.iload_n 2, 1) := by decide +kernel
theorem dX4_go_77 : decode cX4_go 77 = .ok (.invokevirtual 175, 3) := by decide +kernel
theorem dX4_go_80 : decode cX4_go 80 = .ok (.iadd, 1) := by decide +kernel
theorem dX4_go_81 : decode cX4_go 81 = .ok (.putfield 172, 3) := by decide +kernel
theorem dX4_go_84 : decode cX4_go 84 = .ok (.aload_n 0, 1) := by decide +kernel
theorem dX4_go_85 : decode cX4_go 85 = .ok (.aload_n 0, 1) := by decide +kernel
theorem dX4_go_86 : decode cX4_go 86 = .ok (.getfield 159, 3) := by decide +kernel
theorem dX4_go_89 : decode cX4_go 89 = .ok (.ifCond .ne 8, 3) := by decide +kernel
theorem dX4_go_92 : decode cX4_go 92 = .ok (.iload_n 2, 1) := by decide +kernel
theorem dX4_go_93 : decode cX4_go 93 = .ok (.iload_n 1, 1) := by decide +kernel
theorem dX4_go_94 : decode cX4_go 94 = .ok (.if_icmp .ne 7, 3) := by decide +kernel
theorem dX4_go_97 : decode cX4_go 97 = .ok (.iconst 1, 1) := by decide +kernel
theorem dX4_go_98 : decode cX4_go 98 = .ok (.goto 4, 3) := by decide +kernel
theorem dX4_go_101 : decode cX4_go 101 = .ok (.iconst 0, 1) := by decide +kernel
theorem dX4_go_102 : decode cX4_go 102 = .ok (.putfield 159, 3) := by decide +kernel
theorem dX4_go_105 : decode cX4_go 105 = .ok (.aload_n 0, 1) := by decide +kernel
theorem dX4_go_106 : decode cX4_go 106 = .ok (.getfield 79, 3) := by decide +kernel
theorem dX4_go_109 : decode cX4_go 109 = .ok (.iload_n 2, 1) := by decide +kernel
theorem dX4_go_110 : decode cX4_go 110 = .ok (.iconst 1, 1) := by decide +kernel
theorem dX4_go_111 : decode cX4_go 111 = .ok (.bastore, 1) := by decide +kernel
theorem dX4_go_112 : decode cX4_go 112 = .ok (.iinc 2 1, 3) := by decide +kernel
theorem dX4_go_115 : decode cX4_go 115 = .ok (.goto (-78), 3) := by decide +kernel
theorem dX4_go_118 : decode cX4_go 118 = .ok (.goto (-92), 3) := by decide +kernel
theorem dX4_go_121 : decode cX4_go 121 = .ok (.return_, 1) := by decide +kernel
theorem dX4_isBefore_0 : decode cX4_isBefore 0 = .ok (.aload_n 0, 1) := by decide +kernel
theorem dX4_isBefore_1 : decode cX4_isBefore 1 = .ok (.invokevirtual 105, 3) := by decide +kernel
theorem dX4_isBefore_4 : decode cX4_isBefore 4 = .ok (.aload_n 0, 1) := by decide +kernel
theorem dX4_isBefore_5 : decode cX4_isBefore 5 = .ok (.getfield 76, 3) := by decide +kernel
theorem dX4_isBefore_8 : decode cX4_isBefore 8 = .ok (.iload_n 1, 1) := by decide +kernel
theorem dX4_isBefore_9 : decode cX4_isBefore 9 = .ok (.iconst 1, 1) := by decide +kernel
theorem dX4_isBefore_10 : decode cX4_isBefore 10 = .ok (.bastore, 1) := by decide +kernel
theorem dX4_isBefore_11 : decode cX4_isBefore 11 = .ok (.aload_n 0, 1) := by decide +kernel
theorem dX4_isBefore_12 : decode cX4_isBefore 12 = .ok (.invokevirtual 108, 3) := by decide +kernel
theorem dX4_isBefore_15 : decode cX4_isBefore 15 = .ok (.aload_n 0, 1) := by decide +kernel
theorem dX4_isBefore_16 : decode cX4_isBefore 16 = .ok (.getfield 76, 3) := by decide +kernel
theorem dX4_isBefore_19 : decode cX4_isBefore 19 = .ok (.iload_n 2, 1) := by decide +kernel
theorem dX4_isBefore_20 : decode cX4_isBefore 20 = .ok (.baload, 1) := by decide +kernel
theorem dX4_isBefore_21 : decode cX4_isBefore 21 = .ok (.ireturn, 1) := by decide +kernel
theorem dX4_run_0 : decode cX4_run 0 = .ok (.aload_n 0, 1) := by decide +kernel
theorem dX4_run_1 : decode cX4_run 1 = .ok (.iload_n 1, 1) := by decide +kernel
theorem dX4_run_2 : decode cX4_run 2 = .ok (.invokevirtual 98, 3) := by decide +kernel
theorem dX4_run_5 : decode cX4_run 5 = .ok (.ifCond .ne 5, 3) := by decide +kernel
theorem dX4_run_8 : decode cX4_run 8 = .ok (.iconst 0, 1) := by decide +kernel
theorem dX4_run_9 : decode cX4_run 9 = .ok (.ireturn, 1) := by decide +kernel
theorem dX4_run_10 : decode cX4_run 10 = .ok (.aload_n 0, 1) := by decide +kernel
theorem dX4_run_11 : decode cX4_run 11 = .ok (.iload_n 1, 1) := by decide +kernel
theorem dX4_run_12 : decode cX4_run 12 = .ok (.invokevirtual 178, 3) := by decide +kernel
theorem dX4_run_15 : decode cX4_run 15 = .ok (.aload_n 0, 1) := by decide +kernel
theorem dX4_run_16 : decode cX4_run 16 = .ok (.getfield 159, 3) := by decide +kernel
theorem dX4_run_19 : decode cX4_run 19 = .ok (.ireturn, 1) := by decide +kernel
theorem dX4_branch_0 : decode cX4_branch 0 = .ok (.aload_n 0, 1) := by decide +kernel
theorem dX4_branch_1 : decode cX4_branch 1 = .ok (.getfield 7, 3) := by decide +kernel
theorem dX4_branch_4 : decode cX4_branch 4 = .ok (.bipush 6, 2) := by decide +kernel
theorem dX4_branch_6 : decode cX4_branch 6 = .ok (.if_icmp .ne 5, 3) := by decide +kernel
theorem dX4_branch_9 : decode cX4_branch 9 = .ok (.iconst (-1), 1) := by decide +kernel
theorem dX4_branch_10 : decode cX4_branch 10 = .ok (.ireturn, 1) := by decide +kernel
theorem dX4_branch_11 : decode cX4_branch 11 = .ok (.iconst 0, 1) := by decide +kernel
theorem dX4_branch_12 : decode cX4_branch 12 = .ok (.istore_n 1, 1) := by decide +kernel
theorem dX4_branch_13 : decode cX4_branch 13 = .ok (.iload_n 1, 1) := by decide +kernel
theorem dX4_branch_14 : decode cX4_branch 14 = .ok (.aload_n 0, 1) := by decide +kernel
theorem dX4_branch_15 : decode cX4_branch 15 = .ok (.getfield 82, 3) := by decide +kernel
theorem dX4_branch_18 : decode cX4_branch 18 = .ok (.if_icmp .ge 29, 3) := by decide +kernel
theorem dX4_branch_21 : decode cX4_branch 21 = .ok (.aload_n 0, 1) := by decide +kernel
theorem dX4_branch_22 : decode cX4_branch 22 = .ok (.getfield 13, 3) := by decide +kernel
theorem dX4_branch_25 : decode cX4_branch 25 = .ok (.bipush 24, 2) := by decide +kernel
theorem dX4_branch_27 : decode cX4_branch 27 = .ok (.aload_n 0, 1) := by decide +kernel
theorem dX4_branch_28 : decode cX4_branch 28 = .ok (.getfield 7, 3) := by decide +kernel
theorem dX4_branch_31 : decode cX4_branch 31 = .ok (.imul, 1) := by decide +kernel
theorem dX4_branch_32 : decode cX4_branch 32 = .ok (.iload_n 1, 1) := by decide +kernel
theorem dX4_branch_33 : decode cX4_branch 33 = .ok (.iadd, 1) := by decide +kernel
theorem dX4_branch_34 : decode cX4_branch 34 = .ok (.aload_n 0, 1) := by decide +kernel
theorem dX4_branch_35 : decode cX4_branch 35 = .ok (.getfield 13, 3) := by decide +kernel
theorem dX4_branch_38 : decode cX4_branch 38 = .ok (.iload_n 1, 1) := by decide +kernel
theorem dX4_branch_39 : decode cX4_branch 39 = .ok (.laload, 1) := by decide +kernel
theorem dX4_branch_40 : decode cX4_branch 40 = .ok (.lastore, 1) := by decide +kernel
theorem dX4_branch_41 : decode cX4_branch 41 = .ok (.iinc 1 1, 3) := by decide +kernel
theorem dX4_branch_44 : decode cX4_branch 44 = .ok (.goto (-31), 3) := by decide +kernel
theorem dX4_branch_47 : decode cX4_branch 47 = .ok (.aload_n 0, 1) := by decide +kernel
theorem dX4_branch_48 : decode cX4_branch 48 = .ok (.dup, 1) := by decide +kernel
theorem dX4_branch_49 : decode cX4_branch 49 = .ok (.getfield 7, 3) := by decide +kernel
theorem dX4_branch_52 : decode cX4_branch 52 = .ok (.iconst 1, 1) := by decide +kernel
theorem dX4_branch_53 : decode cX4_branch 53 = .ok (.iadd, 1) := by decide +kernel
theorem dX4_branch_54 : decode cX4_branch 54 = .ok (.putfield 7, 3) := by decide +kernel
theorem dX4_branch_57 : decode cX4_branch 57 = .ok (.aload_n 0, 1) := by decide +kernel
theorem dX4_branch_58 : decode cX4_branch 58 = .ok (.getfield 7, 3) := by decide +kernel
theorem dX4_branch_61 : decode cX4_branch 61 = .ok (.iconst 1, 1) := by decide +kernel
theorem dX4_branch_62 : decode cX4_branch 62 = .ok (.isub, 1) := by decide +kernel
theorem dX4_branch_63 : decode cX4_branch 63 = .ok (.ireturn, 1) := by decide +kernel
theorem dX4_from_0 : decode cX4_from 0 = .ok (.aload_n 0, 1) := by decide +kernel
theorem dX4_from_1 : decode cX4_from 1 = .ok (.iload_n 1, 1) := by decide +kernel
theorem dX4_from_2 : decode cX4_from 2 = .ok (.invokevirtual 102, 3) := by decide +kernel
theorem dX4_from_5 : decode cX4_from 5 = .ok (.ifCond .eq 11, 3) := by decide +kernel
theorem dX4_from_8 : decode cX4_from 8 = .ok (.aload_n 0, 1) := by decide +kernel
theorem dX4_from_9 : decode cX4_from 9 = .ok (.iload_n 1, 1) := by decide +kernel
theorem dX4_from_10 : decode cX4_from 10 = .ok (.invokevirtual 111, 3) := by decide +kernel
theorem dX4_from_13 : decode cX4_from 13 = .ok (.goto 4, 3) := by decide +kernel
theorem dX4_from_16 : decode cX4_from 16 = .ok (.iconst (-1), 1) := by decide +kernel
theorem dX4_from_17 : decode cX4_from 17 = .ok (.istore_n 3, 1) := by decide +kernel
theorem dX4_from_18 : decode cX4_from 18 = .ok (.iload_n 3, 1) := by decide +kernel
theorem dX4_from_19 : decode cX4_from 19 = .ok (.ifCond .lt 42, 3) := by decide +kernel
theorem dX4_from_22 : decode cX4_from 22 = .ok (.aload_n 0, 1) := by decide +kernel
theorem dX4_from_23 : decode cX4_from 23 = .ok (.getfield 61, 3) := by decide +kernel
theorem dX4_from_26 : decode cX4_from 26 = .ok (.iload_n 3, 1) := by decide +kernel
theorem dX4_from_27 : decode cX4_from 27 = .ok (.baload, 1) := by decide +kernel
theorem dX4_from_28 : decode cX4_from 28 = .ok (.ifCond .eq 33, 3) := by decide +kernel
theorem dX4_from_31 : decode cX4_from 31 = .ok (.iload_n 2, 1) := by decide +kernel
theorem dX4_from_32 : decode cX4_from 32 = .ok (.ifCond .lt 29, 3) := by decide +kernel
theorem dX4_from_35 : decode cX4_from 35 = .ok (.iload_n 2, 1) := by decide +kernel
theorem dX4_from_36 : decode cX4_from 36 = .ok (.aload_n 0, 1) := by decide +kernel
theorem dX4_from_37 : decode cX4_from 37 = .ok (.getfield 64, 3) := by decide +kernel
theorem dX4_from_40 : decode cX4_from 40 = .ok (.iload_n 3, 1) := by decide +kernel
theorem dX4_from_41 : decode cX4_from 41 = .ok (.iaload, 1) := by decide +kernel
theorem dX4_from_42 : decode cX4_from 42 = .ok (.if_icmp .ge 19, 3) := by decide +kernel
theorem dX4_from_45 : decode cX4_from 45 = .ok (.aload_n 0, 1) := by decide +kernel
theorem dX4_from_46 : decode cX4_from 46 = .ok (.getfield 13, 3) := by decide +kernel
theorem dX4_from_49 : decode cX4_from 49 = .ok (.iload_n 1, 1) := by decide +kernel
theorem dX4_from_50 : decode cX4_from 50 = .ok (.laload, 1) := by decide +kernel
theorem dX4_from_51 : decode cX4_from 51 = .ok (.aload_n 0, 1) := by decide +kernel
theorem dX4_from_52 : decode cX4_from 52 = .ok (.getfield 73, 3) := by decide +kernel
theorem dX4_from_55 : decode cX4_from 55 = .ok (.iload_n 3, 1) := by decide +kernel
theorem dX4_from_56 : decode cX4_from 56 = .ok (.laload, 1) := by decide +kernel
theorem dX4_from_57 : decode cX4_from 57 = .ok (.lcmp, 1) := by decide +kernel
theorem dX4_from_58 : decode cX4_from 58 = .ok (.ifCond .eq 5, 3) := by decide +kernel
theorem dX4_from_61 : decode cX4_from 61 = .ok (.iconst (-1), 1) := by decide +kernel
theorem dX4_from_62 : decode cX4_from 62 = .ok (.ireturn, 1) := by decide +kernel
theorem dX4_from_63 : decode cX4_from 63 = .ok (.iconst 0, 1) := by decide +kernel
theorem dX4_from_64 : decode cX4_from 64 = .ok (.istore 4, 2) := by decide +kernel
theorem dX4_from_66 : decode cX4_from 66 = .ok (.iconst 0, 1) := by decide +kernel
theorem dX4_from_67 : decode cX4_from 67 = .ok (.istore 5, 2) := by decide +kernel
theorem dX4_from_69 : decode cX4_from 69 = .ok (.iload 5, 2) := by decide +kernel
theorem dX4_from_71 : decode cX4_from 71 = .ok (.aload_n 0, 1) := by decide +kernel
theorem dX4_from_72 : decode cX4_from 72 = .ok (.getfield 67, 3) := by decide +kernel
theorem dX4_from_75 : decode cX4_from 75 = .ok (.iload_n 3, 1) := by decide +kernel
theorem dX4_from_76 : decode cX4_from 76 = .ok (.iaload, 1) := by decide +kernel
theorem dX4_from_77 : decode cX4_from 77 = .ok (.if_icmp .ge 36, 3) := by decide +kernel
theorem dX4_from_80 : decode cX4_from 80 = .ok (.iload 4, 2) := by decide +kernel
theorem dX4_from_82 : decode cX4_from 82 = .ok (.ifCond .ne 18, 3) := by decide +kernel
theorem dX4_from_85 : decode cX4_from 85 = .ok (.aload_n 0, 1) := by decide +kernel
theorem dX4_from_86 : decode cX4_from 86 = .ok (.getfield 55, 3) := by decide +kernel
theorem dX4_from_89 : decode cX4_from 89 = .ok (.iconst 4, 1) := by decide +kernel
theorem dX4_from_90 : decode cX4_from 90 = .ok (.iload_n 3, 1) := by decide +kernel
theorem dX4_from_91 : decode cX4_from 91 = .ok (.imul, 1) := by decide +kernel
theorem dX4_from_92 : decode cX4_from 92 = .ok (.iload 5, 2) := by decide +kernel
theorem dX4_from_94 : decode cX4_from 94 = .ok (.iadd, 1) := by decide +kernel
theorem dX4_from_95 : decode cX4_from 95 = .ok (.iaload, 1) := by decide +kernel
theorem dX4_from_96 : decode cX4_from 96 = .ok (.iload_n 1, 1) := by decide +kernel
theorem dX4_from_97 : decode cX4_from 97 = .ok (.if_icmp .ne 7, 3) := by decide +kernel
theorem dX4_from_100 : decode cX4_from 100 = .ok (.iconst 1, 1) := by decide +kernel
theorem dX4_from_101 : decode cX4_from 101 = .ok (.goto 4, 3) := by decide +kernel
theorem dX4_from_104 : decode cX4_from 104 = .ok (.iconst 0, 1) := by decide +kernel
theorem dX4_from_105 : decode cX4_from 105 = .ok (.istore 4, 2) := by decide +kernel
theorem dX4_from_107 : decode cX4_from 107 = .ok (.iinc 5 1, 3) := by decide +kernel
theorem dX4_from_110 : decode cX4_from 110 = .ok (.goto (-41), 3) := by decide +kernel
theorem dX4_from_113 : decode cX4_from 113 = .ok (.iload 4, 2) := by decide +kernel
theorem dX4_from_115 : decode cX4_from 115 = .ok (.ifCond .eq 17, 3) := by decide +kernel
theorem dX4_from_118 : decode cX4_from 118 = .ok (.aload_n 0, 1) := by decide +kernel
theorem dX4_from_119 : decode cX4_from 119 = .ok (.getfield 49, 3) := by decide +kernel
theorem dX4_from_122 : decode cX4_from 122 = .ok (.bipush 8, 2) := by decide +kernel
theorem dX4_from_124 : decode cX4_from 124 = .ok (.iload_n 3, 1) := by decide +kernel
theorem dX4_from_125 : decode cX4_from 125 = .ok (.imul, 1) := by decide +kernel
theorem dX4_from_126 : decode cX4_from 126 = .ok (.iload_n 2, 1) := by decide +kernel
theorem dX4_from_127 : decode cX4_from 127 = .ok (.iadd, 1) := by decide +kernel
theorem dX4_from_128 : decode cX4_from 128 = .ok (.iaload, 1) := by decide +kernel
theorem dX4_from_129 : decode cX4_from 129 = .ok (.goto 4, 3) := by decide +kernel
theorem dX4_from_132 : decode cX4_from 132 = .ok (.iconst (-1), 1) := by decide +kernel
theorem dX4_from_133 : decode cX4_from 133 = .ok (.ireturn, 1) := by decide +kernel
theorem dX4_value_0 : decode cX4_value 0 = .ok (.iload_n 1, 1) := by decide +kernel
theorem dX4_value_1 : decode cX4_value 1 = .ok (.ifCond .lt 33, 3) := by decide +kernel
theorem dX4_value_4 : decode cX4_value 4 = .ok (.iload_n 1, 1) := by decide +kernel
theorem dX4_value_5 : decode cX4_value 5 = .ok (.aload_n 0, 1) := by decide +kernel
theorem dX4_value_6 : decode cX4_value 6 = .ok (.getfield 7, 3) := by decide +kernel
theorem dX4_value_9 : decode cX4_value 9 = .ok (.if_icmp .ge 25, 3) := by decide +kernel
theorem dX4_value_12 : decode cX4_value 12 = .ok (.aload_n 0, 1) := by decide +kernel
theorem dX4_value_13 : decode cX4_value 13 = .ok (.iload_n 2, 1) := by decide +kernel
theorem dX4_value_14 : decode cX4_value 14 = .ok (.invokevirtual 102, 3) := by decide +kernel
theorem dX4_value_17 : decode cX4_value 17 = .ok (.ifCond .eq 17, 3) := by decide +kernel
theorem dX4_value_20 : decode cX4_value 20 = .ok (.aload_n 0, 1) := by decide +kernel
theorem dX4_value_21 : decode cX4_value 21 = .ok (.getfield 13, 3) := by decide +kernel
theorem dX4_value_24 : decode cX4_value 24 = .ok (.bipush 24, 2) := by decide +kernel
theorem dX4_value_26 : decode cX4_value 26 = .ok (.iload_n 1, 1) := by decide +kernel
theorem dX4_value_27 : decode cX4_value 27 = .ok (.imul, 1) := by decide +kernel
theorem dX4_value_28 : decode cX4_value 28 = .ok (.iload_n 2, 1) := by decide +kernel
theorem dX4_value_29 : decode cX4_value 29 = .ok (.iadd, 1) := by decide +kernel
theorem dX4_value_30 : decode cX4_value 30 = .ok (.laload, 1) := by decide +kernel
theorem dX4_value_31 : decode cX4_value 31 = .ok (.goto 4, 3) := by decide +kernel
theorem dX4_value_34 : decode cX4_value 34 = .ok (.lconst 0, 1) := by decide +kernel
theorem dX4_value_35 : decode cX4_value 35 = .ok (.lreturn, 1) := by decide +kernel
theorem dX4_play_0 : decode cX4_play 0 = .ok (.iload_n 3, 1) := by decide +kernel
theorem dX4_play_1 : decode cX4_play 1 = .ok (.ifCond .lt 16, 3) := by decide +kernel
theorem dX4_play_4 : decode cX4_play 4 = .ok (.iload_n 3, 1) := by decide +kernel
theorem dX4_play_5 : decode cX4_play 5 = .ok (.bipush 50, 2) := by decide +kernel
theorem dX4_play_7 : decode cX4_play 7 = .ok (.if_icmp .gt 10, 3) := by decide +kernel
theorem dX4_play_10 : decode cX4_play 10 = .ok (.aload_n 0, 1) := by decide +kernel
theorem dX4_play_11 : decode cX4_play 11 = .ok (.getfield 82, 3) := by decide +kernel
theorem dX4_play_14 : decode cX4_play 14 = .ok (.ifCond .ne 7, 3) := by decide +kernel
theorem dX4_play_17 : decode cX4_play 17 = .ok (.iconst 0, 1) := by decide +kernel
theorem dX4_play_18 : decode cX4_play 18 = .ok (.goto 4, 3) := by decide +kernel
theorem dX4_play_21 : decode cX4_play 21 = .ok (.iload_n 3, 1) := by decide +kernel
theorem dX4_play_22 : decode cX4_play 22 = .ok (.istore 4, 2) := by decide +kernel
theorem dX4_play_24 : decode cX4_play 24 = .ok (.lload_n 1, 1) := by decide +kernel
theorem dX4_play_25 : decode cX4_play 25 = .ok (.lstore 5, 2) := by decide +kernel
theorem dX4_play_27 : decode cX4_play 27 = .ok (.aload_n 0, 1) := by decide +kernel
theorem dX4_play_28 : decode cX4_play 28 = .ok (.iconst 0, 1) := by decide +kernel
theorem dX4_play_29 : decode cX4_play 29 = .ok (.putfield 172, 3) := by decide +kernel
theorem dX4_play_32 : decode cX4_play 32 = .ok (.iconst 0, 1) := by decide +kernel
theorem dX4_play_33 : decode cX4_play 33 = .ok (.istore 7, 2) := by decide +kernel
theorem dX4_play_35 : decode cX4_play 35 = .ok (.iload 7, 2) := by decide +kernel
theorem dX4_play_37 : decode cX4_play 37 = .ok (.iload 4, 2) := by decide +kernel
theorem dX4_play_39 : decode cX4_play 39 = .ok (.if_icmp .ge 116, 3) := by decide +kernel
theorem dX4_play_42 : decode cX4_play 42 = .ok (.lload 5, 2) := by decide +kernel
theorem dX4_play_44 : decode cX4_play 44 = .ok (.ldc2_w 181, 3) := by decide +kernel
theorem dX4_play_47 : decode cX4_play 47 = .ok (.lmul, 1) := by decide +kernel
theorem dX4_play_48 : decode cX4_play 48 = .ok (.ldc2_w 183, 3) := by decide +kernel
theorem dX4_play_51 : decode cX4_play 51 = .ok (.ladd, 1) := by decide +kernel
theorem dX4_play_52 : decode cX4_play 52 = .ok (.lstore 5, 2) := by decide +kernel
theorem dX4_play_54 : decode cX4_play 54 = .ok (.lload 5, 2) := by decide +kernel
theorem dX4_play_56 : decode cX4_play 56 = .ok (.bipush 33, 2) := by decide +kernel
theorem dX4_play_58 : decode cX4_play 58 = .ok (.lushr, 1) := by decide +kernel
theorem dX4_play_59 : decode cX4_play 59 = .ok (.aload_n 0, 1) := by decide +kernel
theorem dX4_play_60 : decode cX4_play 60 = .ok (.getfield 82, 3) := by decide +kernel
theorem dX4_play_63 : decode cX4_play 63 = .ok (.i2l, 1) := by decide +kernel
theorem dX4_play_64 : decode cX4_play 64 = .ok (.lrem, 1) := by decide +kernel
theorem dX4_play_65 : decode cX4_play 65 = .ok (.l2i, 1) := by decide +kernel
theorem dX4_play_66 : decode cX4_play 66 = .ok (.istore 8, 2) := by decide +kernel
theorem dX4_play_68 : decode cX4_play 68 = .ok (.lload 5, 2) := by decide +kernel
theorem dX4_play_70 : decode cX4_play 70 = .ok (.bipush 20, 2) := by decide +kernel
theorem dX4_play_72 : decode cX4_play 72 = .ok (.lushr, 1) := by decide +kernel
theorem dX4_play_73 : decode cX4_play 73 = .ok (.ldc2_w 185, 3) := by decide +kernel
theorem dX4_play_76 : decode cX4_play 76 = .ok (.land, 1) := by decide +kernel
theorem dX4_play_77 : decode cX4_play 77 = .ok (.lstore 9, 2) := by decide +kernel
theorem dX4_play_79 : decode cX4_play 79 = .ok (.aload_n 0, 1) := by decide +kernel
theorem dX4_play_80 : decode cX4_play 80 = .ok (.aload_n 0, 1) := by decide +kernel
theorem dX4_play_81 : decode cX4_play 81 = .ok (.getfield 13, 3) := by decide +kernel
theorem dX4_play_84 : decode cX4_play 84 = .ok (.iload 8, 2) := by decide +kernel
theorem dX4_play_86 : decode cX4_play 86 = .ok (.laload, 1) := by decide +kernel
theorem dX4_play_87 : decode cX4_play 87 = .ok (.lload 9, 2) := by decide +kernel
theorem dX4_play_89 : decode cX4_play 89 = .ok (.lcmp, 1) := by decide +kernel
theorem dX4_play_90 : decode cX4_play 90 = .ok (.ifCond .eq 12, 3) := by decide +kernel
theorem dX4_play_93 : decode cX4_play 93 = .ok (.aload_n 0, 1) := by decide +kernel
theorem dX4_play_94 : decode cX4_play 94 = .ok (.getfield 172, 3) := by decide +kernel
theorem dX4_play_97 : decode cX4_play 97 = .ok (.iconst 1, 1) := by decide +kernel
theorem dX4_play_98 : decode cX4_play 98 = .ok (.iadd, 1) := by decide +kernel
theorem dX4_play_99 : decode cX4_play 99 = .ok (.goto 7, 3) := by decide +kernel
end
section
theorem dX4_play_102 : decode cX4_play 102 = .ok (.aload_n 0, 1) := by decide +kernel
theorem dX4_play_103 : decode cX4_play 103 = .ok (.getfield 172, 3) := by decide +kernel
theorem dX4_play_106 : decode cX4_play 106 = .ok (.putfield 172, 3) := by decide +kernel
theorem dX4_play_109 : decode cX4_play 109 = .ok (.aload_n 0, 1) := by decide +kernel
theorem dX4_play_110 : decode cX4_play 110 = .ok (.getfield 13, 3) := by decide +kernel
theorem dX4_play_113 : decode cX4_play 113 = .ok (.iload 8, 2) := by decide +kernel
theorem dX4_play_115 : decode cX4_play 115 = .ok (.lload 9, 2) := by decide +kernel
theorem dX4_play_117 : decode cX4_play 117 = .ok (.lastore, 1) := by decide +kernel
theorem dX4_play_118 : decode cX4_play 118 = .ok (.iconst 0, 1) := by decide +kernel
theorem dX4_play_119 : decode cX4_play 119 = .ok (.istore 11, 2) := by decide +kernel
theorem dX4_play_121 : decode cX4_play 121 = .ok (.iload 11, 2) := by decide +kernel
theorem dX4_play_123 : decode cX4_play 123 = .ok (.aload_n 0, 1) := by decide +kernel
theorem dX4_play_124 : decode cX4_play 124 = .ok (.getfield 85, 3) := by decide +kernel
theorem dX4_play_127 : decode cX4_play 127 = .ok (.if_icmp .ge 22, 3) := by decide +kernel
theorem dX4_play_130 : decode cX4_play 130 = .ok (.lload 5, 2) := by decide +kernel
theorem dX4_play_132 : decode cX4_play 132 = .ok (.lconst 0, 1) := by decide +kernel
theorem dX4_play_133 : decode cX4_play 133 = .ok (.lcmp, 1) := by decide +kernel
theorem dX4_play_134 : decode cX4_play 134 = .ok (.ifCond .ge 15, 3) := by decide +kernel
theorem dX4_play_137 : decode cX4_play 137 = .ok (.aload_n 0, 1) := by decide +kernel
theorem dX4_play_138 : decode cX4_play 138 = .ok (.iload 11, 2) := by decide +kernel
theorem dX4_play_140 : decode cX4_play 140 = .ok (.invokevirtual 178, 3) := by decide +kernel
theorem dX4_play_143 : decode cX4_play 143 = .ok (.iinc 11 1, 3) := by decide +kernel
theorem dX4_play_146 : decode cX4_play 146 = .ok (.goto (-25), 3) := by decide +kernel
theorem dX4_play_149 : decode cX4_play 149 = .ok (.iinc 7 1, 3) := by decide +kernel
theorem dX4_play_152 : decode cX4_play 152 = .ok (.goto (-117), 3) := by decide +kernel
theorem dX4_play_155 : decode cX4_play 155 = .ok (.aload_n 0, 1) := by decide +kernel
theorem dX4_play_156 : decode cX4_play 156 = .ok (.getfield 172, 3) := by decide +kernel
theorem dX4_play_159 : decode cX4_play 159 = .ok (.ireturn, 1) := by decide +kernel
theorem dL_law_0 : decode code 0 = .ok (.new 7, 3) := by decide +kernel
theorem dL_law_3 : decode code 3 = .ok (.dup, 1) := by decide +kernel
theorem dL_law_4 : decode code 4 = .ok (.invokespecial 9, 3) := by decide +kernel
theorem dL_law_7 : decode code 7 = .ok (.astore_n 1, 1) := by decide +kernel
theorem dL_law_8 : decode code 8 = .ok (.new 10, 3) := by decide +kernel
theorem dL_law_11 : decode code 11 = .ok (.dup, 1) := by decide +kernel
theorem dL_law_12 : decode code 12 = .ok (.invokespecial 12, 3) := by decide +kernel
theorem dL_law_15 : decode code 15 = .ok (.astore_n 2, 1) := by decide +kernel
theorem dL_law_16 : decode code 16 = .ok (.iconst 0, 1) := by decide +kernel
theorem dL_law_17 : decode code 17 = .ok (.istore_n 3, 1) := by decide +kernel
theorem dL_law_18 : decode code 18 = .ok (.iload_n 3, 1) := by decide +kernel
theorem dL_law_19 : decode code 19 = .ok (.aload_n 0, 1) := by decide +kernel
theorem dL_law_20 : decode code 20 = .ok (.arraylength, 1) := by decide +kernel
theorem dL_law_21 : decode code 21 = .ok (.iconst 5, 1) := by decide +kernel
theorem dL_law_22 : decode code 22 = .ok (.isub, 1) := by decide +kernel
theorem dL_law_23 : decode code 23 = .ok (.if_icmp .gt 662, 3) := by decide +kernel
theorem dL_law_26 : decode code 26 = .ok (.aload_n 0, 1) := by decide +kernel
theorem dL_law_27 : decode code 27 = .ok (.iload_n 3, 1) := by decide +kernel
theorem dL_law_28 : decode code 28 = .ok (.iaload, 1) := by decide +kernel
theorem dL_law_29 : decode code 29 = .ok (.bipush 15, 2) := by decide +kernel
theorem dL_law_31 : decode code 31 = .ok (.iand, 1) := by decide +kernel
theorem dL_law_32 : decode code 32 = .ok (.tableswitch 647 0 15 #[80, 133, 156, 189, 222, 235, 269, 342, 391, 425, 458, 481, 494, 527, 550, 584], 80) := by decide +kernel
theorem dL_law_112 : decode code 112 = .ok (.aload_n 1, 1) := by decide +kernel
theorem dL_law_113 : decode code 113 = .ok (.aload_n 0, 1) := by decide +kernel
theorem dL_law_114 : decode code 114 = .ok (.iload_n 3, 1) := by decide +kernel
theorem dL_law_115 : decode code 115 = .ok (.iconst 1, 1) := by decide +kernel
theorem dL_law_116 : decode code 116 = .ok (.iadd, 1) := by decide +kernel
theorem dL_law_117 : decode code 117 = .ok (.iaload, 1) := by decide +kernel
theorem dL_law_118 : decode code 118 = .ok (.i2l, 1) := by decide +kernel
theorem dL_law_119 : decode code 119 = .ok (.bipush 32, 2) := by decide +kernel
theorem dL_law_121 : decode code 121 = .ok (.lshl, 1) := by decide +kernel
theorem dL_law_122 : decode code 122 = .ok (.aload_n 0, 1) := by decide +kernel
theorem dL_law_123 : decode code 123 = .ok (.iload_n 3, 1) := by decide +kernel
theorem dL_law_124 : decode code 124 = .ok (.iconst 2, 1) := by decide +kernel
theorem dL_law_125 : decode code 125 = .ok (.iadd, 1) := by decide +kernel
theorem dL_law_126 : decode code 126 = .ok (.iaload, 1) := by decide +kernel
theorem dL_law_127 : decode code 127 = .ok (.i2l, 1) := by decide +kernel
theorem dL_law_128 : decode code 128 = .ok (.ldc2_w 13, 3) := by decide +kernel
theorem dL_law_131 : decode code 131 = .ok (.land, 1) := by decide +kernel
theorem dL_law_132 : decode code 132 = .ok (.lor, 1) := by decide +kernel
theorem dL_law_133 : decode code 133 = .ok (.invokevirtual 15, 3) := by decide +kernel
theorem dL_law_136 : decode code 136 = .ok (.aload_n 2, 1) := by decide +kernel
theorem dL_law_137 : decode code 137 = .ok (.aload_n 0, 1) := by decide +kernel
theorem dL_law_138 : decode code 138 = .ok (.iload_n 3, 1) := by decide +kernel
theorem dL_law_139 : decode code 139 = .ok (.iconst 1, 1) := by decide +kernel
theorem dL_law_140 : decode code 140 = .ok (.iadd, 1) := by decide +kernel
theorem dL_law_141 : decode code 141 = .ok (.iaload, 1) := by decide +kernel
theorem dL_law_142 : decode code 142 = .ok (.i2l, 1) := by decide +kernel
theorem dL_law_143 : decode code 143 = .ok (.bipush 32, 2) := by decide +kernel
theorem dL_law_145 : decode code 145 = .ok (.lshl, 1) := by decide +kernel
theorem dL_law_146 : decode code 146 = .ok (.aload_n 0, 1) := by decide +kernel
theorem dL_law_147 : decode code 147 = .ok (.iload_n 3, 1) := by decide +kernel
theorem dL_law_148 : decode code 148 = .ok (.iconst 2, 1) := by decide +kernel
theorem dL_law_149 : decode code 149 = .ok (.iadd, 1) := by decide +kernel
theorem dL_law_150 : decode code 150 = .ok (.iaload, 1) := by decide +kernel
theorem dL_law_151 : decode code 151 = .ok (.i2l, 1) := by decide +kernel
theorem dL_law_152 : decode code 152 = .ok (.ldc2_w 13, 3) := by decide +kernel
theorem dL_law_155 : decode code 155 = .ok (.land, 1) := by decide +kernel
theorem dL_law_156 : decode code 156 = .ok (.lor, 1) := by decide +kernel
theorem dL_law_157 : decode code 157 = .ok (.invokevirtual 19, 3) := by decide +kernel
theorem dL_law_160 : decode code 160 = .ok (.if_icmp .eq 519, 3) := by decide +kernel
theorem dL_law_163 : decode code 163 = .ok (.iconst 0, 1) := by decide +kernel
theorem dL_law_164 : decode code 164 = .ok (.ireturn, 1) := by decide +kernel
theorem dL_law_165 : decode code 165 = .ok (.aload_n 1, 1) := by decide +kernel
theorem dL_law_166 : decode code 166 = .ok (.aload_n 0, 1) := by decide +kernel
theorem dL_law_167 : decode code 167 = .ok (.iload_n 3, 1) := by decide +kernel
theorem dL_law_168 : decode code 168 = .ok (.iconst 1, 1) := by decide +kernel
theorem dL_law_169 : decode code 169 = .ok (.iadd, 1) := by decide +kernel
theorem dL_law_170 : decode code 170 = .ok (.iaload, 1) := by decide +kernel
theorem dL_law_171 : decode code 171 = .ok (.invokevirtual 20, 3) := by decide +kernel
theorem dL_law_174 : decode code 174 = .ok (.aload_n 2, 1) := by decide +kernel
theorem dL_law_175 : decode code 175 = .ok (.aload_n 0, 1) := by decide +kernel
theorem dL_law_176 : decode code 176 = .ok (.iload_n 3, 1) := by decide +kernel
theorem dL_law_177 : decode code 177 = .ok (.iconst 1, 1) := by decide +kernel
theorem dL_law_178 : decode code 178 = .ok (.iadd, 1) := by decide +kernel
theorem dL_law_179 : decode code 179 = .ok (.iaload, 1) := by decide +kernel
theorem dL_law_180 : decode code 180 = .ok (.invokevirtual 24, 3) := by decide +kernel
theorem dL_law_183 : decode code 183 = .ok (.if_icmp .eq 496, 3) := by decide +kernel
theorem dL_law_186 : decode code 186 = .ok (.iconst 0, 1) := by decide +kernel
theorem dL_law_187 : decode code 187 = .ok (.ireturn, 1) := by decide +kernel
theorem dL_law_188 : decode code 188 = .ok (.aload_n 1, 1) := by decide +kernel
theorem dL_law_189 : decode code 189 = .ok (.aload_n 0, 1) := by decide +kernel
theorem dL_law_190 : decode code 190 = .ok (.iload_n 3, 1) := by decide +kernel
theorem dL_law_191 : decode code 191 = .ok (.iconst 1, 1) := by decide +kernel
theorem dL_law_192 : decode code 192 = .ok (.iadd, 1) := by decide +kernel
theorem dL_law_193 : decode code 193 = .ok (.iaload, 1) := by decide +kernel
theorem dL_law_194 : decode code 194 = .ok (.aload_n 0, 1) := by decide +kernel
theorem dL_law_195 : decode code 195 = .ok (.iload_n 3, 1) := by decide +kernel
theorem dL_law_196 : decode code 196 = .ok (.iconst 2, 1) := by decide +kernel
theorem dL_law_197 : decode code 197 = .ok (.iadd, 1) := by decide +kernel
theorem dL_law_198 : decode code 198 = .ok (.iaload, 1) := by decide +kernel
theorem dL_law_199 : decode code 199 = .ok (.invokevirtual 25, 3) := by decide +kernel
theorem dL_law_202 : decode code 202 = .ok (.aload_n 2, 1) := by decide +kernel
theorem dL_law_203 : decode code 203 = .ok (.aload_n 0, 1) := by decide +kernel
theorem dL_law_204 : decode code 204 = .ok (.iload_n 3, 1) := by decide +kernel
theorem dL_law_205 : decode code 205 = .ok (.iconst 1, 1) := by decide +kernel
theorem dL_law_206 : decode code 206 = .ok (.iadd, 1) := by decide +kernel
theorem dL_law_207 : decode code 207 = .ok (.iaload, 1) := by decide +kernel
theorem dL_law_208 : decode code 208 = .ok (.aload_n 0, 1) := by decide +kernel
theorem dL_law_209 : decode code 209 = .ok (.iload_n 3, 1) := by decide +kernel
theorem dL_law_210 : decode code 210 = .ok (.iconst 2, 1) := by decide +kernel
theorem dL_law_211 : decode code 211 = .ok (.iadd, 1) := by decide +kernel
theorem dL_law_212 : decode code 212 = .ok (.iaload, 1) := by decide +kernel
theorem dL_law_213 : decode code 213 = .ok (.invokevirtual 29, 3) := by decide +kernel
theorem dL_law_216 : decode code 216 = .ok (.if_icmp .eq 463, 3) := by decide +kernel
theorem dL_law_219 : decode code 219 = .ok (.iconst 0, 1) := by decide +kernel
theorem dL_law_220 : decode code 220 = .ok (.ireturn, 1) := by decide +kernel
theorem dL_law_221 : decode code 221 = .ok (.aload_n 1, 1) := by decide +kernel
theorem dL_law_222 : decode code 222 = .ok (.aload_n 0, 1) := by decide +kernel
theorem dL_law_223 : decode code 223 = .ok (.iload_n 3, 1) := by decide +kernel
theorem dL_law_224 : decode code 224 = .ok (.iconst 1, 1) := by decide +kernel
theorem dL_law_225 : decode code 225 = .ok (.iadd, 1) := by decide +kernel
theorem dL_law_226 : decode code 226 = .ok (.iaload, 1) := by decide +kernel
theorem dL_law_227 : decode code 227 = .ok (.aload_n 0, 1) := by decide +kernel
theorem dL_law_228 : decode code 228 = .ok (.iload_n 3, 1) := by decide +kernel
theorem dL_law_229 : decode code 229 = .ok (.iconst 2, 1) := by decide +kernel
theorem dL_law_230 : decode code 230 = .ok (.iadd, 1) := by decide +kernel
theorem dL_law_231 : decode code 231 = .ok (.iaload, 1) := by decide +kernel
theorem dL_law_232 : decode code 232 = .ok (.invokevirtual 30, 3) := by decide +kernel
theorem dL_law_235 : decode code 235 = .ok (.aload_n 2, 1) := by decide +kernel
theorem dL_law_236 : decode code 236 = .ok (.aload_n 0, 1) := by decide +kernel
theorem dL_law_237 : decode code 237 = .ok (.iload_n 3, 1) := by decide +kernel
theorem dL_law_238 : decode code 238 = .ok (.iconst 1, 1) := by decide +kernel
theorem dL_law_239 : decode code 239 = .ok (.iadd, 1) := by decide +kernel
theorem dL_law_240 : decode code 240 = .ok (.iaload, 1) := by decide +kernel
theorem dL_law_241 : decode code 241 = .ok (.aload_n 0, 1) := by decide +kernel
theorem dL_law_242 : decode code 242 = .ok (.iload_n 3, 1) := by decide +kernel
theorem dL_law_243 : decode code 243 = .ok (.iconst 2, 1) := by decide +kernel
theorem dL_law_244 : decode code 244 = .ok (.iadd, 1) := by decide +kernel
theorem dL_law_245 : decode code 245 = .ok (.iaload, 1) := by decide +kernel
theorem dL_law_246 : decode code 246 = .ok (.invokevirtual 33, 3) := by decide +kernel
theorem dL_law_249 : decode code 249 = .ok (.if_icmp .eq 430, 3) := by decide +kernel
theorem dL_law_252 : decode code 252 = .ok (.iconst 0, 1) := by decide +kernel
theorem dL_law_253 : decode code 253 = .ok (.ireturn, 1) := by decide +kernel
theorem dL_law_254 : decode code 254 = .ok (.aload_n 1, 1) := by decide +kernel
theorem dL_law_255 : decode code 255 = .ok (.invokevirtual 34, 3) := by decide +kernel
theorem dL_law_258 : decode code 258 = .ok (.aload_n 2, 1) := by decide +kernel
theorem dL_law_259 : decode code 259 = .ok (.invokevirtual 38, 3) := by decide +kernel
theorem dL_law_262 : decode code 262 = .ok (.if_icmp .eq 417, 3) := by decide +kernel
theorem dL_law_265 : decode code 265 = .ok (.iconst 0, 1) := by decide +kernel
theorem dL_law_266 : decode code 266 = .ok (.ireturn, 1) := by decide +kernel
theorem dL_law_267 : decode code 267 = .ok (.aload_n 1, 1) := by decide +kernel
theorem dL_law_268 : decode code 268 = .ok (.aload_n 0, 1) := by decide +kernel
theorem dL_law_269 : decode code 269 = .ok (.iload_n 3, 1) := by decide +kernel
theorem dL_law_270 : decode code 270 = .ok (.iconst 1, 1) := by decide +kernel
theorem dL_law_271 : decode code 271 = .ok (.iadd, 1) := by decide +kernel
theorem dL_law_272 : decode code 272 = .ok (.iaload, 1) := by decide +kernel
theorem dL_law_273 : decode code 273 = .ok (.aload_n 0, 1) := by decide +kernel
theorem dL_law_274 : decode code 274 = .ok (.iload_n 3, 1) := by decide +kernel
theorem dL_law_275 : decode code 275 = .ok (.iconst 2, 1) := by decide +kernel
theorem dL_law_276 : decode code 276 = .ok (.iadd, 1) := by decide +kernel
theorem dL_law_277 : decode code 277 = .ok (.iaload, 1) := by decide +kernel
theorem dL_law_278 : decode code 278 = .ok (.invokevirtual 39, 3) := by decide +kernel
theorem dL_law_281 : decode code 281 = .ok (.aload_n 2, 1) := by decide +kernel
theorem dL_law_282 : decode code 282 = .ok (.aload_n 0, 1) := by decide +kernel
theorem dL_law_283 : decode code 283 = .ok (.iload_n 3, 1) := by decide +kernel
theorem dL_law_284 : decode code 284 = .ok (.iconst 1, 1) := by decide +kernel
theorem dL_law_285 : decode code 285 = .ok (.iadd, 1) := by decide +kernel
theorem dL_law_286 : decode code 286 = .ok (.iaload, 1) := by decide +kernel
theorem dL_law_287 : decode code 287 = .ok (.aload_n 0, 1) := by decide +kernel
theorem dL_law_288 : decode code 288 = .ok (.iload_n 3, 1) := by decide +kernel
theorem dL_law_289 : decode code 289 = .ok (.iconst 2, 1) := by decide +kernel
theorem dL_law_290 : decode code 290 = .ok (.iadd, 1) := by decide +kernel
theorem dL_law_291 : decode code 291 = .ok (.iaload, 1) := by decide +kernel
theorem dL_law_292 : decode code 292 = .ok (.invokevirtual 43, 3) := by decide +kernel
theorem dL_law_295 : decode code 295 = .ok (.lcmp, 1) := by decide +kernel
theorem dL_law_296 : decode code 296 = .ok (.ifCond .eq 383, 3) := by decide +kernel
theorem dL_law_299 : decode code 299 = .ok (.iconst 0, 1) := by decide +kernel
theorem dL_law_300 : decode code 300 = .ok (.ireturn, 1) := by decide +kernel
theorem dL_law_301 : decode code 301 = .ok (.aload_n 1, 1) := by decide +kernel
theorem dL_law_302 : decode code 302 = .ok (.aload_n 0, 1) := by decide +kernel
theorem dL_law_303 : decode code 303 = .ok (.iload_n 3, 1) := by decide +kernel
theorem dL_law_304 : decode code 304 = .ok (.iconst 1, 1) := by decide +kernel
theorem dL_law_305 : decode code 305 = .ok (.iadd, 1) := by decide +kernel
theorem dL_law_306 : decode code 306 = .ok (.iaload, 1) := by decide +kernel
theorem dL_law_307 : decode code 307 = .ok (.aload_n 0, 1) := by decide +kernel
theorem dL_law_308 : decode code 308 = .ok (.iload_n 3, 1) := by decide +kernel
theorem dL_law_309 : decode code 309 = .ok (.iconst 2, 1) := by decide +kernel
theorem dL_law_310 : decode code 310 = .ok (.iadd, 1) := by decide +kernel
theorem dL_law_311 : decode code 311 = .ok (.iaload, 1) := by decide +kernel
theorem dL_law_312 : decode code 312 = .ok (.aload_n 0, 1) := by decide +kernel
theorem dL_law_313 : decode code 313 = .ok (.iload_n 3, 1) := by decide +kernel
theorem dL_law_314 : decode code 314 = .ok (.iconst 3, 1) := by decide +kernel
theorem dL_law_315 : decode code 315 = .ok (.iadd, 1) := by decide +kernel
theorem dL_law_316 : decode code 316 = .ok (.iaload, 1) := by decide +kernel
theorem dL_law_317 : decode code 317 = .ok (.i2l, 1) := by decide +kernel
theorem dL_law_318 : decode code 318 = .ok (.bipush 32, 2) := by decide +kernel
theorem dL_law_320 : decode code 320 = .ok (.lshl, 1) := by decide +kernel
theorem dL_law_321 : decode code 321 = .ok (.aload_n 0, 1) := by decide +kernel
theorem dL_law_322 : decode code 322 = .ok (.iload_n 3, 1) := by decide +kernel
theorem dL_law_323 : decode code 323 = .ok (.iconst 4, 1) := by decide +kernel
theorem dL_law_324 : decode code 324 = .ok (.iadd, 1) := by decide +kernel
theorem dL_law_325 : decode code 325 = .ok (.iaload, 1) := by decide +kernel
theorem dL_law_326 : decode code 326 = .ok (.i2l, 1) := by decide +kernel
theorem dL_law_327 : decode code 327 = .ok (.ldc2_w 13, 3) := by decide +kernel
theorem dL_law_330 : decode code 330 = .ok (.land, 1) := by decide +kernel
theorem dL_law_331 : decode code 331 = .ok (.lor, 1) := by decide +kernel
theorem dL_law_332 : decode code 332 = .ok (.invokevirtual 44, 3) := by decide +kernel
theorem dL_law_335 : decode code 335 = .ok (.aload_n 2, 1) := by decide +kernel
theorem dL_law_336 : decode code 336 = .ok (.aload_n 0, 1) := by decide +kernel
theorem dL_law_337 : decode code 337 = .ok (.iload_n 3, 1) := by decide +kernel
theorem dL_law_338 : decode code 338 = .ok (.iconst 1, 1) := by decide +kernel
theorem dL_law_339 : decode code 339 = .ok (.iadd, 1) := by decide +kernel
theorem dL_law_340 : decode code 340 = .ok (.iaload, 1) := by decide +kernel
theorem dL_law_341 : decode code 341 = .ok (.aload_n 0, 1) := by decide +kernel
theorem dL_law_342 : decode code 342 = .ok (.iload_n 3, 1) := by decide +kernel
theorem dL_law_343 : decode code 343 = .ok (.iconst 2, 1) := by decide +kernel
theorem dL_law_344 : decode code 344 = .ok (.iadd, 1) := by decide +kernel
theorem dL_law_345 : decode code 345 = .ok (.iaload, 1) := by decide +kernel
theorem dL_law_346 : decode code 346 = .ok (.aload_n 0, 1) := by decide +kernel
theorem dL_law_347 : decode code 347 = .ok (.iload_n 3, 1) := by decide +kernel
theorem dL_law_348 : decode code 348 = .ok (.iconst 3, 1) := by decide +kernel
theorem dL_law_349 : decode code 349 = .ok (.iadd, 1) := by decide +kernel
theorem dL_law_350 : decode code 350 = .ok (.iaload, 1) := by decide +kernel
theorem dL_law_351 : decode code 351 = .ok (.i2l, 1) := by decide +kernel
theorem dL_law_352 : decode code 352 = .ok (.bipush 32, 2) := by decide +kernel
theorem dL_law_354 : decode code 354 = .ok (.lshl, 1) := by decide +kernel
theorem dL_law_355 : decode code 355 = .ok (.aload_n 0, 1) := by decide +kernel
theorem dL_law_356 : decode code 356 = .ok (.iload_n 3, 1) := by decide +kernel
theorem dL_law_357 : decode code 357 = .ok (.iconst 4, 1) := by decide +kernel
theorem dL_law_358 : decode code 358 = .ok (.iadd, 1) := by decide +kernel
theorem dL_law_359 : decode code 359 = .ok (.iaload, 1) := by decide +kernel
theorem dL_law_360 : decode code 360 = .ok (.i2l, 1) := by decide +kernel
theorem dL_law_361 : decode code 361 = .ok (.ldc2_w 13, 3) := by decide +kernel
theorem dL_law_364 : decode code 364 = .ok (.land, 1) := by decide +kernel
theorem dL_law_365 : decode code 365 = .ok (.lor, 1) := by decide +kernel
theorem dL_law_366 : decode code 366 = .ok (.invokevirtual 48, 3) := by decide +kernel
theorem dL_law_369 : decode code 369 = .ok (.if_icmp .eq 310, 3) := by decide +kernel
theorem dL_law_372 : decode code 372 = .ok (.iconst 0, 1) := by decide +kernel
theorem dL_law_373 : decode code 373 = .ok (.ireturn, 1) := by decide +kernel
theorem dL_law_374 : decode code 374 = .ok (.aload_n 1, 1) := by decide +kernel
theorem dL_law_375 : decode code 375 = .ok (.aload_n 0, 1) := by decide +kernel
theorem dL_law_376 : decode code 376 = .ok (.iload_n 3, 1) := by decide +kernel
theorem dL_law_377 : decode code 377 = .ok (.iconst 1, 1) := by decide +kernel
theorem dL_law_378 : decode code 378 = .ok (.iadd, 1) := by decide +kernel
theorem dL_law_379 : decode code 379 = .ok (.iaload, 1) := by decide +kernel
theorem dL_law_380 : decode code 380 = .ok (.aload_n 0, 1) := by decide +kernel
theorem dL_law_381 : decode code 381 = .ok (.iload_n 3, 1) := by decide +kernel
theorem dL_law_382 : decode code 382 = .ok (.iconst 2, 1) := by decide +kernel
theorem dL_law_383 : decode code 383 = .ok (.iadd, 1) := by decide +kernel
theorem dL_law_384 : decode code 384 = .ok (.iaload, 1) := by decide +kernel
theorem dL_law_385 : decode code 385 = .ok (.ifCond .eq 7, 3) := by decide +kernel
theorem dL_law_388 : decode code 388 = .ok (.iconst 1, 1) := by decide +kernel
theorem dL_law_389 : decode code 389 = .ok (.goto 4, 3) := by decide +kernel
theorem dL_law_392 : decode code 392 = .ok (.iconst 0, 1) := by decide +kernel
theorem dL_law_393 : decode code 393 = .ok (.invokevirtual 49, 3) := by decide +kernel
theorem dL_law_396 : decode code 396 = .ok (.aload_n 2, 1) := by decide +kernel
theorem dL_law_397 : decode code 397 = .ok (.aload_n 0, 1) := by decide +kernel
theorem dL_law_398 : decode code 398 = .ok (.iload_n 3, 1) := by decide +kernel
theorem dL_law_399 : decode code 399 = .ok (.iconst 1, 1) := by decide +kernel
theorem dL_law_400 : decode code 400 = .ok (.iadd, 1) := by decide +kernel
theorem dL_law_401 : decode code 401 = .ok (.iaload, 1) := by decide +kernel
theorem dL_law_402 : decode code 402 = .ok (.aload_n 0, 1) := by decide +kernel
theorem dL_law_403 : decode code 403 = .ok (.iload_n 3, 1) := by decide +kernel
theorem dL_law_404 : decode code 404 = .ok (.iconst 2, 1) := by decide +kernel
theorem dL_law_405 : decode code 405 = .ok (.iadd, 1) := by decide +kernel
theorem dL_law_406 : decode code 406 = .ok (.iaload, 1) := by decide +kernel
theorem dL_law_407 : decode code 407 = .ok (.ifCond .eq 7, 3) := by decide +kernel
theorem dL_law_410 : decode code 410 = .ok (.iconst 1, 1) := by decide +kernel
theorem dL_law_411 : decode code 411 = .ok (.goto 4, 3) := by decide +kernel
theorem dL_law_414 : decode code 414 = .ok (.iconst 0, 1) := by decide +kernel
theorem dL_law_415 : decode code 415 = .ok (.invokevirtual 53, 3) := by decide +kernel
theorem dL_law_418 : decode code 418 = .ok (.if_icmp .eq 261, 3) := by decide +kernel
theorem dL_law_421 : decode code 421 = .ok (.iconst 0, 1) := by decide +kernel
theorem dL_law_422 : decode code 422 = .ok (.ireturn, 1) := by decide +kernel
theorem dL_law_423 : decode code 423 = .ok (.aload_n 1, 1) := by decide +kernel
theorem dL_law_424 : decode code 424 = .ok (.aload_n 0, 1) := by decide +kernel
theorem dL_law_425 : decode code 425 = .ok (.iload_n 3, 1) := by decide +kernel
theorem dL_law_426 : decode code 426 = .ok (.iconst 1, 1) := by decide +kernel
theorem dL_law_427 : decode code 427 = .ok (.iadd, 1) := by decide +kernel
theorem dL_law_428 : decode code 428 = .ok (.iaload, 1) := by decide +kernel
theorem dL_law_429 : decode code 429 = .ok (.aload_n 0, 1) := by decide +kernel
theorem dL_law_430 : decode code 430 = .ok (.iload_n 3, 1) := by decide +kernel
theorem dL_law_431 : decode code 431 = .ok (.iconst 2, 1) := by decide +kernel
theorem dL_law_432 : decode code 432 = .ok (.iadd, 1) := by decide +kernel
theorem dL_law_433 : decode code 433 = .ok (.iaload, 1) := by decide +kernel
theorem dL_law_434 : decode code 434 = .ok (.invokevirtual 54, 3) := by decide +kernel
theorem dL_law_437 : decode code 437 = .ok (.aload_n 2, 1) := by decide +kernel
theorem dL_law_438 : decode code 438 = .ok (.aload_n 0, 1) := by decide +kernel
theorem dL_law_439 : decode code 439 = .ok (.iload_n 3, 1) := by decide +kernel
theorem dL_law_440 : decode code 440 = .ok (.iconst 1, 1) := by decide +kernel
theorem dL_law_441 : decode code 441 = .ok (.iadd, 1) := by decide +kernel
theorem dL_law_442 : decode code 442 = .ok (.iaload, 1) := by decide +kernel
theorem dL_law_443 : decode code 443 = .ok (.aload_n 0, 1) := by decide +kernel
theorem dL_law_444 : decode code 444 = .ok (.iload_n 3, 1) := by decide +kernel
theorem dL_law_445 : decode code 445 = .ok (.iconst 2, 1) := by decide +kernel
theorem dL_law_446 : decode code 446 = .ok (.iadd, 1) := by decide +kernel
theorem dL_law_447 : decode code 447 = .ok (.iaload, 1) := by decide +kernel
theorem dL_law_448 : decode code 448 = .ok (.invokevirtual 57, 3) := by decide +kernel
theorem dL_law_451 : decode code 451 = .ok (.lcmp, 1) := by decide +kernel
theorem dL_law_452 : decode code 452 = .ok (.ifCond .eq 227, 3) := by decide +kernel
theorem dL_law_455 : decode code 455 = .ok (.iconst 0, 1) := by decide +kernel
theorem dL_law_456 : decode code 456 = .ok (.ireturn, 1) := by decide +kernel
theorem dL_law_457 : decode code 457 = .ok (.aload_n 1, 1) := by decide +kernel
theorem dL_law_458 : decode code 458 = .ok (.aload_n 0, 1) := by decide +kernel
theorem dL_law_459 : decode code 459 = .ok (.iload_n 3, 1) := by decide +kernel
theorem dL_law_460 : decode code 460 = .ok (.iconst 1, 1) := by decide +kernel
theorem dL_law_461 : decode code 461 = .ok (.iadd, 1) := by decide +kernel
theorem dL_law_462 : decode code 462 = .ok (.iaload, 1) := by decide +kernel
theorem dL_law_463 : decode code 463 = .ok (.aload_n 0, 1) := by decide +kernel
theorem dL_law_464 : decode code 464 = .ok (.iload_n 3, 1) := by decide +kernel
theorem dL_law_465 : decode code 465 = .ok (.iconst 2, 1) := by decide +kernel
theorem dL_law_466 : decode code 466 = .ok (.iadd, 1) := by decide +kernel
theorem dL_law_467 : decode code 467 = .ok (.iaload, 1) := by decide +kernel
theorem dL_law_468 : decode code 468 = .ok (.invokevirtual 58, 3) := by decide +kernel
theorem dL_law_471 : decode code 471 = .ok (.aload_n 2, 1) := by decide +kernel
theorem dL_law_472 : decode code 472 = .ok (.aload_n 0, 1) := by decide +kernel
theorem dL_law_473 : decode code 473 = .ok (.iload_n 3, 1) := by decide +kernel
theorem dL_law_474 : decode code 474 = .ok (.iconst 1, 1) := by decide +kernel
theorem dL_law_475 : decode code 475 = .ok (.iadd, 1) := by decide +kernel
theorem dL_law_476 : decode code 476 = .ok (.iaload, 1) := by decide +kernel
theorem dL_law_477 : decode code 477 = .ok (.aload_n 0, 1) := by decide +kernel
theorem dL_law_478 : decode code 478 = .ok (.iload_n 3, 1) := by decide +kernel
theorem dL_law_479 : decode code 479 = .ok (.iconst 2, 1) := by decide +kernel
theorem dL_law_480 : decode code 480 = .ok (.iadd, 1) := by decide +kernel
theorem dL_law_481 : decode code 481 = .ok (.iaload, 1) := by decide +kernel
theorem dL_law_482 : decode code 482 = .ok (.invokevirtual 61, 3) := by decide +kernel
theorem dL_law_485 : decode code 485 = .ok (.if_icmp .eq 194, 3) := by decide +kernel
theorem dL_law_488 : decode code 488 = .ok (.iconst 0, 1) := by decide +kernel
theorem dL_law_489 : decode code 489 = .ok (.ireturn, 1) := by decide +kernel
theorem dL_law_490 : decode code 490 = .ok (.aload_n 1, 1) := by decide +kernel
theorem dL_law_491 : decode code 491 = .ok (.aload_n 0, 1) := by decide +kernel
theorem dL_law_492 : decode code 492 = .ok (.iload_n 3, 1) := by decide +kernel
theorem dL_law_493 : decode code 493 = .ok (.iconst 1, 1) := by decide +kernel
theorem dL_law_494 : decode code 494 = .ok (.iadd, 1) := by decide +kernel
theorem dL_law_495 : decode code 495 = .ok (.iaload, 1) := by decide +kernel
theorem dL_law_496 : decode code 496 = .ok (.invokevirtual 62, 3) := by decide +kernel
theorem dL_law_499 : decode code 499 = .ok (.aload_n 2, 1) := by decide +kernel
theorem dL_law_500 : decode code 500 = .ok (.aload_n 0, 1) := by decide +kernel
theorem dL_law_501 : decode code 501 = .ok (.iload_n 3, 1) := by decide +kernel
theorem dL_law_502 : decode code 502 = .ok (.iconst 1, 1) := by decide +kernel
theorem dL_law_503 : decode code 503 = .ok (.iadd, 1) := by decide +kernel
theorem dL_law_504 : decode code 504 = .ok (.iaload, 1) := by decide +kernel
theorem dL_law_505 : decode code 505 = .ok (.invokevirtual 66, 3) := by decide +kernel
theorem dL_law_508 : decode code 508 = .ok (.if_icmp .eq 171, 3) := by decide +kernel
theorem dL_law_511 : decode code 511 = .ok (.iconst 0, 1) := by decide +kernel
theorem dL_law_512 : decode code 512 = .ok (.ireturn, 1) := by decide +kernel
theorem dL_law_513 : decode code 513 = .ok (.aload_n 1, 1) := by decide +kernel
theorem dL_law_514 : decode code 514 = .ok (.invokevirtual 67, 3) := by decide +kernel
theorem dL_law_517 : decode code 517 = .ok (.aload_n 2, 1) := by decide +kernel
theorem dL_law_518 : decode code 518 = .ok (.invokevirtual 70, 3) := by decide +kernel
theorem dL_law_521 : decode code 521 = .ok (.if_icmp .eq 158, 3) := by decide +kernel
theorem dL_law_524 : decode code 524 = .ok (.iconst 0, 1) := by decide +kernel
theorem dL_law_525 : decode code 525 = .ok (.ireturn, 1) := by decide +kernel
theorem dL_law_526 : decode code 526 = .ok (.aload_n 1, 1) := by decide +kernel
theorem dL_law_527 : decode code 527 = .ok (.aload_n 0, 1) := by decide +kernel
theorem dL_law_528 : decode code 528 = .ok (.iload_n 3, 1) := by decide +kernel
theorem dL_law_529 : decode code 529 = .ok (.iconst 1, 1) := by decide +kernel
theorem dL_law_530 : decode code 530 = .ok (.iadd, 1) := by decide +kernel
theorem dL_law_531 : decode code 531 = .ok (.iaload, 1) := by decide +kernel
theorem dL_law_532 : decode code 532 = .ok (.aload_n 0, 1) := by decide +kernel
theorem dL_law_533 : decode code 533 = .ok (.iload_n 3, 1) := by decide +kernel
theorem dL_law_534 : decode code 534 = .ok (.iconst 2, 1) := by decide +kernel
theorem dL_law_535 : decode code 535 = .ok (.iadd, 1) := by decide +kernel
theorem dL_law_536 : decode code 536 = .ok (.iaload, 1) := by decide +kernel
theorem dL_law_537 : decode code 537 = .ok (.invokevirtual 71, 3) := by decide +kernel
theorem dL_law_540 : decode code 540 = .ok (.aload_n 2, 1) := by decide +kernel
theorem dL_law_541 : decode code 541 = .ok (.aload_n 0, 1) := by decide +kernel
theorem dL_law_542 : decode code 542 = .ok (.iload_n 3, 1) := by decide +kernel
theorem dL_law_543 : decode code 543 = .ok (.iconst 1, 1) := by decide +kernel
theorem dL_law_544 : decode code 544 = .ok (.iadd, 1) := by decide +kernel
theorem dL_law_545 : decode code 545 = .ok (.iaload, 1) := by decide +kernel
theorem dL_law_546 : decode code 546 = .ok (.aload_n 0, 1) := by decide +kernel
theorem dL_law_547 : decode code 547 = .ok (.iload_n 3, 1) := by decide +kernel
theorem dL_law_548 : decode code 548 = .ok (.iconst 2, 1) := by decide +kernel
theorem dL_law_549 : decode code 549 = .ok (.iadd, 1) := by decide +kernel
theorem dL_law_550 : decode code 550 = .ok (.iaload, 1) := by decide +kernel
theorem dL_law_551 : decode code 551 = .ok (.invokevirtual 75, 3) := by decide +kernel
theorem dL_law_554 : decode code 554 = .ok (.if_icmp .eq 125, 3) := by decide +kernel
theorem dL_law_557 : decode code 557 = .ok (.iconst 0, 1) := by decide +kernel
theorem dL_law_558 : decode code 558 = .ok (.ireturn, 1) := by decide +kernel
theorem dL_law_559 : decode code 559 = .ok (.aload_n 1, 1) := by decide +kernel
theorem dL_law_560 : decode code 560 = .ok (.aload_n 0, 1) := by decide +kernel
theorem dL_law_561 : decode code 561 = .ok (.iload_n 3, 1) := by decide +kernel
theorem dL_law_562 : decode code 562 = .ok (.iconst 1, 1) := by decide +kernel
theorem dL_law_563 : decode code 563 = .ok (.iadd, 1) := by decide +kernel
theorem dL_law_564 : decode code 564 = .ok (.iaload, 1) := by decide +kernel
theorem dL_law_565 : decode code 565 = .ok (.invokevirtual 76, 3) := by decide +kernel
theorem dL_law_568 : decode code 568 = .ok (.aload_n 2, 1) := by decide +kernel
theorem dL_law_569 : decode code 569 = .ok (.aload_n 0, 1) := by decide +kernel
theorem dL_law_570 : decode code 570 = .ok (.iload_n 3, 1) := by decide +kernel
theorem dL_law_571 : decode code 571 = .ok (.iconst 1, 1) := by decide +kernel
theorem dL_law_572 : decode code 572 = .ok (.iadd, 1) := by decide +kernel
theorem dL_law_573 : decode code 573 = .ok (.iaload, 1) := by decide +kernel
theorem dL_law_574 : decode code 574 = .ok (.invokevirtual 79, 3) := by decide +kernel
theorem dL_law_577 : decode code 577 = .ok (.if_icmp .eq 102, 3) := by decide +kernel
theorem dL_law_580 : decode code 580 = .ok (.iconst 0, 1) := by decide +kernel
theorem dL_law_581 : decode code 581 = .ok (.ireturn, 1) := by decide +kernel
theorem dL_law_582 : decode code 582 = .ok (.aload_n 1, 1) := by decide +kernel
theorem dL_law_583 : decode code 583 = .ok (.aload_n 0, 1) := by decide +kernel
theorem dL_law_584 : decode code 584 = .ok (.iload_n 3, 1) := by decide +kernel
theorem dL_law_585 : decode code 585 = .ok (.iconst 1, 1) := by decide +kernel
theorem dL_law_586 : decode code 586 = .ok (.iadd, 1) := by decide +kernel
theorem dL_law_587 : decode code 587 = .ok (.iaload, 1) := by decide +kernel
theorem dL_law_588 : decode code 588 = .ok (.aload_n 0, 1) := by decide +kernel
theorem dL_law_589 : decode code 589 = .ok (.iload_n 3, 1) := by decide +kernel
theorem dL_law_590 : decode code 590 = .ok (.iconst 2, 1) := by decide +kernel
theorem dL_law_591 : decode code 591 = .ok (.iadd, 1) := by decide +kernel
theorem dL_law_592 : decode code 592 = .ok (.iaload, 1) := by decide +kernel
theorem dL_law_593 : decode code 593 = .ok (.invokevirtual 80, 3) := by decide +kernel
theorem dL_law_596 : decode code 596 = .ok (.aload_n 2, 1) := by decide +kernel
theorem dL_law_597 : decode code 597 = .ok (.aload_n 0, 1) := by decide +kernel
theorem dL_law_598 : decode code 598 = .ok (.iload_n 3, 1) := by decide +kernel
theorem dL_law_599 : decode code 599 = .ok (.iconst 1, 1) := by decide +kernel
theorem dL_law_600 : decode code 600 = .ok (.iadd, 1) := by decide +kernel
theorem dL_law_601 : decode code 601 = .ok (.iaload, 1) := by decide +kernel
theorem dL_law_602 : decode code 602 = .ok (.aload_n 0, 1) := by decide +kernel
theorem dL_law_603 : decode code 603 = .ok (.iload_n 3, 1) := by decide +kernel
theorem dL_law_604 : decode code 604 = .ok (.iconst 2, 1) := by decide +kernel
theorem dL_law_605 : decode code 605 = .ok (.iadd, 1) := by decide +kernel
theorem dL_law_606 : decode code 606 = .ok (.iaload, 1) := by decide +kernel
theorem dL_law_607 : decode code 607 = .ok (.invokevirtual 83, 3) := by decide +kernel
theorem dL_law_610 : decode code 610 = .ok (.lcmp, 1) := by decide +kernel
theorem dL_law_611 : decode code 611 = .ok (.ifCond .eq 68, 3) := by decide +kernel
theorem dL_law_614 : decode code 614 = .ok (.iconst 0, 1) := by decide +kernel
theorem dL_law_615 : decode code 615 = .ok (.ireturn, 1) := by decide +kernel
theorem dL_law_616 : decode code 616 = .ok (.aload_n 1, 1) := by decide +kernel
theorem dL_law_617 : decode code 617 = .ok (.aload_n 0, 1) := by decide +kernel
theorem dL_law_618 : decode code 618 = .ok (.iload_n 3, 1) := by decide +kernel
theorem dL_law_619 : decode code 619 = .ok (.iconst 1, 1) := by decide +kernel
theorem dL_law_620 : decode code 620 = .ok (.iadd, 1) := by decide +kernel
theorem dL_law_621 : decode code 621 = .ok (.iaload, 1) := by decide +kernel
theorem dL_law_622 : decode code 622 = .ok (.i2l, 1) := by decide +kernel
theorem dL_law_623 : decode code 623 = .ok (.bipush 32, 2) := by decide +kernel
theorem dL_law_625 : decode code 625 = .ok (.lshl, 1) := by decide +kernel
theorem dL_law_626 : decode code 626 = .ok (.aload_n 0, 1) := by decide +kernel
theorem dL_law_627 : decode code 627 = .ok (.iload_n 3, 1) := by decide +kernel
theorem dL_law_628 : decode code 628 = .ok (.iconst 2, 1) := by decide +kernel
theorem dL_law_629 : decode code 629 = .ok (.iadd, 1) := by decide +kernel
theorem dL_law_630 : decode code 630 = .ok (.iaload, 1) := by decide +kernel
theorem dL_law_631 : decode code 631 = .ok (.i2l, 1) := by decide +kernel
theorem dL_law_632 : decode code 632 = .ok (.ldc2_w 13, 3) := by decide +kernel
theorem dL_law_635 : decode code 635 = .ok (.land, 1) := by decide +kernel
theorem dL_law_636 : decode code 636 = .ok (.lor, 1) := by decide +kernel
theorem dL_law_637 : decode code 637 = .ok (.aload_n 0, 1) := by decide +kernel
theorem dL_law_638 : decode code 638 = .ok (.iload_n 3, 1) := by decide +kernel
theorem dL_law_639 : decode code 639 = .ok (.iconst 3, 1) := by decide +kernel
theorem dL_law_640 : decode code 640 = .ok (.iadd, 1) := by decide +kernel
theorem dL_law_641 : decode code 641 = .ok (.iaload, 1) := by decide +kernel
theorem dL_law_642 : decode code 642 = .ok (.invokevirtual 84, 3) := by decide +kernel
theorem dL_law_645 : decode code 645 = .ok (.aload_n 2, 1) := by decide +kernel
theorem dL_law_646 : decode code 646 = .ok (.aload_n 0, 1) := by decide +kernel
theorem dL_law_647 : decode code 647 = .ok (.iload_n 3, 1) := by decide +kernel
theorem dL_law_648 : decode code 648 = .ok (.iconst 1, 1) := by decide +kernel
theorem dL_law_649 : decode code 649 = .ok (.iadd, 1) := by decide +kernel
theorem dL_law_650 : decode code 650 = .ok (.iaload, 1) := by decide +kernel
theorem dL_law_651 : decode code 651 = .ok (.i2l, 1) := by decide +kernel
theorem dL_law_652 : decode code 652 = .ok (.bipush 32, 2) := by decide +kernel
theorem dL_law_654 : decode code 654 = .ok (.lshl, 1) := by decide +kernel
theorem dL_law_655 : decode code 655 = .ok (.aload_n 0, 1) := by decide +kernel
theorem dL_law_656 : decode code 656 = .ok (.iload_n 3, 1) := by decide +kernel
theorem dL_law_657 : decode code 657 = .ok (.iconst 2, 1) := by decide +kernel
theorem dL_law_658 : decode code 658 = .ok (.iadd, 1) := by decide +kernel
theorem dL_law_659 : decode code 659 = .ok (.iaload, 1) := by decide +kernel
theorem dL_law_660 : decode code 660 = .ok (.i2l, 1) := by decide +kernel
theorem dL_law_661 : decode code 661 = .ok (.ldc2_w 13, 3) := by decide +kernel
theorem dL_law_664 : decode code 664 = .ok (.land, 1) := by decide +kernel
theorem dL_law_665 : decode code 665 = .ok (.lor, 1) := by decide +kernel
theorem dL_law_666 : decode code 666 = .ok (.aload_n 0, 1) := by decide +kernel
theorem dL_law_667 : decode code 667 = .ok (.iload_n 3, 1) := by decide +kernel
theorem dL_law_668 : decode code 668 = .ok (.iconst 3, 1) := by decide +kernel
theorem dL_law_669 : decode code 669 = .ok (.iadd, 1) := by decide +kernel
theorem dL_law_670 : decode code 670 = .ok (.iaload, 1) := by decide +kernel
theorem dL_law_671 : decode code 671 = .ok (.invokevirtual 88, 3) := by decide +kernel
theorem dL_law_674 : decode code 674 = .ok (.if_icmp .eq 5, 3) := by decide +kernel
theorem dL_law_677 : decode code 677 = .ok (.iconst 0, 1) := by decide +kernel
theorem dL_law_678 : decode code 678 = .ok (.ireturn, 1) := by decide +kernel
theorem dL_law_679 : decode code 679 = .ok (.iinc 3 5, 3) := by decide +kernel
theorem dL_law_682 : decode code 682 = .ok (.goto (-664), 3) := by decide +kernel
theorem dL_law_685 : decode code 685 = .ok (.iconst 1, 1) := by decide +kernel
theorem dL_law_686 : decode code 686 = .ok (.ireturn, 1) := by decide +kernel
end
section
/-! THE KINDS: what an abstract object of each kind is: an object (class in vwCl, its places: 0 int, 1 long, 2 reference) or an array (type, length) -/
def hp_kl : List ((Nat × List Nat) ⊕ (Nat × Nat)) := [
  .inl (3, [2, 2, 2, 2, 2, 2, 0, 0, 0, 0, 0]),
  .inr (3, 6),
  .inr (1, 24),
  .inr (0, 24),
  .inr (4, 12),
  .inr (5, 40),
  .inl (0, [2, 2, 2, 2, 2, 0]),
  .inr (0, 24),
  .inr (1, 24),
  .inr (1, 24),
  .inr (2, 24),
  .inl (2, [0, 2, 2, 2, 0, 0, 0, 0, 0, 0, 1]),
  .inr (0, 8),
  .inr (0, 4),
  .inr (1, 8),
  .inl (1, [2, 2, 2, 2, 0]),
  .inr (2, 24),
  .inr (1, 24),
  .inr (2, 24),
  .inr (1, 24),
  .inl (4, [0, 0, 2, 0, 2, 2, 2, 2, 2, 0, 0, 2, 2, 2, 2, 0, 2, 2, 2, 2, 2, 2, 2, 2, 2, 2, 2, 2, 0, 0]),
  .inr (1, 144),
  .inr (2, 40),
  .inr (2, 960),
  .inr (2, 960),
  .inr (1, 960),
  .inr (1, 960),
  .inr (0, 24),
  .inr (1, 24),
  .inr (1, 24),
  .inr (2, 24),
  .inr (0, 12),
  .inr (0, 96),
  .inr (0, 12),
  .inr (0, 48),
  .inr (0, 12),
  .inr (2, 12),
  .inr (0, 12),
  .inr (0, 12),
  .inr (1, 96),
  .inr (1, 12),
  .inr (2, 12),
  .inr (2, 12)]
def hp_kd (n : Nat) : (Nat × List Nat) ⊕ (Nat × Nat) := hp_kl.getD n (.inr (0, 0))
def hp_atl : List FieldType := [.int, .long, .boolean, .array .long, .object "VersionJoins$Step", .object "VersionJoins$Session"]
def hp_aty (a : Nat) : FieldType := hp_atl.getD a .int
def hp_na : Nat := 6
/-- where the references of an object that is whole point to: the kind; the number is the owner's -/
def hp_xl : List (List (Option Nat)) := [
  [some 1, some 2, some 3, some 4, some 5, some 6, none, none, none, none, none],
  [],
  [],
  [],
  [],
  [],
  [some 7, some 8, some 9, some 10, none, none],
  [],
  [],
  [],
  [],
  [none, some 12, some 13, some 14, none, none, none, none, none, none, none],
  [],
  [],
  [],
  [some 16, some 17, some 18, some 19, none],
  [],
  [],
  [],
  [],
  [none, none, some 21, none, some 22, some 23, some 24, some 25, some 26, none, none, some 27, some 28, some 29, some 30, none, some 31, some 32, some 33, some 34, some 35, some 36, some 37, some 38, some 39, some 40, some 41, some 42, none, none],
  [],
  [],
  [],
  [],
  [],
  [],
  [],
  [],
  [],
  [],
  [],
  [],
  [],
  [],
  [],
  [],
  [],
  [],
  [],
  [],
  [],
  []]
def hp_ex (t : Nat × Nat) (k : Nat) : Option (Nat × Nat) := if t.1 = 1 then (if k < 6 then some (2, k) else none) else ((hp_xl.getD t.1 []).getD k none).map (fun q => (q, t.2))
/-- what the tables say beside the words that last -/
def hp_AO (U : State) : Prop := va_AO "VersionJoins$Step" U ∧ va_AO "VersionJoins$Session" U ∧ (Cond.arrayOver (.array .long)).before #[] U = true ∧ va_Nw (.methodLinkNest "VersionJoins" 36 yX0_init "VersionJoins") U ∧ va_Nw (.methodLinkNest "VersionJoins" 93 yX1_init "VersionJoins") U
theorem hp_AOA_spec {A : Array Value} {s : State} (h : (Cond.arrayOver (.array .long)).before A s = true) : ∃ comp c k, s.vm.findClass (FieldType.array .long).toString = some comp ∧ (s.vm.classes.findIdx? fun (z : Class) => match z.kind with | .array component _ => component == comp | _ => false) = some c ∧ s.vm.classes[c]? = some k ∧ k.kind = .array comp (.array .long) ∧ s.vm.findClass ("[" ++ (FieldType.array .long).toString) = some c := by
  simp only [Cond.before, Cond.holds, Cond.value, beq_iff_eq] at h
  cases hc : s.vm.findClass (FieldType.array .long).toString with
  | none => simp [hc] at h
  | some comp =>
    simp only [hc, Option.bind_some, Option.bind_eq_some_iff, Option.map_eq_some_iff] at h
    obtain ⟨c, hi, k, hk, hb⟩ := h
    obtain ⟨hlt, hp, -⟩ := Array.findIdx?_eq_some_iff_getElem.mp hi
    have hkk : s.vm.classes[c] = k := (Array.getElem?_eq_some_iff.mp hk).2
    rw [hkk] at hp
    cases hkind : k.kind with
    | array component ty =>
      rw [hkind] at hb hp
      simp at hb hp
      exact ⟨comp, c, k, rfl, hi, hk, by rw [hkind, hp, hb.1], hb.2⟩
    | _ => rw [hkind] at hb; simp at hb
def hp_AOA (U : State) : Prop := (Cond.arrayOver (.array .long)).before #[] U = true
theorem hp_AOA_moved {u U : State} (hvm : u.vm.Alike U.vm) (h : hp_AOA u) : hp_AOA U := by
  obtain ⟨comp, c, k, h1, h2, h3, h4, h5⟩ := hp_AOA_spec h
  obtain ⟨k', hk', he⟩ := hvm.2.2 _ _ h3
  have hi : (U.vm.classes.findIdx? fun (z : Class) => match z.kind with | .array component _ => component == comp | _ => false) = some c := by
    have e1 := va_idx_bare U.vm comp
    have e2 := va_idx_bare u.vm comp
    have hb : U.vm.bare = u.vm.bare := by first | exact hvm.bare_eq | exact hvm.bare_eq.symm
    rw [hb] at e1
    exact (e1.symm.trans e2).trans h2
  have hkind : k'.kind = .array comp (.array .long) := by rw [he]; exact h4
  have f1 : U.vm.findClass (FieldType.array .long).toString = some comp := by rw [hvm.findClass]; exact h1
  have f2 : U.vm.findClass ("[" ++ (FieldType.array .long).toString) = some c := by rw [hvm.findClass]; exact h5
  unfold hp_AOA Cond.before Cond.holds
  simp only [Cond.value]
  rw [f1, Option.bind_some]
  refine (congrArg (fun o : Option Nat => (o.bind (fun c => (U.vm.classes[c]?).map fun (k : Class) => match k.kind with | .array _ ty => decide (ty = FieldType.array .long) && decide (U.vm.findClass ("[" ++ (FieldType.array .long).toString) = some c) | _ => false) == some true)) hi).trans ?_
  simp [hk', hkind, f2]
theorem hp_AO_same {u U : State} (h : u.vm = U.vm) (hA : hp_AO u) : hp_AO U := by
  have hv : u.vm.Alike U.vm := by rw [h]; exact Vm.Alike.refl U.vm
  exact ⟨va_AO.moved hv hA.1, va_AO.moved hv hA.2.1, hp_AOA_moved hv hA.2.2.1, va_Nw.same rfl h hA.2.2.2.1, va_Nw.same rfl h hA.2.2.2.2⟩
theorem hp_AO_warm {u U : State} (hW : u.WarmedH U.vm) (hA : hp_AO u) : hp_AO U :=
  ⟨va_AO.moved hW.alike hA.1, va_AO.moved hW.alike hA.2.1, hp_AOA_moved hW.alike hA.2.2.1, va_Nw.warmM hW hA.2.2.2.1, va_Nw.warmM hW hA.2.2.2.2⟩
end
section
/-! ABSTRACT OBJECTS. A tag is (kind, number). Each tag has ints, longs and references by places; 'hp_kd' says what a kind is. -/
abbrev hp_T : Type := Nat × Nat
abbrev hp_S : Type := (hp_T → Bool) × (hp_T → Nat → Int32) × (hp_T → Nat → Int64) × (hp_T → Nat → Option hp_T)
def hp_uI (x : hp_S) (t : hp_T) (k : Nat) (v : Int32) : hp_S := (x.1, fun t' k' => if t' = t ∧ k' = k then v else x.2.1 t' k', x.2.2.1, x.2.2.2)
def hp_uL (x : hp_S) (t : hp_T) (k : Nat) (v : Int64) : hp_S := (x.1, x.2.1, fun t' k' => if t' = t ∧ k' = k then v else x.2.2.1 t' k', x.2.2.2)
def hp_uR (x : hp_S) (t : hp_T) (k : Nat) (v : Option hp_T) : hp_S := (x.1, x.2.1, x.2.2.1, fun t' k' => if t' = t ∧ k' = k then v else x.2.2.2 t' k')
/-- a row of longs is written anew -/
def hp_wL (x : hp_S) (t : hp_T) (f : Nat → Int64) : hp_S := (x.1, x.2.1, fun t' => if t' = t then f else x.2.2.1 t', x.2.2.2)
/-- a new object, all zero -/
def hp_nw (x : hp_S) (t : hp_T) : hp_S := (fun t' => if t' = t then true else x.1 t', fun t' k => if t' = t then 0 else x.2.1 t' k, fun t' k => if t' = t then 0 else x.2.2.1 t' k, fun t' k => if t' = t then none else x.2.2.2 t' k)
def hp_ad (ad : hp_T → Nat) (t : hp_T) (q : Nat) : hp_T → Nat := fun t' => if t' = t then q else ad t'
def hp_val (ad : hp_T → Nat) (x : hp_S) (t : hp_T) (c k : Nat) : Value := match c with
  | 0 => .int (x.2.1 t k)
  | 1 => .long (x.2.2.1 t k)
  | _ => va_rf ((x.2.2.2 t k).map ad)
def hp_fs (ad : hp_T → Nat) (x : hp_S) (t : hp_T) (sl : List Nat) : List Value := (List.range sl.length).map (fun k => hp_val ad x t (sl.getD k 0) k)
def hp_bank (ty : FieldType) : Nat := match ty with
  | .long => 1
  | .object _ => 2
  | .array _ => 2
  | _ => 0
def hp_arr (ad : hp_T → Nat) (x : hp_S) (t : hp_T) (b n : Nat) : vp_A := (n, match b with
  | 0 => .inl (x.2.1 t)
  | 1 => .inr (.inl (x.2.2.1 t))
  | _ => .inr (.inr (.inr (.inr (fun j => (x.2.2.2 t j).map ad)))))
def hp_cell (cA : Nat → ClassId) (ad : hp_T → Nat) (x : hp_S) (t : hp_T) : va_E := match hp_kd t.1 with
  | .inl o => .inr (o.1, hp_fs ad x t o.2)
  | .inr a => .inl (cA a.1, hp_arr ad x t (hp_bank (hp_aty a.1)) a.2)
/-- every object that is there is whole -/
def hp_sh (x : hp_S) : Prop := ∀ t k t2, hp_ex t k = some t2 → x.1 t = true → x.2.2.2 t k = some t2
theorem hp_cell_o {cA : Nat → ClassId} {ad : hp_T → Nat} {x : hp_S} {t : hp_T} {ci : Nat} {sl : List Nat} (h : hp_kd t.1 = .inl (ci, sl)) : hp_cell cA ad x t = .inr (ci, hp_fs ad x t sl) := by
  simp only [hp_cell, h]
theorem hp_cell_a {cA : Nat → ClassId} {ad : hp_T → Nat} {x : hp_S} {t : hp_T} {a n : Nat} (h : hp_kd t.1 = .inr (a, n)) : hp_cell cA ad x t = .inl (cA a, hp_arr ad x t (hp_bank (hp_aty a)) n) := by
  simp only [hp_cell, h]
theorem hp_fs_get {ad : hp_T → Nat} {x : hp_S} {t : hp_T} {sl : List Nat} {k c : Nat} (h : sl[k]? = some c) : (hp_fs ad x t sl)[k]? = some (hp_val ad x t c k) := by
  have hl : k < sl.length := (List.getElem?_eq_some_iff.mp h).1
  have e : sl.getD k 0 = c := by rw [List.getD_eq_getElem?_getD, h]; rfl
  simp only [hp_fs, List.getElem?_map, List.getElem?_range hl, Option.map_some, e]
theorem hp_fs_len {ad : hp_T → Nat} {x : hp_S} {t : hp_T} {sl : List Nat} : (hp_fs ad x t sl).length = sl.length := by simp [hp_fs]
/-- the fields behind a write: place by place -/
theorem hp_fs_set {ad : hp_T → Nat} {x x' : hp_S} {t : hp_T} {sl : List Nat} {k : Nat} {v : Value} (hk : k < sl.length) (h1 : hp_val ad x' t (sl.getD k 0) k = v) (h2 : ∀ j, j ≠ k → hp_val ad x' t (sl.getD j 0) j = hp_val ad x t (sl.getD j 0) j) : (hp_fs ad x t sl).set k v = hp_fs ad x' t sl := by
  apply List.ext_getElem?
  intro j
  rw [List.getElem?_set]
  by_cases hj : k = j
  · subst hj
    rw [if_pos rfl, if_pos (by rw [hp_fs_len]; exact hk)]
    simp only [hp_fs, List.getElem?_map, List.getElem?_range hk, Option.map_some, h1]
  · rw [if_neg hj]
    by_cases hl : j < sl.length
    · simp only [hp_fs, List.getElem?_map, List.getElem?_range hl, Option.map_some, h2 j (Ne.symm hj)]
    · simp [hp_fs, hl]
/-- what a cell is made of -/
theorem hp_cell_congr {cA : Nat → ClassId} {ad ad' : hp_T → Nat} {x x' : hp_S} {t : hp_T} (h1 : x'.2.1 t = x.2.1 t) (h2 : x'.2.2.1 t = x.2.2.1 t) (h3 : ∀ k, (x'.2.2.2 t k).map ad' = (x.2.2.2 t k).map ad) : hp_cell cA ad' x' t = hp_cell cA ad x t := by
  have hv : ∀ c k, hp_val ad' x' t c k = hp_val ad x t c k := by
    intro c k
    match c with
    | 0 => simp only [hp_val, h1]
    | 1 => simp only [hp_val, h2]
    | n + 2 => simp only [hp_val, h3]
  have hf : ∀ sl, hp_fs ad' x' t sl = hp_fs ad x t sl := fun sl => by simp only [hp_fs, hv]
  have ha : ∀ b n, hp_arr ad' x' t b n = hp_arr ad x t b n := by
    intro b n
    match b with
    | 0 => simp only [hp_arr, h1]
    | 1 => simp only [hp_arr, h2]
    | m + 2 => simp only [hp_arr, h3]
  simp only [hp_cell, hf, ha]
def hp_H (D : va_G) (cA : Nat → ClassId) (B0 : Nat) (ad : hp_T → Nat) (x : hp_S) (H : Heap) : Prop :=
  B0 ≤ H.size ∧ (∀ t, x.1 t = true → B0 ≤ ad t ∧ va_at D vwCl (ad t, hp_cell cA ad x t) H) ∧ (∀ t t', x.1 t = true → x.1 t' = true → ad t = ad t' → t = t') ∧ ∀ t k t', x.1 t = true → x.2.2.2 t k = some t' → x.1 t' = true
theorem hp_H.put {D : va_G} {cA : Nat → ClassId} {B0 : Nat} {ad : hp_T → Nat} {x x' : hp_S} {H H1 : Heap} {t : hp_T} (h : hp_H D cA B0 ad x H) (ht : x.1 t = true) (hl : x'.1 = x.1) (ho : ∀ t', t' ≠ t → hp_cell cA ad x' t' = hp_cell cA ad x t') (hr : ∀ k t', x'.2.2.2 t k = some t' → x.1 t' = true) (hr2 : ∀ t', t' ≠ t → x'.2.2.2 t' = x.2.2.2 t') (he : va_at D vwCl (ad t, hp_cell cA ad x' t) H1) (hz : H1.size = H.size) (oq : ∀ q : Nat, q ≠ ad t → H1[q]? = H[q]?) : hp_H D cA B0 ad x' H1 := by
  refine ⟨by rw [hz]; exact h.1, fun t' h' => ?_, fun t1 t2 h1 h2 e => ?_, fun t1 k t2 h1 h2 => ?_⟩
  · rw [hl] at h'
    refine ⟨(h.2.1 t' h').1, ?_⟩
    by_cases e : t' = t
    · subst e
      exact he
    · rw [ho t' e]
      exact (h.2.1 t' h').2.kept (oq _ (fun q => e (h.2.2.1 t' t h' ht q)))
  · rw [hl] at h1 h2
    exact h.2.2.1 t1 t2 h1 h2 e
  · rw [hl] at h1 ⊢
    by_cases e : t1 = t
    · subst e
      exact hr k t2 h2
    · rw [hr2 t1 e] at h2
      exact h.2.2.2 t1 k t2 h1 h2
/-- a cell is made -/
theorem hp_H.mk {D : va_G} {cA : Nat → ClassId} {B0 : Nat} {ad : hp_T → Nat} {x : hp_S} {H H1 : Heap} {t : hp_T} (h : hp_H D cA B0 ad x H) (ht : x.1 t = false) (he : va_at D vwCl (H.size, hp_cell cA (hp_ad ad t H.size) (hp_nw x t) t) H1) (hz : H1.size = H.size + 1) (oq : ∀ q : Nat, q < H.size → H1[q]? = H[q]?) : hp_H D cA B0 (hp_ad ad t H.size) (hp_nw x t) H1 := by
  have hlt : ∀ t', x.1 t' = true → ad t' < H.size := fun t' h' => (h.2.1 t' h').2.lt
  have hne : ∀ t', x.1 t' = true → t' ≠ t := fun t' h' e => by rw [e, ht] at h'; cases h'
  refine ⟨by rw [hz]; exact Nat.le_succ_of_le h.1, fun t' h' => ?_, fun t1 t2 h1 h2 e => ?_, fun t1 k t2 h1 h2 => ?_⟩
  · by_cases e : t' = t
    · subst e
      refine ⟨?_, ?_⟩
      · simp only [hp_ad, if_pos]
        exact h.1
      · rw [show hp_ad ad t' H.size t' = H.size by simp [hp_ad]]
        exact he
    · have h0 : x.1 t' = true := by simpa [hp_nw, e] using h'
      have ea : hp_ad ad t H.size t' = ad t' := by simp [hp_ad, e]
      rw [ea]
      refine ⟨(h.2.1 t' h0).1, ?_⟩
      rw [show hp_cell cA (hp_ad ad t H.size) (hp_nw x t) t' = hp_cell cA ad x t' from hp_cell_congr (by funext k; simp [hp_nw, e]) (by funext k; simp [hp_nw, e]) (fun k => by
        have e3 : (hp_nw x t).2.2.2 t' k = x.2.2.2 t' k := by simp [hp_nw, e]
        rw [e3]
        cases hq : x.2.2.2 t' k with
        | none => rfl
        | some t2 => simp [hp_ad, hne t2 (h.2.2.2 t' k t2 h0 hq)])]
      exact (h.2.1 t' h0).2.kept (oq _ (hlt t' h0))
  · by_cases e1 : t1 = t
    · by_cases e2 : t2 = t
      · rw [e1, e2]
      · have h0 : x.1 t2 = true := by simpa [hp_nw, e2] using h2
        have := hlt t2 h0
        simp only [hp_ad, e1, if_pos, if_neg e2] at e
        omega
    · have h0 : x.1 t1 = true := by simpa [hp_nw, e1] using h1
      by_cases e2 : t2 = t
      · have := hlt t1 h0
        simp only [hp_ad, e2, if_pos, if_neg e1] at e
        omega
      · have h9 : x.1 t2 = true := by simpa [hp_nw, e2] using h2
        simp only [hp_ad, if_neg e1, if_neg e2] at e
        exact h.2.2.1 t1 t2 h0 h9 e
  · by_cases e1 : t1 = t
    · subst e1
      simp [hp_nw] at h2
    · have h0 : x.1 t1 = true := by simpa [hp_nw, e1] using h1
      have h3 : x.2.2.2 t1 k = some t2 := by simpa [hp_nw, e1] using h2
      have h4 := h.2.2.2 t1 k t2 h0 h3
      simp only [hp_nw]
      split
      · rfl
      · exact h4
def hp_tys (cA : Nat → ClassId) : List (ClassId × FieldType) := (List.range hp_na).map (fun a => (cA a, hp_aty a))
theorem hp_tys_at {cA : Nat → ClassId} {a : Nat} (h : a < hp_na) : (hp_tys cA)[a]? = some (cA a, hp_aty a) := by
  simp [hp_tys, List.getElem?_map, List.getElem?_range h]
def hp_K (D : va_G) (cA : Nat → ClassId) (U : State) : Prop := va_K D vwCl (hp_tys cA) U ∧ hp_AO U
theorem hp_K.warm {D : va_G} {cA : Nat → ClassId} {u U : State} (hW : u.WarmedH U.vm) (h : hp_K D cA u) : hp_K D cA U := ⟨va_K.moved hW.alike h.1, hp_AO_warm hW h.2⟩
theorem hp_K.same {D : va_G} {cA : Nat → ClassId} {u U : State} (hv : u.vm = U.vm) (h : hp_K D cA u) : hp_K D cA U := ⟨va_K.moved (by rw [hv]; exact Vm.Alike.refl U.vm) h.1, hp_AO_same hv h.2⟩
def hp_E (p : Program) (s : State) (m : MethodId) (args : Array Value) (meth : Method) (c : Code) (cc : ByteArray) (nL : Nat) (own : String) (Ts : List Cond) (D : va_G) (cA : Nat → ClassId) (B0 : Nat) : Prop :=
  CallFix p m c cc nL s args Ts own ∧ hp_K D cA s ∧ meth.locks = false ∧ B0 ≤ s.heap.size
abbrev hx_iushr (z y : Int32) : Int32 := (z.toUInt32 >>> (y.toUInt32 &&& Int32.toUInt32 31)).toInt32
abbrev hx_lushr (z : Int64) (y : Int32) : Int64 := (z.toUInt64 >>> (y.toInt64.toUInt64 &&& Int64.toUInt64 63)).toInt64
theorem hx_i1 (u : Int32) : u + Int32.ofInt 1 = u + nI 1 := by
  rw [show Int32.ofInt 1 = nI 1 by decide]
theorem hx_out3 {z : Int32} (h0 : ¬ z = nI 0) (h1 : ¬ z = nI 1) (h2 : ¬ z = nI 2) : z.toInt < 0 ∨ 2 < z.toInt := by
  rcases Int.lt_or_le z.toInt 0 with h | h
  · exact Or.inl h
  rcases Int.lt_or_le 2 z.toInt with h' | h'
  · exact Or.inr h'
  exfalso
  have e : z.toInt = 0 ∨ z.toInt = 1 ∨ z.toInt = 2 := by omega
  rcases e with e | e | e
  · exact h0 (Int32.toInt_inj.mp e)
  · exact h1 (Int32.toInt_inj.mp e)
  · exact h2 (Int32.toInt_inj.mp e)
/-! ABSTRACT VALUES: an int, a long, a reference by its tag (or null), an address from outside -/
abbrev hp_A : Type := Int32 ⊕ Int64 ⊕ Option hp_T ⊕ Nat
abbrev aI (i : Int32) : hp_A := .inl i
abbrev aL (i : Int64) : hp_A := .inr (.inl i)
abbrev aR (t : hp_T) : hp_A := .inr (.inr (.inl (some t)))
abbrev aN : hp_A := .inr (.inr (.inl none))
abbrev aQ (b : Nat) : hp_A := .inr (.inr (.inr b))
def hp_c (ad : hp_T → Nat) (v : hp_A) : Value := match v with
  | .inl i => .int i
  | .inr (.inl i) => .long i
  | .inr (.inr (.inl r)) => va_rf (r.map ad)
  | .inr (.inr (.inr b)) => .ref b
def hp_cat (v : hp_A) : Nat := match v with
  | .inr (.inl _) => 2
  | _ => 1
theorem hp_cat_eq (ad : hp_T → Nat) (v : hp_A) : (hp_c ad v).category = hp_cat v := by
  match v with
  | .inl _ => rfl
  | .inr (.inl _) => rfl
  | .inr (.inr (.inl none)) => rfl
  | .inr (.inr (.inl (some _))) => rfl
  | .inr (.inr (.inr _)) => rfl
def hp_ok (b : hp_T → Bool) (v : hp_A) : Prop := match v with
  | .inr (.inr (.inl (some t))) => b t = true
  | _ => True
def hp_oks (b : hp_T → Bool) (l : List hp_A) : Prop := match l with
  | [] => True
  | v :: r => hp_ok b v ∧ hp_oks b r
def hp_okl (b : hp_T → Bool) (l : List (Nat × hp_A)) : Prop := ∀ q ∈ l, hp_ok b q.2
def hp_cl (ad : hp_T → Nat) (l : List (Nat × hp_A)) : List (Nat × Value) := l.map (fun q => (q.1, hp_c ad q.2))
theorem hp_okl_at {x : hp_T → Bool} {l : List (Nat × hp_A)} {j i : Nat} {v : hp_A} (h : hp_okl x l) (hj : l[j]? = some (i, v)) : hp_ok x v := h _ (List.mem_of_getElem? hj)
theorem hp_cl_at {ad : hp_T → Nat} {l : List (Nat × hp_A)} {j i : Nat} {v : hp_A} (hj : l[j]? = some (i, v)) : (hp_cl ad l)[j]? = some (i, hp_c ad v) := by
  simp only [hp_cl, List.getElem?_map, hj, Option.map_some]
def hp_f1 (i : Nat) (l : List (Nat × hp_A)) : List (Nat × hp_A) := l.filter (fun q => !(q.1 == i) && !(q.1 + 1 == i && hp_cat q.2 == 2))
def hp_f2 (i : Nat) (l : List (Nat × hp_A)) : List (Nat × hp_A) := l.filter (fun q => !(q.1 == i) && (!(q.1 == i + 1) && !(q.1 + 1 == i && hp_cat q.2 == 2)))
theorem hp_f1_cl {ad : hp_T → Nat} {i : Nat} {l : List (Nat × hp_A)} : (hp_cl ad l).filter (fun q => !(q.1 == i) && !(q.1 + 1 == i && q.2.category == 2)) = hp_cl ad (hp_f1 i l) := by
  simp only [hp_cl, hp_f1, List.filter_map]
  congr 2
  funext q
  simp only [Function.comp, hp_cat_eq]
theorem hp_f2_cl {ad : hp_T → Nat} {i : Nat} {l : List (Nat × hp_A)} : (hp_cl ad l).filter (fun q => !(q.1 == i) && (!(q.1 == i + 1) && !(q.1 + 1 == i && q.2.category == 2))) = hp_cl ad (hp_f2 i l) := by
  simp only [hp_cl, hp_f2, List.filter_map]
  congr 2
  funext q
  simp only [Function.comp, hp_cat_eq]
theorem hp_f1_ok {x : hp_T → Bool} {i : Nat} {l : List (Nat × hp_A)} (h : hp_okl x l) : hp_okl x (hp_f1 i l) := fun q hq => h q (List.mem_filter.mp hq).1
theorem hp_f2_ok {x : hp_T → Bool} {i : Nat} {l : List (Nat × hp_A)} (h : hp_okl x l) : hp_okl x (hp_f2 i l) := fun q hq => h q (List.mem_filter.mp hq).1
theorem hp_okl_cons {x : hp_T → Bool} {q : Nat × hp_A} {l : List (Nat × hp_A)} (h1 : hp_ok x q.2) (h : hp_okl x l) : hp_okl x (q :: l) := fun r hr => by
  rcases List.mem_cons.mp hr with e | e
  · rw [e]; exact h1
  · exact h r e
/-- what stays when more is alive, and nothing has moved -/
theorem hp_ok_mono {x x' : hp_T → Bool} {v : hp_A} (h : ∀ t, x t = true → x' t = true) (hv : hp_ok x v) : hp_ok x' v := by
  match v with
  | .inl _ => trivial
  | .inr (.inl _) => trivial
  | .inr (.inr (.inl none)) => trivial
  | .inr (.inr (.inl (some t))) => exact h t hv
  | .inr (.inr (.inr _)) => trivial
theorem hp_oks_mono {x x' : hp_T → Bool} (h : ∀ t, x t = true → x' t = true) : ∀ {l : List hp_A}, hp_oks x l → hp_oks x' l
  | [], _ => trivial
  | _ :: _, hl => ⟨hp_ok_mono h hl.1, hp_oks_mono h hl.2⟩
theorem hp_c_same {x : hp_T → Bool} {ad ad' : hp_T → Nat} {v : hp_A} (h : ∀ t, x t = true → ad' t = ad t) (hv : hp_ok x v) : hp_c ad' v = hp_c ad v := by
  match v with
  | .inl _ => rfl
  | .inr (.inl _) => rfl
  | .inr (.inr (.inl none)) => rfl
  | .inr (.inr (.inl (some t))) => simp only [hp_c, Option.map_some, h t hv]
  | .inr (.inr (.inr _)) => rfl
theorem hp_cs_same {x : hp_T → Bool} {ad ad' : hp_T → Nat} (h : ∀ t, x t = true → ad' t = ad t) : ∀ {l : List hp_A}, hp_oks x l → l.map (hp_c ad') = l.map (hp_c ad)
  | [], _ => rfl
  | _ :: _, hl => by rw [List.map_cons, List.map_cons, hp_c_same h hl.1, hp_cs_same h hl.2]
theorem hp_cl_same {x : hp_T → Bool} {ad ad' : hp_T → Nat} {l : List (Nat × hp_A)} (h : ∀ t, x t = true → ad' t = ad t) (hl : hp_okl x l) : hp_cl ad' l = hp_cl ad l := by
  simp only [hp_cl]
  apply List.map_congr_left
  intro q hq
  rw [hp_c_same h (hl q hq)]
/-- the machine, from any heap that holds x, at pc with these locals and this stack, comes to Q; 'S' is what is known of the shape -/
def hp_V (p : Program) (l : Launch) (e : Env) (R : Room) (s : State) (m : MethodId) (args : Array Value) (below : List Frame) (meth : Method) (c : Code) (Q : (hp_T → Nat) → State → Prop) (D : va_G) (cA : Nat → ClassId) (B0 nL : Nat) (ad0 : hp_T → Nat) (x0 : hp_S) (cells slots : Nat) (x : hp_S) (pc : Nat) (lv : List (Nat × hp_A)) (st : List hp_A) : Prop :=
  ∀ (ad : hp_T → Nat) (H : Heap) (locs : List Loc) (ls : Array Slot), hp_H D cA B0 ad x H → (∀ t, x0.1 t = true → x.1 t = true ∧ ad t = ad0 t) → hp_okl x.1 lv → hp_oks x.1 st → va_S (fun q => B0 ≤ q) s.heap H locs → lv_has ls nL (hp_cl ad lv) → W p l e R s m args below meth c H locs cells slots (Q ad0) (F0 m pc ls (st.map (hp_c ad)))
/-- a method's end: the answer, the state behind it -/
def hp_Q (D : va_G) (cA : Nat → ClassId) (B0 : Nat) (ad0 : hp_T → Nat) (x0 : hp_S) (post : Option hp_A → hp_S → Prop) : Array Value → State → Outcome → State → Prop := fun _ st oc t =>
  ∃ (v : Option hp_A) (ad : hp_T → Nat) (x : hp_S), oc = .returned (v.map (hp_c ad)) ∧ post v x ∧ (∀ w, v = some w → hp_ok x.1 w) ∧ (∀ t, x0.1 t = true → x.1 t = true ∧ ad t = ad0 t) ∧ hp_H D cA B0 ad x t.heap ∧ hp_K D cA t ∧ va_F (fun q => B0 ≤ q) st t
/-- a method's contract -/
def hp_C (l : Launch) (y : MethodName) (ws : List Cond) (rm : Room) (av : List hp_A) (x : hp_S) (post : Option hp_A → hp_S → Prop) (mc ms : Nat) : Prop :=
  ∀ (D : va_G) (cA : Nat → ClassId) (B0 : Nat) (ad : hp_T → Nat), hp_oks x.1 av → Met l y ws rm (va_Pc (av.map (hp_c ad)) (fun U => hp_H D cA B0 ad x U.heap ∧ hp_K D cA U)) (hp_Q D cA B0 ad x post) mc ms (fun q => B0 ≤ q)
def hp_args (i : Nat) (l : List hp_A) : List (Nat × hp_A) := match l with
  | [] => []
  | v :: vs => (i, v) :: hp_args (if hp_cat v = 2 then i + 2 else i + 1) vs
theorem hp_args_cl (ad : hp_T → Nat) : ∀ (l : List hp_A) (i : Nat), lv_args i (l.map (hp_c ad)) = hp_cl ad (hp_args i l)
  | [], _ => rfl
  | v :: vs, i => by
    simp only [List.map_cons, lv_args, hp_args, hp_cl, hp_cat_eq]
    rw [hp_args_cl ad vs]
    rfl
theorem hp_args_ok {x : hp_T → Bool} : ∀ {l : List hp_A} {i : Nat}, hp_oks x l → hp_okl x (hp_args i l)
  | [], _, _ => fun q h => by cases h
  | _ :: _, _, h => hp_okl_cons h.1 (hp_args_ok h.2)
def hp_len (l : List hp_A) : Nat := (l.map hp_cat).sum
theorem hp_len_eq (ad : hp_T → Nat) : ∀ l : List hp_A, (lg_sl (l.map (hp_c ad))).length = hp_len l
  | [] => rfl
  | v :: vs => by
    have ih := hp_len_eq ad vs
    simp only [lg_sl, List.map_cons, List.flatMap_cons, List.length_append, hp_len, List.sum_cons, hp_cat_eq] at ih ⊢
    rw [ih]
    congr 1
    match v with
    | .inl _ => rfl
    | .inr (.inl _) => rfl
    | .inr (.inr (.inl none)) => rfl
    | .inr (.inr (.inl (some _))) => rfl
    | .inr (.inr (.inr _)) => rfl
theorem hp_ofV {l : Launch} {y : MethodName} {own : String} {rm : Room} {av : List hp_A} {x : hp_S} {post : Option hp_A → hp_S → Prop} {mc ms : Nat} {cc : ByteArray} {maxL : Nat} {ret : Option FieldType} {lv : List (Nat × hp_A)}
    (hy : plainName y.cls = true) (ho : y.cls = own) (hlen : hp_len av ≤ maxL) (hlv : hp_args 0 av = lv)
    (body : ∀ p e s m args below meth c D cA B0 ad0, hp_E p s m args meth c cc maxL own hp_ws D cA B0 → meth.sig.returnType = ret → meth.name = y.name → hp_V p l e rm s m args below meth c (fun ad0 => MQ below (hp_Q D cA B0 ad0 x post) args s mc ms (fun q => B0 ≤ q)) D cA B0 maxL ad0 x 0 0 x 0 lv []) :
    hp_C l y (Cond.code y cc maxL ret :: hp_ws) rm av x post mc ms := by
  intro D cA B0 ad hok
  subst ho
  refine Met.ofW (cc := cc) (maxL := maxL) (ret := ret) hy rfl ?_
  intro p e s m args below meth c s₁ B hml hv
  obtain ⟨rfl, hG, hK⟩ := hv
  have hl := lv_entry (av.map (hp_c ad)) (n := maxL) (by rw [hp_len_eq]; exact hlen)
  rw [lg_entry_eq]
  rw [hp_args_cl, hlv] at hl
  exact body p e s m _ below meth c D cA B0 ad ⟨⟨B.exec, B.bytes, hml, findClass_of_methodNamed B.named, fun w hw => atoms_spec (ws := Cond.code y cc maxL ret :: hp_ws) B.pre w (List.mem_cons_of_mem _ hw)⟩, hK, B.notSynchronized, hG.1⟩ B.returns (name_of_methodNamed B.named B.method).1 ad s.heap [] _ hG (fun t h => ⟨h, rfl⟩) (by rw [← hlv]; exact hp_args_ok hok) trivial va_S.rf hl
/-- what a method's answer is: an int, a long, nothing; the shape stays -/
def hp_pI (P : Int32 → hp_S → Prop) : Option hp_A → hp_S → Prop := fun v x => ∃ r, v = some (aI r) ∧ hp_sh x ∧ P r x
def hp_pL (P : Int64 → hp_S → Prop) : Option hp_A → hp_S → Prop := fun v x => ∃ r, v = some (aL r) ∧ hp_sh x ∧ P r x
def hp_pV (P : hp_S → Prop) : Option hp_A → hp_S → Prop := fun v x => v = none ∧ hp_sh x ∧ P x
/-- a constructor's: the shape isn't whole yet -/
def hp_p0 (P : hp_S → Prop) : Option hp_A → hp_S → Prop := fun v x => v = none ∧ P x
theorem hp_sh_uR {x : hp_S} {t : hp_T} {k : Nat} {v : Option hp_T} (h : hp_ex t k = none) (hs : hp_sh x) : hp_sh (hp_uR x t k v) := by
  intro t1 k1 t2 he hl
  have h0 := hs t1 k1 t2 he hl
  simp only [hp_uR]
  split
  · rename_i e
    rw [e.1, e.2, h] at he
    cases he
  · exact h0
theorem hp_ex_row {i : Int32} (h : vp_in i 6) : hp_ex (1, 0) i.toNatClampNeg = some (2, i.toNatClampNeg) := by
  have hlt : i.toNatClampNeg < 6 := Nat.not_le.mp fun q => h (Or.inr q)
  simp [hp_ex, hlt]
section HV
variable {p : Program} {l : Launch} {e : Env} {R : Room} {s : State} {m : MethodId} {args : Array Value} {below : List Frame} {meth : Method} {c : Code} {Q : (hp_T → Nat) → State → Prop} {D : va_G} {cA : Nat → ClassId} {B0 nL cells slots : Nat} {ad0 : hp_T → Nat} {x0 x : hp_S} {lv : List (Nat × hp_A)}
variable {cc : ByteArray} {own : String} {Ts : List Cond} {pc : Nat} {rest : List hp_A}
theorem hv_widen {k n : Nat} (h1 : cells ≤ k) (h2 : slots ≤ n) (kk : hp_V p l e R s m args below meth c Q D cA B0 nL ad0 x0 k n x pc lv rest) : hp_V p l e R s m args below meth c Q D cA B0 nL ad0 x0 cells slots x pc lv rest := fun ad H locs ls hG hx0 hl0 hst hS hl => W.widen h1 h2 (kk ad H locs ls hG hx0 hl0 hst hS hl)
theorem hv_lv {lv' : List (Nat × hp_A)} (ks : List Nat) (hk0 : ks.filterMap (fun k => lv[k]?) = lv') (kk : hp_V p l e R s m args below meth c Q D cA B0 nL ad0 x0 cells slots x pc lv' rest) : hp_V p l e R s m args below meth c Q D cA B0 nL ad0 x0 cells slots x pc lv rest := by
  have hk : ∀ q ∈ lv', q ∈ lv := fun q hq => by
    rw [← hk0] at hq
    obtain ⟨k, -, hk⟩ := List.mem_filterMap.mp hq
    exact List.mem_of_getElem? hk
  exact fun ad H locs ls hG hx0 hl0 hst hS hl => kk ad H locs ls hG hx0 (fun q h => hl0 q (hk q h)) hst hS ⟨hl.1, hl.2.1, fun q hq => by
    obtain ⟨r, h1, h2⟩ := List.mem_map.mp hq
    exact hl.2.2 q (List.mem_map.mpr ⟨r, hk r h1, h2⟩)⟩
theorem hv_iconst (E : hp_E p s m args meth c cc nL own Ts D cA B0) {n : Int} {v : Int32} (hdg : decode cc pc = .ok (.iconst n, 1)) (hv : Int32.ofInt n = v) (k : hp_V p l e R s m args below meth c Q D cA B0 nL ad0 x0 cells slots x (pc + 1) lv (aI v :: rest)) : hp_V p l e R s m args below meth c Q D cA B0 nL ad0 x0 cells slots x pc lv rest := fun ad H locs ls hG hx0 hl0 hst hS hl => lv_iconst E.1.1 E.1.2.1 hdg hv (k ad H locs ls hG hx0 hl0 ⟨trivial, hst⟩ hS hl)
theorem hv_bipush (E : hp_E p s m args meth c cc nL own Ts D cA B0) {n : Int} {v : Int32} (hdg : decode cc pc = .ok (.bipush n, 2)) (hv : (Int8.ofInt n).toInt32 = v) (k : hp_V p l e R s m args below meth c Q D cA B0 nL ad0 x0 cells slots x (pc + 2) lv (aI v :: rest)) : hp_V p l e R s m args below meth c Q D cA B0 nL ad0 x0 cells slots x pc lv rest := fun ad H locs ls hG hx0 hl0 hst hS hl => lv_bipush E.1.1 E.1.2.1 hdg hv (k ad H locs ls hG hx0 hl0 ⟨trivial, hst⟩ hS hl)
theorem hv_sipush (E : hp_E p s m args meth c cc nL own Ts D cA B0) {n : Int} {v : Int32} (hdg : decode cc pc = .ok (.sipush n, 3)) (hv : (Int16.ofInt n).toInt32 = v) (k : hp_V p l e R s m args below meth c Q D cA B0 nL ad0 x0 cells slots x (pc + 3) lv (aI v :: rest)) : hp_V p l e R s m args below meth c Q D cA B0 nL ad0 x0 cells slots x pc lv rest := fun ad H locs ls hG hx0 hl0 hst hS hl => lv_sipush E.1.1 E.1.2.1 hdg hv (k ad H locs ls hG hx0 hl0 ⟨trivial, hst⟩ hS hl)
theorem hv_lconst (E : hp_E p s m args meth c cc nL own Ts D cA B0) {n : Fin 2} {v : Int64} (hdg : decode cc pc = .ok (.lconst n, 1)) (hv : Int64.ofNat (n : Nat) = v) (k : hp_V p l e R s m args below meth c Q D cA B0 nL ad0 x0 cells slots x (pc + 1) lv (aL v :: rest)) : hp_V p l e R s m args below meth c Q D cA B0 nL ad0 x0 cells slots x pc lv rest := fun ad H locs ls hG hx0 hl0 hst hS hl => lv_lconst E.1.1 E.1.2.1 hdg hv (k ad H locs ls hG hx0 hl0 ⟨trivial, hst⟩ hS hl)
theorem hv_iadd (E : hp_E p s m args meth c cc nL own Ts D cA B0) {y z v : Int32} (hdg : decode cc pc = .ok (.iadd, 1)) (hv : z + y = v) (k : hp_V p l e R s m args below meth c Q D cA B0 nL ad0 x0 cells slots x (pc + 1) lv (aI v :: rest)) : hp_V p l e R s m args below meth c Q D cA B0 nL ad0 x0 cells slots x pc lv (aI y :: aI z :: rest) := by
  subst hv
  exact fun ad H locs ls hG hx0 hl0 hst hS hl => lv_iadd E.1.1 E.1.2.1 hdg (k ad H locs ls hG hx0 hl0 ⟨trivial, hst.2.2⟩ hS hl)
theorem hv_isub (E : hp_E p s m args meth c cc nL own Ts D cA B0) {y z v : Int32} (hdg : decode cc pc = .ok (.isub, 1)) (hv : z - y = v) (k : hp_V p l e R s m args below meth c Q D cA B0 nL ad0 x0 cells slots x (pc + 1) lv (aI v :: rest)) : hp_V p l e R s m args below meth c Q D cA B0 nL ad0 x0 cells slots x pc lv (aI y :: aI z :: rest) := by
  subst hv
  exact fun ad H locs ls hG hx0 hl0 hst hS hl => lv_isub E.1.1 E.1.2.1 hdg (k ad H locs ls hG hx0 hl0 ⟨trivial, hst.2.2⟩ hS hl)
theorem hv_imul (E : hp_E p s m args meth c cc nL own Ts D cA B0) {y z v : Int32} (hdg : decode cc pc = .ok (.imul, 1)) (hv : z * y = v) (k : hp_V p l e R s m args below meth c Q D cA B0 nL ad0 x0 cells slots x (pc + 1) lv (aI v :: rest)) : hp_V p l e R s m args below meth c Q D cA B0 nL ad0 x0 cells slots x pc lv (aI y :: aI z :: rest) := by
  subst hv
  exact fun ad H locs ls hG hx0 hl0 hst hS hl => lv_imul E.1.1 E.1.2.1 hdg (k ad H locs ls hG hx0 hl0 ⟨trivial, hst.2.2⟩ hS hl)
theorem hv_iand (E : hp_E p s m args meth c cc nL own Ts D cA B0) {y z v : Int32} (hdg : decode cc pc = .ok (.iand, 1)) (hv : z &&& y = v) (k : hp_V p l e R s m args below meth c Q D cA B0 nL ad0 x0 cells slots x (pc + 1) lv (aI v :: rest)) : hp_V p l e R s m args below meth c Q D cA B0 nL ad0 x0 cells slots x pc lv (aI y :: aI z :: rest) := by
  subst hv
  exact fun ad H locs ls hG hx0 hl0 hst hS hl => lv_iand E.1.1 E.1.2.1 hdg (k ad H locs ls hG hx0 hl0 ⟨trivial, hst.2.2⟩ hS hl)
theorem hv_ior (E : hp_E p s m args meth c cc nL own Ts D cA B0) {y z v : Int32} (hdg : decode cc pc = .ok (.ior, 1)) (hv : z ||| y = v) (k : hp_V p l e R s m args below meth c Q D cA B0 nL ad0 x0 cells slots x (pc + 1) lv (aI v :: rest)) : hp_V p l e R s m args below meth c Q D cA B0 nL ad0 x0 cells slots x pc lv (aI y :: aI z :: rest) := by
  subst hv
  exact fun ad H locs ls hG hx0 hl0 hst hS hl => lv_ior E.1.1 E.1.2.1 hdg (k ad H locs ls hG hx0 hl0 ⟨trivial, hst.2.2⟩ hS hl)
theorem hv_ixor (E : hp_E p s m args meth c cc nL own Ts D cA B0) {y z v : Int32} (hdg : decode cc pc = .ok (.ixor, 1)) (hv : z ^^^ y = v) (k : hp_V p l e R s m args below meth c Q D cA B0 nL ad0 x0 cells slots x (pc + 1) lv (aI v :: rest)) : hp_V p l e R s m args below meth c Q D cA B0 nL ad0 x0 cells slots x pc lv (aI y :: aI z :: rest) := by
  subst hv
  exact fun ad H locs ls hG hx0 hl0 hst hS hl => lv_ixor E.1.1 E.1.2.1 hdg (k ad H locs ls hG hx0 hl0 ⟨trivial, hst.2.2⟩ hS hl)
theorem hv_ishl (E : hp_E p s m args meth c cc nL own Ts D cA B0) {y z v : Int32} (hdg : decode cc pc = .ok (.ishl, 1)) (hv : z <<< (y &&& 31) = v) (k : hp_V p l e R s m args below meth c Q D cA B0 nL ad0 x0 cells slots x (pc + 1) lv (aI v :: rest)) : hp_V p l e R s m args below meth c Q D cA B0 nL ad0 x0 cells slots x pc lv (aI y :: aI z :: rest) := by
  subst hv
  exact fun ad H locs ls hG hx0 hl0 hst hS hl => lv_ishl E.1.1 E.1.2.1 hdg (k ad H locs ls hG hx0 hl0 ⟨trivial, hst.2.2⟩ hS hl)
theorem hv_ishr (E : hp_E p s m args meth c cc nL own Ts D cA B0) {y z v : Int32} (hdg : decode cc pc = .ok (.ishr, 1)) (hv : z >>> (y &&& 31) = v) (k : hp_V p l e R s m args below meth c Q D cA B0 nL ad0 x0 cells slots x (pc + 1) lv (aI v :: rest)) : hp_V p l e R s m args below meth c Q D cA B0 nL ad0 x0 cells slots x pc lv (aI y :: aI z :: rest) := by
  subst hv
  exact fun ad H locs ls hG hx0 hl0 hst hS hl => lv_ishr E.1.1 E.1.2.1 hdg (k ad H locs ls hG hx0 hl0 ⟨trivial, hst.2.2⟩ hS hl)
theorem hv_ladd (E : hp_E p s m args meth c cc nL own Ts D cA B0) {y z v : Int64} (hdg : decode cc pc = .ok (.ladd, 1)) (hv : z + y = v) (k : hp_V p l e R s m args below meth c Q D cA B0 nL ad0 x0 cells slots x (pc + 1) lv (aL v :: rest)) : hp_V p l e R s m args below meth c Q D cA B0 nL ad0 x0 cells slots x pc lv (aL y :: aL z :: rest) := by
  subst hv
  exact fun ad H locs ls hG hx0 hl0 hst hS hl => lv_ladd E.1.1 E.1.2.1 hdg (k ad H locs ls hG hx0 hl0 ⟨trivial, hst.2.2⟩ hS hl)
theorem hv_lsub (E : hp_E p s m args meth c cc nL own Ts D cA B0) {y z v : Int64} (hdg : decode cc pc = .ok (.lsub, 1)) (hv : z - y = v) (k : hp_V p l e R s m args below meth c Q D cA B0 nL ad0 x0 cells slots x (pc + 1) lv (aL v :: rest)) : hp_V p l e R s m args below meth c Q D cA B0 nL ad0 x0 cells slots x pc lv (aL y :: aL z :: rest) := by
  subst hv
  exact fun ad H locs ls hG hx0 hl0 hst hS hl => lv_lsub E.1.1 E.1.2.1 hdg (k ad H locs ls hG hx0 hl0 ⟨trivial, hst.2.2⟩ hS hl)
theorem hv_lmul (E : hp_E p s m args meth c cc nL own Ts D cA B0) {y z v : Int64} (hdg : decode cc pc = .ok (.lmul, 1)) (hv : z * y = v) (k : hp_V p l e R s m args below meth c Q D cA B0 nL ad0 x0 cells slots x (pc + 1) lv (aL v :: rest)) : hp_V p l e R s m args below meth c Q D cA B0 nL ad0 x0 cells slots x pc lv (aL y :: aL z :: rest) := by
  subst hv
  exact fun ad H locs ls hG hx0 hl0 hst hS hl => lv_lmul E.1.1 E.1.2.1 hdg (k ad H locs ls hG hx0 hl0 ⟨trivial, hst.2.2⟩ hS hl)
theorem hv_land (E : hp_E p s m args meth c cc nL own Ts D cA B0) {y z v : Int64} (hdg : decode cc pc = .ok (.land, 1)) (hv : z &&& y = v) (k : hp_V p l e R s m args below meth c Q D cA B0 nL ad0 x0 cells slots x (pc + 1) lv (aL v :: rest)) : hp_V p l e R s m args below meth c Q D cA B0 nL ad0 x0 cells slots x pc lv (aL y :: aL z :: rest) := by
  subst hv
  exact fun ad H locs ls hG hx0 hl0 hst hS hl => lv_land E.1.1 E.1.2.1 hdg (k ad H locs ls hG hx0 hl0 ⟨trivial, hst.2.2⟩ hS hl)
theorem hv_lor (E : hp_E p s m args meth c cc nL own Ts D cA B0) {y z v : Int64} (hdg : decode cc pc = .ok (.lor, 1)) (hv : z ||| y = v) (k : hp_V p l e R s m args below meth c Q D cA B0 nL ad0 x0 cells slots x (pc + 1) lv (aL v :: rest)) : hp_V p l e R s m args below meth c Q D cA B0 nL ad0 x0 cells slots x pc lv (aL y :: aL z :: rest) := by
  subst hv
  exact fun ad H locs ls hG hx0 hl0 hst hS hl => lv_lor E.1.1 E.1.2.1 hdg (k ad H locs ls hG hx0 hl0 ⟨trivial, hst.2.2⟩ hS hl)
theorem hv_lxor (E : hp_E p s m args meth c cc nL own Ts D cA B0) {y z v : Int64} (hdg : decode cc pc = .ok (.lxor, 1)) (hv : z ^^^ y = v) (k : hp_V p l e R s m args below meth c Q D cA B0 nL ad0 x0 cells slots x (pc + 1) lv (aL v :: rest)) : hp_V p l e R s m args below meth c Q D cA B0 nL ad0 x0 cells slots x pc lv (aL y :: aL z :: rest) := by
  subst hv
  exact fun ad H locs ls hG hx0 hl0 hst hS hl => lv_lxor E.1.1 E.1.2.1 hdg (k ad H locs ls hG hx0 hl0 ⟨trivial, hst.2.2⟩ hS hl)
theorem hv_lrem (E : hp_E p s m args meth c cc nL own Ts D cA B0) {y z v : Int64} (hdg : decode cc pc = .ok (.lrem, 1)) (hne : ¬ y = 0) (hv : z - z / y * y = v) (k : hp_V p l e R s m args below meth c Q D cA B0 nL ad0 x0 cells slots x (pc + 1) lv (aL v :: rest)) : hp_V p l e R s m args below meth c Q D cA B0 nL ad0 x0 cells slots x pc lv (aL y :: aL z :: rest) := by
  subst hv
  exact fun ad H locs ls hG hx0 hl0 hst hS hl => lv_lrem E.1.1 E.1.2.1 hdg hne (k ad H locs ls hG hx0 hl0 ⟨trivial, hst.2.2⟩ hS hl)
theorem hv_ldiv (E : hp_E p s m args meth c cc nL own Ts D cA B0) {y z v : Int64} (hdg : decode cc pc = .ok (.ldiv, 1)) (hne : ¬ y = 0) (hv : z / y = v) (k : hp_V p l e R s m args below meth c Q D cA B0 nL ad0 x0 cells slots x (pc + 1) lv (aL v :: rest)) : hp_V p l e R s m args below meth c Q D cA B0 nL ad0 x0 cells slots x pc lv (aL y :: aL z :: rest) := by
  subst hv
  exact fun ad H locs ls hG hx0 hl0 hst hS hl => lv_ldiv E.1.1 E.1.2.1 hdg hne (k ad H locs ls hG hx0 hl0 ⟨trivial, hst.2.2⟩ hS hl)
theorem hv_irem (E : hp_E p s m args meth c cc nL own Ts D cA B0) {y z v : Int32} (hdg : decode cc pc = .ok (.irem, 1)) (hne : ¬ y = 0) (hv : z - z / y * y = v) (k : hp_V p l e R s m args below meth c Q D cA B0 nL ad0 x0 cells slots x (pc + 1) lv (aI v :: rest)) : hp_V p l e R s m args below meth c Q D cA B0 nL ad0 x0 cells slots x pc lv (aI y :: aI z :: rest) := by
  subst hv
  exact fun ad H locs ls hG hx0 hl0 hst hS hl => lv_irem E.1.1 E.1.2.1 hdg hne (k ad H locs ls hG hx0 hl0 ⟨trivial, hst.2.2⟩ hS hl)
theorem hv_idiv (E : hp_E p s m args meth c cc nL own Ts D cA B0) {y z v : Int32} (hdg : decode cc pc = .ok (.idiv, 1)) (hne : ¬ y = 0) (hv : z / y = v) (k : hp_V p l e R s m args below meth c Q D cA B0 nL ad0 x0 cells slots x (pc + 1) lv (aI v :: rest)) : hp_V p l e R s m args below meth c Q D cA B0 nL ad0 x0 cells slots x pc lv (aI y :: aI z :: rest) := by
  subst hv
  exact fun ad H locs ls hG hx0 hl0 hst hS hl => lv_idiv E.1.1 E.1.2.1 hdg hne (k ad H locs ls hG hx0 hl0 ⟨trivial, hst.2.2⟩ hS hl)
theorem hv_iushr (E : hp_E p s m args meth c cc nL own Ts D cA B0) {y z v : Int32} (hdg : decode cc pc = .ok (.iushr, 1)) (hv : (z.toUInt32 >>> (y.toUInt32 &&& Int32.toUInt32 31)).toInt32 = v) (k : hp_V p l e R s m args below meth c Q D cA B0 nL ad0 x0 cells slots x (pc + 1) lv (aI v :: rest)) : hp_V p l e R s m args below meth c Q D cA B0 nL ad0 x0 cells slots x pc lv (aI y :: aI z :: rest) := fun ad H locs ls hG hx0 hl0 hst hS hl => lv_iushr E.1.1 E.1.2.1 hdg hv (k ad H locs ls hG hx0 hl0 ⟨trivial, hst.2.2⟩ hS hl)
theorem hv_lushr (E : hp_E p s m args meth c cc nL own Ts D cA B0) {y : Int32} {z v : Int64} (hdg : decode cc pc = .ok (.lushr, 1)) (hv : (z.toUInt64 >>> (y.toInt64.toUInt64 &&& Int64.toUInt64 63)).toInt64 = v) (k : hp_V p l e R s m args below meth c Q D cA B0 nL ad0 x0 cells slots x (pc + 1) lv (aL v :: rest)) : hp_V p l e R s m args below meth c Q D cA B0 nL ad0 x0 cells slots x pc lv (aI y :: aL z :: rest) := fun ad H locs ls hG hx0 hl0 hst hS hl => lv_lushr E.1.1 E.1.2.1 hdg hv (k ad H locs ls hG hx0 hl0 ⟨trivial, hst.2.2⟩ hS hl)
theorem hv_lshl (E : hp_E p s m args meth c cc nL own Ts D cA B0) {y : Int32} {z v : Int64} (hdg : decode cc pc = .ok (.lshl, 1)) (hv : z <<< (y.toInt64 &&& 63) = v) (k : hp_V p l e R s m args below meth c Q D cA B0 nL ad0 x0 cells slots x (pc + 1) lv (aL v :: rest)) : hp_V p l e R s m args below meth c Q D cA B0 nL ad0 x0 cells slots x pc lv (aI y :: aL z :: rest) := fun ad H locs ls hG hx0 hl0 hst hS hl => lv_lshl E.1.1 E.1.2.1 hdg hv (k ad H locs ls hG hx0 hl0 ⟨trivial, hst.2.2⟩ hS hl)
theorem hv_i2l (E : hp_E p s m args meth c cc nL own Ts D cA B0) {z : Int32} {v : Int64} (hdg : decode cc pc = .ok (.i2l, 1)) (hv : z.toInt64 = v) (k : hp_V p l e R s m args below meth c Q D cA B0 nL ad0 x0 cells slots x (pc + 1) lv (aL v :: rest)) : hp_V p l e R s m args below meth c Q D cA B0 nL ad0 x0 cells slots x pc lv (aI z :: rest) := fun ad H locs ls hG hx0 hl0 hst hS hl => lv_i2l E.1.1 E.1.2.1 hdg hv (k ad H locs ls hG hx0 hl0 ⟨trivial, hst.2⟩ hS hl)
theorem hv_l2i (E : hp_E p s m args meth c cc nL own Ts D cA B0) {z : Int64} {v : Int32} (hdg : decode cc pc = .ok (.l2i, 1)) (hv : z.toInt32 = v) (k : hp_V p l e R s m args below meth c Q D cA B0 nL ad0 x0 cells slots x (pc + 1) lv (aI v :: rest)) : hp_V p l e R s m args below meth c Q D cA B0 nL ad0 x0 cells slots x pc lv (aL z :: rest) := fun ad H locs ls hG hx0 hl0 hst hS hl => lv_l2i E.1.1 E.1.2.1 hdg hv (k ad H locs ls hG hx0 hl0 ⟨trivial, hst.2⟩ hS hl)
theorem hv_lcmp (E : hp_E p s m args meth c cc nL own Ts D cA B0) {y z : Int64} (hdg : decode cc pc = .ok (.lcmp, 1)) (k : hp_V p l e R s m args below meth c Q D cA B0 nL ad0 x0 cells slots x (pc + 1) lv (aI (lg_cmp z y) :: rest)) : hp_V p l e R s m args below meth c Q D cA B0 nL ad0 x0 cells slots x pc lv (aL y :: aL z :: rest) := fun ad H locs ls hG hx0 hl0 hst hS hl => W.lcmp E.1.1 E.1.2.1 hdg (k ad H locs ls hG hx0 hl0 ⟨trivial, hst.2.2⟩ hS hl)
theorem hv_ldc (E : hp_E p s m args meth c cc nL own Ts D cA B0) {index : Nat} {v : Int32} (hc : Cond.constant own index v ∈ Ts) (hdg : decode cc pc = .ok (.ldc index, 2)) (k : hp_V p l e R s m args below meth c Q D cA B0 nL ad0 x0 cells slots x (pc + 2) lv (aI v :: rest)) : hp_V p l e R s m args below meth c Q D cA B0 nL ad0 x0 cells slots x pc lv rest := fun ad H locs ls hG hx0 hl0 hst hS hl => lv_ldc E.1.1 E.1.2.1 E.1.2.2.2.1 (E.1.2.2.2.2 _ hc) hdg (k ad H locs ls hG hx0 hl0 ⟨trivial, hst⟩ hS hl)
theorem hv_ldc2 (E : hp_E p s m args meth c cc nL own Ts D cA B0) {index : Nat} {v : Int64} (hc : Cond.constantLong own index v ∈ Ts) (hdg : decode cc pc = .ok (.ldc2_w index, 3)) (k : hp_V p l e R s m args below meth c Q D cA B0 nL ad0 x0 cells slots x (pc + 3) lv (aL v :: rest)) : hp_V p l e R s m args below meth c Q D cA B0 nL ad0 x0 cells slots x pc lv rest := fun ad H locs ls hG hx0 hl0 hst hS hl => lv_ldc2 E.1.1 E.1.2.1 E.1.2.2.2.1 (E.1.2.2.2.2 _ hc) hdg (k ad H locs ls hG hx0 hl0 ⟨trivial, hst⟩ hS hl)
theorem hv_dup (E : hp_E p s m args meth c cc nL own Ts D cA B0) {va : hp_A} (hdg : decode cc pc = .ok (.dup, 1)) (hc : hp_cat va = 1) (k : hp_V p l e R s m args below meth c Q D cA B0 nL ad0 x0 cells slots x (pc + 1) lv (va :: va :: rest)) : hp_V p l e R s m args below meth c Q D cA B0 nL ad0 x0 cells slots x pc lv (va :: rest) := fun ad H locs ls hG hx0 hl0 hst hS hl => lv_dup E.1.1 E.1.2.1 hdg (by rw [hp_cat_eq]; exact hc) (k ad H locs ls hG hx0 hl0 ⟨hst.1, hst⟩ hS hl)
theorem hv_dup2 (E : hp_E p s m args meth c cc nL own Ts D cA B0) {va vb : hp_A} (hdg : decode cc pc = .ok (.dup2, 1)) (hc : hp_cat va = 1) (hc2 : hp_cat vb = 1) (k : hp_V p l e R s m args below meth c Q D cA B0 nL ad0 x0 cells slots x (pc + 1) lv (va :: vb :: va :: vb :: rest)) : hp_V p l e R s m args below meth c Q D cA B0 nL ad0 x0 cells slots x pc lv (va :: vb :: rest) := fun ad H locs ls hG hx0 hl0 hst hS hl => lv_dup2_11 E.1.1 E.1.2.1 hdg (by rw [hp_cat_eq]; exact hc) (by rw [hp_cat_eq]; exact hc2) (k ad H locs ls hG hx0 hl0 ⟨hst.1, hst.2.1, hst⟩ hS hl)
theorem hv_pop (E : hp_E p s m args meth c cc nL own Ts D cA B0) {va : hp_A} (hdg : decode cc pc = .ok (.pop, 1)) (hc : hp_cat va = 1) (k : hp_V p l e R s m args below meth c Q D cA B0 nL ad0 x0 cells slots x (pc + 1) lv rest) : hp_V p l e R s m args below meth c Q D cA B0 nL ad0 x0 cells slots x pc lv (va :: rest) := fun ad H locs ls hG hx0 hl0 hst hS hl => lv_pop E.1.1 E.1.2.1 hdg (by rw [hp_cat_eq]; exact hc) (k ad H locs ls hG hx0 hl0 hst.2 hS hl)
theorem hv_null (E : hp_E p s m args meth c cc nL own Ts D cA B0) (hdg : decode cc pc = .ok (.aconst_null, 1)) (k : hp_V p l e R s m args below meth c Q D cA B0 nL ad0 x0 cells slots x (pc + 1) lv (aN :: rest)) : hp_V p l e R s m args below meth c Q D cA B0 nL ad0 x0 cells slots x pc lv rest := fun ad H locs ls hG hx0 hl0 hst hS hl => lv_null E.1.1 E.1.2.1 hdg (k ad H locs ls hG hx0 hl0 ⟨trivial, hst⟩ hS hl)
theorem hv_goto (E : hp_E p s m args meth c cc nL own Ts D cA B0) {off : Int} {tgt : Nat} (hdg : decode cc pc = .ok (.goto off, 3)) (ht : (pc : Int) + off = (tgt : Int)) (k : hp_V p l e R s m args below meth c Q D cA B0 nL ad0 x0 cells slots x tgt lv rest) : hp_V p l e R s m args below meth c Q D cA B0 nL ad0 x0 cells slots x pc lv rest := fun ad H locs ls hG hx0 hl0 hst hS hl => lv_goto E.1.1 E.1.2.1 hdg ht (k ad H locs ls hG hx0 hl0 hst hS hl)
theorem hv_if_eq (E : hp_E p s m args meth c cc nL own Ts D cA B0) {z : Int32} {off : Int} {tgt : Nat} (hdg : decode cc pc = .ok (.ifCond .eq off, 3)) (ht : (pc : Int) + off = (tgt : Int)) (kt : z = 0 → hp_V p l e R s m args below meth c Q D cA B0 nL ad0 x0 cells slots x tgt lv rest) (kf : ¬ z = 0 → hp_V p l e R s m args below meth c Q D cA B0 nL ad0 x0 cells slots x (pc + 3) lv rest) : hp_V p l e R s m args below meth c Q D cA B0 nL ad0 x0 cells slots x pc lv (aI z :: rest) := fun ad H locs ls hG hx0 hl0 hst hS hl => lv_if_eq E.1.1 E.1.2.1 hdg ht (fun h => kt h ad H locs ls hG hx0 hl0 hst.2 hS hl) (fun h => kf h ad H locs ls hG hx0 hl0 hst.2 hS hl)
theorem hv_if_ne (E : hp_E p s m args meth c cc nL own Ts D cA B0) {z : Int32} {off : Int} {tgt : Nat} (hdg : decode cc pc = .ok (.ifCond .ne off, 3)) (ht : (pc : Int) + off = (tgt : Int)) (kt : ¬ z = 0 → hp_V p l e R s m args below meth c Q D cA B0 nL ad0 x0 cells slots x tgt lv rest) (kf : z = 0 → hp_V p l e R s m args below meth c Q D cA B0 nL ad0 x0 cells slots x (pc + 3) lv rest) : hp_V p l e R s m args below meth c Q D cA B0 nL ad0 x0 cells slots x pc lv (aI z :: rest) := fun ad H locs ls hG hx0 hl0 hst hS hl => lv_if_ne E.1.1 E.1.2.1 hdg ht (fun h => kt h ad H locs ls hG hx0 hl0 hst.2 hS hl) (fun h => kf h ad H locs ls hG hx0 hl0 hst.2 hS hl)
theorem hv_if_lt (E : hp_E p s m args meth c cc nL own Ts D cA B0) {z : Int32} {off : Int} {tgt : Nat} (hdg : decode cc pc = .ok (.ifCond .lt off, 3)) (ht : (pc : Int) + off = (tgt : Int)) (kt : z < 0 → hp_V p l e R s m args below meth c Q D cA B0 nL ad0 x0 cells slots x tgt lv rest) (kf : ¬ z < 0 → hp_V p l e R s m args below meth c Q D cA B0 nL ad0 x0 cells slots x (pc + 3) lv rest) : hp_V p l e R s m args below meth c Q D cA B0 nL ad0 x0 cells slots x pc lv (aI z :: rest) := fun ad H locs ls hG hx0 hl0 hst hS hl => lv_if_lt E.1.1 E.1.2.1 hdg ht (fun h => kt h ad H locs ls hG hx0 hl0 hst.2 hS hl) (fun h => kf h ad H locs ls hG hx0 hl0 hst.2 hS hl)
theorem hv_if_ge (E : hp_E p s m args meth c cc nL own Ts D cA B0) {z : Int32} {off : Int} {tgt : Nat} (hdg : decode cc pc = .ok (.ifCond .ge off, 3)) (ht : (pc : Int) + off = (tgt : Int)) (kt : 0 ≤ z → hp_V p l e R s m args below meth c Q D cA B0 nL ad0 x0 cells slots x tgt lv rest) (kf : ¬ 0 ≤ z → hp_V p l e R s m args below meth c Q D cA B0 nL ad0 x0 cells slots x (pc + 3) lv rest) : hp_V p l e R s m args below meth c Q D cA B0 nL ad0 x0 cells slots x pc lv (aI z :: rest) := fun ad H locs ls hG hx0 hl0 hst hS hl => lv_if_ge E.1.1 E.1.2.1 hdg ht (fun h => kt h ad H locs ls hG hx0 hl0 hst.2 hS hl) (fun h => kf h ad H locs ls hG hx0 hl0 hst.2 hS hl)
theorem hv_if_gt (E : hp_E p s m args meth c cc nL own Ts D cA B0) {z : Int32} {off : Int} {tgt : Nat} (hdg : decode cc pc = .ok (.ifCond .gt off, 3)) (ht : (pc : Int) + off = (tgt : Int)) (kt : 0 < z → hp_V p l e R s m args below meth c Q D cA B0 nL ad0 x0 cells slots x tgt lv rest) (kf : ¬ 0 < z → hp_V p l e R s m args below meth c Q D cA B0 nL ad0 x0 cells slots x (pc + 3) lv rest) : hp_V p l e R s m args below meth c Q D cA B0 nL ad0 x0 cells slots x pc lv (aI z :: rest) := fun ad H locs ls hG hx0 hl0 hst hS hl => lv_if_gt E.1.1 E.1.2.1 hdg ht (fun h => kt h ad H locs ls hG hx0 hl0 hst.2 hS hl) (fun h => kf h ad H locs ls hG hx0 hl0 hst.2 hS hl)
theorem hv_if_le (E : hp_E p s m args meth c cc nL own Ts D cA B0) {z : Int32} {off : Int} {tgt : Nat} (hdg : decode cc pc = .ok (.ifCond .le off, 3)) (ht : (pc : Int) + off = (tgt : Int)) (kt : z ≤ 0 → hp_V p l e R s m args below meth c Q D cA B0 nL ad0 x0 cells slots x tgt lv rest) (kf : ¬ z ≤ 0 → hp_V p l e R s m args below meth c Q D cA B0 nL ad0 x0 cells slots x (pc + 3) lv rest) : hp_V p l e R s m args below meth c Q D cA B0 nL ad0 x0 cells slots x pc lv (aI z :: rest) := fun ad H locs ls hG hx0 hl0 hst hS hl => lv_if_le E.1.1 E.1.2.1 hdg ht (fun h => kt h ad H locs ls hG hx0 hl0 hst.2 hS hl) (fun h => kf h ad H locs ls hG hx0 hl0 hst.2 hS hl)
theorem hv_icmp_eq (E : hp_E p s m args meth c cc nL own Ts D cA B0) {y z : Int32} {off : Int} {tgt : Nat} (hdg : decode cc pc = .ok (.if_icmp .eq off, 3)) (ht : (pc : Int) + off = (tgt : Int)) (kt : z = y → hp_V p l e R s m args below meth c Q D cA B0 nL ad0 x0 cells slots x tgt lv rest) (kf : ¬ z = y → hp_V p l e R s m args below meth c Q D cA B0 nL ad0 x0 cells slots x (pc + 3) lv rest) : hp_V p l e R s m args below meth c Q D cA B0 nL ad0 x0 cells slots x pc lv (aI y :: aI z :: rest) := fun ad H locs ls hG hx0 hl0 hst hS hl => lv_icmp_eq E.1.1 E.1.2.1 hdg ht (fun h => kt h ad H locs ls hG hx0 hl0 hst.2.2 hS hl) (fun h => kf h ad H locs ls hG hx0 hl0 hst.2.2 hS hl)
theorem hv_icmp_ne (E : hp_E p s m args meth c cc nL own Ts D cA B0) {y z : Int32} {off : Int} {tgt : Nat} (hdg : decode cc pc = .ok (.if_icmp .ne off, 3)) (ht : (pc : Int) + off = (tgt : Int)) (kt : ¬ z = y → hp_V p l e R s m args below meth c Q D cA B0 nL ad0 x0 cells slots x tgt lv rest) (kf : z = y → hp_V p l e R s m args below meth c Q D cA B0 nL ad0 x0 cells slots x (pc + 3) lv rest) : hp_V p l e R s m args below meth c Q D cA B0 nL ad0 x0 cells slots x pc lv (aI y :: aI z :: rest) := fun ad H locs ls hG hx0 hl0 hst hS hl => lv_icmp_ne E.1.1 E.1.2.1 hdg ht (fun h => kt h ad H locs ls hG hx0 hl0 hst.2.2 hS hl) (fun h => kf h ad H locs ls hG hx0 hl0 hst.2.2 hS hl)
theorem hv_icmp_lt (E : hp_E p s m args meth c cc nL own Ts D cA B0) {y z : Int32} {off : Int} {tgt : Nat} (hdg : decode cc pc = .ok (.if_icmp .lt off, 3)) (ht : (pc : Int) + off = (tgt : Int)) (kt : z < y → hp_V p l e R s m args below meth c Q D cA B0 nL ad0 x0 cells slots x tgt lv rest) (kf : ¬ z < y → hp_V p l e R s m args below meth c Q D cA B0 nL ad0 x0 cells slots x (pc + 3) lv rest) : hp_V p l e R s m args below meth c Q D cA B0 nL ad0 x0 cells slots x pc lv (aI y :: aI z :: rest) := fun ad H locs ls hG hx0 hl0 hst hS hl => lv_icmp_lt E.1.1 E.1.2.1 hdg ht (fun h => kt h ad H locs ls hG hx0 hl0 hst.2.2 hS hl) (fun h => kf h ad H locs ls hG hx0 hl0 hst.2.2 hS hl)
theorem hv_icmp_ge (E : hp_E p s m args meth c cc nL own Ts D cA B0) {y z : Int32} {off : Int} {tgt : Nat} (hdg : decode cc pc = .ok (.if_icmp .ge off, 3)) (ht : (pc : Int) + off = (tgt : Int)) (kt : y ≤ z → hp_V p l e R s m args below meth c Q D cA B0 nL ad0 x0 cells slots x tgt lv rest) (kf : ¬ y ≤ z → hp_V p l e R s m args below meth c Q D cA B0 nL ad0 x0 cells slots x (pc + 3) lv rest) : hp_V p l e R s m args below meth c Q D cA B0 nL ad0 x0 cells slots x pc lv (aI y :: aI z :: rest) := fun ad H locs ls hG hx0 hl0 hst hS hl => lv_icmp_ge E.1.1 E.1.2.1 hdg ht (fun h => kt h ad H locs ls hG hx0 hl0 hst.2.2 hS hl) (fun h => kf h ad H locs ls hG hx0 hl0 hst.2.2 hS hl)
theorem hv_icmp_gt (E : hp_E p s m args meth c cc nL own Ts D cA B0) {y z : Int32} {off : Int} {tgt : Nat} (hdg : decode cc pc = .ok (.if_icmp .gt off, 3)) (ht : (pc : Int) + off = (tgt : Int)) (kt : y < z → hp_V p l e R s m args below meth c Q D cA B0 nL ad0 x0 cells slots x tgt lv rest) (kf : ¬ y < z → hp_V p l e R s m args below meth c Q D cA B0 nL ad0 x0 cells slots x (pc + 3) lv rest) : hp_V p l e R s m args below meth c Q D cA B0 nL ad0 x0 cells slots x pc lv (aI y :: aI z :: rest) := fun ad H locs ls hG hx0 hl0 hst hS hl => lv_icmp_gt E.1.1 E.1.2.1 hdg ht (fun h => kt h ad H locs ls hG hx0 hl0 hst.2.2 hS hl) (fun h => kf h ad H locs ls hG hx0 hl0 hst.2.2 hS hl)
theorem hv_icmp_le (E : hp_E p s m args meth c cc nL own Ts D cA B0) {y z : Int32} {off : Int} {tgt : Nat} (hdg : decode cc pc = .ok (.if_icmp .le off, 3)) (ht : (pc : Int) + off = (tgt : Int)) (kt : z ≤ y → hp_V p l e R s m args below meth c Q D cA B0 nL ad0 x0 cells slots x tgt lv rest) (kf : ¬ z ≤ y → hp_V p l e R s m args below meth c Q D cA B0 nL ad0 x0 cells slots x (pc + 3) lv rest) : hp_V p l e R s m args below meth c Q D cA B0 nL ad0 x0 cells slots x pc lv (aI y :: aI z :: rest) := fun ad H locs ls hG hx0 hl0 hst hS hl => lv_icmp_le E.1.1 E.1.2.1 hdg ht (fun h => kt h ad H locs ls hG hx0 hl0 hst.2.2 hS hl) (fun h => kf h ad H locs ls hG hx0 hl0 hst.2.2 hS hl)
theorem hv_ifnull (E : hp_E p s m args meth c cc nL own Ts D cA B0) {t : hp_T} {off : Int} (hdg : decode cc pc = .ok (.ifnull off, 3)) (k : hp_V p l e R s m args below meth c Q D cA B0 nL ad0 x0 cells slots x (pc + 3) lv rest) : hp_V p l e R s m args below meth c Q D cA B0 nL ad0 x0 cells slots x pc lv (aR t :: rest) := fun ad H locs ls hG hx0 hl0 hst hS hl => lv_ifnull E.1.1 E.1.2.1 hdg (k ad H locs ls hG hx0 hl0 hst.2 hS hl)
theorem hv_ifnonnull (E : hp_E p s m args meth c cc nL own Ts D cA B0) {t : hp_T} {off : Int} {tgt : Nat} (hdg : decode cc pc = .ok (.ifnonnull off, 3)) (ht : (pc : Int) + off = (tgt : Int)) (k : hp_V p l e R s m args below meth c Q D cA B0 nL ad0 x0 cells slots x tgt lv rest) : hp_V p l e R s m args below meth c Q D cA B0 nL ad0 x0 cells slots x pc lv (aR t :: rest) := fun ad H locs ls hG hx0 hl0 hst hS hl => lv_ifnonnull E.1.1 E.1.2.1 hdg ht (k ad H locs ls hG hx0 hl0 hst.2 hS hl)
theorem hv_ifnullN (E : hp_E p s m args meth c cc nL own Ts D cA B0) {off : Int} {tgt : Nat} (hdg : decode cc pc = .ok (.ifnull off, 3)) (ht : (pc : Int) + off = (tgt : Int)) (k : hp_V p l e R s m args below meth c Q D cA B0 nL ad0 x0 cells slots x tgt lv rest) : hp_V p l e R s m args below meth c Q D cA B0 nL ad0 x0 cells slots x pc lv (aN :: rest) := fun ad H locs ls hG hx0 hl0 hst hS hl => lv_ifnullN E.1.1 E.1.2.1 hdg ht (k ad H locs ls hG hx0 hl0 hst.2 hS hl)
theorem hv_ifnonnullN (E : hp_E p s m args meth c cc nL own Ts D cA B0) {off : Int} (hdg : decode cc pc = .ok (.ifnonnull off, 3)) (k : hp_V p l e R s m args below meth c Q D cA B0 nL ad0 x0 cells slots x (pc + 3) lv rest) : hp_V p l e R s m args below meth c Q D cA B0 nL ad0 x0 cells slots x pc lv (aN :: rest) := fun ad H locs ls hG hx0 hl0 hst hS hl => lv_ifnonnullN E.1.1 E.1.2.1 hdg (k ad H locs ls hG hx0 hl0 hst.2 hS hl)
theorem hv_tableIn (E : hp_E p s m args meth c cc nL own Ts D cA B0) {dflt lo hi : Int} {offs : Array Int} {len : Nat} {z : Int32} {off : Int} {tgt : Nat} (hdg : decode cc pc = .ok (.tableswitch dflt lo hi offs, len)) (h1 : ¬ z.toInt < lo) (h2 : ¬ hi < z.toInt) (ho : offs[(z.toInt - lo).toNat]? = some off) (ht : (pc : Int) + off = (tgt : Int)) (k : hp_V p l e R s m args below meth c Q D cA B0 nL ad0 x0 cells slots x tgt lv rest) : hp_V p l e R s m args below meth c Q D cA B0 nL ad0 x0 cells slots x pc lv (aI z :: rest) := fun ad H locs ls hG hx0 hl0 hst hS hl => lv_tableIn E.1.1 E.1.2.1 hdg h1 h2 ho ht (k ad H locs ls hG hx0 hl0 hst.2 hS hl)
theorem hv_tableOut (E : hp_E p s m args meth c cc nL own Ts D cA B0) {dflt lo hi : Int} {offs : Array Int} {len : Nat} {z : Int32} {tgt : Nat} (hdg : decode cc pc = .ok (.tableswitch dflt lo hi offs, len)) (h : z.toInt < lo ∨ hi < z.toInt) (ht : (pc : Int) + dflt = (tgt : Int)) (k : hp_V p l e R s m args below meth c Q D cA B0 nL ad0 x0 cells slots x tgt lv rest) : hp_V p l e R s m args below meth c Q D cA B0 nL ad0 x0 cells slots x pc lv (aI z :: rest) := fun ad H locs ls hG hx0 hl0 hst hS hl => lv_tableOut E.1.1 E.1.2.1 hdg h ht (k ad H locs ls hG hx0 hl0 hst.2 hS hl)
theorem hv_iload_n (E : hp_E p s m args meth c cc nL own Ts D cA B0) {n : Fin 4} {i : Nat} {v : Int32} (hdg : decode cc pc = .ok (.iload_n n, 1)) (hi : (n : Nat) = i) (j : Nat) (hj : lv[j]? = some (i, aI v)) (k : hp_V p l e R s m args below meth c Q D cA B0 nL ad0 x0 cells slots x (pc + 1) lv (aI v :: rest)) : hp_V p l e R s m args below meth c Q D cA B0 nL ad0 x0 cells slots x pc lv rest := fun ad H locs ls hG hx0 hl0 hst hS hl => lv_iload_n E.1.1 E.1.2.1 hdg hi (lv_at hl j (hp_cl_at hj)) (k ad H locs ls hG hx0 hl0 ⟨trivial, hst⟩ hS hl)
theorem hv_iload (E : hp_E p s m args meth c cc nL own Ts D cA B0) {i : Nat} {v : Int32} (hdg : decode cc pc = .ok (.iload i, 2)) (j : Nat) (hj : lv[j]? = some (i, aI v)) (k : hp_V p l e R s m args below meth c Q D cA B0 nL ad0 x0 cells slots x (pc + 2) lv (aI v :: rest)) : hp_V p l e R s m args below meth c Q D cA B0 nL ad0 x0 cells slots x pc lv rest := fun ad H locs ls hG hx0 hl0 hst hS hl => lv_iload E.1.1 E.1.2.1 hdg (lv_at hl j (hp_cl_at hj)) (k ad H locs ls hG hx0 hl0 ⟨trivial, hst⟩ hS hl)
theorem hv_lload_n (E : hp_E p s m args meth c cc nL own Ts D cA B0) {n : Fin 4} {i : Nat} {v : Int64} (hdg : decode cc pc = .ok (.lload_n n, 1)) (hi : (n : Nat) = i) (j : Nat) (hj : lv[j]? = some (i, aL v)) (k : hp_V p l e R s m args below meth c Q D cA B0 nL ad0 x0 cells slots x (pc + 1) lv (aL v :: rest)) : hp_V p l e R s m args below meth c Q D cA B0 nL ad0 x0 cells slots x pc lv rest := fun ad H locs ls hG hx0 hl0 hst hS hl => lv_lload_n E.1.1 E.1.2.1 hdg hi (lv_at hl j (hp_cl_at hj)) (k ad H locs ls hG hx0 hl0 ⟨trivial, hst⟩ hS hl)
theorem hv_lload (E : hp_E p s m args meth c cc nL own Ts D cA B0) {i : Nat} {v : Int64} (hdg : decode cc pc = .ok (.lload i, 2)) (j : Nat) (hj : lv[j]? = some (i, aL v)) (k : hp_V p l e R s m args below meth c Q D cA B0 nL ad0 x0 cells slots x (pc + 2) lv (aL v :: rest)) : hp_V p l e R s m args below meth c Q D cA B0 nL ad0 x0 cells slots x pc lv rest := fun ad H locs ls hG hx0 hl0 hst hS hl => lv_lload E.1.1 E.1.2.1 hdg (lv_at hl j (hp_cl_at hj)) (k ad H locs ls hG hx0 hl0 ⟨trivial, hst⟩ hS hl)
theorem hv_aload_n (E : hp_E p s m args meth c cc nL own Ts D cA B0) {n : Fin 4} {i : Nat} {v : hp_T} (hdg : decode cc pc = .ok (.aload_n n, 1)) (hi : (n : Nat) = i) (j : Nat) (hj : lv[j]? = some (i, aR v)) (k : hp_V p l e R s m args below meth c Q D cA B0 nL ad0 x0 cells slots x (pc + 1) lv (aR v :: rest)) : hp_V p l e R s m args below meth c Q D cA B0 nL ad0 x0 cells slots x pc lv rest := fun ad H locs ls hG hx0 hl0 hst hS hl => lv_aload_n E.1.1 E.1.2.1 hdg hi (lv_at hl j (hp_cl_at hj)) (k ad H locs ls hG hx0 hl0 ⟨hp_okl_at hl0 hj, hst⟩ hS hl)
theorem hv_aload (E : hp_E p s m args meth c cc nL own Ts D cA B0) {i : Nat} {v : hp_T} (hdg : decode cc pc = .ok (.aload i, 2)) (j : Nat) (hj : lv[j]? = some (i, aR v)) (k : hp_V p l e R s m args below meth c Q D cA B0 nL ad0 x0 cells slots x (pc + 2) lv (aR v :: rest)) : hp_V p l e R s m args below meth c Q D cA B0 nL ad0 x0 cells slots x pc lv rest := fun ad H locs ls hG hx0 hl0 hst hS hl => lv_aload E.1.1 E.1.2.1 hdg (lv_at hl j (hp_cl_at hj)) (k ad H locs ls hG hx0 hl0 ⟨hp_okl_at hl0 hj, hst⟩ hS hl)
theorem hv_aload_nQ (E : hp_E p s m args meth c cc nL own Ts D cA B0) {n : Fin 4} {i : Nat} {v : Nat} (hdg : decode cc pc = .ok (.aload_n n, 1)) (hi : (n : Nat) = i) (j : Nat) (hj : lv[j]? = some (i, aQ v)) (k : hp_V p l e R s m args below meth c Q D cA B0 nL ad0 x0 cells slots x (pc + 1) lv (aQ v :: rest)) : hp_V p l e R s m args below meth c Q D cA B0 nL ad0 x0 cells slots x pc lv rest := fun ad H locs ls hG hx0 hl0 hst hS hl => lv_aload_n E.1.1 E.1.2.1 hdg hi (lv_at hl j (hp_cl_at hj)) (k ad H locs ls hG hx0 hl0 ⟨hp_okl_at hl0 hj, hst⟩ hS hl)
theorem hv_aloadQ (E : hp_E p s m args meth c cc nL own Ts D cA B0) {i : Nat} {v : Nat} (hdg : decode cc pc = .ok (.aload i, 2)) (j : Nat) (hj : lv[j]? = some (i, aQ v)) (k : hp_V p l e R s m args below meth c Q D cA B0 nL ad0 x0 cells slots x (pc + 2) lv (aQ v :: rest)) : hp_V p l e R s m args below meth c Q D cA B0 nL ad0 x0 cells slots x pc lv rest := fun ad H locs ls hG hx0 hl0 hst hS hl => lv_aload E.1.1 E.1.2.1 hdg (lv_at hl j (hp_cl_at hj)) (k ad H locs ls hG hx0 hl0 ⟨hp_okl_at hl0 hj, hst⟩ hS hl)
theorem hv_istore (E : hp_E p s m args meth c cc nL own Ts D cA B0) {i : Nat} {v : Int32} {lv' : List (Nat × hp_A)} (hdg : decode cc pc = .ok (.istore i, 2)) (hn : i < nL) (hf : hp_f1 i lv = lv') (k : hp_V p l e R s m args below meth c Q D cA B0 nL ad0 x0 cells slots x (pc + 2) ((i, aI v) :: lv') rest) : hp_V p l e R s m args below meth c Q D cA B0 nL ad0 x0 cells slots x pc lv (aI v :: rest) := fun ad H locs ls hG hx0 hl0 hst hS hl => lv_istore E.1.1 E.1.2.1 hdg hl hn rfl (fun ls2 h2 => k ad H locs ls2 hG hx0 (hp_okl_cons hst.1 (by rw [← hf]; exact hp_f1_ok hl0)) hst.2 hS (by rw [hp_f1_cl, hf] at h2; exact h2))
theorem hv_istore_n (E : hp_E p s m args meth c cc nL own Ts D cA B0) {n : Fin 4} {i : Nat} {v : Int32} {lv' : List (Nat × hp_A)} (hdg : decode cc pc = .ok (.istore_n n, 1)) (hi : (n : Nat) = i) (hn : i < nL) (hf : hp_f1 i lv = lv') (k : hp_V p l e R s m args below meth c Q D cA B0 nL ad0 x0 cells slots x (pc + 1) ((i, aI v) :: lv') rest) : hp_V p l e R s m args below meth c Q D cA B0 nL ad0 x0 cells slots x pc lv (aI v :: rest) := fun ad H locs ls hG hx0 hl0 hst hS hl => lv_istore_n E.1.1 E.1.2.1 hdg hi hl hn rfl (fun ls2 h2 => k ad H locs ls2 hG hx0 (hp_okl_cons hst.1 (by rw [← hf]; exact hp_f1_ok hl0)) hst.2 hS (by rw [hp_f1_cl, hf] at h2; exact h2))
theorem hv_lstore (E : hp_E p s m args meth c cc nL own Ts D cA B0) {i : Nat} {v : Int64} {lv' : List (Nat × hp_A)} (hdg : decode cc pc = .ok (.lstore i, 2)) (hn : i + 1 < nL) (hf : hp_f2 i lv = lv') (k : hp_V p l e R s m args below meth c Q D cA B0 nL ad0 x0 cells slots x (pc + 2) ((i, aL v) :: lv') rest) : hp_V p l e R s m args below meth c Q D cA B0 nL ad0 x0 cells slots x pc lv (aL v :: rest) := fun ad H locs ls hG hx0 hl0 hst hS hl => lv_lstore E.1.1 E.1.2.1 hdg hl hn rfl (fun ls2 h2 => k ad H locs ls2 hG hx0 (hp_okl_cons hst.1 (by rw [← hf]; exact hp_f2_ok hl0)) hst.2 hS (by rw [hp_f2_cl, hf] at h2; exact h2))
theorem hv_lstore_n (E : hp_E p s m args meth c cc nL own Ts D cA B0) {n : Fin 4} {i : Nat} {v : Int64} {lv' : List (Nat × hp_A)} (hdg : decode cc pc = .ok (.lstore_n n, 1)) (hi : (n : Nat) = i) (hn : i + 1 < nL) (hf : hp_f2 i lv = lv') (k : hp_V p l e R s m args below meth c Q D cA B0 nL ad0 x0 cells slots x (pc + 1) ((i, aL v) :: lv') rest) : hp_V p l e R s m args below meth c Q D cA B0 nL ad0 x0 cells slots x pc lv (aL v :: rest) := fun ad H locs ls hG hx0 hl0 hst hS hl => lv_lstore_n E.1.1 E.1.2.1 hdg hi hl hn rfl (fun ls2 h2 => k ad H locs ls2 hG hx0 (hp_okl_cons hst.1 (by rw [← hf]; exact hp_f2_ok hl0)) hst.2 hS (by rw [hp_f2_cl, hf] at h2; exact h2))
theorem hv_astore (E : hp_E p s m args meth c cc nL own Ts D cA B0) {i : Nat} {v : hp_T} {lv' : List (Nat × hp_A)} (hdg : decode cc pc = .ok (.astore i, 2)) (hn : i < nL) (hf : hp_f1 i lv = lv') (k : hp_V p l e R s m args below meth c Q D cA B0 nL ad0 x0 cells slots x (pc + 2) ((i, aR v) :: lv') rest) : hp_V p l e R s m args below meth c Q D cA B0 nL ad0 x0 cells slots x pc lv (aR v :: rest) := fun ad H locs ls hG hx0 hl0 hst hS hl => lv_astore E.1.1 E.1.2.1 hdg hl hn rfl (fun ls2 h2 => k ad H locs ls2 hG hx0 (hp_okl_cons hst.1 (by rw [← hf]; exact hp_f1_ok hl0)) hst.2 hS (by rw [hp_f1_cl, hf] at h2; exact h2))
theorem hv_astore_n (E : hp_E p s m args meth c cc nL own Ts D cA B0) {n : Fin 4} {i : Nat} {v : hp_T} {lv' : List (Nat × hp_A)} (hdg : decode cc pc = .ok (.astore_n n, 1)) (hi : (n : Nat) = i) (hn : i < nL) (hf : hp_f1 i lv = lv') (k : hp_V p l e R s m args below meth c Q D cA B0 nL ad0 x0 cells slots x (pc + 1) ((i, aR v) :: lv') rest) : hp_V p l e R s m args below meth c Q D cA B0 nL ad0 x0 cells slots x pc lv (aR v :: rest) := fun ad H locs ls hG hx0 hl0 hst hS hl => lv_astore_n E.1.1 E.1.2.1 hdg hi hl hn rfl (fun ls2 h2 => k ad H locs ls2 hG hx0 (hp_okl_cons hst.1 (by rw [← hf]; exact hp_f1_ok hl0)) hst.2 hS (by rw [hp_f1_cl, hf] at h2; exact h2))
theorem hv_iinc (E : hp_E p s m args meth c cc nL own Ts D cA B0) {i : Nat} {n : Int} {u v : Int32} {lv' : List (Nat × hp_A)} (j : Nat) (hdg : decode cc pc = .ok (.iinc i n, 3)) (hk : lv[j]? = some (i, aI u)) (hv : u + Int32.ofInt n = v) (hn : i < nL) (hf : hp_f1 i lv = lv') (k : hp_V p l e R s m args below meth c Q D cA B0 nL ad0 x0 cells slots x (pc + 3) ((i, aI v) :: lv') rest) : hp_V p l e R s m args below meth c Q D cA B0 nL ad0 x0 cells slots x pc lv rest := fun ad H locs ls hG hx0 hl0 hst hS hl => lv_iinc (k := j) E.1.1 E.1.2.1 hdg hl (hp_cl_at hk) hv hn rfl (fun ls2 h2 => k ad H locs ls2 hG hx0 (hp_okl_cons trivial (by rw [← hf]; exact hp_f1_ok hl0)) hst hS (by rw [hp_f1_cl, hf] at h2; exact h2))
/-- a single cell as a world -/
theorem hp_one {D : va_G} {q : Nat × va_E} {H : Heap} (h : va_at D vwCl q H) : va_P D vwCl [q] H := fun k0 q0 h0 => by
  match k0, h0 with
  | 0, h0 => cases h0; exact h
  | n + 1, h0 => cases h0
theorem hp_getW (E : hp_E p s m args meth c cc nL own Ts D cA B0) {ci index k : Nat} {sl : List Nat} {C ref : String} {T : u_T} {N : Nat} {t : hp_T} {cd : Nat} {ad : hp_T → Nat} {H : Heap} {locs : List Loc} {ls : Array Slot} {QQ : State → Prop} {st : List Value} (hdg : decode cc pc = .ok (.getfield index, 3)) (hk : hp_kd t.1 = .inl (ci, sl)) (hc : vwCl[ci]? = some (C, T, N)) (hin : ∀ w ∈ u_ws C T N, w ∈ Ts) (hkN : k < N) (hlink : Cond.fieldLink own index ref (T k).2.1 (T k).2.2.1 ∈ Ts) (hsame : (T k).1 = ref) (hsk : sl[k]? = some cd) (hG : hp_H D cA B0 ad x H) (ht : x.1 t = true) (kk : W p l e R s m args below meth c H locs cells slots QQ (F0 m (pc + 3) ls (hp_val ad x t cd k :: st))) : W p l e R s m args below meth c H locs cells slots QQ (F0 m pc ls (.ref (ad t) :: st)) := by
  obtain ⟨hx, hb, hml, hown, hts⟩ := E.1
  have hat := (hG.2.1 t ht).2
  rw [hp_cell_o hk] at hat
  subst hsame
  exact va_get (ws := [(ad t, .inr (ci, hp_fs ad x t sl))]) hx hb hts hin hown E.2.1.1 (hp_one hat) 0 rfl hc k hkN (hts _ hlink) (fun _ h9 => h9) (hp_fs_get hsk) hdg kk
theorem hv_getI (E : hp_E p s m args meth c cc nL own Ts D cA B0) {ci index k : Nat} {sl : List Nat} {C ref : String} {T : u_T} {N : Nat} {t : hp_T} (hdg : decode cc pc = .ok (.getfield index, 3)) (hk : hp_kd t.1 = .inl (ci, sl)) (hc : vwCl[ci]? = some (C, T, N)) (hin : ∀ w ∈ u_ws C T N, w ∈ Ts) (hkN : k < N) (hlink : Cond.fieldLink own index ref (T k).2.1 (T k).2.2.1 ∈ Ts) (hsame : (T k).1 = ref) (hsk : sl[k]? = some 0)
    (kk : hp_V p l e R s m args below meth c Q D cA B0 nL ad0 x0 cells slots x (pc + 3) lv (aI (x.2.1 t k) :: rest)) : hp_V p l e R s m args below meth c Q D cA B0 nL ad0 x0 cells slots x pc lv (aR t :: rest) := fun ad H locs ls hG hx0 hl0 hst hS hl => hp_getW E hdg hk hc hin hkN hlink hsame hsk hG hst.1 (kk ad H locs ls hG hx0 hl0 ⟨trivial, hst.2⟩ hS hl)
theorem hv_getL (E : hp_E p s m args meth c cc nL own Ts D cA B0) {ci index k : Nat} {sl : List Nat} {C ref : String} {T : u_T} {N : Nat} {t : hp_T} (hdg : decode cc pc = .ok (.getfield index, 3)) (hk : hp_kd t.1 = .inl (ci, sl)) (hc : vwCl[ci]? = some (C, T, N)) (hin : ∀ w ∈ u_ws C T N, w ∈ Ts) (hkN : k < N) (hlink : Cond.fieldLink own index ref (T k).2.1 (T k).2.2.1 ∈ Ts) (hsame : (T k).1 = ref) (hsk : sl[k]? = some 1)
    (kk : hp_V p l e R s m args below meth c Q D cA B0 nL ad0 x0 cells slots x (pc + 3) lv (aL (x.2.2.1 t k) :: rest)) : hp_V p l e R s m args below meth c Q D cA B0 nL ad0 x0 cells slots x pc lv (aR t :: rest) := fun ad H locs ls hG hx0 hl0 hst hS hl => hp_getW E hdg hk hc hin hkN hlink hsame hsk hG hst.1 (kk ad H locs ls hG hx0 hl0 ⟨trivial, hst.2⟩ hS hl)
theorem hv_getR (E : hp_E p s m args meth c cc nL own Ts D cA B0) {ci index k : Nat} {sl : List Nat} {C ref : String} {T : u_T} {N : Nat} {t : hp_T} {t2 : hp_T} (hdg : decode cc pc = .ok (.getfield index, 3)) (hk : hp_kd t.1 = .inl (ci, sl)) (hc : vwCl[ci]? = some (C, T, N)) (hin : ∀ w ∈ u_ws C T N, w ∈ Ts) (hkN : k < N) (hlink : Cond.fieldLink own index ref (T k).2.1 (T k).2.2.1 ∈ Ts) (hsame : (T k).1 = ref) (hsk : sl[k]? = some 2) (hv : x.1 t = true → x.2.2.2 t k = some t2)
    (kk : hp_V p l e R s m args below meth c Q D cA B0 nL ad0 x0 cells slots x (pc + 3) lv (aR t2 :: rest)) : hp_V p l e R s m args below meth c Q D cA B0 nL ad0 x0 cells slots x pc lv (aR t :: rest) := by
  intro ad H locs ls hG hx0 hl0 hst hS hl
  have ht : x.1 t = true := hst.1
  refine hp_getW E hdg hk hc hin hkN hlink hsame hsk hG ht ?_
  rw [show hp_val ad x t 2 k = hp_c ad (aR t2) by simp [hp_val, hp_c, hv ht]]
  exact kk ad H locs ls hG hx0 hl0 ⟨hG.2.2.2 t k t2 ht (hv ht), hst.2⟩ hS hl
theorem hv_getN (E : hp_E p s m args meth c cc nL own Ts D cA B0) {ci index k : Nat} {sl : List Nat} {C ref : String} {T : u_T} {N : Nat} {t : hp_T} (hdg : decode cc pc = .ok (.getfield index, 3)) (hk : hp_kd t.1 = .inl (ci, sl)) (hc : vwCl[ci]? = some (C, T, N)) (hin : ∀ w ∈ u_ws C T N, w ∈ Ts) (hkN : k < N) (hlink : Cond.fieldLink own index ref (T k).2.1 (T k).2.2.1 ∈ Ts) (hsame : (T k).1 = ref) (hsk : sl[k]? = some 2) (hv : x.2.2.2 t k = none)
    (kk : hp_V p l e R s m args below meth c Q D cA B0 nL ad0 x0 cells slots x (pc + 3) lv (aN :: rest)) : hp_V p l e R s m args below meth c Q D cA B0 nL ad0 x0 cells slots x pc lv (aR t :: rest) := by
  intro ad H locs ls hG hx0 hl0 hst hS hl
  refine hp_getW E hdg hk hc hin hkN hlink hsame hsk hG hst.1 ?_
  rw [show hp_val ad x t 2 k = hp_c ad aN by simp [hp_val, hp_c, hv]]
  exact kk ad H locs ls hG hx0 hl0 ⟨trivial, hst.2⟩ hS hl
theorem hp_putW (E : hp_E p s m args meth c cc nL own Ts D cA B0) {ci index k : Nat} {sl : List Nat} {C ref : String} {T : u_T} {N : Nat} {t : hp_T} {ty : FieldType} {v : Value} {x' : hp_S} {ad : hp_T → Nat} {H : Heap} {locs : List Loc} {ls : Array Slot} {QQ : State → Prop} {st : List Value} (ty0 : Nat → FieldType) (hty : ∀ k, k < N → parseFieldDescriptor (T k).2.2.1 = some (ty0 k)) (hnm : ∀ a, a < N → ∀ b, b < N → a ≠ b → (T a).2.1 ≠ (T b).2.1) (hdg : decode cc pc = .ok (.putfield index, 3)) (hk : hp_kd t.1 = .inl (ci, sl)) (hc : vwCl[ci]? = some (C, T, N)) (hin : ∀ w ∈ u_ws C T N, w ∈ Ts) (hkN : k < N) (hlink : Cond.fieldLink own index ref (T k).2.1 (T k).2.2.1 ∈ Ts) (hsame : (T k).1 = ref) (hks : k < sl.length) (hfin : (T k).2.2.2 = false ∨ ((T k).2.2.2 = true ∧ meth.name = "<init>" ∧ ref = own)) (hd : parseFieldDescriptor (T k).2.2.1 = some ty) (hn : narrow ty v = v) (hfit : fits ty v = true) (hG : hp_H D cA B0 ad x H) (hS : va_S (fun q => B0 ≤ q) s.heap H locs) (ht : x.1 t = true)
    (hl1 : x'.1 = x.1) (ho : ∀ t', t' ≠ t → hp_cell cA ad x' t' = hp_cell cA ad x t') (hr : ∀ k t', x'.2.2.2 t k = some t' → x.2.2.2 t k = some t' ∨ x.1 t' = true) (hr2 : ∀ t', t' ≠ t → x'.2.2.2 t' = x.2.2.2 t') (hset : (hp_fs ad x t sl).set k v = hp_fs ad x' t sl)
    (kk : ∀ (H1 : Heap) (locs1 : List Loc), hp_H D cA B0 ad x' H1 → va_S (fun q => B0 ≤ q) s.heap H1 locs1 → W p l e R s m args below meth c H1 locs1 cells slots QQ (F0 m (pc + 3) ls st)) : W p l e R s m args below meth c H locs cells slots QQ (F0 m pc ls (v :: .ref (ad t) :: st)) := by
  obtain ⟨hx, hb, hml, hown, hts⟩ := E.1
  have hK := E.2.1.1
  have hap := va_apart (own := own) hts hin ty0 hty hnm hK hc
  obtain ⟨hB, hat⟩ := hG.2.1 t ht
  rw [hp_cell_o hk] at hat
  subst hsame
  obtain ⟨r, h1, cell, q1, q2, q3, q4⟩ := hat
  have hr0 : r = (C, T, N) := Option.some.inj (h1.symm.trans hc)
  subst hr0
  obtain ⟨hSl, hfc, kC, hkC, hkind⟩ := hK.1 ci _ hc
  obtain ⟨cf, kf, fi, f, hi, hsl⟩ := hSl k hkN
  have hlay := hts _ (hin _ (u_in_lay hkN))
  unfold u_lay at hlay
  have hst := (u_facts hfc hkC (u_lays hts hin hkN) hi).1
  have fin : ∀ H' : Heap, H'[ad t]? = some (cell.setSlot f.slot v) → H'.size = H.size → (∀ q, q ≠ ad t → H'[q]? = H[q]?) → W p l e R s m args below meth c H' (locs ++ [⟨ad t, f.slot⟩]) cells slots QQ (F0 m (pc + 3) ls st) := by
    intro H' e1 e2 e3
    rw [hsl] at e1 ⊢
    refine kk H' _ (hG.put ht hl1 ho (fun k t' h => (hr k t' h).elim (hG.2.2.2 t k t' ht) id) hr2 ?_ e2 e3) (hS.put e2 e3 hB)
    rw [hp_cell_o hk]
    refine ⟨_, hc, t_OB.to (V := updV (vp_V (hp_fs ad x t sl)) k v) ⟨_, e1, q2, q3, t_set q4 hap hkN v⟩ (fun j _ => ?_)⟩
    rw [vp_updV_set (by rw [hp_fs_len]; exact hks) v j, hset]
  rcases hfin with hfin | ⟨hfin, hnm2, hdecl⟩
  · rw [if_neg (by rw [hfin]; decide)] at hlay
    have h6 := u_store hfc hkC hkind hlay hi hd hn hfit
    exact W.putK hx hb (f := f) ⟨hown, hts _ hlink, ⟨_, _, _, hi⟩, hst⟩ (by rw [q2]; exact h6) q1 q3 (by rw [hsl]; exact k2_hasslot (q4 k hkN)) rfl rfl hdg fin
  · rw [if_pos hfin] at hlay
    have hcf : m.cls = cf := by
      obtain ⟨_, _, c', _, _, _, -, -, hf', -, -, -, hown2, -⟩ := Cond.laysFinal_spec hlay
      have e1 : c' = cf := by have := hi.symm.trans hf'; simp at this; exact this.1.symm
      rw [hdecl] at hown2
      rw [← e1]; exact Option.some.inj (hown.symm.trans hown2)
    have h6 := u_fits hfc hkC hkind (Or.inr hlay) hi hd hn hfit
    exact W.putFinK hx hb hown (hts _ hlink) hi hst hcf hnm2 (by rw [q2]; exact h6) q1 q3 (by rw [hsl]; exact k2_hasslot (q4 k hkN)) rfl rfl hdg fin
theorem hv_putI (E : hp_E p s m args meth c cc nL own Ts D cA B0) {ci index k : Nat} {sl : List Nat} {C ref : String} {T : u_T} {N : Nat} {t : hp_T} {ty : FieldType} {v : Int32} (ty0 : Nat → FieldType) (hty : ∀ k, k < N → parseFieldDescriptor (T k).2.2.1 = some (ty0 k)) (hnm : ∀ a, a < N → ∀ b, b < N → a ≠ b → (T a).2.1 ≠ (T b).2.1) (hdg : decode cc pc = .ok (.putfield index, 3)) (hk : hp_kd t.1 = .inl (ci, sl)) (hc : vwCl[ci]? = some (C, T, N)) (hin : ∀ w ∈ u_ws C T N, w ∈ Ts) (hkN : k < N) (hlink : Cond.fieldLink own index ref (T k).2.1 (T k).2.2.1 ∈ Ts) (hsame : (T k).1 = ref) (hsk : sl[k]? = some 0) (hfin : (T k).2.2.2 = false ∨ ((T k).2.2.2 = true ∧ meth.name = "<init>" ∧ ref = own)) (hd : parseFieldDescriptor (T k).2.2.1 = some ty) (hn : narrow ty (.int v) = (.int v)) (hfit : fits ty (.int v) = true)
    (kk : hp_V p l e R s m args below meth c Q D cA B0 nL ad0 x0 cells slots (hp_uI x t k v) (pc + 3) lv rest) : hp_V p l e R s m args below meth c Q D cA B0 nL ad0 x0 cells slots x pc lv (aI v :: aR t :: rest) := by
  intro ad H locs ls hG hx0 hl0 hst hS hl
  have ht : x.1 t = true := hst.2.1
  have e0 : sl.getD k 0 = 0 := by rw [List.getD_eq_getElem?_getD, hsk]; rfl
  refine hp_putW (x' := (hp_uI x t k v)) E ty0 hty hnm hdg hk hc hin hkN hlink hsame (List.getElem?_eq_some_iff.mp hsk).1 hfin hd hn hfit hG hS ht rfl (fun t' h => hp_cell_congr (by funext j; simp [hp_uI, h]) rfl (fun _ => rfl)) (fun _ _ h => Or.inl h) (fun _ _ => rfl) (hp_fs_set (List.getElem?_eq_some_iff.mp hsk).1 ?_ ?_) (fun H1 locs1 hG1 hS1 => kk ad H1 locs1 ls hG1 hx0 hl0 hst.2.2 hS1 hl)
  · rw [e0]
    simp [hp_val, hp_uI, hp_c]
  · intro j hj
    match sl.getD j 0 with
    | 0 => simp [hp_val, hp_uI, hj]
    | 1 => rfl
    | n + 2 => rfl
theorem hv_putL (E : hp_E p s m args meth c cc nL own Ts D cA B0) {ci index k : Nat} {sl : List Nat} {C ref : String} {T : u_T} {N : Nat} {t : hp_T} {ty : FieldType} {v : Int64} (ty0 : Nat → FieldType) (hty : ∀ k, k < N → parseFieldDescriptor (T k).2.2.1 = some (ty0 k)) (hnm : ∀ a, a < N → ∀ b, b < N → a ≠ b → (T a).2.1 ≠ (T b).2.1) (hdg : decode cc pc = .ok (.putfield index, 3)) (hk : hp_kd t.1 = .inl (ci, sl)) (hc : vwCl[ci]? = some (C, T, N)) (hin : ∀ w ∈ u_ws C T N, w ∈ Ts) (hkN : k < N) (hlink : Cond.fieldLink own index ref (T k).2.1 (T k).2.2.1 ∈ Ts) (hsame : (T k).1 = ref) (hsk : sl[k]? = some 1) (hfin : (T k).2.2.2 = false ∨ ((T k).2.2.2 = true ∧ meth.name = "<init>" ∧ ref = own)) (hd : parseFieldDescriptor (T k).2.2.1 = some ty) (hn : narrow ty (.long v) = (.long v)) (hfit : fits ty (.long v) = true)
    (kk : hp_V p l e R s m args below meth c Q D cA B0 nL ad0 x0 cells slots (hp_uL x t k v) (pc + 3) lv rest) : hp_V p l e R s m args below meth c Q D cA B0 nL ad0 x0 cells slots x pc lv (aL v :: aR t :: rest) := by
  intro ad H locs ls hG hx0 hl0 hst hS hl
  have ht : x.1 t = true := hst.2.1
  have e0 : sl.getD k 0 = 1 := by rw [List.getD_eq_getElem?_getD, hsk]; rfl
  refine hp_putW (x' := (hp_uL x t k v)) E ty0 hty hnm hdg hk hc hin hkN hlink hsame (List.getElem?_eq_some_iff.mp hsk).1 hfin hd hn hfit hG hS ht rfl (fun t' h => hp_cell_congr rfl (by funext j; simp [hp_uL, h]) (fun _ => rfl)) (fun _ _ h => Or.inl h) (fun _ _ => rfl) (hp_fs_set (List.getElem?_eq_some_iff.mp hsk).1 ?_ ?_) (fun H1 locs1 hG1 hS1 => kk ad H1 locs1 ls hG1 hx0 hl0 hst.2.2 hS1 hl)
  · rw [e0]
    simp [hp_val, hp_uL, hp_c]
  · intro j hj
    match sl.getD j 0 with
    | 0 => rfl
    | 1 => simp [hp_val, hp_uL, hj]
    | n + 2 => rfl
theorem hv_putR (E : hp_E p s m args meth c cc nL own Ts D cA B0) {ci index k : Nat} {sl : List Nat} {C ref : String} {T : u_T} {N : Nat} {t : hp_T} {ty : FieldType} {t2 : hp_T} (ty0 : Nat → FieldType) (hty : ∀ k, k < N → parseFieldDescriptor (T k).2.2.1 = some (ty0 k)) (hnm : ∀ a, a < N → ∀ b, b < N → a ≠ b → (T a).2.1 ≠ (T b).2.1) (hdg : decode cc pc = .ok (.putfield index, 3)) (hk : hp_kd t.1 = .inl (ci, sl)) (hc : vwCl[ci]? = some (C, T, N)) (hin : ∀ w ∈ u_ws C T N, w ∈ Ts) (hkN : k < N) (hlink : Cond.fieldLink own index ref (T k).2.1 (T k).2.2.1 ∈ Ts) (hsame : (T k).1 = ref) (hsk : sl[k]? = some 2) (hfin : (T k).2.2.2 = false ∨ ((T k).2.2.2 = true ∧ meth.name = "<init>" ∧ ref = own)) (hd : parseFieldDescriptor (T k).2.2.1 = some ty) (hn : ∀ q : Nat, narrow ty (.ref q) = .ref q) (hfit : ∀ q : Nat, fits ty (.ref q) = true)
    (kk : hp_V p l e R s m args below meth c Q D cA B0 nL ad0 x0 cells slots (hp_uR x t k (some t2)) (pc + 3) lv rest) : hp_V p l e R s m args below meth c Q D cA B0 nL ad0 x0 cells slots x pc lv (aR t2 :: aR t :: rest) := by
  intro ad H locs ls hG hx0 hl0 hst hS hl
  have ht : x.1 t = true := hst.2.1
  have e0 : sl.getD k 0 = 2 := by rw [List.getD_eq_getElem?_getD, hsk]; rfl
  refine hp_putW (x' := (hp_uR x t k (some t2))) E ty0 hty hnm hdg hk hc hin hkN hlink hsame (List.getElem?_eq_some_iff.mp hsk).1 hfin hd (hn _) (hfit _) hG hS ht rfl (fun t' h => hp_cell_congr rfl rfl (fun j => by simp [hp_uR, h])) (fun j t' h => by
    by_cases e : j = k
    · right; simp [hp_uR, e] at h; rw [← h]; exact hst.1
    · left; simpa [hp_uR, e] using h) (fun t' h => by funext j; simp [hp_uR, h]) (hp_fs_set (List.getElem?_eq_some_iff.mp hsk).1 ?_ ?_) (fun H1 locs1 hG1 hS1 => kk ad H1 locs1 ls hG1 hx0 hl0 hst.2.2 hS1 hl)
  · rw [e0]
    simp [hp_val, hp_uR, hp_c]
  · intro j hj
    match sl.getD j 0 with
    | 0 => rfl
    | 1 => rfl
    | n + 2 => simp [hp_val, hp_uR, hj]
theorem hv_putN (E : hp_E p s m args meth c cc nL own Ts D cA B0) {ci index k : Nat} {sl : List Nat} {C ref : String} {T : u_T} {N : Nat} {t : hp_T} {ty : FieldType}  (ty0 : Nat → FieldType) (hty : ∀ k, k < N → parseFieldDescriptor (T k).2.2.1 = some (ty0 k)) (hnm : ∀ a, a < N → ∀ b, b < N → a ≠ b → (T a).2.1 ≠ (T b).2.1) (hdg : decode cc pc = .ok (.putfield index, 3)) (hk : hp_kd t.1 = .inl (ci, sl)) (hc : vwCl[ci]? = some (C, T, N)) (hin : ∀ w ∈ u_ws C T N, w ∈ Ts) (hkN : k < N) (hlink : Cond.fieldLink own index ref (T k).2.1 (T k).2.2.1 ∈ Ts) (hsame : (T k).1 = ref) (hsk : sl[k]? = some 2) (hfin : (T k).2.2.2 = false ∨ ((T k).2.2.2 = true ∧ meth.name = "<init>" ∧ ref = own)) (hd : parseFieldDescriptor (T k).2.2.1 = some ty) (hn : narrow ty .null = .null) (hfit : fits ty .null = true)
    (kk : hp_V p l e R s m args below meth c Q D cA B0 nL ad0 x0 cells slots (hp_uR x t k none) (pc + 3) lv rest) : hp_V p l e R s m args below meth c Q D cA B0 nL ad0 x0 cells slots x pc lv (aN :: aR t :: rest) := by
  intro ad H locs ls hG hx0 hl0 hst hS hl
  have ht : x.1 t = true := hst.2.1
  have e0 : sl.getD k 0 = 2 := by rw [List.getD_eq_getElem?_getD, hsk]; rfl
  refine hp_putW (x' := (hp_uR x t k none)) E ty0 hty hnm hdg hk hc hin hkN hlink hsame (List.getElem?_eq_some_iff.mp hsk).1 hfin hd hn hfit hG hS ht rfl (fun t' h => hp_cell_congr rfl rfl (fun j => by simp [hp_uR, h])) (fun j t' h => by
    by_cases e : j = k
    · simp [hp_uR, e] at h
    · left; simpa [hp_uR, e] using h) (fun t' h => by funext j; simp [hp_uR, h]) (hp_fs_set (List.getElem?_eq_some_iff.mp hsk).1 ?_ ?_) (fun H1 locs1 hG1 hS1 => kk ad H1 locs1 ls hG1 hx0 hl0 hst.2.2 hS1 hl)
  · rw [e0]
    simp [hp_val, hp_uR, hp_c]
  · intro j hj
    match sl.getD j 0 with
    | 0 => rfl
    | 1 => rfl
    | n + 2 => simp [hp_val, hp_uR, hj]
theorem hv_iald (E : hp_E p s m args meth c cc nL own Ts D cA B0) {a n : Nat} {t : hp_T} {i : Int32} (hdg : decode cc pc = .ok (.iaload, 1)) (hk : hp_kd t.1 = .inr (a, n)) (ha : a < hp_na) (hty : hp_aty a = .int) (hi : vp_in i n)
    (kk : hp_V p l e R s m args below meth c Q D cA B0 nL ad0 x0 cells slots x (pc + 1) lv (aI (x.2.1 t i.toNatClampNeg) :: rest)) : hp_V p l e R s m args below meth c Q D cA B0 nL ad0 x0 cells slots x pc lv (aI i :: aR t :: rest) := by
  intro ad H locs ls hG hx0 hl0 hst hS hl
  have ht : x.1 t = true := hst.2.1
  have hat := (hG.2.1 t ht).2
  rw [hp_cell_a hk] at hat
  have hy := hp_tys_at (cA := cA) ha
  rw [hty] at hat hy
  exact va_iald (ws := [(ad t, .inl (cA a, hp_arr ad x t 0 n))]) E.1.1 E.1.2.1 E.2.1.1 (hp_one hat) 0 a rfl hy hi hdg (kk ad H locs ls hG hx0 hl0 ⟨trivial, hst.2.2⟩ hS hl)
theorem hv_zald (E : hp_E p s m args meth c cc nL own Ts D cA B0) {a n : Nat} {t : hp_T} {i : Int32} (hdg : decode cc pc = .ok (.baload, 1)) (hk : hp_kd t.1 = .inr (a, n)) (ha : a < hp_na) (hty : hp_aty a = .boolean) (hi : vp_in i n)
    (kk : hp_V p l e R s m args below meth c Q D cA B0 nL ad0 x0 cells slots x (pc + 1) lv (aI (x.2.1 t i.toNatClampNeg) :: rest)) : hp_V p l e R s m args below meth c Q D cA B0 nL ad0 x0 cells slots x pc lv (aI i :: aR t :: rest) := by
  intro ad H locs ls hG hx0 hl0 hst hS hl
  have ht : x.1 t = true := hst.2.1
  have hat := (hG.2.1 t ht).2
  rw [hp_cell_a hk] at hat
  have hy := hp_tys_at (cA := cA) ha
  rw [hty] at hat hy
  exact va_zald (ws := [(ad t, .inl (cA a, hp_arr ad x t 0 n))]) E.1.1 E.1.2.1 E.2.1.1 (hp_one hat) 0 a rfl hy hi hdg (kk ad H locs ls hG hx0 hl0 ⟨trivial, hst.2.2⟩ hS hl)
theorem hv_lald (E : hp_E p s m args meth c cc nL own Ts D cA B0) {a n : Nat} {t : hp_T} {i : Int32} (hdg : decode cc pc = .ok (.laload, 1)) (hk : hp_kd t.1 = .inr (a, n)) (ha : a < hp_na) (hty : hp_aty a = .long) (hi : vp_in i n)
    (kk : hp_V p l e R s m args below meth c Q D cA B0 nL ad0 x0 cells slots x (pc + 1) lv (aL (x.2.2.1 t i.toNatClampNeg) :: rest)) : hp_V p l e R s m args below meth c Q D cA B0 nL ad0 x0 cells slots x pc lv (aI i :: aR t :: rest) := by
  intro ad H locs ls hG hx0 hl0 hst hS hl
  have ht : x.1 t = true := hst.2.1
  have hat := (hG.2.1 t ht).2
  rw [hp_cell_a hk] at hat
  have hy := hp_tys_at (cA := cA) ha
  rw [hty] at hat hy
  exact va_lald (ws := [(ad t, .inl (cA a, hp_arr ad x t 1 n))]) E.1.1 E.1.2.1 E.2.1.1 (hp_one hat) 0 a rfl hy hi hdg (kk ad H locs ls hG hx0 hl0 ⟨trivial, hst.2.2⟩ hS hl)
theorem hv_aald (E : hp_E p s m args meth c cc nL own Ts D cA B0) {a n : Nat} {t t2 : hp_T} {i : Int32} (hdg : decode cc pc = .ok (.aaload, 1)) (hk : hp_kd t.1 = .inr (a, n)) (ha : a < hp_na) (hty : hp_bank (hp_aty a) = 2) (hrf : (hp_aty a).isReference = true) (hi : vp_in i n) (hv : x.1 t = true → x.2.2.2 t i.toNatClampNeg = some t2)
    (kk : hp_V p l e R s m args below meth c Q D cA B0 nL ad0 x0 cells slots x (pc + 1) lv (aR t2 :: rest)) : hp_V p l e R s m args below meth c Q D cA B0 nL ad0 x0 cells slots x pc lv (aI i :: aR t :: rest) := by
  intro ad H locs ls hG hx0 hl0 hst hS hl
  have ht : x.1 t = true := hst.2.1
  have hat := (hG.2.1 t ht).2
  rw [hp_cell_a hk, hty] at hat
  have hlt : i.toNatClampNeg < n := Nat.not_le.mp fun q => hi (Or.inr q)
  refine W.aald (v := hp_c ad (aR t2)) (ty := hp_aty a) E.1.1 E.1.2.1 (show H[ad t]? = some (arrV (cA a) n (fun j => va_rf ((x.2.2.2 t j).map ad))) from hat) ((E.2.1.1.2 a _ (hp_tys_at ha)).1 n _) hrf (fun q => by cases q) (by rw [arrV_size]; exact hi) (by rw [arrV_read _ _ hlt, hv ht]; rfl) rfl rfl hdg (kk ad H locs ls hG hx0 hl0 ⟨hG.2.2.2 t _ t2 ht (hv ht), hst.2.2⟩ hS hl)
theorem hv_alen (E : hp_E p s m args meth c cc nL own Ts D cA B0) {a n : Nat} {t : hp_T} {v : Int32} (hdg : decode cc pc = .ok (.arraylength, 1)) (hk : hp_kd t.1 = .inr (a, n)) (ha : a < hp_na) (hv : Int32.ofNat n = v)
    (kk : hp_V p l e R s m args below meth c Q D cA B0 nL ad0 x0 cells slots x (pc + 1) lv (aI v :: rest)) : hp_V p l e R s m args below meth c Q D cA B0 nL ad0 x0 cells slots x pc lv (aR t :: rest) := by
  intro ad H locs ls hG hx0 hl0 hst hS hl
  have hat := (hG.2.1 t hst.1).2
  rw [hp_cell_a hk] at hat
  exact va_alen (ws := [(ad t, .inl (cA a, hp_arr ad x t (hp_bank (hp_aty a)) n))]) E.1.1 E.1.2.1 E.2.1.1 (hp_one hat) 0 a rfl (hp_tys_at ha) hv hdg (kk ad H locs ls hG hx0 hl0 ⟨trivial, hst.2⟩ hS hl)
theorem hv_iast (E : hp_E p s m args meth c cc nL own Ts D cA B0) {a n : Nat} {t : hp_T} {i : Int32} {v : Int32} (hdg : decode cc pc = .ok (.iastore, 1)) (hk : hp_kd t.1 = .inr (a, n)) (ha : a < hp_na) (hty : hp_aty a = .int) (hi : vp_in i n)
    (kk : hp_V p l e R s m args below meth c Q D cA B0 nL ad0 x0 cells slots (hp_uI x t i.toNatClampNeg v) (pc + 1) lv rest) : hp_V p l e R s m args below meth c Q D cA B0 nL ad0 x0 cells slots x pc lv (aI v :: aI i :: aR t :: rest) := by
  intro ad H locs ls hG hx0 hl0 hst hS hl
  have ht : x.1 t = true := hst.2.2.1
  obtain ⟨hB, hat⟩ := hG.2.1 t ht
  rw [hp_cell_a hk] at hat
  have hy := hp_tys_at (cA := cA) ha
  rw [hty] at hat hy
  have hc0 : H[ad t]? = some (arrV (cA a) n (fun j => .int (x.2.1 t j))) := hat
  refine W.iast E.1.1 E.1.2.1 hc0 ((E.2.1.1.2 a _ hy).1 n _) (fun q => by cases q) (by rw [arrV_size]; exact hi) rfl rfl hdg fun H1 e z oq => ?_
  refine kk ad H1 _ ls (hG.put ht rfl (fun t' h => hp_cell_congr (by funext j; simp [hp_uI, h]) rfl (fun _ => rfl)) (fun k t' h => hG.2.2.2 t k t' ht h) (fun _ _ => rfl) ?_ z oq) hx0 hl0 hst.2.2.2 (hS.put z oq hB) hl
  rw [hp_cell_a hk, hty]
  show H1[ad t]? = some (vp_cell (cA a) (n, .inl ((hp_uI x t i.toNatClampNeg v).2.1 t)))
  rw [e, vp_cell_i, arrV_store]
  congr 2
  funext q
  by_cases hq : q = i.toNatClampNeg
  · subst hq
    simp [updV, hp_uI]
    try rfl
  · simp [updV, hp_uI, hq]
theorem hp_narw {v w : Int32} (h : vp_nar .boolean v = w) : narrow .boolean (.int v) = .int w := by
  rw [← h]; rfl
theorem hv_zast (E : hp_E p s m args meth c cc nL own Ts D cA B0) {a n : Nat} {t : hp_T} {i : Int32} {v : Int32} (hdg : decode cc pc = .ok (.bastore, 1)) (hk : hp_kd t.1 = .inr (a, n)) (ha : a < hp_na) (hty : hp_aty a = .boolean) (hi : vp_in i n) {w : Int32} (hw : vp_nar .boolean v = w)
    (kk : hp_V p l e R s m args below meth c Q D cA B0 nL ad0 x0 cells slots (hp_uI x t i.toNatClampNeg w) (pc + 1) lv rest) : hp_V p l e R s m args below meth c Q D cA B0 nL ad0 x0 cells slots x pc lv (aI v :: aI i :: aR t :: rest) := by
  intro ad H locs ls hG hx0 hl0 hst hS hl
  have ht : x.1 t = true := hst.2.2.1
  obtain ⟨hB, hat⟩ := hG.2.1 t ht
  rw [hp_cell_a hk] at hat
  have hy := hp_tys_at (cA := cA) ha
  rw [hty] at hat hy
  have hc0 : H[ad t]? = some (arrV (cA a) n (fun j => .int (x.2.1 t j))) := hat
  refine W.zast E.1.1 E.1.2.1 hc0 ((E.2.1.1.2 a _ hy).1 n _) (fun q => by cases q) (by rw [arrV_size]; exact hi) rfl rfl hdg fun H1 e z oq => ?_
  refine kk ad H1 _ ls (hG.put ht rfl (fun t' h => hp_cell_congr (by funext j; simp [hp_uI, h]) rfl (fun _ => rfl)) (fun k t' h => hG.2.2.2 t k t' ht h) (fun _ _ => rfl) ?_ z oq) hx0 hl0 hst.2.2.2 (hS.put z oq hB) hl
  rw [hp_cell_a hk, hty]
  show H1[ad t]? = some (vp_cell (cA a) (n, .inl ((hp_uI x t i.toNatClampNeg w).2.1 t)))
  rw [e, vp_cell_i, arrV_store]
  congr 2
  funext q
  by_cases hq : q = i.toNatClampNeg
  · subst hq
    simp [updV, hp_uI, hp_narw hw]
    try rfl
  · simp [updV, hp_uI, hq]
theorem hv_last (E : hp_E p s m args meth c cc nL own Ts D cA B0) {a n : Nat} {t : hp_T} {i : Int32} {v : Int64} (hdg : decode cc pc = .ok (.lastore, 1)) (hk : hp_kd t.1 = .inr (a, n)) (ha : a < hp_na) (hty : hp_aty a = .long) (hi : vp_in i n)
    (kk : hp_V p l e R s m args below meth c Q D cA B0 nL ad0 x0 cells slots (hp_uL x t i.toNatClampNeg v) (pc + 1) lv rest) : hp_V p l e R s m args below meth c Q D cA B0 nL ad0 x0 cells slots x pc lv (aL v :: aI i :: aR t :: rest) := by
  intro ad H locs ls hG hx0 hl0 hst hS hl
  have ht : x.1 t = true := hst.2.2.1
  obtain ⟨hB, hat⟩ := hG.2.1 t ht
  rw [hp_cell_a hk] at hat
  have hy := hp_tys_at (cA := cA) ha
  rw [hty] at hat hy
  have hc0 : H[ad t]? = some (arrV (cA a) n (fun j => .long (x.2.2.1 t j))) := hat
  refine W.last E.1.1 E.1.2.1 hc0 ((E.2.1.1.2 a _ hy).1 n _) (fun q => by cases q) (by rw [arrV_size]; exact hi) rfl rfl hdg fun H1 e z oq => ?_
  refine kk ad H1 _ ls (hG.put ht rfl (fun t' h => hp_cell_congr rfl (by funext j; simp [hp_uL, h]) (fun _ => rfl)) (fun k t' h => hG.2.2.2 t k t' ht h) (fun _ _ => rfl) ?_ z oq) hx0 hl0 hst.2.2.2 (hS.put z oq hB) hl
  rw [hp_cell_a hk, hty]
  show H1[ad t]? = some (vp_cell (cA a) (n, .inr (.inl ((hp_uL x t i.toNatClampNeg v).2.2.1 t))))
  rw [e, vp_cell_l, arrV_store]
  congr 2
  funext q
  by_cases hq : q = i.toNatClampNeg
  · subst hq
    simp [updV, hp_uL]
    try rfl
  · simp [updV, hp_uL, hq]
theorem hv_aast (E : hp_E p s m args meth c cc nL own Ts D cA B0) {a n ci : Nat} {sl : List Nat} {q : vw_C} {t t2 : hp_T} {i : Int32} (hdg : decode cc pc = .ok (.aastore, 1)) (hk : hp_kd t.1 = .inr (a, n)) (ha : a < hp_na) (hty : hp_aty a = .object q.1) (hk2 : hp_kd t2.1 = .inl (ci, sl)) (hc : vwCl[ci]? = some q) (hi : vp_in i n)
    (kk : hp_V p l e R s m args below meth c Q D cA B0 nL ad0 x0 cells slots (hp_uR x t i.toNatClampNeg (some t2)) (pc + 1) lv rest) : hp_V p l e R s m args below meth c Q D cA B0 nL ad0 x0 cells slots x pc lv (aR t2 :: aI i :: aR t :: rest) := by
  intro ad H locs ls hG hx0 hl0 hst hS hl
  have ht2 : x.1 t2 = true := hst.1
  have ht : x.1 t = true := hst.2.2.1
  obtain ⟨hB, hat⟩ := hG.2.1 t ht
  obtain ⟨-, hat2⟩ := hG.2.1 t2 ht2
  rw [hp_cell_a hk] at hat
  rw [hp_cell_o hk2] at hat2
  have hy := hp_tys_at (cA := cA) ha
  rw [hty] at hat hy
  have hc0 : H[ad t]? = some (arrV (cA a) n (fun j => va_rf ((x.2.2.2 t j).map ad))) := hat
  have hlt : i.toNatClampNeg < n := Nat.not_le.mp fun q => hi (Or.inr q)
  have h0 : ¬ i < 0 := fun q => hi (Or.inl q)
  obtain ⟨r', hr', cellV, g1, g2, g3, -⟩ := hat2
  have hcls := (E.2.1.1.1 ci q hc).2
  obtain ⟨kA, comp, k1, k2, k3, -⟩ := (E.2.1.1.2 a _ hy).2
  have hcomp : comp = D.1 ci := Option.some.inj (k3.symm.trans hcls.1)
  subst hcomp
  obtain ⟨kC, hkC, -⟩ := id hcls.2
  refine W.aast E.1.1 E.1.2.1 hc0 (fun q h => by cases h) (fun h => by cases h) k1 k2 rfl hkC ⟨h0, by rw [arrV_size]; exact hlt⟩ g1 (fun q h => by rw [g3] at h; cases h) (by rw [g2]; exact hkC) (by rw [g2]; exact va_assign hcls) rfl rfl hdg fun H1 e z oq => ?_
  refine kk ad H1 _ ls (hG.put ht rfl (fun t' h => hp_cell_congr rfl rfl (fun j => by simp [hp_uR, h])) (fun j t' h => ?_) (fun t' h => by funext j; simp [hp_uR, h]) ?_ z oq) hx0 hl0 hst.2.2.2 (hS.put z oq hB) hl
  · by_cases e9 : j = i.toNatClampNeg
    · simp [hp_uR, e9] at h
      rw [← h]; exact ht2
    · exact hG.2.2.2 t j t' ht (by simpa [hp_uR, e9] using h)
  · rw [hp_cell_a hk, hty]
    show H1[ad t]? = some (vp_cell (cA a) (n, .inr (.inr (.inr (.inr (fun j => ((hp_uR x t i.toNatClampNeg (some t2)).2.2.2 t j).map ad))))))
    rw [e, vp_cell_q, arrV_store]
    congr 2
    funext q
    by_cases hq : q = i.toNatClampNeg
    · subst hq
      simp [updV, hp_uR, va_rf]
    · simp [updV, hp_uR, hq]
/-- behind the making of a cell: what was there, and the new one -/
theorem hp_newK {ad : hp_T → Nat} {H H1 : Heap} {locs : List Loc} {ls : Array Slot} {t : hp_T} {st : List hp_A} {QQ : State → Prop} {cells' slots' pc' : Nat} (kk : ∀ (ad : hp_T → Nat) (H : Heap) (locs : List Loc) (ls : Array Slot), hp_H D cA B0 ad (hp_nw x t) H → (∀ t', x0.1 t' = true → (hp_nw x t).1 t' = true ∧ ad t' = ad0 t') → hp_okl (hp_nw x t).1 lv → hp_oks (hp_nw x t).1 (aR t :: st) → va_S (fun q => B0 ≤ q) s.heap H locs → lv_has ls nL (hp_cl ad lv) → W p l e R s m args below meth c H locs cells' slots' QQ (F0 m pc' ls ((aR t :: st).map (hp_c ad))))
    (ht : x.1 t = false) (hx0 : ∀ t', x0.1 t' = true → x.1 t' = true ∧ ad t' = ad0 t') (hl0 : hp_okl x.1 lv) (hst : hp_oks x.1 st) (hS : va_S (fun q => B0 ≤ q) s.heap H locs) (hl : lv_has ls nL (hp_cl ad lv)) (hG1 : hp_H D cA B0 (hp_ad ad t H.size) (hp_nw x t) H1) (z1 : H1.size = H.size + 1) (o1 : ∀ q : Nat, q < H.size → H1[q]? = H[q]?) :
    W p l e R s m args below meth c H1 locs cells' slots' QQ (F0 m pc' ls (.ref H.size :: st.map (hp_c ad))) := by
  have hmono : ∀ t', x.1 t' = true → (hp_nw x t).1 t' = true := fun t' h => by
    simp only [hp_nw]
    split
    · rfl
    · exact h
  have hne : ∀ t', x.1 t' = true → t' ≠ t := fun t' h' e => by rw [e, ht] at h'; cases h'
  have hsame : ∀ t', x.1 t' = true → hp_ad ad t H.size t' = ad t' := fun t' h => by simp [hp_ad, hne t' h]
  have w := kk (hp_ad ad t H.size) H1 locs ls hG1 (fun t' h => ⟨hmono t' (hx0 t' h).1, (hsame t' (hx0 t' h).1).trans (hx0 t' h).2⟩) (fun q hq => hp_ok_mono hmono (hl0 q hq)) ⟨by simp [hp_ok, hp_nw], hp_oks_mono hmono hst⟩
    ⟨Nat.le_trans hS.1 (by omega), fun y h1 h2 => (o1 y (Nat.lt_of_lt_of_le h1 hS.1)).trans (hS.2.1 y h1 h2), hS.2.2⟩ (by rw [hp_cl_same hsame hl0]; exact hl)
  rw [List.map_cons, hp_cs_same hsame hst] at w
  have e2 : hp_c (hp_ad ad t H.size) (aR t) = .ref H.size := by simp [hp_c, hp_ad, va_rf]
  rw [e2] at w
  exact w
theorem hv_new (E : hp_E p s m args meth c cc nL own Ts D cA B0) {ci index : Nat} {sl : List Nat} {C : String} {T : u_T} {N : Nat} (t : hp_T) (ty : Nat → FieldType) (hty : ∀ k, k < N → parseFieldDescriptor (T k).2.2.1 = some (ty k)) (hdg : decode cc pc = .ok (.new index, 3)) (hk : hp_kd t.1 = .inl (ci, sl)) (hc : vwCl[ci]? = some (C, T, N)) (hin : ∀ w ∈ u_ws C T N, w ∈ Ts) (hcl : Cond.classLink own index C ∈ Ts) (hinst : Cond.instantiable C N ∈ Ts) (hini : Cond.initialized C ∈ Ts) (hsl : ∀ j, j < N → defaultValue (ty j) = (match sl.getD j 0 with | 0 => .int 0 | 1 => .long 0 | _ => .null) ∧ j < sl.length) (ht : x.1 t = false) (hcells : cells + 1 ≤ R.cells) (hslots : slots + N ≤ R.slots)
    (kk : hp_V p l e R s m args below meth c Q D cA B0 nL ad0 x0 (cells + 1) (slots + N) (hp_nw x t) (pc + 3) lv (aR t :: rest)) : hp_V p l e R s m args below meth c Q D cA B0 nL ad0 x0 cells slots x pc lv rest := by
  intro ad H locs ls hG hx0 hl0 hst hS hl
  obtain ⟨hx, hb, hml, hown, hts⟩ := E.1
  have hKn := E.2.1.1.1 ci _ hc
  refine W.newcK hx hb hown (hts _ hcl) (hts _ hinst) (hts _ hini) rfl hdg hcells hslots hKn.2.1 rfl fun H1 kC hkC e1 z1 o1 => ?_
  refine hp_newK kk ht hx0 hl0 hst hS hl (hG.mk ht ?_ z1 o1) z1 o1
  rw [hp_cell_o hk]
  refine ⟨_, hc, (u_born ty hts hin hKn hkC e1 hty).to (fun j hj => ?_)⟩
  obtain ⟨h1, h2⟩ := hsl j hj
  show defaultValue (ty j) = (hp_fs _ _ _ _).getD j .null
  rw [List.getD_eq_getElem?_getD, hp_fs_get (c := sl.getD j 0) (by rw [List.getD_eq_getElem?_getD, List.getElem?_eq_getElem h2]; rfl), h1]
  match sl.getD j 0 with
  | 0 => simp [hp_val, hp_nw]
  | 1 => simp [hp_val, hp_nw]
  | n + 2 => simp [hp_val, hp_nw, va_rf]
theorem hv_newa (E : hp_E p s m args meth c cc nL own Ts D cA B0) {a n : Nat} {atype : ArrayType} {i : Int32} (t : hp_T) (hdg : decode cc pc = .ok (.newarray atype, 2)) (harr : Cond.arrayClass (newarray.typeOf atype) ∈ Ts) (hk : hp_kd t.1 = .inr (a, n)) (ha : a < hp_na) (hty : newarray.typeOf atype = hp_aty a) (hnf : ¬ atype = .float ∧ ¬ atype = .double) (hn : ¬ i < 0) (hN : i.toNatClampNeg = n) (hbytes : n * componentBytes (hp_aty a) ≤ 536870912) (ht : x.1 t = false) (hcells : cells + 1 ≤ R.cells) (hslots : slots + n ≤ R.slots)
    (kk : hp_V p l e R s m args below meth c Q D cA B0 nL ad0 x0 (cells + 1) (slots + n) (hp_nw x t) (pc + 2) lv (aR t :: rest)) : hp_V p l e R s m args below meth c Q D cA B0 nL ad0 x0 cells slots x pc lv (aI i :: rest) := by
  intro ad H locs ls hG hx0 hl0 hst hS hl
  obtain ⟨hx, hb, hml, hown, hts⟩ := E.1
  refine va_newaK hx hb (hts _ harr) rfl hdg rfl hn hN (by rw [hty]; exact hbytes) hcells hslots rfl fun H1 c0 e1 z1 o1 hAr hNm => ?_
  have hRA := (E.2.1.1.2 a _ (hp_tys_at ha)).2
  simp only [← hty] at hRA
  have ec : c0 = cA a := by
    cases atype <;> exact Option.some.inj (hNm.symm.trans hRA)
  subst ec
  refine hp_newK kk ht hx0 hl0 hst.2 hS hl (hG.mk ht ?_ z1 o1) z1 o1
  rw [hp_cell_a hk, ← hty]
  show H1[H.size]? = some (vp_cell _ _)
  rw [e1]
  cases atype <;> first | exact absurd rfl hnf.1 | exact absurd rfl hnf.2 | simp [newarray.typeOf, hp_bank, hp_arr, vp_cell, defaultValue, hp_nw]
theorem hv_newq (E : hp_E p s m args meth c cc nL own Ts D cA B0) {a n index : Nat} {C : String} {i : Int32} (t : hp_T) (hdg : decode cc pc = .ok (.anewarray index, 3)) (hcl : Cond.classLink own index C ∈ Ts) (hover : va_AO C s) (hk : hp_kd t.1 = .inr (a, n)) (ha : a < hp_na) (hty : hp_aty a = .object C) (hn : ¬ i < 0) (hN : i.toNatClampNeg = n) (hbytes : n * 4 ≤ 536870912) (ht : x.1 t = false) (hcells : cells + 1 ≤ R.cells) (hslots : slots + n ≤ R.slots)
    (kk : hp_V p l e R s m args below meth c Q D cA B0 nL ad0 x0 (cells + 1) (slots + n) (hp_nw x t) (pc + 3) lv (aR t :: rest)) : hp_V p l e R s m args below meth c Q D cA B0 nL ad0 x0 cells slots x pc lv (aI i :: rest) := by
  intro ad H locs ls hG hx0 hl0 hst hS hl
  obtain ⟨hx, hb, hml, hown, hts⟩ := E.1
  subst hN
  refine W.anew hx hb hown (hts _ hcl) (va_AO.use hover) rfl hdg rfl hn hbytes hcells hslots fun c0 kA comp f1 f2 f3 f4 => ?_
  have hRA := (E.2.1.1.2 a _ (hp_tys_at ha)).2
  simp only [hty] at hRA
  obtain ⟨_, _, _, _, _, f5⟩ := hRA
  have ec : c0 = cA a := Option.some.inj (f1.symm.trans f5)
  subst ec
  generalize hH1 : H.push ({ cls := cA a, slots := Array.replicate i.toNatClampNeg .null, vm := .none } : Cell) = H1
  have z1 : H1.size = H.size + 1 := by rw [← hH1, Array.size_push]
  have e1 : H1[H.size]? = some (arrV (cA a) i.toNatClampNeg (fun _ => .null)) := by rw [← hH1, Array.getElem?_push_size, ← arrV_new]
  have o1 : ∀ q : Nat, q < H.size → H1[q]? = H[q]? := fun q hq => by rw [← hH1, Array.getElem?_push, if_neg (Nat.ne_of_lt hq)]
  refine hp_newK kk ht hx0 hl0 hst.2 hS hl (hG.mk ht ?_ z1 o1) z1 o1
  rw [hp_cell_a hk, hty]
  show H1[H.size]? = some (vp_cell _ _)
  rw [e1]
  simp [hp_bank, hp_arr, vp_cell, hp_nw, va_rf]
theorem hp_sumcat {ad : hp_T → Nat} (l : List hp_A) : ((l.map (hp_c ad)).map fun v => v.category).sum = (l.map hp_cat).sum := by
  rw [List.map_map]
  congr 1
  apply List.map_congr_left
  intro v _
  exact hp_cat_eq ad v
theorem hv_objInit (E : hp_E p s m args meth c cc nL own Ts D cA B0) {idx : Nat} {t : hp_T} (hdg : decode cc pc = .ok (.invokespecial idx, 3)) (hlink : Cond.methodLink own idx Lib.objectInit ∈ Ts) (hinst : Cond.instanceMethod Lib.objectInit ∈ Ts) (hcode : Cond.code Lib.objectInit ⟨#[0xb1]⟩ 1 none ∈ Ts) (hframes : 1 ≤ R.frames) (hlocals : (rest.map hp_cat).sum + 12 ≤ R.locals)
    (kk : hp_V p l e R s m args below meth c Q D cA B0 nL ad0 x0 cells slots x (pc + 3) lv rest) : hp_V p l e R s m args below meth c Q D cA B0 nL ad0 x0 cells slots x pc lv (aR t :: rest) := by
  intro ad H locs ls hG hx0 hl0 hst hS hl
  obtain ⟨hx, hb, hml, hown, hts⟩ := E.1
  exact W.objInit hx hb hown (hts _ hlink) (hts _ hinst) (hts _ hcode) rfl (by rw [hml]; exact hl.1) rfl hdg hframes (by show 2 * 0 + _ + 12 ≤ _; rw [hp_sumcat]; omega) (kk ad H locs ls hG hx0 hl0 hst.2 hS hl)
theorem hv_iret (E : hp_E p s m args meth c cc nL own Ts D cA B0) {mc ms : Nat} {post : Option hp_A → hp_S → Prop} {v : Int32} (hr : meth.sig.returnType = some .int) (hdg : decode cc pc = .ok (.ireturn, 1)) (hc : cells ≤ mc) (hs : slots ≤ ms) (hp : post (some (aI v)) x) : hp_V p l e R s m args below meth c (fun ad0 => MQ below (hp_Q D cA B0 ad0 x0 post) args s mc ms (fun q => B0 ≤ q)) D cA B0 nL ad0 x0 cells slots x pc lv [aI v] := by
  intro ad H locs ls hG hx0 hl0 hst hS hl
  refine W.widen hc hs ?_
  exact W.iret E.1.1 E.1.2.1 hr (fun t ht hW => ⟨(some (aI v)), ad, x, rfl, hp, (by intro w h; cases h; trivial), hx0, by rw [ht]; exact hG, hp_K.warm hW E.2.1, hS.F ht⟩) hS.2.2 hdg E.2.2.1
theorem hv_zret (E : hp_E p s m args meth c cc nL own Ts D cA B0) {mc ms : Nat} {post : Option hp_A → hp_S → Prop} {v : Int32} (hr : meth.sig.returnType = some .boolean) (hdg : decode cc pc = .ok (.ireturn, 1)) (hv : narrow .boolean (.int v) = .int v) (hc : cells ≤ mc) (hs : slots ≤ ms) (hp : post (some (aI v)) x) : hp_V p l e R s m args below meth c (fun ad0 => MQ below (hp_Q D cA B0 ad0 x0 post) args s mc ms (fun q => B0 ≤ q)) D cA B0 nL ad0 x0 cells slots x pc lv [aI v] := by
  intro ad H locs ls hG hx0 hl0 hst hS hl
  refine W.widen hc hs ?_
  exact W.zret E.1.1 E.1.2.1 hr hv (fun t ht hW => ⟨(some (aI v)), ad, x, rfl, hp, (by intro w h; cases h; trivial), hx0, by rw [ht]; exact hG, hp_K.warm hW E.2.1, hS.F ht⟩) hS.2.2 hdg E.2.2.1
theorem hv_lret (E : hp_E p s m args meth c cc nL own Ts D cA B0) {mc ms : Nat} {post : Option hp_A → hp_S → Prop} {v : Int64} (hr : meth.sig.returnType = some .long) (hdg : decode cc pc = .ok (.lreturn, 1)) (hc : cells ≤ mc) (hs : slots ≤ ms) (hp : post (some (aL v)) x) : hp_V p l e R s m args below meth c (fun ad0 => MQ below (hp_Q D cA B0 ad0 x0 post) args s mc ms (fun q => B0 ≤ q)) D cA B0 nL ad0 x0 cells slots x pc lv [aL v] := by
  intro ad H locs ls hG hx0 hl0 hst hS hl
  refine W.widen hc hs ?_
  exact W.lret E.1.1 E.1.2.1 hr (fun t ht hW => ⟨(some (aL v)), ad, x, rfl, hp, (by intro w h; cases h; trivial), hx0, by rw [ht]; exact hG, hp_K.warm hW E.2.1, hS.F ht⟩) hS.2.2 hdg E.2.2.1
theorem hv_vret (E : hp_E p s m args meth c cc nL own Ts D cA B0) {mc ms : Nat} {post : Option hp_A → hp_S → Prop} (hr : meth.sig.returnType = none) (hdg : decode cc pc = .ok (.return_, 1)) (hc : cells ≤ mc) (hs : slots ≤ ms) (hp : post none x) : hp_V p l e R s m args below meth c (fun ad0 => MQ below (hp_Q D cA B0 ad0 x0 post) args s mc ms (fun q => B0 ≤ q)) D cA B0 nL ad0 x0 cells slots x pc lv [] := by
  intro ad H locs ls hG hx0 hl0 hst hS hl
  refine W.widen hc hs ?_
  exact W.vret E.1.1 E.1.2.1 hr (fun t ht hW => ⟨none, ad, x, rfl, hp, (by intro w h; cases h), hx0, by rw [ht]; exact hG, hp_K.warm hW E.2.1, hS.F ht⟩) hS.2.2 hdg E.2.2.1
/-- behind a call -/
theorem hp_call {mc ms : Nat} {post : Option hp_A → hp_S → Prop} {a : Array Value} {ad : hp_T → Nat} {st0 : List Value} {H : Heap} {locs : List Loc} {ls : Array Slot} (hr : va_Run p l e R s m args below meth c H locs cells slots mc ms (F0 m pc ls st0) (rest.map (hp_c ad)) (hp_Q D cA B0 ad x post a) (fun q => B0 ≤ q)) (hx0 : ∀ t, x0.1 t = true → x.1 t = true ∧ ad t = ad0 t) (hl0 : hp_okl x.1 lv) (hst : hp_oks x.1 rest) (hS : va_S (fun q => B0 ≤ q) s.heap H locs) (hl : lv_has ls nL (hp_cl ad lv))
    (kk : ∀ (v : Option hp_A) (x' : hp_S), post v x' → (∀ t, x.1 t = true → x'.1 t = true) → hp_V p l e R s m args below meth c Q D cA B0 nL ad0 x0 (cells + mc) (slots + ms) x' (pc + 3) lv (v.toList ++ rest)) : W p l e R s m args below meth c H locs cells slots (Q ad0) (F0 m pc ls st0) := by
  intro T hT X
  obtain ⟨v, st₀, t, T', L, h0, X', hL, e1, e2, ⟨v', ad', x', hv, hp, hvk, hx1, hG, hK, hz, hk⟩, st⟩ := hr T hT X
  cases hv
  rw [h0] at hz hk
  have hmono : ∀ t, x.1 t = true → x'.1 t = true := fun t h => (hx1 t h).1
  have hsame : ∀ t, x.1 t = true → ad' t = ad t := fun t h => (hx1 t h).2
  have w := kk v' x' hp hmono ad' T'.heap (locs ++ L) ls (by rw [e1]; exact hG) (fun t h => ⟨hmono t (hx0 t h).1, (hsame t (hx0 t h).1).trans (hx0 t h).2⟩) (fun q hq => hp_ok_mono hmono (hl0 q hq)) (by
      cases v' with
      | none => exact hp_oks_mono hmono hst
      | some w => exact ⟨hvk w rfl, hp_oks_mono hmono hst⟩)
    ⟨Nat.le_trans hS.1 (by rw [e1]; exact hz), fun q h1 h2 => by rw [e1, hk q (Nat.lt_of_lt_of_le h1 hS.1) h2]; exact hS.2.1 q h1 h2, fun q hq => by
      rcases List.mem_append.mp hq with h | h
      · exact hS.2.2 q h
      · exact hL q h⟩ (by rw [hp_cl_same hsame hl0]; exact hl)
  have e3 : (v'.toList ++ rest).map (hp_c ad') = (v'.map (hp_c ad')).toList ++ rest.map (hp_c ad) := by
    rw [List.map_append, hp_cs_same hsame hst]
    cases v' <;> rfl
  rw [e3] at w
  obtain ⟨t2, a1, b1⟩ := w T' rfl X'
  exact ⟨t2, st t2 a1, b1⟩
theorem hp_blind {av : List Value} {ad : hp_T → Nat} : FrameBlind (va_Pc av (fun U => hp_H D cA B0 ad x U.heap ∧ hp_K D cA U)) := fun a U g mk q => by
  obtain ⟨q0, q1, q2⟩ := q
  exact ⟨q0, q1, hp_K.same (u := U) (U := U.calling g mk a) rfl q2⟩
theorem hp_oks_app {y : hp_T → Bool} : ∀ {l r : List hp_A}, hp_oks y (l ++ r) → hp_oks y l ∧ hp_oks y r
  | [], _, h => ⟨trivial, h⟩
  | _ :: _, _, h => ⟨⟨h.1, (hp_oks_app h.2).1⟩, (hp_oks_app h.2).2⟩
theorem hp_oks_in {y : hp_T → Bool} : ∀ {l : List hp_A}, hp_oks y l ↔ ∀ v ∈ l, hp_ok y v
  | [] => ⟨fun _ v h => absurd h List.not_mem_nil, fun _ => trivial⟩
  | a :: r => ⟨fun h v hv => by
      rcases List.mem_cons.mp hv with e | e
      · rw [e]; exact h.1
      · exact hp_oks_in.mp h.2 v e, fun h => ⟨h a List.mem_cons_self, hp_oks_in.mpr (fun v hv => h v (List.mem_cons_of_mem _ hv))⟩⟩
theorem hp_oks_rev {y : hp_T → Bool} {l : List hp_A} (h : hp_oks y l.reverse) : hp_oks y l := hp_oks_in.mpr (fun v hv => hp_oks_in.mp h v (List.mem_reverse.mpr hv))
theorem hv_runV (E : hp_E p s m args meth c cc nL own Ts D cA B0) {y : MethodName} {bytes : ByteArray} {maxL mc ms n index : Nat} {ret : Option FieldType} {ws : List Cond} {rm : Room} {post : Option hp_A → hp_S → Prop} {st : List hp_A} (As : List hp_A) {t : hp_T} {ci : Nat} {sl : List Nat} {C : String} {T : u_T} {N : Nat} (hM : hp_C l y ws rm (aR t :: As) x post mc ms) (cw : CallW R s args own C index y bytes maxL ret ws rm mc ms n) (hk : hp_kd t.1 = .inl (ci, sl)) (hc : vwCl[ci]? = some (C, T, N)) (hn : As.length = n) (hst0 : st = As.reverse ++ aR t :: rest) (hW : (rest.map hp_cat).sum ≤ 8) (hdg : decode cc pc = .ok (.invokevirtual index, 3)) (hf : cells + mc ≤ R.cells ∧ slots + ms ≤ R.slots)
    (kk : ∀ (v : Option hp_A) (x' : hp_S), post v x' → (∀ t, x.1 t = true → x'.1 t = true) → hp_V p l e R s m args below meth c Q D cA B0 nL ad0 x0 (cells + mc) (slots + ms) x' (pc + 3) lv (v.toList ++ rest)) : hp_V p l e R s m args below meth c Q D cA B0 nL ad0 x0 cells slots x pc lv st := by
  intro ad H locs ls hG hx0 hl0 hst hS hl
  subst hst0
  have hsa := (hp_oks_app hst).1
  have hsb := (hp_oks_app hst).2
  have hoks : hp_oks x.1 (aR t :: As) := ⟨hsb.1, hp_oks_rev hsa⟩
  have hat := (hG.2.1 t hsb.1).2
  rw [hp_cell_o hk] at hat
  refine hp_call (rest := rest) (ad := ad) (va_runV (As := As.map (hp_c ad)) (rest := rest.map (hp_c ad)) (b := ad t) E.1 (hM D cA B0 ad hoks) cw ⟨hp_blind, va_recv E.2.1.1 (hp_one hat) (ci := ci) (q0 := 0) hc rfl, fun U hU hW => ⟨rfl, by rw [hU]; exact hG, hp_K.warm hW E.2.1⟩⟩ rfl (by rw [List.length_map]; exact hn) hl.1 (by simp [hp_c, va_rf]) (lv_room (by rw [hp_sumcat]; exact hW)) hdg hf) hx0 hl0 hsb.2 hS hl kk
theorem hv_runS (E : hp_E p s m args meth c cc nL own Ts D cA B0) {y : MethodName} {bytes : ByteArray} {maxL mc ms n index : Nat} {ret : Option FieldType} {ws : List Cond} {rm : Room} {post : Option hp_A → hp_S → Prop} {st : List hp_A} (As : List hp_A) (hM : hp_C l y ws rm As x post mc ms) (cw : CallB R s args own index y bytes maxL ret ws rm mc ms n ∧ (Cond.static y).before args s = true) (hn : As.length = n) (hst0 : st = As.reverse ++ rest) (hW : (rest.map hp_cat).sum ≤ 8) (hdg : decode cc pc = .ok (.invokestatic index, 3)) (hf : cells + mc ≤ R.cells ∧ slots + ms ≤ R.slots)
    (kk : ∀ (v : Option hp_A) (x' : hp_S), post v x' → (∀ t, x.1 t = true → x'.1 t = true) → hp_V p l e R s m args below meth c Q D cA B0 nL ad0 x0 (cells + mc) (slots + ms) x' (pc + 3) lv (v.toList ++ rest)) : hp_V p l e R s m args below meth c Q D cA B0 nL ad0 x0 cells slots x pc lv st := by
  intro ad H locs ls hG hx0 hl0 hst hS hl
  subst hst0
  have hsa := (hp_oks_app hst).1
  have hsb := (hp_oks_app hst).2
  refine hp_call (rest := rest) (ad := ad) (va_runS (As := As.map (hp_c ad)) (rest := rest.map (hp_c ad)) E.1 (hM D cA B0 ad (hp_oks_rev hsa)) cw ⟨hp_blind, fun U hU hW => ⟨rfl, by rw [hU]; exact hG, hp_K.warm hW E.2.1⟩⟩ rfl (by rw [List.length_map]; exact hn) hl.1 (by simp [hp_c, va_rf]) (lv_room (by rw [hp_sumcat]; exact hW)) hdg hf) hx0 hl0 hsb hS hl kk
theorem hv_runI (E : hp_E p s m args meth c cc nL own Ts D cA B0) {y : MethodName} {bytes : ByteArray} {maxL mc ms n index : Nat} {ws : List Cond} {rm : Room} {post : Option hp_A → hp_S → Prop} {st : List hp_A} (As : List hp_A) {t : hp_T} (hM : hp_C l y ws rm (aR t :: As) x post mc ms) (cw : CallB R s args own index y bytes maxL none ws rm mc ms n ∧ y.name = "<init>" ∧ (Cond.instanceMethod y).before args s = true) (hn : As.length = n) (hst0 : st = As.reverse ++ aR t :: rest) (hW : (rest.map hp_cat).sum ≤ 8) (hdg : decode cc pc = .ok (.invokespecial index, 3)) (hf : cells + mc ≤ R.cells ∧ slots + ms ≤ R.slots)
    (kk : ∀ (v : Option hp_A) (x' : hp_S), post v x' → (∀ t, x.1 t = true → x'.1 t = true) → hp_V p l e R s m args below meth c Q D cA B0 nL ad0 x0 (cells + mc) (slots + ms) x' (pc + 3) lv (v.toList ++ rest)) : hp_V p l e R s m args below meth c Q D cA B0 nL ad0 x0 cells slots x pc lv st := by
  intro ad H locs ls hG hx0 hl0 hst hS hl
  subst hst0
  have hsa := (hp_oks_app hst).1
  have hsb := (hp_oks_app hst).2
  have hoks : hp_oks x.1 (aR t :: As) := ⟨hsb.1, hp_oks_rev hsa⟩
  refine hp_call (rest := rest) (ad := ad) (va_runI (As := As.map (hp_c ad)) (rest := rest.map (hp_c ad)) (b := ad t) E.1 (hM D cA B0 ad hoks) cw ⟨hp_blind, fun U hU hW => ⟨rfl, by rw [hU]; exact hG, hp_K.warm hW E.2.1⟩⟩ rfl (by rw [List.length_map]; exact hn) hl.1 (by simp [hp_c, va_rf]) (lv_room (by rw [hp_sumcat]; exact hW)) hdg hf) hx0 hl0 hsb.2 hS hl kk
theorem hv_runIN (E : hp_E p s m args meth c cc nL own Ts D cA B0) {y : MethodName} {bytes : ByteArray} {maxL mc ms n index : Nat} {ws : List Cond} {rm : Room} {post : Option hp_A → hp_S → Prop} {st : List hp_A} (As : List hp_A) {t : hp_T} {host : String} (hM : hp_C l y ws rm (aR t :: As) x post mc ms) (cw : va_CN R s args own index y host bytes maxL none ws rm mc ms n ∧ y.name = "<init>" ∧ (Cond.instanceMethod y).before args s = true) (hn : As.length = n) (hst0 : st = As.reverse ++ aR t :: rest) (hW : (rest.map hp_cat).sum ≤ 8) (hdg : decode cc pc = .ok (.invokespecial index, 3)) (hf : cells + mc ≤ R.cells ∧ slots + ms ≤ R.slots)
    (kk : ∀ (v : Option hp_A) (x' : hp_S), post v x' → (∀ t, x.1 t = true → x'.1 t = true) → hp_V p l e R s m args below meth c Q D cA B0 nL ad0 x0 (cells + mc) (slots + ms) x' (pc + 3) lv (v.toList ++ rest)) : hp_V p l e R s m args below meth c Q D cA B0 nL ad0 x0 cells slots x pc lv st := by
  intro ad H locs ls hG hx0 hl0 hst hS hl
  subst hst0
  have hsa := (hp_oks_app hst).1
  have hsb := (hp_oks_app hst).2
  have hoks : hp_oks x.1 (aR t :: As) := ⟨hsb.1, hp_oks_rev hsa⟩
  refine hp_call (rest := rest) (ad := ad) (va_runIN (As := As.map (hp_c ad)) (rest := rest.map (hp_c ad)) (b := ad t) E.1 (hM D cA B0 ad hoks) cw ⟨hp_blind, fun U hU hW => ⟨rfl, by rw [hU]; exact hG, hp_K.warm hW E.2.1⟩⟩ rfl (by rw [List.length_map]; exact hn) hl.1 (by simp [hp_c, va_rf]) (lv_room (by rw [hp_sumcat]; exact hW)) hdg hf) hx0 hl0 hsb.2 hS hl kk
theorem hv_maxl (E : hp_E p s m args meth c cc nL own Ts D cA B0) {index : Nat} {a b : Int64} (hdg : decode cc pc = .ok (.invokestatic index, 3)) (hlink : Cond.methodLink own index Lib.MathLoose.max_long.x ∈ Ts) (hstat : Cond.static Lib.MathLoose.max_long.x ∈ Ts) (hini : Cond.initialized "java/lang/Math" ∈ Ts) (hcode : Cond.code Lib.MathLoose.max_long.x Lib.MathLoose.max_long.code 4 (some .long) ∈ Ts) (hframes : 1 ≤ R.frames) (hlocals : (rest.map hp_cat).sum + 15 ≤ R.locals) (hc : cells ≤ R.cells) (hs : slots ≤ R.slots)
    (kk : hp_V p l e R s m args below meth c Q D cA B0 nL ad0 x0 cells slots x (pc + 3) lv (aL (if b < a then a else b) :: rest)) : hp_V p l e R s m args below meth c Q D cA B0 nL ad0 x0 cells slots x pc lv (aL b :: aL a :: rest) := by
  intro ad H locs ls hG hx0 hl0 hst hS hl
  obtain ⟨hx, hb, hml, hown, hts⟩ := E.1
  exact va_mmax_long hx hb (by rw [hml]; exact hl.1.symm) hown (hts _ hlink) (hts _ hstat) (hts _ hini) (hts _ hcode) hframes (by rw [hp_sumcat]; exact hlocals) hc hs hdg (kk ad H locs ls hG hx0 hl0 ⟨trivial, hst.2.2⟩ hS hl)
theorem hv_VI (E : hp_E p s m args meth c cc nL own Ts D cA B0) {y : MethodName} {bytes : ByteArray} {maxL mc ms n index : Nat} {ret : Option FieldType} {ws : List Cond} {rm : Room} {P : Int32 → hp_S → Prop} {st : List hp_A} (As : List hp_A) {t : hp_T} {ci : Nat} {sl : List Nat} {C : String} {T : u_T} {N : Nat} (hM : hp_C l y ws rm (aR t :: As) x (hp_pI P) mc ms) (cw : CallW R s args own C index y bytes maxL ret ws rm mc ms n) (hk : hp_kd t.1 = .inl (ci, sl)) (hc : vwCl[ci]? = some (C, T, N)) (hn : As.length = n) (hst0 : st = As.reverse ++ aR t :: rest) (hW : (rest.map hp_cat).sum ≤ 8) (hdg : decode cc pc = .ok (.invokevirtual index, 3)) (hf : cells + mc ≤ R.cells ∧ slots + ms ≤ R.slots)
    (kk : ∀ (r : Int32) (x' : hp_S), hp_sh x' → P r x' → hp_V p l e R s m args below meth c Q D cA B0 nL ad0 x0 (cells + mc) (slots + ms) x' (pc + 3) lv (aI r :: rest)) : hp_V p l e R s m args below meth c Q D cA B0 nL ad0 x0 cells slots x pc lv st := by
  refine hv_runV E As hM cw hk hc hn hst0 hW hdg hf ?_
  rintro v x' hp -
  obtain ⟨r, rfl, h1, h2⟩ := hp
  exact kk r x' h1 h2
theorem hv_VL (E : hp_E p s m args meth c cc nL own Ts D cA B0) {y : MethodName} {bytes : ByteArray} {maxL mc ms n index : Nat} {ret : Option FieldType} {ws : List Cond} {rm : Room} {P : Int64 → hp_S → Prop} {st : List hp_A} (As : List hp_A) {t : hp_T} {ci : Nat} {sl : List Nat} {C : String} {T : u_T} {N : Nat} (hM : hp_C l y ws rm (aR t :: As) x (hp_pL P) mc ms) (cw : CallW R s args own C index y bytes maxL ret ws rm mc ms n) (hk : hp_kd t.1 = .inl (ci, sl)) (hc : vwCl[ci]? = some (C, T, N)) (hn : As.length = n) (hst0 : st = As.reverse ++ aR t :: rest) (hW : (rest.map hp_cat).sum ≤ 8) (hdg : decode cc pc = .ok (.invokevirtual index, 3)) (hf : cells + mc ≤ R.cells ∧ slots + ms ≤ R.slots)
    (kk : ∀ (r : Int64) (x' : hp_S), hp_sh x' → P r x' → hp_V p l e R s m args below meth c Q D cA B0 nL ad0 x0 (cells + mc) (slots + ms) x' (pc + 3) lv (aL r :: rest)) : hp_V p l e R s m args below meth c Q D cA B0 nL ad0 x0 cells slots x pc lv st := by
  refine hv_runV E As hM cw hk hc hn hst0 hW hdg hf ?_
  rintro v x' hp -
  obtain ⟨r, rfl, h1, h2⟩ := hp
  exact kk r x' h1 h2
theorem hv_VV (E : hp_E p s m args meth c cc nL own Ts D cA B0) {y : MethodName} {bytes : ByteArray} {maxL mc ms n index : Nat} {ret : Option FieldType} {ws : List Cond} {rm : Room} {P : hp_S → Prop} {st : List hp_A} (As : List hp_A) {t : hp_T} {ci : Nat} {sl : List Nat} {C : String} {T : u_T} {N : Nat} (hM : hp_C l y ws rm (aR t :: As) x (hp_pV P) mc ms) (cw : CallW R s args own C index y bytes maxL ret ws rm mc ms n) (hk : hp_kd t.1 = .inl (ci, sl)) (hc : vwCl[ci]? = some (C, T, N)) (hn : As.length = n) (hst0 : st = As.reverse ++ aR t :: rest) (hW : (rest.map hp_cat).sum ≤ 8) (hdg : decode cc pc = .ok (.invokevirtual index, 3)) (hf : cells + mc ≤ R.cells ∧ slots + ms ≤ R.slots)
    (kk : ∀ (x' : hp_S), hp_sh x' → P x' → hp_V p l e R s m args below meth c Q D cA B0 nL ad0 x0 (cells + mc) (slots + ms) x' (pc + 3) lv rest) : hp_V p l e R s m args below meth c Q D cA B0 nL ad0 x0 cells slots x pc lv st := by
  refine hv_runV E As hM cw hk hc hn hst0 hW hdg hf ?_
  rintro v x' hp -
  obtain ⟨rfl, h1, h2⟩ := hp
  exact kk x' h1 h2
theorem hv_SI (E : hp_E p s m args meth c cc nL own Ts D cA B0) {y : MethodName} {bytes : ByteArray} {maxL mc ms n index : Nat} {ret : Option FieldType} {ws : List Cond} {rm : Room} {P : Int32 → hp_S → Prop} {st : List hp_A} (As : List hp_A)  (hM : hp_C l y ws rm (As) x (hp_pI P) mc ms) (cw : CallB R s args own index y bytes maxL ret ws rm mc ms n ∧ (Cond.static y).before args s = true) (hn : As.length = n) (hst0 : st = As.reverse ++ rest) (hW : (rest.map hp_cat).sum ≤ 8) (hdg : decode cc pc = .ok (.invokestatic index, 3)) (hf : cells + mc ≤ R.cells ∧ slots + ms ≤ R.slots)
    (kk : ∀ (r : Int32) (x' : hp_S), hp_sh x' → P r x' → hp_V p l e R s m args below meth c Q D cA B0 nL ad0 x0 (cells + mc) (slots + ms) x' (pc + 3) lv (aI r :: rest)) : hp_V p l e R s m args below meth c Q D cA B0 nL ad0 x0 cells slots x pc lv st := by
  refine hv_runS E As hM cw hn hst0 hW hdg hf ?_
  rintro v x' hp -
  obtain ⟨r, rfl, h1, h2⟩ := hp
  exact kk r x' h1 h2
theorem hv_SL (E : hp_E p s m args meth c cc nL own Ts D cA B0) {y : MethodName} {bytes : ByteArray} {maxL mc ms n index : Nat} {ret : Option FieldType} {ws : List Cond} {rm : Room} {P : Int64 → hp_S → Prop} {st : List hp_A} (As : List hp_A)  (hM : hp_C l y ws rm (As) x (hp_pL P) mc ms) (cw : CallB R s args own index y bytes maxL ret ws rm mc ms n ∧ (Cond.static y).before args s = true) (hn : As.length = n) (hst0 : st = As.reverse ++ rest) (hW : (rest.map hp_cat).sum ≤ 8) (hdg : decode cc pc = .ok (.invokestatic index, 3)) (hf : cells + mc ≤ R.cells ∧ slots + ms ≤ R.slots)
    (kk : ∀ (r : Int64) (x' : hp_S), hp_sh x' → P r x' → hp_V p l e R s m args below meth c Q D cA B0 nL ad0 x0 (cells + mc) (slots + ms) x' (pc + 3) lv (aL r :: rest)) : hp_V p l e R s m args below meth c Q D cA B0 nL ad0 x0 cells slots x pc lv st := by
  refine hv_runS E As hM cw hn hst0 hW hdg hf ?_
  rintro v x' hp -
  obtain ⟨r, rfl, h1, h2⟩ := hp
  exact kk r x' h1 h2
theorem hv_SV (E : hp_E p s m args meth c cc nL own Ts D cA B0) {y : MethodName} {bytes : ByteArray} {maxL mc ms n index : Nat} {ret : Option FieldType} {ws : List Cond} {rm : Room} {P : hp_S → Prop} {st : List hp_A} (As : List hp_A)  (hM : hp_C l y ws rm (As) x (hp_pV P) mc ms) (cw : CallB R s args own index y bytes maxL ret ws rm mc ms n ∧ (Cond.static y).before args s = true) (hn : As.length = n) (hst0 : st = As.reverse ++ rest) (hW : (rest.map hp_cat).sum ≤ 8) (hdg : decode cc pc = .ok (.invokestatic index, 3)) (hf : cells + mc ≤ R.cells ∧ slots + ms ≤ R.slots)
    (kk : ∀ (x' : hp_S), hp_sh x' → P x' → hp_V p l e R s m args below meth c Q D cA B0 nL ad0 x0 (cells + mc) (slots + ms) x' (pc + 3) lv rest) : hp_V p l e R s m args below meth c Q D cA B0 nL ad0 x0 cells slots x pc lv st := by
  refine hv_runS E As hM cw hn hst0 hW hdg hf ?_
  rintro v x' hp -
  obtain ⟨rfl, h1, h2⟩ := hp
  exact kk x' h1 h2
theorem hp_cwV {own C : String} {index maxL mc ms : Nat} {y : MethodName} {bytes : ByteArray} {ret : Option FieldType} {rm : Room} (n : Nat) (E : hp_E p s m args meth c cc nL own hp_ws D cA B0) (h1 : Cond.methodLink own index y ∈ hp_ws) (h2 : Cond.instanceMethod y ∈ hp_ws) (h3 : Cond.selects C y y ∈ hp_ws) (h4 : Cond.initialized C ∈ hp_ws) (h5 : Cond.code y bytes maxL ret ∈ hp_ws) (hrc : rm.cells = mc) (hrs : rm.slots = ms) (hd : y.cls = C ∧ y.cls ≠ "java/lang/invoke/MethodHandle" ∧ y.cls ≠ "java/lang/invoke/VarHandle" ∧ (parseMethodDescriptor y.desc).map (fun d => d.parameters.length) = some n) (hR : rm.frames + 1 ≤ R.frames ∧ 8 + (maxL + 11) + rm.locals ≤ R.locals) : CallW R s args own C index y bytes maxL ret (Cond.code y bytes maxL ret :: hp_ws) rm mc ms n := by
  refine cwV n E.1.2.2.2.2 (fun w hw => ?_) rfl hrc hrs hd hR
  simp only [wsV, List.mem_append, List.mem_cons, List.not_mem_nil, or_false] at hw
  rcases hw with (rfl | rfl | rfl | rfl) | rfl | hw
  · exact hp_ws_good _ h1
  · exact hp_ws_good _ h2
  · exact hp_ws_good _ h3
  · exact hp_ws_good _ h4
  · exact hp_ws_good _ h5
  · exact hp_ws_good _ hw
theorem hp_cwI {own : String} {index maxL mc ms : Nat} {y : MethodName} {bytes : ByteArray} {rm : Room} (n : Nat) (E : hp_E p s m args meth c cc nL own hp_ws D cA B0) (h1 : Cond.methodLink own index y ∈ hp_ws) (h2 : Cond.instanceMethod y ∈ hp_ws) (h4 : Cond.initialized y.cls ∈ hp_ws) (h5 : Cond.code y bytes maxL none ∈ hp_ws) (hrc : rm.cells = mc) (hrs : rm.slots = ms) (hy : y.name = "<init>") (hd : y.cls ≠ "java/lang/invoke/MethodHandle" ∧ y.cls ≠ "java/lang/invoke/VarHandle" ∧ (parseMethodDescriptor y.desc).map (fun d => d.parameters.length) = some n) (hR : rm.frames + 1 ≤ R.frames ∧ 8 + (maxL + 11) + rm.locals ≤ R.locals) : CallB R s args own index y bytes maxL none (Cond.code y bytes maxL none :: hp_ws) rm mc ms n ∧ y.name = "<init>" ∧ (Cond.instanceMethod y).before args s = true := by
  refine cwI n E.1.2.2.2.2 (fun w hw => ?_) rfl hrc hrs (E.1.2.2.2.2 _ h4) (E.1.2.2.2.2 _ h1) (E.1.2.2.2.2 _ h2) hy hd hR
  rcases List.mem_cons.mp hw with rfl | hw
  · exact hp_ws_good _ h5
  · exact hp_ws_good _ hw
theorem hp_cwN {own host : String} {index maxL mc ms : Nat} {y : MethodName} {bytes : ByteArray} {rm : Room} (n : Nat) (E : hp_E p s m args meth c cc nL own hp_ws D cA B0) (h1 : va_Nw (.methodLinkNest own index y host) s) (h2 : Cond.instanceMethod y ∈ hp_ws) (h4 : Cond.initialized y.cls ∈ hp_ws) (h5 : Cond.code y bytes maxL none ∈ hp_ws) (hrc : rm.cells = mc) (hrs : rm.slots = ms) (hy : y.name = "<init>") (hd : y.cls ≠ "java/lang/invoke/MethodHandle" ∧ y.cls ≠ "java/lang/invoke/VarHandle" ∧ (parseMethodDescriptor y.desc).map (fun d => d.parameters.length) = some n) (hR : rm.frames + 1 ≤ R.frames ∧ 8 + (maxL + 11) + rm.locals ≤ R.locals) : va_CN R s args own index y host bytes maxL none (Cond.code y bytes maxL none :: hp_ws) rm mc ms n ∧ y.name = "<init>" ∧ (Cond.instanceMethod y).before args s = true := by
  refine ⟨va_cnB n E.1.2.2.2.2 (fun w hw => ?_) rfl hrc hrs h1 (E.1.2.2.2.2 _ h4) hd hR, hy, E.1.2.2.2.2 _ h2⟩
  rcases List.mem_cons.mp hw with rfl | hw
  · exact hp_ws_good _ h5
  · exact hp_ws_good _ hw
end HV
end
section
section HV2
variable {p : Program} {l : Launch} {e : Env} {R : Room} {s : State} {m : MethodId} {args : Array Value} {below : List Frame} {meth : Method} {c : Code} {Q : (hp_T → Nat) → State → Prop} {D : va_G} {cA : Nat → ClassId} {B0 nL cells slots : Nat} {ad0 : hp_T → Nat} {x0 x : hp_S} {lv : List (Nat × hp_A)}
variable {cc : ByteArray} {own : String} {Ts : List Cond} {pc : Nat} {rest : List hp_A}
theorem hv_I0 (E : hp_E p s m args meth c cc nL own Ts D cA B0) {y : MethodName} {bytes : ByteArray} {maxL mc ms n index : Nat} {ws : List Cond} {rm : Room} {P : hp_S → Prop} {st : List hp_A} (As : List hp_A) {t : hp_T} (hM : hp_C l y ws rm (aR t :: As) x (hp_p0 P) mc ms) (cw : CallB R s args own index y bytes maxL none ws rm mc ms n ∧ y.name = "<init>" ∧ (Cond.instanceMethod y).before args s = true) (hn : As.length = n) (hst0 : st = As.reverse ++ aR t :: rest) (hW : (rest.map hp_cat).sum ≤ 8) (hdg : decode cc pc = .ok (.invokespecial index, 3)) (hf : cells + mc ≤ R.cells ∧ slots + ms ≤ R.slots)
    (kk : ∀ x' : hp_S, P x' → hp_V p l e R s m args below meth c Q D cA B0 nL ad0 x0 (cells + mc) (slots + ms) x' (pc + 3) lv rest) : hp_V p l e R s m args below meth c Q D cA B0 nL ad0 x0 cells slots x pc lv st := by
  refine hv_runI E As hM cw hn hst0 hW hdg hf ?_
  rintro v x' ⟨rfl, hp⟩ -
  exact kk x' hp
theorem hv_N0 (E : hp_E p s m args meth c cc nL own Ts D cA B0) {y : MethodName} {bytes : ByteArray} {maxL mc ms n index : Nat} {ws : List Cond} {rm : Room} {P : hp_S → Prop} {st : List hp_A} (As : List hp_A) {t : hp_T} {host : String} (hM : hp_C l y ws rm (aR t :: As) x (hp_p0 P) mc ms) (cw : va_CN R s args own index y host bytes maxL none ws rm mc ms n ∧ y.name = "<init>" ∧ (Cond.instanceMethod y).before args s = true) (hn : As.length = n) (hst0 : st = As.reverse ++ aR t :: rest) (hW : (rest.map hp_cat).sum ≤ 8) (hdg : decode cc pc = .ok (.invokespecial index, 3)) (hf : cells + mc ≤ R.cells ∧ slots + ms ≤ R.slots)
    (kk : ∀ x' : hp_S, P x' → hp_V p l e R s m args below meth c Q D cA B0 nL ad0 x0 (cells + mc) (slots + ms) x' (pc + 3) lv rest) : hp_V p l e R s m args below meth c Q D cA B0 nL ad0 x0 cells slots x pc lv st := by
  refine hv_runIN E As hM cw hn hst0 hW hdg hf ?_
  rintro v x' ⟨rfl, hp⟩ -
  exact kk x' hp
theorem hv_astore_nN (E : hp_E p s m args meth c cc nL own Ts D cA B0) {n : Fin 4} {i : Nat} {lv' : List (Nat × hp_A)} (hdg : decode cc pc = .ok (.astore_n n, 1)) (hi : (n : Nat) = i) (hn : i < nL) (hf : hp_f1 i lv = lv') (k : hp_V p l e R s m args below meth c Q D cA B0 nL ad0 x0 cells slots x (pc + 1) ((i, aN) :: lv') rest) : hp_V p l e R s m args below meth c Q D cA B0 nL ad0 x0 cells slots x pc lv (aN :: rest) := fun ad H locs ls hG hx0 hl0 hst hS hl => lv_astore_nN E.1.1 E.1.2.1 hdg hi hl hn rfl (fun ls2 h2 => k ad H locs ls2 hG hx0 (hp_okl_cons trivial (by rw [← hf]; exact hp_f1_ok hl0)) hst.2 hS (by rw [hp_f1_cl, hf] at h2; exact h2))
theorem hv_aload_nN (E : hp_E p s m args meth c cc nL own Ts D cA B0) {n : Fin 4} {i : Nat} (hdg : decode cc pc = .ok (.aload_n n, 1)) (hi : (n : Nat) = i) (j : Nat) (hj : lv[j]? = some (i, aN)) (k : hp_V p l e R s m args below meth c Q D cA B0 nL ad0 x0 cells slots x (pc + 1) lv (aN :: rest)) : hp_V p l e R s m args below meth c Q D cA B0 nL ad0 x0 cells slots x pc lv rest := fun ad H locs ls hG hx0 hl0 hst hS hl => lv_aload_nN E.1.1 E.1.2.1 hdg hi (lv_at hl j (hp_cl_at hj)) (k ad H locs ls hG hx0 hl0 ⟨trivial, hst⟩ hS hl)
theorem hv_copyl (E : hp_E p s m args meth c cc nL own Ts D cA B0) {a n index : Nat} {t t2 : hp_T} {w : Int32} (hdg : decode cc pc = .ok (.invokestatic index, 3)) (hlink : Cond.methodLink own index arraycopyName ∈ Ts) (hnat : Cond.native arraycopyName ∈ Ts) (hstat : Cond.static arraycopyName ∈ Ts) (hini : Cond.initialized "java/lang/System" ∈ Ts) (hk : hp_kd t.1 = .inr (a, n)) (hk2 : hp_kd t2.1 = .inr (a, n)) (ha : a < hp_na) (hty : hp_aty a = .long) (hw : ¬ w < 0) (hwn : w.toNatClampNeg = n) (hframes : 1 ≤ R.frames) (hlocals : (rest.map hp_cat).sum + (nativeFrameWords "java/lang/System" "arraycopy" 5 + 11) ≤ R.locals)
    (kk : hp_V p l e R s m args below meth c Q D cA B0 nL ad0 x0 cells slots (hp_wL x t2 (va_cpy (x.2.2.1 t) (x.2.2.1 t2) 0 0 n)) (pc + 3) lv rest) : hp_V p l e R s m args below meth c Q D cA B0 nL ad0 x0 cells slots x pc lv (aI w :: aI (nI 0) :: aR t2 :: aI (nI 0) :: aR t :: rest) := by
  intro ad H locs ls hG hx0 hl0 hst hS hl
  obtain ⟨hx, hb, hml, hown, hts⟩ := E.1
  have ht2 : x.1 t2 = true := hst.2.2.1
  have ht : x.1 t = true := hst.2.2.2.2.1
  obtain ⟨-, hat⟩ := hG.2.1 t ht
  obtain ⟨hB2, hat2⟩ := hG.2.1 t2 ht2
  have hy := hp_tys_at (cA := cA) ha
  rw [hp_cell_a hk] at hat
  rw [hp_cell_a hk2] at hat2
  rw [hty] at hat hat2 hy
  have hc0 : H[ad t]? = some (vp_cell (cA a) (n, .inr (.inl (x.2.2.1 t)))) := hat
  have hc1 : H[ad t2]? = some (vp_cell (cA a) (n, .inr (.inl (x.2.2.1 t2)))) := hat2
  have z0 : (nI 0).toNatClampNeg = 0 := by decide
  have z1 : (nI 0).toInt = 0 := by decide
  have zw : w.toInt = (n : Int) := by
    have hz0 : (0 : Int) ≤ w.toInt := by
      have := Int32.not_lt.mp hw
      simpa using Int32.le_iff_toInt_le.mp this
    have h2 : w.toInt.toNat = n := hwn
    omega
  intro T hT X
  obtain ⟨-, k0, hk0, cm0, hkk0⟩ := (E.2.1.1.2 a _ hy).1 n (fun j => .long (x.2.2.1 t j))
  obtain ⟨-, k1, hk1, cm1, hkk1⟩ := (E.2.1.1.2 a _ hy).1 n (fun j => .long (x.2.2.1 t2 j))
  obtain ⟨vm', X', step⟩ := X.arraycopy hx hown (hts _ hlink) (hts _ hnat) (hts _ hstat) (hts _ hini) (src := ad t) (dst := ad t2) (cs := vp_cell (cA a) (n, .inr (.inl (x.2.2.1 t)))) (cd := vp_cell (cA a) (n, .inr (.inl (x.2.2.1 t2)))) (srcPos := nI 0) (destPos := nI 0) (n := w) (by rw [hT]; exact hc0) (by rw [hT]; exact hc1)
    (fun _ h => by cases h) (fun _ h => by cases h) (fun h => by cases h) (fun h => by cases h) hk0 hk1 hkk0 hkk1 (by simp [refKind]) (by decide) (by decide) hw
    (by rw [z1, zw]; show ¬ _ > ((arrV (cA a) n (fun j => .long (x.2.2.1 t j))).slots.size : Int); rw [arrV_size]; omega)
    (by rw [z1, zw]; show ¬ _ > ((arrV (cA a) n (fun j => .long (x.2.2.1 t2 j))).slots.size : Int); rw [arrV_size]; omega)
    (fun vm₁ _ i hi => by
      have e : (vp_cell (cA a) (n, .inr (.inl (x.2.2.1 t)))).slots.getD ((nI 0).toNatClampNeg + i) .null = .long (x.2.2.1 t ((nI 0).toNatClampNeg + i)) := by
        show (arrV (cA a) n (fun j => .long (x.2.2.1 t j))).slots.getD _ _ = _
        rw [Array.getD_eq_getD_getElem?, arrV_read _ _ (by omega)]
        rfl
      rw [e]
      exact ⟨rfl, trivial⟩)
    (g := F0 m pc ls (.int w :: .int (nI 0) :: .ref (ad t2) :: .int (nI 0) :: .ref (ad t) :: rest.map (hp_c ad))) rfl (by rw [hml]; exact hl.1) (rest := rest.map (hp_c ad)) rfl (by rw [hb]; exact hdg) hframes (by show 2 * 0 + _ + _ ≤ _; rw [hp_sumcat]; omega)
  have e1 : copied (vp_cell (cA a) (n, .inr (.inl (x.2.2.1 t)))) (vp_cell (cA a) (n, .inr (.inl (x.2.2.1 t2)))) (nI 0) (nI 0) w = vp_cell (cA a) (n, .inr (.inl (va_cpy (x.2.2.1 t) (x.2.2.1 t2) 0 0 n))) := by
    have e0 : copied (vp_cell (cA a) (n, .inr (.inl (x.2.2.1 t)))) (vp_cell (cA a) (n, .inr (.inl (x.2.2.1 t2)))) (nI 0) (nI 0) w = vp_cell (cA a) (n, .inr (.inl (va_cpy (x.2.2.1 t) (x.2.2.1 t2) (nI 0).toNatClampNeg (nI 0).toNatClampNeg w.toNatClampNeg))) := va_copied (fun z => .long z) (cA a) (cA a) (x.2.2.1 t) (x.2.2.1 t2) (by omega)
    rw [z0, hwn] at e0
    exact e0
  rw [e1] at X' step
  have hlt : ad t2 < H.size := (Array.getElem?_eq_some_iff.mp hc1).1
  have hheap : ((T.setVm vm').setCell (ad t2) (vp_cell (cA a) (n, .inr (.inl (va_cpy (x.2.2.1 t) (x.2.2.1 t2) 0 0 n))))).heap = H.setIfInBounds (ad t2) (vp_cell (cA a) (n, .inr (.inl (va_cpy (x.2.2.1 t) (x.2.2.1 t2) 0 0 n)))) := by rw [← hT]; rfl
  have oq : ∀ q : Nat, q ≠ ad t2 → (H.setIfInBounds (ad t2) (vp_cell (cA a) (n, .inr (.inl (va_cpy (x.2.2.1 t) (x.2.2.1 t2) 0 0 n)))))[q]? = H[q]? := fun q hq => by simp [Array.getElem?_setIfInBounds, Ne.symm hq]
  obtain ⟨t9, a1, b1⟩ := kk ad _ _ ls (hG.put (x' := hp_wL x t2 (va_cpy (x.2.2.1 t) (x.2.2.1 t2) 0 0 n)) ht2 rfl (fun t' h => hp_cell_congr rfl (by simp [hp_wL, h]) (fun _ => rfl)) (fun k t' h => hG.2.2.2 t2 k t' ht2 h) (fun _ _ => rfl) (by
      rw [hp_cell_a hk2, hty]
      show (H.setIfInBounds (ad t2) _)[ad t2]? = some (vp_cell (cA a) (n, .inr (.inl ((hp_wL x t2 (va_cpy (x.2.2.1 t) (x.2.2.1 t2) 0 0 n)).2.2.1 t2))))
      simp [Array.getElem?_setIfInBounds, hlt, hp_wL]) (by simp) oq) hx0 hl0 hst.2.2.2.2.2 ⟨by simp; exact hS.1, fun q g1 g2 => by
      rw [oq q (fun e => g2 (by rw [e]; exact hB2))]
      exact hS.2.1 q g1 g2, fun q hq => by
      rcases List.mem_append.mp hq with h | h
      · exact hS.2.2 q h
      · obtain ⟨z, -, hz⟩ := List.mem_map.mp h
        rw [← hz]
        exact hB2⟩ hl _ hheap X'
  exact ⟨t9, step t9 a1, b1⟩
end HV2
theorem nwX0 : ∀ j, j < 6 → defaultValue (tyX0 j) = (match ([2, 2, 2, 2, 2, 0] : List Nat).getD j 0 with | 0 => .int 0 | 1 => .long 0 | _ => .null) ∧ j < ([2, 2, 2, 2, 2, 0] : List Nat).length := by
  intro j hj
  have h : j = 0 ∨ j = 1 ∨ j = 2 ∨ j = 3 ∨ j = 4 ∨ j = 5 := by omega
  rcases h with rfl | rfl | rfl | rfl | rfl | rfl <;> exact ⟨rfl, by decide⟩
theorem nwX1 : ∀ j, j < 5 → defaultValue (tyX1 j) = (match ([2, 2, 2, 2, 0] : List Nat).getD j 0 with | 0 => .int 0 | 1 => .long 0 | _ => .null) ∧ j < ([2, 2, 2, 2, 0] : List Nat).length := by
  intro j hj
  have h : j = 0 ∨ j = 1 ∨ j = 2 ∨ j = 3 ∨ j = 4 := by omega
  rcases h with rfl | rfl | rfl | rfl | rfl <;> exact ⟨rfl, by decide⟩
theorem nwX2 : ∀ j, j < 11 → defaultValue (tyX2 j) = (match ([0, 2, 2, 2, 0, 0, 0, 0, 0, 0, 1] : List Nat).getD j 0 with | 0 => .int 0 | 1 => .long 0 | _ => .null) ∧ j < ([0, 2, 2, 2, 0, 0, 0, 0, 0, 0, 1] : List Nat).length := by
  intro j hj
  have h : j = 0 ∨ j = 1 ∨ j = 2 ∨ j = 3 ∨ j = 4 ∨ j = 5 ∨ j = 6 ∨ j = 7 ∨ j = 8 ∨ j = 9 ∨ j = 10 := by omega
  rcases h with rfl | rfl | rfl | rfl | rfl | rfl | rfl | rfl | rfl | rfl | rfl <;> exact ⟨rfl, by decide⟩
theorem nwX3 : ∀ j, j < 11 → defaultValue (tyX3 j) = (match ([2, 2, 2, 2, 2, 2, 0, 0, 0, 0, 0] : List Nat).getD j 0 with | 0 => .int 0 | 1 => .long 0 | _ => .null) ∧ j < ([2, 2, 2, 2, 2, 2, 0, 0, 0, 0, 0] : List Nat).length := by
  intro j hj
  have h : j = 0 ∨ j = 1 ∨ j = 2 ∨ j = 3 ∨ j = 4 ∨ j = 5 ∨ j = 6 ∨ j = 7 ∨ j = 8 ∨ j = 9 ∨ j = 10 := by omega
  rcases h with rfl | rfl | rfl | rfl | rfl | rfl | rfl | rfl | rfl | rfl | rfl <;> exact ⟨rfl, by decide⟩
theorem nwX4 : ∀ j, j < 30 → defaultValue (tyX4 j) = (match ([0, 0, 2, 0, 2, 2, 2, 2, 2, 0, 0, 2, 2, 2, 2, 0, 2, 2, 2, 2, 2, 2, 2, 2, 2, 2, 2, 2, 0, 0] : List Nat).getD j 0 with | 0 => .int 0 | 1 => .long 0 | _ => .null) ∧ j < ([0, 0, 2, 0, 2, 2, 2, 2, 2, 0, 0, 2, 2, 2, 2, 0, 2, 2, 2, 2, 2, 2, 2, 2, 2, 2, 2, 2, 0, 0] : List Nat).length := by
  intro j hj
  have h : j = 0 ∨ j = 1 ∨ j = 2 ∨ j = 3 ∨ j = 4 ∨ j = 5 ∨ j = 6 ∨ j = 7 ∨ j = 8 ∨ j = 9 ∨ j = 10 ∨ j = 11 ∨ j = 12 ∨ j = 13 ∨ j = 14 ∨ j = 15 ∨ j = 16 ∨ j = 17 ∨ j = 18 ∨ j = 19 ∨ j = 20 ∨ j = 21 ∨ j = 22 ∨ j = 23 ∨ j = 24 ∨ j = 25 ∨ j = 26 ∨ j = 27 ∨ j = 28 ∨ j = 29 := by omega
  rcases h with rfl | rfl | rfl | rfl | rfl | rfl | rfl | rfl | rfl | rfl | rfl | rfl | rfl | rfl | rfl | rfl | rfl | rfl | rfl | rfl | rfl | rfl | rfl | rfl | rfl | rfl | rfl | rfl | rfl | rfl <;> exact ⟨rfl, by decide⟩
end
section
/-! new long[6][24]: the outer array (1, 0) and its rows (2, 0) .. (2, 5) -/
def hp_nwG (x : hp_S) : hp_S := (fun t => if t = (1, 0) ∨ (t.1 = 2 ∧ t.2 < 6) then true else x.1 t, fun t k => if t = (1, 0) ∨ (t.1 = 2 ∧ t.2 < 6) then 0 else x.2.1 t k, fun t k => if t = (1, 0) ∨ (t.1 = 2 ∧ t.2 < 6) then 0 else x.2.2.1 t k, fun t k => if t = (1, 0) then (if k < 6 then some (2, k) else none) else if t.1 = 2 ∧ t.2 < 6 then none else x.2.2.2 t k)
def hp_adG (ad : hp_T → Nat) (q : Nat) : hp_T → Nat := fun t => if t = (1, 0) then q else if t.1 = 2 ∧ t.2 < 6 then q + 1 + t.2 else ad t
theorem hp_outer (c : ClassId) (N h0 : Nat) : ∀ i : Nat, Jvm.Free.Multi.outerC c N h0 i = arrV c N (fun j => va_rf (if j < i then some (h0 + 1 + j) else none))
  | 0 => by
    show ({ cls := c, slots := Array.replicate N .null, vm := .none } : Cell) = _
    rw [arrV_new]
    refine congrArg (arrV c N) (funext fun j => ?_)
    simp [va_rf]
  | i + 1 => by
    show (Jvm.Free.Multi.outerC c N h0 i).setSlot i (.ref (h0 + 1 + i)) = _
    rw [hp_outer c N h0 i, arrV_store]
    refine congrArg (arrV c N) (funext fun j => ?_)
    by_cases e : j = i
    · subst e
      simp [updV, va_rf]
    · by_cases h : j < i
      · simp [updV, e, h, Nat.lt_succ_of_lt h]
      · simp [updV, e, h, show ¬ j < i + 1 by omega]
theorem hp_H.mkG {D : va_G} {cA : Nat → ClassId} {B0 : Nat} {ad : hp_T → Nat} {x : hp_S} {H H1 : Heap} (h : hp_H D cA B0 ad x H) (h1 : x.1 (1, 0) = false) (h2 : ∀ i, i < 6 → x.1 (2, i) = false) (e0 : H1[H.size]? = some (arrV (cA 3) 6 (fun j => va_rf (if j < 6 then some (H.size + 1 + j) else none)))) (e1 : ∀ i, i < 6 → H1[H.size + 1 + i]? = some (arrV (cA 1) 24 (fun _ => .long 0))) (hz : H1.size = H.size + 7) (oq : ∀ q : Nat, q < H.size → H1[q]? = H[q]?) : hp_H D cA B0 (hp_adG ad H.size) (hp_nwG x) H1 := by
  have hlt : ∀ t', x.1 t' = true → ad t' < H.size := fun t' h' => (h.2.1 t' h').2.lt
  have hn1 : ∀ t', x.1 t' = true → t' ≠ (1, 0) := fun t' h' e => by rw [e, h1] at h'; cases h'
  have hn2 : ∀ t', x.1 t' = true → ¬ (t'.1 = 2 ∧ t'.2 < 6) := fun t' h' e => by
    obtain ⟨a, b⟩ := t'
    obtain ⟨ea, eb⟩ := e
    simp only at ea eb
    subst ea
    rw [h2 b eb] at h'
    cases h'
  have hcase : ∀ t', (hp_nwG x).1 t' = true → t' = (1, 0) ∨ (t'.1 = 2 ∧ t'.2 < 6) ∨ x.1 t' = true := fun t' h' => by
    simp only [hp_nwG] at h'
    split at h'
    · rename_i q
      rcases q with q | q
      · exact Or.inl q
      · exact Or.inr (Or.inl q)
    · exact Or.inr (Or.inr h')
  have hadOld : ∀ t', x.1 t' = true → hp_adG ad H.size t' = ad t' := fun t' h' => by simp only [hp_adG, if_neg (hn1 t' h'), if_neg (hn2 t' h')]
  have hadRow : ∀ t', (t'.1 = 2 ∧ t'.2 < 6) → hp_adG ad H.size t' = H.size + 1 + t'.2 := fun t' h' => by
    have : t' ≠ (1, 0) := fun e => by rw [e] at h'; exact absurd h'.1 (by decide)
    simp only [hp_adG, if_neg this, if_pos h']
  have hadO : hp_adG ad H.size (1, 0) = H.size := by simp [hp_adG]
  refine ⟨by rw [hz]; have := h.1; omega, fun t' h' => ?_, fun t1 t2 g1 g2 e => ?_, fun t1 k t2 g1 g2 => ?_⟩
  · rcases hcase t' h' with q | q | q
    · subst q
      rw [hadO]
      refine ⟨h.1, ?_⟩
      rw [hp_cell_a (a := 3) (n := 6) rfl]
      show H1[H.size]? = some (arrV (cA 3) 6 (fun j => va_rf (((hp_nwG x).2.2.2 (1, 0) j).map (hp_adG ad H.size))))
      rw [e0]
      refine congrArg some (congrArg (arrV (cA 3) 6) (funext fun j => ?_))
      by_cases hj : j < 6
      · simp [hp_nwG, hj, hp_adG]
      · simp [hp_nwG, hj]
    · rw [hadRow t' q]
      refine ⟨by have := h.1; omega, ?_⟩
      obtain ⟨a, b⟩ := t'
      obtain ⟨ea, eb⟩ := q
      simp only at ea eb
      subst ea
      rw [hp_cell_a (a := 1) (n := 24) rfl]
      show H1[H.size + 1 + b]? = some (arrV (cA 1) 24 (fun j => .long ((hp_nwG x).2.2.1 (2, b) j)))
      rw [e1 b eb]
      refine congrArg some (congrArg (arrV (cA 1) 24) (funext fun j => ?_))
      simp [hp_nwG, eb]
    · rw [hadOld t' q]
      refine ⟨(h.2.1 t' q).1, ?_⟩
      have en : ¬ (t' = (1, 0) ∨ (t'.1 = 2 ∧ t'.2 < 6)) := fun z => z.elim (hn1 t' q) (hn2 t' q)
      rw [show hp_cell cA (hp_adG ad H.size) (hp_nwG x) t' = hp_cell cA ad x t' from hp_cell_congr (by funext k; simp only [hp_nwG, if_neg en]) (by funext k; simp only [hp_nwG, if_neg en]) (fun k => by
        have e3 : (hp_nwG x).2.2.2 t' k = x.2.2.2 t' k := by simp only [hp_nwG, if_neg (hn1 t' q), if_neg (hn2 t' q)]
        rw [e3]
        cases hq : x.2.2.2 t' k with
        | none => rfl
        | some t2 => simp only [Option.map_some, hadOld t2 (h.2.2.2 t' k t2 q hq)])]
      exact (h.2.1 t' q).2.kept (oq _ (hlt t' q))
  · have key : ∀ t', (hp_nwG x).1 t' = true → (t' = (1, 0) ∧ hp_adG ad H.size t' = H.size) ∨ ((t'.1 = 2 ∧ t'.2 < 6) ∧ hp_adG ad H.size t' = H.size + 1 + t'.2) ∨ (x.1 t' = true ∧ hp_adG ad H.size t' = ad t' ∧ ad t' < H.size) := fun t' h' => by
      rcases hcase t' h' with q | q | q
      · exact Or.inl ⟨q, by rw [q]; exact hadO⟩
      · exact Or.inr (Or.inl ⟨q, hadRow t' q⟩)
      · exact Or.inr (Or.inr ⟨q, hadOld t' q, hlt t' q⟩)
    rcases key t1 g1 with ⟨q1, r1⟩ | ⟨q1, r1⟩ | ⟨q1, r1, s1⟩ <;> rcases key t2 g2 with ⟨q2, r2⟩ | ⟨q2, r2⟩ | ⟨q2, r2, s2⟩ <;> rw [r1, r2] at e
    · rw [q1, q2]
    · omega
    · omega
    · omega
    · obtain ⟨a1, b1⟩ := t1
      obtain ⟨a2, b2⟩ := t2
      simp only at q1 q2 e
      rw [q1.1, q2.1, show b1 = b2 by omega]
    · omega
    · omega
    · omega
    · exact h.2.2.1 t1 t2 q1 q2 e
  · have hlive : ∀ t', t' = (1, 0) ∨ (t'.1 = 2 ∧ t'.2 < 6) ∨ x.1 t' = true → (hp_nwG x).1 t' = true := fun t' q => by
      simp only [hp_nwG]
      split
      · rfl
      · rename_i hne
        rcases q with q | q | q
        · exact absurd (Or.inl q) hne
        · exact absurd (Or.inr q) hne
        · exact q
    simp only [hp_nwG] at g2
    split at g2
    · split at g2
      · cases g2
        exact hlive _ (Or.inr (Or.inl ⟨rfl, by assumption⟩))
      · cases g2
    · split at g2
      · cases g2
      · rename_i n1 n2
        rcases hcase t1 g1 with q | q | q
        · exact absurd q n1
        · exact absurd q n2
        · exact hlive _ (Or.inr (Or.inr (h.2.2.2 t1 k t2 q g2)))
section HVG
variable {p : Program} {l : Launch} {e : Env} {R : Room} {s : State} {m : MethodId} {args : Array Value} {below : List Frame} {meth : Method} {c : Code} {Q : (hp_T → Nat) → State → Prop} {D : va_G} {cA : Nat → ClassId} {B0 nL cells slots : Nat} {ad0 : hp_T → Nat} {x0 x : hp_S} {lv : List (Nat × hp_A)}
variable {cc : ByteArray} {own : String} {Ts : List Cond} {pc : Nat} {rest : List hp_A}
theorem hv_mna (E : hp_E p s m args meth c cc nL own Ts D cA B0) {index : Nat} (hdg : decode cc pc = .ok (.multianewarray index 2, 4)) (hcl : Cond.classLink own index "[[J" ∈ Ts) (harr : Cond.arrayClass .long ∈ Ts) (h1 : x.1 (1, 0) = false) (h2 : ∀ i, i < 6 → x.1 (2, i) = false) (hcells : cells + 7 ≤ R.cells) (hslots : slots + 150 ≤ R.slots)
    (kk : hp_V p l e R s m args below meth c Q D cA B0 nL ad0 x0 (cells + 7) (slots + 150) (hp_nwG x) (pc + 4) lv (aR (1, 0) :: rest)) : hp_V p l e R s m args below meth c Q D cA B0 nL ad0 x0 cells slots x pc lv (aI (nI 24) :: aI (nI 6) :: rest) := by
  intro ad H locs ls hG hx0 hl0 hst hS hl
  obtain ⟨hx, hb, hml, hown, hts⟩ := E.1
  intro T hT X
  have n6 : (nI 6).toNatClampNeg = 6 := by decide
  have n24 : (nI 24).toNatClampNeg = 24 := by decide
  obtain ⟨vm₁, cO, comp, -, fA, fC, -, -, X', step⟩ := X.multianewarray2F hx hown (hts _ hcl) E.2.1.2.2.2.1 (hts _ harr) (g := F0 m pc ls (.int (nI 24) :: .int (nI 6) :: rest.map (hp_c ad))) rfl (by rw [hb]; exact hdg) rfl (by decide) (by decide) (by rw [n6]; decide) (by rw [n24]; decide) (by rw [n24]; decide) rfl rfl (by rw [n6]; omega) (by rw [n6, n24]; omega)
  have hO : cO = cA 3 := by
    have h9 := (E.2.1.1.2 3 _ (hp_tys_at (cA := cA) (a := 3) (by decide))).2
    exact Option.some.inj (fA.symm.trans h9)
  have hC : comp = cA 1 := by
    have h9 := (E.2.1.1.2 1 _ (hp_tys_at (cA := cA) (a := 1) (by decide))).2
    exact Option.some.inj (fC.symm.trans h9)
  subst hO
  subst hC
  rw [n6, n24] at X' step
  generalize hF : Jvm.Free.Multi.fill (T.setVm vm₁) (cA 3) (cA 1) 6 24 (defaultValue .long) 6 = F at X' step
  have hTh : (T.setVm vm₁).heap = H := hT
  obtain ⟨f1, f2, -, -⟩ := Jvm.Free.Multi.fill_facts (T.setVm vm₁) (cA 3) (cA 1) 6 24 (defaultValue .long) 6
  rw [hF, hTh] at f1 f2
  have hold : ∀ y : Nat, y < H.size → F.heap[y]? = H[y]? := fun y hy => by
    have := Jvm.Free.Multi.fill_old (T.setVm vm₁) (cA 3) (cA 1) 6 24 (defaultValue .long) (a := y) (by rw [hTh]; exact hy) 6
    rw [hF, hTh] at this
    exact this
  have hrow : ∀ j : Nat, j < 6 → F.heap[H.size + 1 + j]? = some (arrV (cA 1) 24 (fun _ => .long 0)) := fun j hj => by
    have := Jvm.Free.Multi.fill_inner (T.setVm vm₁) (cA 3) (cA 1) 6 24 (defaultValue .long) 6 j hj
    rw [hF, hTh] at this
    rw [this]
    exact congrArg some (arrV_new (cA 1) 24 (.long 0))
  rw [hp_outer] at f2
  have hmono : ∀ t', x.1 t' = true → (hp_nwG x).1 t' = true := fun t' h => by
    simp only [hp_nwG]
    split
    · rfl
    · exact h
  have hsame : ∀ t', x.1 t' = true → hp_adG ad H.size t' = ad t' := fun t' h => by
    have e1 : t' ≠ (1, 0) := fun e => by rw [e, h1] at h; cases h
    have e2 : ¬ (t'.1 = 2 ∧ t'.2 < 6) := fun e => by
      obtain ⟨a, b⟩ := t'
      obtain ⟨ea, eb⟩ := e
      simp only at ea eb
      subst ea
      rw [h2 b eb] at h
      cases h
    simp only [hp_adG, if_neg e1, if_neg e2]
  have hst2 : hp_oks x.1 rest := hst.2.2
  have w := kk (hp_adG ad H.size) F.heap locs ls (hG.mkG h1 h2 f2 hrow (by rw [f1]) hold) (fun t' h => ⟨hmono t' (hx0 t' h).1, (hsame t' (hx0 t' h).1).trans (hx0 t' h).2⟩) (fun q hq => hp_ok_mono hmono (hl0 q hq)) ⟨by simp [hp_ok, hp_nwG], hp_oks_mono hmono hst2⟩
    ⟨by rw [f1]; have := hS.1; omega, fun y g1 g2 => (hold y (Nat.lt_of_lt_of_le g1 hS.1)).trans (hS.2.1 y g1 g2), hS.2.2⟩ (by rw [hp_cl_same hsame hl0]; exact hl)
  rw [List.map_cons, hp_cs_same hsame hst2] at w
  have e2 : hp_c (hp_adG ad H.size) (aR (1, 0)) = .ref H.size := by simp [hp_c, hp_adG, va_rf]
  rw [e2] at w
  obtain ⟨t9, a1, b1⟩ := w F rfl X'
  refine ⟨t9, step t9 ?_, b1⟩
  have e9 : T.heap.size = H.size := by rw [hT]
  rw [e9]
  exact a1
end HVG
end
