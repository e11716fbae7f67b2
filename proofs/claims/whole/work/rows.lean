section
-- ===== PART A: goes FIRST, ahead of the names: the tables' words, and 'selects' of the private methods out of them =====
/-- a private method of a class that the tables say can be made, by its rows of tables_1 -/
def lw_okq (q : MethodName × Nat) : Prop := (q.1.cls ≠ "java/lang/invoke/MethodHandle" ∧ q.1.cls ≠ "java/lang/invoke/VarHandle") ∧ Cond.instantiable q.1.cls q.2 ∈ tables_1 ∧ Cond.privateMethod q.1 ∈ tables_1 ∧ Cond.instanceMethod q.1 ∈ tables_1
theorem lw_p0 : lw_okq (⟨"VersionJoins", "isStep", "(I)Z"⟩, 11) := ⟨⟨by decide +kernel, by decide +kernel⟩, List.mem_of_getElem? (i := 9) (by decide +kernel), List.mem_of_getElem? (i := 149) (by decide +kernel), List.mem_of_getElem? (i := 150) (by decide +kernel)⟩
theorem lw_p1 : lw_okq (⟨"VersionJoins", "isThing", "(I)Z"⟩, 11) := ⟨⟨by decide +kernel, by decide +kernel⟩, List.mem_of_getElem? (i := 9) (by decide +kernel), List.mem_of_getElem? (i := 153) (by decide +kernel), List.mem_of_getElem? (i := 154) (by decide +kernel)⟩
theorem lw_p2 : lw_okq (⟨"VersionJoins", "isSameOrAbove", "(II)Z"⟩, 11) := ⟨⟨by decide +kernel, by decide +kernel⟩, List.mem_of_getElem? (i := 9) (by decide +kernel), List.mem_of_getElem? (i := 161) (by decide +kernel), List.mem_of_getElem? (i := 162) (by decide +kernel)⟩
theorem lw_p3 : lw_okq (⟨"VersionJoins", "putAbove", "(II)V"⟩, 11) := ⟨⟨by decide +kernel, by decide +kernel⟩, List.mem_of_getElem? (i := 9) (by decide +kernel), List.mem_of_getElem? (i := 169) (by decide +kernel), List.mem_of_getElem? (i := 170) (by decide +kernel)⟩
theorem lw_p4 : lw_okq (⟨"VersionJoins", "hasUserAtOrAbove", "(II)Z"⟩, 11) := ⟨⟨by decide +kernel, by decide +kernel⟩, List.mem_of_getElem? (i := 9) (by decide +kernel), List.mem_of_getElem? (i := 181) (by decide +kernel), List.mem_of_getElem? (i := 182) (by decide +kernel)⟩
theorem lw_p5 : lw_okq (⟨"VersionJoins", "isOpen", "(I)Z"⟩, 11) := ⟨⟨by decide +kernel, by decide +kernel⟩, List.mem_of_getElem? (i := 9) (by decide +kernel), List.mem_of_getElem? (i := 221) (by decide +kernel), List.mem_of_getElem? (i := 222) (by decide +kernel)⟩
theorem lw_p6 : lw_okq (⟨"VersionJoins", "collectConflicts", "(LVersionJoins$Session;)I"⟩, 11) := ⟨⟨by decide +kernel, by decide +kernel⟩, List.mem_of_getElem? (i := 9) (by decide +kernel), List.mem_of_getElem? (i := 245) (by decide +kernel), List.mem_of_getElem? (i := 246) (by decide +kernel)⟩
theorem lw_p7 : lw_okq (⟨"VersionJoins", "giveWritten", "(LVersionJoins$Session;)V"⟩, 11) := ⟨⟨by decide +kernel, by decide +kernel⟩, List.mem_of_getElem? (i := 9) (by decide +kernel), List.mem_of_getElem? (i := 263) (by decide +kernel), List.mem_of_getElem? (i := 264) (by decide +kernel)⟩
theorem lw_p8 : lw_okq (⟨"VersionJoins", "give", "(IJ)V"⟩, 11) := ⟨⟨by decide +kernel, by decide +kernel⟩, List.mem_of_getElem? (i := 9) (by decide +kernel), List.mem_of_getElem? (i := 267) (by decide +kernel), List.mem_of_getElem? (i := 268) (by decide +kernel)⟩
theorem lw_p9 : lw_okq (⟨"VersionJoins", "isStale", "(I)Z"⟩, 11) := ⟨⟨by decide +kernel, by decide +kernel⟩, List.mem_of_getElem? (i := 9) (by decide +kernel), List.mem_of_getElem? (i := 297) (by decide +kernel), List.mem_of_getElem? (i := 298) (by decide +kernel)⟩
theorem lw_p10 : lw_okq (⟨"VersionJoins", "refresh", "(II)Z"⟩, 11) := ⟨⟨by decide +kernel, by decide +kernel⟩, List.mem_of_getElem? (i := 9) (by decide +kernel), List.mem_of_getElem? (i := 324) (by decide +kernel), List.mem_of_getElem? (i := 325) (by decide +kernel)⟩
theorem lw_p11 : lw_okq (⟨"VersionJoins$Step", "resultOfKind", "()J"⟩, 11) := ⟨⟨by decide +kernel, by decide +kernel⟩, List.mem_of_getElem? (i := 98) (by decide +kernel), List.mem_of_getElem? (i := 332) (by decide +kernel), List.mem_of_getElem? (i := 333) (by decide +kernel)⟩
theorem lw_p12 : lw_okq (⟨"VersionJoins$Step", "sum", "()J"⟩, 11) := ⟨⟨by decide +kernel, by decide +kernel⟩, List.mem_of_getElem? (i := 98) (by decide +kernel), List.mem_of_getElem? (i := 336) (by decide +kernel), List.mem_of_getElem? (i := 337) (by decide +kernel)⟩
theorem lw_p13 : lw_okq (⟨"VersionJoins$Step", "greatest", "()J"⟩, 11) := ⟨⟨by decide +kernel, by decide +kernel⟩, List.mem_of_getElem? (i := 98) (by decide +kernel), List.mem_of_getElem? (i := 340) (by decide +kernel), List.mem_of_getElem? (i := 341) (by decide +kernel)⟩
theorem lw_p14 : lw_okq (⟨"VersionJoins$Step", "exclusiveOr", "()J"⟩, 11) := ⟨⟨by decide +kernel, by decide +kernel⟩, List.mem_of_getElem? (i := 98) (by decide +kernel), List.mem_of_getElem? (i := 347) (by decide +kernel), List.mem_of_getElem? (i := 348) (by decide +kernel)⟩
theorem lw_p15 : lw_okq (⟨"VersionJoins$Step", "differentOnes", "()J"⟩, 11) := ⟨⟨by decide +kernel, by decide +kernel⟩, List.mem_of_getElem? (i := 98) (by decide +kernel), List.mem_of_getElem? (i := 351) (by decide +kernel), List.mem_of_getElem? (i := 352) (by decide +kernel)⟩
def lw_privs_1 : List (MethodName × Nat) := [(⟨"VersionJoins", "isStep", "(I)Z"⟩, 11), (⟨"VersionJoins", "isThing", "(I)Z"⟩, 11), (⟨"VersionJoins", "isSameOrAbove", "(II)Z"⟩, 11), (⟨"VersionJoins", "putAbove", "(II)V"⟩, 11), (⟨"VersionJoins", "hasUserAtOrAbove", "(II)Z"⟩, 11), (⟨"VersionJoins", "isOpen", "(I)Z"⟩, 11), (⟨"VersionJoins", "collectConflicts", "(LVersionJoins$Session;)I"⟩, 11), (⟨"VersionJoins", "giveWritten", "(LVersionJoins$Session;)V"⟩, 11), (⟨"VersionJoins", "give", "(IJ)V"⟩, 11), (⟨"VersionJoins", "isStale", "(I)Z"⟩, 11), (⟨"VersionJoins", "refresh", "(II)Z"⟩, 11), (⟨"VersionJoins$Step", "resultOfKind", "()J"⟩, 11), (⟨"VersionJoins$Step", "sum", "()J"⟩, 11), (⟨"VersionJoins$Step", "greatest", "()J"⟩, 11), (⟨"VersionJoins$Step", "exclusiveOr", "()J"⟩, 11), (⟨"VersionJoins$Step", "differentOnes", "()J"⟩, 11)]
theorem lw_r1 : ∀ q ∈ lw_privs_1, lw_okq q := List.forall_mem_cons.mpr ⟨lw_p0, List.forall_mem_cons.mpr ⟨lw_p1, List.forall_mem_cons.mpr ⟨lw_p2, List.forall_mem_cons.mpr ⟨lw_p3, List.forall_mem_cons.mpr ⟨lw_p4, List.forall_mem_cons.mpr ⟨lw_p5, List.forall_mem_cons.mpr ⟨lw_p6, List.forall_mem_cons.mpr ⟨lw_p7, List.forall_mem_cons.mpr ⟨lw_p8, List.forall_mem_cons.mpr ⟨lw_p9, List.forall_mem_cons.mpr ⟨lw_p10, List.forall_mem_cons.mpr ⟨lw_p11, List.forall_mem_cons.mpr ⟨lw_p12, List.forall_mem_cons.mpr ⟨lw_p13, List.forall_mem_cons.mpr ⟨lw_p14, List.forall_mem_cons.mpr ⟨lw_p15, fun _ h => absurd h List.not_mem_nil⟩⟩⟩⟩⟩⟩⟩⟩⟩⟩⟩⟩⟩⟩⟩⟩
theorem lw_p16 : lw_okq (⟨"VersionJoins$Step", "isFirstOfItsValue", "(I)Z"⟩, 11) := ⟨⟨by decide +kernel, by decide +kernel⟩, List.mem_of_getElem? (i := 98) (by decide +kernel), List.mem_of_getElem? (i := 355) (by decide +kernel), List.mem_of_getElem? (i := 356) (by decide +kernel)⟩
theorem lw_p17 : lw_okq (⟨"VersionJoins", "refreshAll", "()V"⟩, 11) := ⟨⟨by decide +kernel, by decide +kernel⟩, List.mem_of_getElem? (i := 9) (by decide +kernel), List.mem_of_getElem? (i := 370) (by decide +kernel), List.mem_of_getElem? (i := 371) (by decide +kernel)⟩
theorem lw_p18 : lw_okq (⟨"VersionJoinsModel", "isStep", "(I)Z"⟩, 30) := ⟨⟨by decide +kernel, by decide +kernel⟩, List.mem_of_getElem? (i := 374) (by decide +kernel), List.mem_of_getElem? (i := 483) (by decide +kernel), List.mem_of_getElem? (i := 484) (by decide +kernel)⟩
theorem lw_p19 : lw_okq (⟨"VersionJoinsModel", "isThing", "(I)Z"⟩, 30) := ⟨⟨by decide +kernel, by decide +kernel⟩, List.mem_of_getElem? (i := 374) (by decide +kernel), List.mem_of_getElem? (i := 487) (by decide +kernel), List.mem_of_getElem? (i := 488) (by decide +kernel)⟩
theorem lw_p20 : lw_okq (⟨"VersionJoinsModel", "doesUse", "(II)Z"⟩, 30) := ⟨⟨by decide +kernel, by decide +kernel⟩, List.mem_of_getElem? (i := 374) (by decide +kernel), List.mem_of_getElem? (i := 491) (by decide +kernel), List.mem_of_getElem? (i := 492) (by decide +kernel)⟩
theorem lw_p21 : lw_okq (⟨"VersionJoinsModel", "unmark", "()V"⟩, 30) := ⟨⟨by decide +kernel, by decide +kernel⟩, List.mem_of_getElem? (i := 374) (by decide +kernel), List.mem_of_getElem? (i := 495) (by decide +kernel), List.mem_of_getElem? (i := 496) (by decide +kernel)⟩
theorem lw_p22 : lw_okq (⟨"VersionJoinsModel", "markBehind", "()V"⟩, 30) := ⟨⟨by decide +kernel, by decide +kernel⟩, List.mem_of_getElem? (i := 374) (by decide +kernel), List.mem_of_getElem? (i := 499) (by decide +kernel), List.mem_of_getElem? (i := 500) (by decide +kernel)⟩
theorem lw_p23 : lw_okq (⟨"VersionJoinsModel", "isBehind", "(II)Z"⟩, 30) := ⟨⟨by decide +kernel, by decide +kernel⟩, List.mem_of_getElem? (i := 374) (by decide +kernel), List.mem_of_getElem? (i := 503) (by decide +kernel), List.mem_of_getElem? (i := 504) (by decide +kernel)⟩
theorem lw_p24 : lw_okq (⟨"VersionJoinsModel", "maker", "(I)I"⟩, 30) := ⟨⟨by decide +kernel, by decide +kernel⟩, List.mem_of_getElem? (i := 374) (by decide +kernel), List.mem_of_getElem? (i := 507) (by decide +kernel), List.mem_of_getElem? (i := 508) (by decide +kernel)⟩
theorem lw_p25 : lw_okq (⟨"VersionJoinsModel", "doesMake", "(II)Z"⟩, 30) := ⟨⟨by decide +kernel, by decide +kernel⟩, List.mem_of_getElem? (i := 374) (by decide +kernel), List.mem_of_getElem? (i := 511) (by decide +kernel), List.mem_of_getElem? (i := 512) (by decide +kernel)⟩
theorem lw_p26 : lw_okq (⟨"VersionJoinsModel", "goes", "(II)Z"⟩, 30) := ⟨⟨by decide +kernel, by decide +kernel⟩, List.mem_of_getElem? (i := 374) (by decide +kernel), List.mem_of_getElem? (i := 527) (by decide +kernel), List.mem_of_getElem? (i := 528) (by decide +kernel)⟩
theorem lw_p27 : lw_okq (⟨"VersionJoinsModel", "touch", "(II)V"⟩, 30) := ⟨⟨by decide +kernel, by decide +kernel⟩, List.mem_of_getElem? (i := 374) (by decide +kernel), List.mem_of_getElem? (i := 531) (by decide +kernel), List.mem_of_getElem? (i := 532) (by decide +kernel)⟩
theorem lw_p28 : lw_okq (⟨"VersionJoinsModel", "own", "(I)J"⟩, 30) := ⟨⟨by decide +kernel, by decide +kernel⟩, List.mem_of_getElem? (i := 374) (by decide +kernel), List.mem_of_getElem? (i := 535) (by decide +kernel), List.mem_of_getElem? (i := 536) (by decide +kernel)⟩
theorem lw_p29 : lw_okq (⟨"VersionJoinsModel", "isConflict", "(II)Z"⟩, 30) := ⟨⟨by decide +kernel, by decide +kernel⟩, List.mem_of_getElem? (i := 374) (by decide +kernel), List.mem_of_getElem? (i := 547) (by decide +kernel), List.mem_of_getElem? (i := 548) (by decide +kernel)⟩
theorem lw_p30 : lw_okq (⟨"VersionJoinsModel", "keepConflicts", "(I)V"⟩, 30) := ⟨⟨by decide +kernel, by decide +kernel⟩, List.mem_of_getElem? (i := 374) (by decide +kernel), List.mem_of_getElem? (i := 553) (by decide +kernel), List.mem_of_getElem? (i := 554) (by decide +kernel)⟩
theorem lw_p31 : lw_okq (⟨"VersionJoinsModel", "isOff", "(I)Z"⟩, 30) := ⟨⟨by decide +kernel, by decide +kernel⟩, List.mem_of_getElem? (i := 374) (by decide +kernel), List.mem_of_getElem? (i := 571) (by decide +kernel), List.mem_of_getElem? (i := 572) (by decide +kernel)⟩
def lw_privs_2 : List (MethodName × Nat) := [(⟨"VersionJoins$Step", "isFirstOfItsValue", "(I)Z"⟩, 11), (⟨"VersionJoins", "refreshAll", "()V"⟩, 11), (⟨"VersionJoinsModel", "isStep", "(I)Z"⟩, 30), (⟨"VersionJoinsModel", "isThing", "(I)Z"⟩, 30), (⟨"VersionJoinsModel", "doesUse", "(II)Z"⟩, 30), (⟨"VersionJoinsModel", "unmark", "()V"⟩, 30), (⟨"VersionJoinsModel", "markBehind", "()V"⟩, 30), (⟨"VersionJoinsModel", "isBehind", "(II)Z"⟩, 30), (⟨"VersionJoinsModel", "maker", "(I)I"⟩, 30), (⟨"VersionJoinsModel", "doesMake", "(II)Z"⟩, 30), (⟨"VersionJoinsModel", "goes", "(II)Z"⟩, 30), (⟨"VersionJoinsModel", "touch", "(II)V"⟩, 30), (⟨"VersionJoinsModel", "own", "(I)J"⟩, 30), (⟨"VersionJoinsModel", "isConflict", "(II)Z"⟩, 30), (⟨"VersionJoinsModel", "keepConflicts", "(I)V"⟩, 30), (⟨"VersionJoinsModel", "isOff", "(I)Z"⟩, 30)]
theorem lw_r2 : ∀ q ∈ lw_privs_2, lw_okq q := List.forall_mem_cons.mpr ⟨lw_p16, List.forall_mem_cons.mpr ⟨lw_p17, List.forall_mem_cons.mpr ⟨lw_p18, List.forall_mem_cons.mpr ⟨lw_p19, List.forall_mem_cons.mpr ⟨lw_p20, List.forall_mem_cons.mpr ⟨lw_p21, List.forall_mem_cons.mpr ⟨lw_p22, List.forall_mem_cons.mpr ⟨lw_p23, List.forall_mem_cons.mpr ⟨lw_p24, List.forall_mem_cons.mpr ⟨lw_p25, List.forall_mem_cons.mpr ⟨lw_p26, List.forall_mem_cons.mpr ⟨lw_p27, List.forall_mem_cons.mpr ⟨lw_p28, List.forall_mem_cons.mpr ⟨lw_p29, List.forall_mem_cons.mpr ⟨lw_p30, List.forall_mem_cons.mpr ⟨lw_p31, fun _ h => absurd h List.not_mem_nil⟩⟩⟩⟩⟩⟩⟩⟩⟩⟩⟩⟩⟩⟩⟩⟩
theorem lw_p32 : lw_okq (⟨"VersionJoinsModel", "go", "(I)V"⟩, 30) := ⟨⟨by decide +kernel, by decide +kernel⟩, List.mem_of_getElem? (i := 374) (by decide +kernel), List.mem_of_getElem? (i := 579) (by decide +kernel), List.mem_of_getElem? (i := 580) (by decide +kernel)⟩
theorem lw_p33 : lw_okq (⟨"VersionJoinsModel", "isNext", "(I)Z"⟩, 30) := ⟨⟨by decide +kernel, by decide +kernel⟩, List.mem_of_getElem? (i := 374) (by decide +kernel), List.mem_of_getElem? (i := 583) (by decide +kernel), List.mem_of_getElem? (i := 584) (by decide +kernel)⟩
theorem lw_p34 : lw_okq (⟨"VersionJoinsModel", "isBefore", "(II)Z"⟩, 30) := ⟨⟨by decide +kernel, by decide +kernel⟩, List.mem_of_getElem? (i := 374) (by decide +kernel), List.mem_of_getElem? (i := 587) (by decide +kernel), List.mem_of_getElem? (i := 588) (by decide +kernel)⟩
theorem lw_p35 : lw_okq (⟨"VersionJoinsModel", "give", "(I)I"⟩, 30) := ⟨⟨by decide +kernel, by decide +kernel⟩, List.mem_of_getElem? (i := 374) (by decide +kernel), List.mem_of_getElem? (i := 592) (by decide +kernel), List.mem_of_getElem? (i := 593) (by decide +kernel)⟩
theorem lw_p36 : lw_okq (⟨"VersionJoinsModel", "worth", "(I)J"⟩, 30) := ⟨⟨by decide +kernel, by decide +kernel⟩, List.mem_of_getElem? (i := 374) (by decide +kernel), List.mem_of_getElem? (i := 596) (by decide +kernel), List.mem_of_getElem? (i := 597) (by decide +kernel)⟩
theorem lw_p37 : lw_okq (⟨"VersionJoinsModel", "isEarlier", "(II)Z"⟩, 30) := ⟨⟨by decide +kernel, by decide +kernel⟩, List.mem_of_getElem? (i := 374) (by decide +kernel), List.mem_of_getElem? (i := 600) (by decide +kernel), List.mem_of_getElem? (i := 601) (by decide +kernel)⟩
def lw_privs_3 : List (MethodName × Nat) := [(⟨"VersionJoinsModel", "go", "(I)V"⟩, 30), (⟨"VersionJoinsModel", "isNext", "(I)Z"⟩, 30), (⟨"VersionJoinsModel", "isBefore", "(II)Z"⟩, 30), (⟨"VersionJoinsModel", "give", "(I)I"⟩, 30), (⟨"VersionJoinsModel", "worth", "(I)J"⟩, 30), (⟨"VersionJoinsModel", "isEarlier", "(II)Z"⟩, 30)]
theorem lw_r3 : ∀ q ∈ lw_privs_3, lw_okq q := List.forall_mem_cons.mpr ⟨lw_p32, List.forall_mem_cons.mpr ⟨lw_p33, List.forall_mem_cons.mpr ⟨lw_p34, List.forall_mem_cons.mpr ⟨lw_p35, List.forall_mem_cons.mpr ⟨lw_p36, List.forall_mem_cons.mpr ⟨lw_p37, fun _ h => absurd h List.not_mem_nil⟩⟩⟩⟩⟩⟩
def lw_privs : List (MethodName × Nat) := lw_privs_1 ++ (lw_privs_2 ++ (lw_privs_3))
def lw_tbl : List Cond := k2_sels lw_privs ++ tables_1
theorem lw_privs_ok : ∀ q ∈ lw_privs, lw_okq q := by
  show ∀ q ∈ lw_privs_1 ++ (lw_privs_2 ++ (lw_privs_3)), lw_okq q
  exact List.forall_mem_append.mpr ⟨lw_r1, List.forall_mem_append.mpr ⟨lw_r2, lw_r3⟩⟩
end
section
/-- the words that last: those of the tables that stay when the machine warms up -/
def hp_ws : List Cond := lw_tbl.filter goodWord
theorem hp_in {i : Nat} {w : Cond} (h : lw_tbl[i]? = some w) (g : goodWord w = true) : w ∈ hp_ws := List.mem_filter.mpr ⟨List.mem_of_getElem? h, g⟩
theorem hp_ws_tbl : ∀ w ∈ hp_ws, w ∈ lw_tbl := fun _ h => (List.mem_filter.mp h).1
theorem hp_ws_good : GoodIn hp_ws hp_ws := fun w h => ⟨h, good_of_word (List.mem_filter.mp h).2⟩
theorem wd_0 : (Jvm.Cond.selects "VersionJoins" ({ cls := "VersionJoins", name := "isStep", desc := "(I)Z" } : Jvm.MethodName) ({ cls := "VersionJoins", name := "isStep", desc := "(I)Z" } : Jvm.MethodName)) ∈ hp_ws := hp_in (i := 0) (by decide +kernel) (by decide +kernel)
theorem wd_1 : (Jvm.Cond.selects "VersionJoins" ({ cls := "VersionJoins", name := "isThing", desc := "(I)Z" } : Jvm.MethodName) ({ cls := "VersionJoins", name := "isThing", desc := "(I)Z" } : Jvm.MethodName)) ∈ hp_ws := hp_in (i := 1) (by decide +kernel) (by decide +kernel)
theorem wd_2 : (Jvm.Cond.selects "VersionJoins" ({ cls := "VersionJoins", name := "isSameOrAbove", desc := "(II)Z" } : Jvm.MethodName) ({ cls := "VersionJoins", name := "isSameOrAbove", desc := "(II)Z" } : Jvm.MethodName)) ∈ hp_ws := hp_in (i := 2) (by decide +kernel) (by decide +kernel)
theorem wd_3 : (Jvm.Cond.selects "VersionJoins" ({ cls := "VersionJoins", name := "putAbove", desc := "(II)V" } : Jvm.MethodName) ({ cls := "VersionJoins", name := "putAbove", desc := "(II)V" } : Jvm.MethodName)) ∈ hp_ws := hp_in (i := 3) (by decide +kernel) (by decide +kernel)
theorem wd_4 : (Jvm.Cond.selects "VersionJoins" ({ cls := "VersionJoins", name := "hasUserAtOrAbove", desc := "(II)Z" } : Jvm.MethodName) ({ cls := "VersionJoins", name := "hasUserAtOrAbove", desc := "(II)Z" } : Jvm.MethodName)) ∈ hp_ws := hp_in (i := 4) (by decide +kernel) (by decide +kernel)
theorem wd_5 : (Jvm.Cond.selects "VersionJoins" ({ cls := "VersionJoins", name := "isOpen", desc := "(I)Z" } : Jvm.MethodName) ({ cls := "VersionJoins", name := "isOpen", desc := "(I)Z" } : Jvm.MethodName)) ∈ hp_ws := hp_in (i := 5) (by decide +kernel) (by decide +kernel)
theorem wd_6 : (Jvm.Cond.selects "VersionJoins" ({ cls := "VersionJoins", name := "collectConflicts", desc := "(LVersionJoins$Session;)I" } : Jvm.MethodName) ({ cls := "VersionJoins", name := "collectConflicts", desc := "(LVersionJoins$Session;)I" } : Jvm.MethodName)) ∈ hp_ws := hp_in (i := 6) (by decide +kernel) (by decide +kernel)
theorem wd_7 : (Jvm.Cond.selects "VersionJoins" ({ cls := "VersionJoins", name := "giveWritten", desc := "(LVersionJoins$Session;)V" } : Jvm.MethodName) ({ cls := "VersionJoins", name := "giveWritten", desc := "(LVersionJoins$Session;)V" } : Jvm.MethodName)) ∈ hp_ws := hp_in (i := 7) (by decide +kernel) (by decide +kernel)
theorem wd_8 : (Jvm.Cond.selects "VersionJoins" ({ cls := "VersionJoins", name := "give", desc := "(IJ)V" } : Jvm.MethodName) ({ cls := "VersionJoins", name := "give", desc := "(IJ)V" } : Jvm.MethodName)) ∈ hp_ws := hp_in (i := 8) (by decide +kernel) (by decide +kernel)
theorem wd_9 : (Jvm.Cond.selects "VersionJoins" ({ cls := "VersionJoins", name := "isStale", desc := "(I)Z" } : Jvm.MethodName) ({ cls := "VersionJoins", name := "isStale", desc := "(I)Z" } : Jvm.MethodName)) ∈ hp_ws := hp_in (i := 9) (by decide +kernel) (by decide +kernel)
theorem wd_10 : (Jvm.Cond.selects "VersionJoins" ({ cls := "VersionJoins", name := "refresh", desc := "(II)Z" } : Jvm.MethodName) ({ cls := "VersionJoins", name := "refresh", desc := "(II)Z" } : Jvm.MethodName)) ∈ hp_ws := hp_in (i := 10) (by decide +kernel) (by decide +kernel)
theorem wd_11 : (Jvm.Cond.selects "VersionJoins$Step" ({ cls := "VersionJoins$Step", name := "resultOfKind", desc := "()J" } : Jvm.MethodName) ({ cls := "VersionJoins$Step", name := "resultOfKind", desc := "()J" } : Jvm.MethodName)) ∈ hp_ws := hp_in (i := 11) (by decide +kernel) (by decide +kernel)
theorem wd_12 : (Jvm.Cond.selects "VersionJoins$Step" ({ cls := "VersionJoins$Step", name := "sum", desc := "()J" } : Jvm.MethodName) ({ cls := "VersionJoins$Step", name := "sum", desc := "()J" } : Jvm.MethodName)) ∈ hp_ws := hp_in (i := 12) (by decide +kernel) (by decide +kernel)
theorem wd_13 : (Jvm.Cond.selects "VersionJoins$Step" ({ cls := "VersionJoins$Step", name := "greatest", desc := "()J" } : Jvm.MethodName) ({ cls := "VersionJoins$Step", name := "greatest", desc := "()J" } : Jvm.MethodName)) ∈ hp_ws := hp_in (i := 13) (by decide +kernel) (by decide +kernel)
theorem wd_14 : (Jvm.Cond.selects "VersionJoins$Step" ({ cls := "VersionJoins$Step", name := "exclusiveOr", desc := "()J" } : Jvm.MethodName) ({ cls := "VersionJoins$Step", name := "exclusiveOr", desc := "()J" } : Jvm.MethodName)) ∈ hp_ws := hp_in (i := 14) (by decide +kernel) (by decide +kernel)
theorem wd_15 : (Jvm.Cond.selects "VersionJoins$Step" ({ cls := "VersionJoins$Step", name := "differentOnes", desc := "()J" } : Jvm.MethodName) ({ cls := "VersionJoins$Step", name := "differentOnes", desc := "()J" } : Jvm.MethodName)) ∈ hp_ws := hp_in (i := 15) (by decide +kernel) (by decide +kernel)
theorem wd_16 : (Jvm.Cond.selects "VersionJoins$Step" ({ cls := "VersionJoins$Step", name := "isFirstOfItsValue", desc := "(I)Z" } : Jvm.MethodName) ({ cls := "VersionJoins$Step", name := "isFirstOfItsValue", desc := "(I)Z" } : Jvm.MethodName)) ∈ hp_ws := hp_in (i := 16) (by decide +kernel) (by decide +kernel)
theorem wd_17 : (Jvm.Cond.selects "VersionJoins" ({ cls := "VersionJoins", name := "refreshAll", desc := "()V" } : Jvm.MethodName) ({ cls := "VersionJoins", name := "refreshAll", desc := "()V" } : Jvm.MethodName)) ∈ hp_ws := hp_in (i := 17) (by decide +kernel) (by decide +kernel)
theorem wd_18 : (Jvm.Cond.selects "VersionJoinsModel" ({ cls := "VersionJoinsModel", name := "isStep", desc := "(I)Z" } : Jvm.MethodName) ({ cls := "VersionJoinsModel", name := "isStep", desc := "(I)Z" } : Jvm.MethodName)) ∈ hp_ws := hp_in (i := 18) (by decide +kernel) (by decide +kernel)
theorem wd_19 : (Jvm.Cond.selects "VersionJoinsModel" ({ cls := "VersionJoinsModel", name := "isThing", desc := "(I)Z" } : Jvm.MethodName) ({ cls := "VersionJoinsModel", name := "isThing", desc := "(I)Z" } : Jvm.MethodName)) ∈ hp_ws := hp_in (i := 19) (by decide +kernel) (by decide +kernel)
theorem wd_20 : (Jvm.Cond.selects "VersionJoinsModel" ({ cls := "VersionJoinsModel", name := "doesUse", desc := "(II)Z" } : Jvm.MethodName) ({ cls := "VersionJoinsModel", name := "doesUse", desc := "(II)Z" } : Jvm.MethodName)) ∈ hp_ws := hp_in (i := 20) (by decide +kernel) (by decide +kernel)
theorem wd_21 : (Jvm.Cond.selects "VersionJoinsModel" ({ cls := "VersionJoinsModel", name := "unmark", desc := "()V" } : Jvm.MethodName) ({ cls := "VersionJoinsModel", name := "unmark", desc := "()V" } : Jvm.MethodName)) ∈ hp_ws := hp_in (i := 21) (by decide +kernel) (by decide +kernel)
theorem wd_22 : (Jvm.Cond.selects "VersionJoinsModel" ({ cls := "VersionJoinsModel", name := "markBehind", desc := "()V" } : Jvm.MethodName) ({ cls := "VersionJoinsModel", name := "markBehind", desc := "()V" } : Jvm.MethodName)) ∈ hp_ws := hp_in (i := 22) (by decide +kernel) (by decide +kernel)
theorem wd_23 : (Jvm.Cond.selects "VersionJoinsModel" ({ cls := "VersionJoinsModel", name := "isBehind", desc := "(II)Z" } : Jvm.MethodName) ({ cls := "VersionJoinsModel", name := "isBehind", desc := "(II)Z" } : Jvm.MethodName)) ∈ hp_ws := hp_in (i := 23) (by decide +kernel) (by decide +kernel)
theorem wd_24 : (Jvm.Cond.selects "VersionJoinsModel" ({ cls := "VersionJoinsModel", name := "maker", desc := "(I)I" } : Jvm.MethodName) ({ cls := "VersionJoinsModel", name := "maker", desc := "(I)I" } : Jvm.MethodName)) ∈ hp_ws := hp_in (i := 24) (by decide +kernel) (by decide +kernel)
theorem wd_25 : (Jvm.Cond.selects "VersionJoinsModel" ({ cls := "VersionJoinsModel", name := "doesMake", desc := "(II)Z" } : Jvm.MethodName) ({ cls := "VersionJoinsModel", name := "doesMake", desc := "(II)Z" } : Jvm.MethodName)) ∈ hp_ws := hp_in (i := 25) (by decide +kernel) (by decide +kernel)
theorem wd_26 : (Jvm.Cond.selects "VersionJoinsModel" ({ cls := "VersionJoinsModel", name := "goes", desc := "(II)Z" } : Jvm.MethodName) ({ cls := "VersionJoinsModel", name := "goes", desc := "(II)Z" } : Jvm.MethodName)) ∈ hp_ws := hp_in (i := 26) (by decide +kernel) (by decide +kernel)
theorem wd_27 : (Jvm.Cond.selects "VersionJoinsModel" ({ cls := "VersionJoinsModel", name := "touch", desc := "(II)V" } : Jvm.MethodName) ({ cls := "VersionJoinsModel", name := "touch", desc := "(II)V" } : Jvm.MethodName)) ∈ hp_ws := hp_in (i := 27) (by decide +kernel) (by decide +kernel)
theorem wd_28 : (Jvm.Cond.selects "VersionJoinsModel" ({ cls := "VersionJoinsModel", name := "own", desc := "(I)J" } : Jvm.MethodName) ({ cls := "VersionJoinsModel", name := "own", desc := "(I)J" } : Jvm.MethodName)) ∈ hp_ws := hp_in (i := 28) (by decide +kernel) (by decide +kernel)
theorem wd_29 : (Jvm.Cond.selects "VersionJoinsModel" ({ cls := "VersionJoinsModel", name := "isConflict", desc := "(II)Z" } : Jvm.MethodName) ({ cls := "VersionJoinsModel", name := "isConflict", desc := "(II)Z" } : Jvm.MethodName)) ∈ hp_ws := hp_in (i := 29) (by decide +kernel) (by decide +kernel)
theorem wd_30 : (Jvm.Cond.selects "VersionJoinsModel" ({ cls := "VersionJoinsModel", name := "keepConflicts", desc := "(I)V" } : Jvm.MethodName) ({ cls := "VersionJoinsModel", name := "keepConflicts", desc := "(I)V" } : Jvm.MethodName)) ∈ hp_ws := hp_in (i := 30) (by decide +kernel) (by decide +kernel)
theorem wd_31 : (Jvm.Cond.selects "VersionJoinsModel" ({ cls := "VersionJoinsModel", name := "isOff", desc := "(I)Z" } : Jvm.MethodName) ({ cls := "VersionJoinsModel", name := "isOff", desc := "(I)Z" } : Jvm.MethodName)) ∈ hp_ws := hp_in (i := 31) (by decide +kernel) (by decide +kernel)
theorem wd_32 : (Jvm.Cond.selects "VersionJoinsModel" ({ cls := "VersionJoinsModel", name := "go", desc := "(I)V" } : Jvm.MethodName) ({ cls := "VersionJoinsModel", name := "go", desc := "(I)V" } : Jvm.MethodName)) ∈ hp_ws := hp_in (i := 32) (by decide +kernel) (by decide +kernel)
theorem wd_33 : (Jvm.Cond.selects "VersionJoinsModel" ({ cls := "VersionJoinsModel", name := "isNext", desc := "(I)Z" } : Jvm.MethodName) ({ cls := "VersionJoinsModel", name := "isNext", desc := "(I)Z" } : Jvm.MethodName)) ∈ hp_ws := hp_in (i := 33) (by decide +kernel) (by decide +kernel)
theorem wd_34 : (Jvm.Cond.selects "VersionJoinsModel" ({ cls := "VersionJoinsModel", name := "isBefore", desc := "(II)Z" } : Jvm.MethodName) ({ cls := "VersionJoinsModel", name := "isBefore", desc := "(II)Z" } : Jvm.MethodName)) ∈ hp_ws := hp_in (i := 34) (by decide +kernel) (by decide +kernel)
theorem wd_35 : (Jvm.Cond.selects "VersionJoinsModel" ({ cls := "VersionJoinsModel", name := "give", desc := "(I)I" } : Jvm.MethodName) ({ cls := "VersionJoinsModel", name := "give", desc := "(I)I" } : Jvm.MethodName)) ∈ hp_ws := hp_in (i := 35) (by decide +kernel) (by decide +kernel)
theorem wd_36 : (Jvm.Cond.selects "VersionJoinsModel" ({ cls := "VersionJoinsModel", name := "worth", desc := "(I)J" } : Jvm.MethodName) ({ cls := "VersionJoinsModel", name := "worth", desc := "(I)J" } : Jvm.MethodName)) ∈ hp_ws := hp_in (i := 36) (by decide +kernel) (by decide +kernel)
theorem wd_37 : (Jvm.Cond.selects "VersionJoinsModel" ({ cls := "VersionJoinsModel", name := "isEarlier", desc := "(II)Z" } : Jvm.MethodName) ({ cls := "VersionJoinsModel", name := "isEarlier", desc := "(II)Z" } : Jvm.MethodName)) ∈ hp_ws := hp_in (i := 37) (by decide +kernel) (by decide +kernel)
theorem wd_38 : (Jvm.Cond.initialized "VersionJoinsLaw") ∈ hp_ws := hp_in (i := 38) (by decide +kernel) (by decide +kernel)
theorem wd_39 : (Jvm.Cond.initialized "VersionJoins") ∈ hp_ws := hp_in (i := 39) (by decide +kernel) (by decide +kernel)
theorem wd_40 : (Jvm.Cond.initialized "VersionJoins$Conflicts") ∈ hp_ws := hp_in (i := 40) (by decide +kernel) (by decide +kernel)
theorem wd_41 : (Jvm.Cond.initialized "VersionJoinsModel") ∈ hp_ws := hp_in (i := 41) (by decide +kernel) (by decide +kernel)
theorem wd_42 : (Jvm.Cond.initialized "VersionJoins$Step") ∈ hp_ws := hp_in (i := 42) (by decide +kernel) (by decide +kernel)
theorem wd_43 : (Jvm.Cond.initialized "VersionJoins$Session") ∈ hp_ws := hp_in (i := 43) (by decide +kernel) (by decide +kernel)
theorem wd_44 : (Jvm.Cond.initialized "java/lang/System") ∈ hp_ws := hp_in (i := 44) (by decide +kernel) (by decide +kernel)
theorem wd_45 : (Jvm.Cond.initialized "java/lang/Math") ∈ hp_ws := hp_in (i := 45) (by decide +kernel) (by decide +kernel)
theorem wd_46 : (Jvm.Cond.classLink "VersionJoinsLaw" (7 : Nat) "VersionJoins") ∈ hp_ws := hp_in (i := 46) (by decide +kernel) (by decide +kernel)
theorem wd_47 : (Jvm.Cond.instantiable "VersionJoins" (11 : Nat)) ∈ hp_ws := hp_in (i := 47) (by decide +kernel) (by decide +kernel)
theorem wd_48 : (Jvm.Cond.methodLink "VersionJoinsLaw" (9 : Nat) ({ cls := "VersionJoins", name := "<init>", desc := "()V" } : Jvm.MethodName)) ∈ hp_ws := hp_in (i := 48) (by decide +kernel) (by decide +kernel)
theorem wd_49 : (Jvm.Cond.instanceMethod ({ cls := "VersionJoins", name := "<init>", desc := "()V" } : Jvm.MethodName)) ∈ hp_ws := hp_in (i := 49) (by decide +kernel) (by decide +kernel)
set_option maxRecDepth 20000 in
theorem wd_50 : (Jvm.Cond.code ({ cls := "VersionJoins", name := "<init>", desc := "()V" } : Jvm.MethodName) prog_1_method_1_code (1 : Nat) (Option.none : Option Jvm.ClassFile.FieldType)) ∈ hp_ws := hp_in (i := 50) rfl (by decide +kernel)
theorem wd_51 : (Jvm.Cond.methodLink "VersionJoins" (1 : Nat) ({ cls := "java/lang/Object", name := "<init>", desc := "()V" } : Jvm.MethodName)) ∈ hp_ws := hp_in (i := 51) (by decide +kernel) (by decide +kernel)
theorem wd_52 : (Jvm.Cond.instanceMethod ({ cls := "java/lang/Object", name := "<init>", desc := "()V" } : Jvm.MethodName)) ∈ hp_ws := hp_in (i := 52) (by decide +kernel) (by decide +kernel)
set_option maxRecDepth 20000 in
theorem wd_53 : (Jvm.Cond.code ({ cls := "java/lang/Object", name := "<init>", desc := "()V" } : Jvm.MethodName) object_method_1_code (1 : Nat) (Option.none : Option Jvm.ClassFile.FieldType)) ∈ hp_ws := hp_in (i := 53) rfl (by decide +kernel)
theorem wd_54 : (Jvm.Cond.classLink "VersionJoins" (9 : Nat) "[[J") ∈ hp_ws := hp_in (i := 54) (by decide +kernel) (by decide +kernel)
theorem wd_56 : (Jvm.Cond.classLink "VersionJoins" (22 : Nat) "VersionJoins$Step") ∈ hp_ws := hp_in (i := 56) (by decide +kernel) (by decide +kernel)
theorem wd_58 : (Jvm.Cond.classLink "VersionJoins" (28 : Nat) "VersionJoins$Session") ∈ hp_ws := hp_in (i := 58) (by decide +kernel) (by decide +kernel)
theorem wd_60 : (Jvm.Cond.classLink "VersionJoins" (34 : Nat) "VersionJoins$Conflicts") ∈ hp_ws := hp_in (i := 60) (by decide +kernel) (by decide +kernel)
theorem wd_61 : (Jvm.Cond.instantiable "VersionJoins$Conflicts" (6 : Nat)) ∈ hp_ws := hp_in (i := 61) (by decide +kernel) (by decide +kernel)
theorem wd_63 : (Jvm.Cond.instanceMethod ({ cls := "VersionJoins$Conflicts", name := "<init>", desc := "()V" } : Jvm.MethodName)) ∈ hp_ws := hp_in (i := 63) (by decide +kernel) (by decide +kernel)
set_option maxRecDepth 20000 in
theorem wd_64 : (Jvm.Cond.code ({ cls := "VersionJoins$Conflicts", name := "<init>", desc := "()V" } : Jvm.MethodName) prog_2_method_1_code (1 : Nat) (Option.none : Option Jvm.ClassFile.FieldType)) ∈ hp_ws := hp_in (i := 64) rfl (by decide +kernel)
theorem wd_65 : (Jvm.Cond.methodLink "VersionJoins$Conflicts" (3 : Nat) ({ cls := "java/lang/Object", name := "<init>", desc := "()V" } : Jvm.MethodName)) ∈ hp_ws := hp_in (i := 65) (by decide +kernel) (by decide +kernel)
theorem wd_66 : (Jvm.Cond.fieldLink "VersionJoins$Conflicts" (9 : Nat) "VersionJoins$Conflicts" "things" "[I") ∈ hp_ws := hp_in (i := 66) (by decide +kernel) (by decide +kernel)
theorem wd_67 : (Jvm.Cond.fieldLink "VersionJoins" (129 : Nat) "VersionJoins$Conflicts" "things" "[I") ∈ hp_ws := hp_in (i := 67) (by decide +kernel) (by decide +kernel)
theorem wd_68 : (Jvm.Cond.fieldLink "VersionJoins$Conflicts" (15 : Nat) "VersionJoins$Conflicts" "own" "[J") ∈ hp_ws := hp_in (i := 68) (by decide +kernel) (by decide +kernel)
theorem wd_69 : (Jvm.Cond.fieldLink "VersionJoins" (132 : Nat) "VersionJoins$Conflicts" "own" "[J") ∈ hp_ws := hp_in (i := 69) (by decide +kernel) (by decide +kernel)
theorem wd_70 : (Jvm.Cond.fieldLink "VersionJoins$Conflicts" (19 : Nat) "VersionJoins$Conflicts" "others" "[J") ∈ hp_ws := hp_in (i := 70) (by decide +kernel) (by decide +kernel)
theorem wd_71 : (Jvm.Cond.fieldLink "VersionJoins" (135 : Nat) "VersionJoins$Conflicts" "others" "[J") ∈ hp_ws := hp_in (i := 71) (by decide +kernel) (by decide +kernel)
theorem wd_72 : (Jvm.Cond.fieldLink "VersionJoins$Conflicts" (22 : Nat) "VersionJoins$Conflicts" "settled" "[Z") ∈ hp_ws := hp_in (i := 72) (by decide +kernel) (by decide +kernel)
theorem wd_73 : (Jvm.Cond.fieldLink "VersionJoins" (144 : Nat) "VersionJoins$Conflicts" "settled" "[Z") ∈ hp_ws := hp_in (i := 73) (by decide +kernel) (by decide +kernel)
theorem wd_74 : (Jvm.Cond.fieldLink "VersionJoins$Conflicts" (26 : Nat) "VersionJoins$Conflicts" "owner" "LVersionJoins$Session;") ∈ hp_ws := hp_in (i := 74) (by decide +kernel) (by decide +kernel)
theorem wd_75 : (Jvm.Cond.fieldLink "VersionJoins" (140 : Nat) "VersionJoins$Conflicts" "owner" "LVersionJoins$Session;") ∈ hp_ws := hp_in (i := 75) (by decide +kernel) (by decide +kernel)
theorem wd_76 : (Jvm.Cond.fieldLink "VersionJoins$Conflicts" (30 : Nat) "VersionJoins$Conflicts" "count" "I") ∈ hp_ws := hp_in (i := 76) (by decide +kernel) (by decide +kernel)
theorem wd_77 : (Jvm.Cond.fieldLink "VersionJoins" (205 : Nat) "VersionJoins$Conflicts" "count" "I") ∈ hp_ws := hp_in (i := 77) (by decide +kernel) (by decide +kernel)
theorem wd_78 : (Jvm.Cond.laysFinal "VersionJoins$Conflicts" "VersionJoins$Conflicts" "things" "[I") ∈ hp_ws := hp_in (i := 78) (by decide +kernel) (by decide +kernel)
theorem wd_80 : (Jvm.Cond.laysFinal "VersionJoins$Conflicts" "VersionJoins$Conflicts" "own" "[J") ∈ hp_ws := hp_in (i := 80) (by decide +kernel) (by decide +kernel)
theorem wd_82 : (Jvm.Cond.laysFinal "VersionJoins$Conflicts" "VersionJoins$Conflicts" "others" "[J") ∈ hp_ws := hp_in (i := 82) (by decide +kernel) (by decide +kernel)
theorem wd_84 : (Jvm.Cond.laysFinal "VersionJoins$Conflicts" "VersionJoins$Conflicts" "settled" "[Z") ∈ hp_ws := hp_in (i := 84) (by decide +kernel) (by decide +kernel)
theorem wd_86 : (Jvm.Cond.lays "VersionJoins$Conflicts" "VersionJoins$Conflicts" "owner" "LVersionJoins$Session;") ∈ hp_ws := hp_in (i := 86) (by decide +kernel) (by decide +kernel)
theorem wd_88 : (Jvm.Cond.lays "VersionJoins$Conflicts" "VersionJoins$Conflicts" "count" "I") ∈ hp_ws := hp_in (i := 88) (by decide +kernel) (by decide +kernel)
theorem wd_91 : (Jvm.Cond.arrayClass Jvm.ClassFile.FieldType.long) ∈ hp_ws := hp_in (i := 91) (by decide +kernel) (by decide +kernel)
theorem wd_92 : (Jvm.Cond.arrayClass Jvm.ClassFile.FieldType.int) ∈ hp_ws := hp_in (i := 92) (by decide +kernel) (by decide +kernel)
theorem wd_93 : (Jvm.Cond.arrayClass Jvm.ClassFile.FieldType.boolean) ∈ hp_ws := hp_in (i := 93) (by decide +kernel) (by decide +kernel)
theorem wd_94 : (Jvm.Cond.fieldLink "VersionJoins" (11 : Nat) "VersionJoins" "branches" "[[J") ∈ hp_ws := hp_in (i := 94) (by decide +kernel) (by decide +kernel)
theorem wd_95 : (Jvm.Cond.fieldLink "VersionJoins" (14 : Nat) "VersionJoins" "current" "[J") ∈ hp_ws := hp_in (i := 95) (by decide +kernel) (by decide +kernel)
theorem wd_96 : (Jvm.Cond.fieldLink "VersionJoins" (18 : Nat) "VersionJoins" "makers" "[I") ∈ hp_ws := hp_in (i := 96) (by decide +kernel) (by decide +kernel)
theorem wd_97 : (Jvm.Cond.fieldLink "VersionJoins" (24 : Nat) "VersionJoins" "steps" "[LVersionJoins$Step;") ∈ hp_ws := hp_in (i := 97) (by decide +kernel) (by decide +kernel)
theorem wd_98 : (Jvm.Cond.fieldLink "VersionJoins" (30 : Nat) "VersionJoins" "sessions" "[LVersionJoins$Session;") ∈ hp_ws := hp_in (i := 98) (by decide +kernel) (by decide +kernel)
theorem wd_99 : (Jvm.Cond.fieldLink "VersionJoins" (37 : Nat) "VersionJoins" "conflicts" "LVersionJoins$Conflicts;") ∈ hp_ws := hp_in (i := 99) (by decide +kernel) (by decide +kernel)
theorem wd_100 : (Jvm.Cond.fieldLink "VersionJoins" (41 : Nat) "VersionJoins" "thingCount" "I") ∈ hp_ws := hp_in (i := 100) (by decide +kernel) (by decide +kernel)
theorem wd_101 : (Jvm.Cond.fieldLink "VersionJoins" (45 : Nat) "VersionJoins" "branchCount" "I") ∈ hp_ws := hp_in (i := 101) (by decide +kernel) (by decide +kernel)
theorem wd_102 : (Jvm.Cond.fieldLink "VersionJoins" (48 : Nat) "VersionJoins" "stepCount" "I") ∈ hp_ws := hp_in (i := 102) (by decide +kernel) (by decide +kernel)
theorem wd_103 : (Jvm.Cond.fieldLink "VersionJoins" (51 : Nat) "VersionJoins" "sessionCount" "I") ∈ hp_ws := hp_in (i := 103) (by decide +kernel) (by decide +kernel)
theorem wd_104 : (Jvm.Cond.fieldLink "VersionJoins" (54 : Nat) "VersionJoins" "changes" "I") ∈ hp_ws := hp_in (i := 104) (by decide +kernel) (by decide +kernel)
theorem wd_105 : (Jvm.Cond.laysFinal "VersionJoins" "VersionJoins" "branches" "[[J") ∈ hp_ws := hp_in (i := 105) (by decide +kernel) (by decide +kernel)
theorem wd_107 : (Jvm.Cond.laysFinal "VersionJoins" "VersionJoins" "current" "[J") ∈ hp_ws := hp_in (i := 107) (by decide +kernel) (by decide +kernel)
theorem wd_109 : (Jvm.Cond.laysFinal "VersionJoins" "VersionJoins" "makers" "[I") ∈ hp_ws := hp_in (i := 109) (by decide +kernel) (by decide +kernel)
theorem wd_111 : (Jvm.Cond.laysFinal "VersionJoins" "VersionJoins" "steps" "[LVersionJoins$Step;") ∈ hp_ws := hp_in (i := 111) (by decide +kernel) (by decide +kernel)
theorem wd_113 : (Jvm.Cond.laysFinal "VersionJoins" "VersionJoins" "sessions" "[LVersionJoins$Session;") ∈ hp_ws := hp_in (i := 113) (by decide +kernel) (by decide +kernel)
theorem wd_115 : (Jvm.Cond.laysFinal "VersionJoins" "VersionJoins" "conflicts" "LVersionJoins$Conflicts;") ∈ hp_ws := hp_in (i := 115) (by decide +kernel) (by decide +kernel)
theorem wd_117 : (Jvm.Cond.lays "VersionJoins" "VersionJoins" "thingCount" "I") ∈ hp_ws := hp_in (i := 117) (by decide +kernel) (by decide +kernel)
theorem wd_119 : (Jvm.Cond.lays "VersionJoins" "VersionJoins" "branchCount" "I") ∈ hp_ws := hp_in (i := 119) (by decide +kernel) (by decide +kernel)
theorem wd_121 : (Jvm.Cond.lays "VersionJoins" "VersionJoins" "stepCount" "I") ∈ hp_ws := hp_in (i := 121) (by decide +kernel) (by decide +kernel)
theorem wd_123 : (Jvm.Cond.lays "VersionJoins" "VersionJoins" "sessionCount" "I") ∈ hp_ws := hp_in (i := 123) (by decide +kernel) (by decide +kernel)
theorem wd_125 : (Jvm.Cond.lays "VersionJoins" "VersionJoins" "changes" "I") ∈ hp_ws := hp_in (i := 125) (by decide +kernel) (by decide +kernel)
theorem wd_128 : (Jvm.Cond.methodLink "VersionJoinsLaw" (15 : Nat) ({ cls := "VersionJoins", name := "thing", desc := "(J)I" } : Jvm.MethodName)) ∈ hp_ws := hp_in (i := 128) (by decide +kernel) (by decide +kernel)
theorem wd_129 : (Jvm.Cond.instanceMethod ({ cls := "VersionJoins", name := "thing", desc := "(J)I" } : Jvm.MethodName)) ∈ hp_ws := hp_in (i := 129) (by decide +kernel) (by decide +kernel)
theorem wd_130 : (Jvm.Cond.selects "VersionJoins" ({ cls := "VersionJoins", name := "thing", desc := "(J)I" } : Jvm.MethodName) ({ cls := "VersionJoins", name := "thing", desc := "(J)I" } : Jvm.MethodName)) ∈ hp_ws := hp_in (i := 130) (by decide +kernel) (by decide +kernel)
set_option maxRecDepth 20000 in
theorem wd_131 : (Jvm.Cond.code ({ cls := "VersionJoins", name := "thing", desc := "(J)I" } : Jvm.MethodName) prog_1_method_2_code (4 : Nat) (Option.some Jvm.ClassFile.FieldType.int)) ∈ hp_ws := hp_in (i := 131) rfl (by decide +kernel)
theorem wd_132 : (Jvm.Cond.methodLink "VersionJoinsLaw" (20 : Nat) ({ cls := "VersionJoins", name := "step", desc := "(I)I" } : Jvm.MethodName)) ∈ hp_ws := hp_in (i := 132) (by decide +kernel) (by decide +kernel)
theorem wd_133 : (Jvm.Cond.instanceMethod ({ cls := "VersionJoins", name := "step", desc := "(I)I" } : Jvm.MethodName)) ∈ hp_ws := hp_in (i := 133) (by decide +kernel) (by decide +kernel)
theorem wd_134 : (Jvm.Cond.selects "VersionJoins" ({ cls := "VersionJoins", name := "step", desc := "(I)I" } : Jvm.MethodName) ({ cls := "VersionJoins", name := "step", desc := "(I)I" } : Jvm.MethodName)) ∈ hp_ws := hp_in (i := 134) (by decide +kernel) (by decide +kernel)
set_option maxRecDepth 20000 in
theorem wd_135 : (Jvm.Cond.code ({ cls := "VersionJoins", name := "step", desc := "(I)I" } : Jvm.MethodName) prog_1_method_3_code (2 : Nat) (Option.some Jvm.ClassFile.FieldType.int)) ∈ hp_ws := hp_in (i := 135) rfl (by decide +kernel)
theorem wd_136 : (Jvm.Cond.instantiable "VersionJoins$Step" (11 : Nat)) ∈ hp_ws := hp_in (i := 136) (by decide +kernel) (by decide +kernel)
theorem wd_137 : (Jvm.Cond.methodLink "VersionJoins" (57 : Nat) ({ cls := "VersionJoins$Step", name := "<init>", desc := "(I)V" } : Jvm.MethodName)) ∈ hp_ws := hp_in (i := 137) (by decide +kernel) (by decide +kernel)
theorem wd_138 : (Jvm.Cond.instanceMethod ({ cls := "VersionJoins$Step", name := "<init>", desc := "(I)V" } : Jvm.MethodName)) ∈ hp_ws := hp_in (i := 138) (by decide +kernel) (by decide +kernel)
set_option maxRecDepth 20000 in
theorem wd_139 : (Jvm.Cond.code ({ cls := "VersionJoins$Step", name := "<init>", desc := "(I)V" } : Jvm.MethodName) prog_4_method_1_code (2 : Nat) (Option.none : Option Jvm.ClassFile.FieldType)) ∈ hp_ws := hp_in (i := 139) rfl (by decide +kernel)
theorem wd_140 : (Jvm.Cond.methodLink "VersionJoins$Step" (3 : Nat) ({ cls := "java/lang/Object", name := "<init>", desc := "()V" } : Jvm.MethodName)) ∈ hp_ws := hp_in (i := 140) (by decide +kernel) (by decide +kernel)
theorem wd_141 : (Jvm.Cond.fieldLink "VersionJoins$Step" (46 : Nat) "VersionJoins$Step" "kind" "I") ∈ hp_ws := hp_in (i := 141) (by decide +kernel) (by decide +kernel)
theorem wd_142 : (Jvm.Cond.fieldLink "VersionJoins$Step" (9 : Nat) "VersionJoins$Step" "used" "[I") ∈ hp_ws := hp_in (i := 142) (by decide +kernel) (by decide +kernel)
theorem wd_143 : (Jvm.Cond.fieldLink "VersionJoins" (173 : Nat) "VersionJoins$Step" "used" "[I") ∈ hp_ws := hp_in (i := 143) (by decide +kernel) (by decide +kernel)
theorem wd_144 : (Jvm.Cond.fieldLink "VersionJoins$Step" (15 : Nat) "VersionJoins$Step" "made" "[I") ∈ hp_ws := hp_in (i := 144) (by decide +kernel) (by decide +kernel)
theorem wd_145 : (Jvm.Cond.fieldLink "VersionJoins" (223 : Nat) "VersionJoins$Step" "made" "[I") ∈ hp_ws := hp_in (i := 145) (by decide +kernel) (by decide +kernel)
theorem wd_146 : (Jvm.Cond.fieldLink "VersionJoins$Step" (18 : Nat) "VersionJoins$Step" "inputs" "[J") ∈ hp_ws := hp_in (i := 146) (by decide +kernel) (by decide +kernel)
theorem wd_147 : (Jvm.Cond.fieldLink "VersionJoins$Step" (22 : Nat) "VersionJoins$Step" "usedCount" "I") ∈ hp_ws := hp_in (i := 147) (by decide +kernel) (by decide +kernel)
theorem wd_148 : (Jvm.Cond.fieldLink "VersionJoins" (70 : Nat) "VersionJoins$Step" "usedCount" "I") ∈ hp_ws := hp_in (i := 148) (by decide +kernel) (by decide +kernel)
theorem wd_149 : (Jvm.Cond.fieldLink "VersionJoins$Step" (26 : Nat) "VersionJoins$Step" "madeCount" "I") ∈ hp_ws := hp_in (i := 149) (by decide +kernel) (by decide +kernel)
theorem wd_150 : (Jvm.Cond.fieldLink "VersionJoins" (84 : Nat) "VersionJoins$Step" "madeCount" "I") ∈ hp_ws := hp_in (i := 150) (by decide +kernel) (by decide +kernel)
theorem wd_151 : (Jvm.Cond.fieldLink "VersionJoins$Step" (29 : Nat) "VersionJoins$Step" "above" "I") ∈ hp_ws := hp_in (i := 151) (by decide +kernel) (by decide +kernel)
theorem wd_152 : (Jvm.Cond.fieldLink "VersionJoins" (212 : Nat) "VersionJoins$Step" "above" "I") ∈ hp_ws := hp_in (i := 152) (by decide +kernel) (by decide +kernel)
theorem wd_153 : (Jvm.Cond.fieldLink "VersionJoins$Step" (32 : Nat) "VersionJoins$Step" "ran" "Z") ∈ hp_ws := hp_in (i := 153) (by decide +kernel) (by decide +kernel)
theorem wd_154 : (Jvm.Cond.fieldLink "VersionJoins$Step" (36 : Nat) "VersionJoins$Step" "usedThen" "I") ∈ hp_ws := hp_in (i := 154) (by decide +kernel) (by decide +kernel)
theorem wd_155 : (Jvm.Cond.fieldLink "VersionJoins" (170 : Nat) "VersionJoins$Step" "usedThen" "I") ∈ hp_ws := hp_in (i := 155) (by decide +kernel) (by decide +kernel)
theorem wd_156 : (Jvm.Cond.fieldLink "VersionJoins$Step" (39 : Nat) "VersionJoins$Step" "madeThen" "I") ∈ hp_ws := hp_in (i := 156) (by decide +kernel) (by decide +kernel)
theorem wd_157 : (Jvm.Cond.fieldLink "VersionJoins$Step" (42 : Nat) "VersionJoins$Step" "result" "J") ∈ hp_ws := hp_in (i := 157) (by decide +kernel) (by decide +kernel)
theorem wd_158 : (Jvm.Cond.fieldLink "VersionJoins" (166 : Nat) "VersionJoins$Step" "result" "J") ∈ hp_ws := hp_in (i := 158) (by decide +kernel) (by decide +kernel)
theorem wd_159 : (Jvm.Cond.laysFinal "VersionJoins$Step" "VersionJoins$Step" "kind" "I") ∈ hp_ws := hp_in (i := 159) (by decide +kernel) (by decide +kernel)
theorem wd_161 : (Jvm.Cond.laysFinal "VersionJoins$Step" "VersionJoins$Step" "used" "[I") ∈ hp_ws := hp_in (i := 161) (by decide +kernel) (by decide +kernel)
theorem wd_163 : (Jvm.Cond.laysFinal "VersionJoins$Step" "VersionJoins$Step" "made" "[I") ∈ hp_ws := hp_in (i := 163) (by decide +kernel) (by decide +kernel)
theorem wd_165 : (Jvm.Cond.laysFinal "VersionJoins$Step" "VersionJoins$Step" "inputs" "[J") ∈ hp_ws := hp_in (i := 165) (by decide +kernel) (by decide +kernel)
theorem wd_167 : (Jvm.Cond.lays "VersionJoins$Step" "VersionJoins$Step" "usedCount" "I") ∈ hp_ws := hp_in (i := 167) (by decide +kernel) (by decide +kernel)
theorem wd_169 : (Jvm.Cond.lays "VersionJoins$Step" "VersionJoins$Step" "madeCount" "I") ∈ hp_ws := hp_in (i := 169) (by decide +kernel) (by decide +kernel)
theorem wd_171 : (Jvm.Cond.lays "VersionJoins$Step" "VersionJoins$Step" "above" "I") ∈ hp_ws := hp_in (i := 171) (by decide +kernel) (by decide +kernel)
theorem wd_173 : (Jvm.Cond.lays "VersionJoins$Step" "VersionJoins$Step" "ran" "Z") ∈ hp_ws := hp_in (i := 173) (by decide +kernel) (by decide +kernel)
theorem wd_175 : (Jvm.Cond.lays "VersionJoins$Step" "VersionJoins$Step" "usedThen" "I") ∈ hp_ws := hp_in (i := 175) (by decide +kernel) (by decide +kernel)
theorem wd_177 : (Jvm.Cond.lays "VersionJoins$Step" "VersionJoins$Step" "madeThen" "I") ∈ hp_ws := hp_in (i := 177) (by decide +kernel) (by decide +kernel)
theorem wd_179 : (Jvm.Cond.lays "VersionJoins$Step" "VersionJoins$Step" "result" "J") ∈ hp_ws := hp_in (i := 179) (by decide +kernel) (by decide +kernel)
theorem wd_182 : (Jvm.Cond.methodLink "VersionJoinsLaw" (25 : Nat) ({ cls := "VersionJoins", name := "uses", desc := "(II)Z" } : Jvm.MethodName)) ∈ hp_ws := hp_in (i := 182) (by decide +kernel) (by decide +kernel)
theorem wd_183 : (Jvm.Cond.instanceMethod ({ cls := "VersionJoins", name := "uses", desc := "(II)Z" } : Jvm.MethodName)) ∈ hp_ws := hp_in (i := 183) (by decide +kernel) (by decide +kernel)
theorem wd_184 : (Jvm.Cond.selects "VersionJoins" ({ cls := "VersionJoins", name := "uses", desc := "(II)Z" } : Jvm.MethodName) ({ cls := "VersionJoins", name := "uses", desc := "(II)Z" } : Jvm.MethodName)) ∈ hp_ws := hp_in (i := 184) (by decide +kernel) (by decide +kernel)
set_option maxRecDepth 20000 in
theorem wd_185 : (Jvm.Cond.code ({ cls := "VersionJoins", name := "uses", desc := "(II)Z" } : Jvm.MethodName) prog_1_method_4_code (5 : Nat) (Option.some Jvm.ClassFile.FieldType.boolean)) ∈ hp_ws := hp_in (i := 185) rfl (by decide +kernel)
theorem wd_186 : (Jvm.Cond.methodLink "VersionJoins" (60 : Nat) ({ cls := "VersionJoins", name := "isStep", desc := "(I)Z" } : Jvm.MethodName)) ∈ hp_ws := hp_in (i := 186) (by decide +kernel) (by decide +kernel)
theorem wd_188 : (Jvm.Cond.instanceMethod ({ cls := "VersionJoins", name := "isStep", desc := "(I)Z" } : Jvm.MethodName)) ∈ hp_ws := hp_in (i := 188) (by decide +kernel) (by decide +kernel)
set_option maxRecDepth 20000 in
theorem wd_189 : (Jvm.Cond.code ({ cls := "VersionJoins", name := "isStep", desc := "(I)Z" } : Jvm.MethodName) prog_1_method_19_code (2 : Nat) (Option.some Jvm.ClassFile.FieldType.boolean)) ∈ hp_ws := hp_in (i := 189) rfl (by decide +kernel)
theorem wd_190 : (Jvm.Cond.methodLink "VersionJoins" (64 : Nat) ({ cls := "VersionJoins", name := "isThing", desc := "(I)Z" } : Jvm.MethodName)) ∈ hp_ws := hp_in (i := 190) (by decide +kernel) (by decide +kernel)
theorem wd_192 : (Jvm.Cond.instanceMethod ({ cls := "VersionJoins", name := "isThing", desc := "(I)Z" } : Jvm.MethodName)) ∈ hp_ws := hp_in (i := 192) (by decide +kernel) (by decide +kernel)
set_option maxRecDepth 20000 in
theorem wd_193 : (Jvm.Cond.code ({ cls := "VersionJoins", name := "isThing", desc := "(I)Z" } : Jvm.MethodName) prog_1_method_18_code (2 : Nat) (Option.some Jvm.ClassFile.FieldType.boolean)) ∈ hp_ws := hp_in (i := 193) rfl (by decide +kernel)
theorem wd_194 : (Jvm.Cond.methodLink "VersionJoins" (67 : Nat) ({ cls := "VersionJoins$Step", name := "isUsing", desc := "(I)Z" } : Jvm.MethodName)) ∈ hp_ws := hp_in (i := 194) (by decide +kernel) (by decide +kernel)
theorem wd_195 : (Jvm.Cond.instanceMethod ({ cls := "VersionJoins$Step", name := "isUsing", desc := "(I)Z" } : Jvm.MethodName)) ∈ hp_ws := hp_in (i := 195) (by decide +kernel) (by decide +kernel)
theorem wd_196 : (Jvm.Cond.selects "VersionJoins$Step" ({ cls := "VersionJoins$Step", name := "isUsing", desc := "(I)Z" } : Jvm.MethodName) ({ cls := "VersionJoins$Step", name := "isUsing", desc := "(I)Z" } : Jvm.MethodName)) ∈ hp_ws := hp_in (i := 196) (by decide +kernel) (by decide +kernel)
set_option maxRecDepth 20000 in
theorem wd_197 : (Jvm.Cond.code ({ cls := "VersionJoins$Step", name := "isUsing", desc := "(I)Z" } : Jvm.MethodName) prog_4_method_3_code (3 : Nat) (Option.some Jvm.ClassFile.FieldType.boolean)) ∈ hp_ws := hp_in (i := 197) rfl (by decide +kernel)
theorem wd_198 : (Jvm.Cond.methodLink "VersionJoins" (73 : Nat) ({ cls := "VersionJoins", name := "isSameOrAbove", desc := "(II)Z" } : Jvm.MethodName)) ∈ hp_ws := hp_in (i := 198) (by decide +kernel) (by decide +kernel)
theorem wd_200 : (Jvm.Cond.instanceMethod ({ cls := "VersionJoins", name := "isSameOrAbove", desc := "(II)Z" } : Jvm.MethodName)) ∈ hp_ws := hp_in (i := 200) (by decide +kernel) (by decide +kernel)
set_option maxRecDepth 20000 in
theorem wd_201 : (Jvm.Cond.code ({ cls := "VersionJoins", name := "isSameOrAbove", desc := "(II)Z" } : Jvm.MethodName) prog_1_method_24_code (3 : Nat) (Option.some Jvm.ClassFile.FieldType.boolean)) ∈ hp_ws := hp_in (i := 201) rfl (by decide +kernel)
theorem wd_202 : (Jvm.Cond.methodLink "VersionJoins" (208 : Nat) ({ cls := "VersionJoins$Step", name := "withAbove", desc := "(I)I" } : Jvm.MethodName)) ∈ hp_ws := hp_in (i := 202) (by decide +kernel) (by decide +kernel)
theorem wd_203 : (Jvm.Cond.instanceMethod ({ cls := "VersionJoins$Step", name := "withAbove", desc := "(I)I" } : Jvm.MethodName)) ∈ hp_ws := hp_in (i := 203) (by decide +kernel) (by decide +kernel)
theorem wd_204 : (Jvm.Cond.selects "VersionJoins$Step" ({ cls := "VersionJoins$Step", name := "withAbove", desc := "(I)I" } : Jvm.MethodName) ({ cls := "VersionJoins$Step", name := "withAbove", desc := "(I)I" } : Jvm.MethodName)) ∈ hp_ws := hp_in (i := 204) (by decide +kernel) (by decide +kernel)
set_option maxRecDepth 20000 in
theorem wd_205 : (Jvm.Cond.code ({ cls := "VersionJoins$Step", name := "withAbove", desc := "(I)I" } : Jvm.MethodName) prog_4_method_2_code (2 : Nat) (Option.some Jvm.ClassFile.FieldType.int)) ∈ hp_ws := hp_in (i := 205) rfl (by decide +kernel)
theorem wd_206 : (Jvm.Cond.methodLink "VersionJoins" (77 : Nat) ({ cls := "VersionJoins", name := "putAbove", desc := "(II)V" } : Jvm.MethodName)) ∈ hp_ws := hp_in (i := 206) (by decide +kernel) (by decide +kernel)
theorem wd_208 : (Jvm.Cond.instanceMethod ({ cls := "VersionJoins", name := "putAbove", desc := "(II)V" } : Jvm.MethodName)) ∈ hp_ws := hp_in (i := 208) (by decide +kernel) (by decide +kernel)
set_option maxRecDepth 20000 in
theorem wd_209 : (Jvm.Cond.code ({ cls := "VersionJoins", name := "putAbove", desc := "(II)V" } : Jvm.MethodName) prog_1_method_26_code (5 : Nat) (Option.none : Option Jvm.ClassFile.FieldType)) ∈ hp_ws := hp_in (i := 209) rfl (by decide +kernel)
theorem wd_210 : (Jvm.Cond.methodLink "VersionJoins" (81 : Nat) ({ cls := "VersionJoins$Step", name := "addUsed", desc := "(I)V" } : Jvm.MethodName)) ∈ hp_ws := hp_in (i := 210) (by decide +kernel) (by decide +kernel)
theorem wd_211 : (Jvm.Cond.instanceMethod ({ cls := "VersionJoins$Step", name := "addUsed", desc := "(I)V" } : Jvm.MethodName)) ∈ hp_ws := hp_in (i := 211) (by decide +kernel) (by decide +kernel)
theorem wd_212 : (Jvm.Cond.selects "VersionJoins$Step" ({ cls := "VersionJoins$Step", name := "addUsed", desc := "(I)V" } : Jvm.MethodName) ({ cls := "VersionJoins$Step", name := "addUsed", desc := "(I)V" } : Jvm.MethodName)) ∈ hp_ws := hp_in (i := 212) (by decide +kernel) (by decide +kernel)
set_option maxRecDepth 20000 in
theorem wd_213 : (Jvm.Cond.code ({ cls := "VersionJoins$Step", name := "addUsed", desc := "(I)V" } : Jvm.MethodName) prog_4_method_5_code (2 : Nat) (Option.none : Option Jvm.ClassFile.FieldType)) ∈ hp_ws := hp_in (i := 213) rfl (by decide +kernel)
theorem wd_214 : (Jvm.Cond.methodLink "VersionJoinsLaw" (30 : Nat) ({ cls := "VersionJoins", name := "makes", desc := "(II)Z" } : Jvm.MethodName)) ∈ hp_ws := hp_in (i := 214) (by decide +kernel) (by decide +kernel)
theorem wd_215 : (Jvm.Cond.instanceMethod ({ cls := "VersionJoins", name := "makes", desc := "(II)Z" } : Jvm.MethodName)) ∈ hp_ws := hp_in (i := 215) (by decide +kernel) (by decide +kernel)
theorem wd_216 : (Jvm.Cond.selects "VersionJoins" ({ cls := "VersionJoins", name := "makes", desc := "(II)Z" } : Jvm.MethodName) ({ cls := "VersionJoins", name := "makes", desc := "(II)Z" } : Jvm.MethodName)) ∈ hp_ws := hp_in (i := 216) (by decide +kernel) (by decide +kernel)
set_option maxRecDepth 20000 in
theorem wd_217 : (Jvm.Cond.code ({ cls := "VersionJoins", name := "makes", desc := "(II)Z" } : Jvm.MethodName) prog_1_method_5_code (5 : Nat) (Option.some Jvm.ClassFile.FieldType.boolean)) ∈ hp_ws := hp_in (i := 217) rfl (by decide +kernel)
theorem wd_218 : (Jvm.Cond.methodLink "VersionJoins" (87 : Nat) ({ cls := "VersionJoins", name := "hasUserAtOrAbove", desc := "(II)Z" } : Jvm.MethodName)) ∈ hp_ws := hp_in (i := 218) (by decide +kernel) (by decide +kernel)
theorem wd_220 : (Jvm.Cond.instanceMethod ({ cls := "VersionJoins", name := "hasUserAtOrAbove", desc := "(II)Z" } : Jvm.MethodName)) ∈ hp_ws := hp_in (i := 220) (by decide +kernel) (by decide +kernel)
set_option maxRecDepth 20000 in
theorem wd_221 : (Jvm.Cond.code ({ cls := "VersionJoins", name := "hasUserAtOrAbove", desc := "(II)Z" } : Jvm.MethodName) prog_1_method_25_code (4 : Nat) (Option.some Jvm.ClassFile.FieldType.boolean)) ∈ hp_ws := hp_in (i := 221) rfl (by decide +kernel)
theorem wd_222 : (Jvm.Cond.methodLink "VersionJoins" (90 : Nat) ({ cls := "VersionJoins$Step", name := "addMade", desc := "(I)V" } : Jvm.MethodName)) ∈ hp_ws := hp_in (i := 222) (by decide +kernel) (by decide +kernel)
theorem wd_223 : (Jvm.Cond.instanceMethod ({ cls := "VersionJoins$Step", name := "addMade", desc := "(I)V" } : Jvm.MethodName)) ∈ hp_ws := hp_in (i := 223) (by decide +kernel) (by decide +kernel)
theorem wd_224 : (Jvm.Cond.selects "VersionJoins$Step" ({ cls := "VersionJoins$Step", name := "addMade", desc := "(I)V" } : Jvm.MethodName) ({ cls := "VersionJoins$Step", name := "addMade", desc := "(I)V" } : Jvm.MethodName)) ∈ hp_ws := hp_in (i := 224) (by decide +kernel) (by decide +kernel)
set_option maxRecDepth 20000 in
theorem wd_225 : (Jvm.Cond.code ({ cls := "VersionJoins$Step", name := "addMade", desc := "(I)V" } : Jvm.MethodName) prog_4_method_6_code (2 : Nat) (Option.none : Option Jvm.ClassFile.FieldType)) ∈ hp_ws := hp_in (i := 225) rfl (by decide +kernel)
theorem wd_226 : (Jvm.Cond.methodLink "VersionJoinsLaw" (34 : Nat) ({ cls := "VersionJoins", name := "session", desc := "()I" } : Jvm.MethodName)) ∈ hp_ws := hp_in (i := 226) (by decide +kernel) (by decide +kernel)
theorem wd_227 : (Jvm.Cond.instanceMethod ({ cls := "VersionJoins", name := "session", desc := "()I" } : Jvm.MethodName)) ∈ hp_ws := hp_in (i := 227) (by decide +kernel) (by decide +kernel)
theorem wd_228 : (Jvm.Cond.selects "VersionJoins" ({ cls := "VersionJoins", name := "session", desc := "()I" } : Jvm.MethodName) ({ cls := "VersionJoins", name := "session", desc := "()I" } : Jvm.MethodName)) ∈ hp_ws := hp_in (i := 228) (by decide +kernel) (by decide +kernel)
set_option maxRecDepth 20000 in
theorem wd_229 : (Jvm.Cond.code ({ cls := "VersionJoins", name := "session", desc := "()I" } : Jvm.MethodName) prog_1_method_6_code (1 : Nat) (Option.some Jvm.ClassFile.FieldType.int)) ∈ hp_ws := hp_in (i := 229) rfl (by decide +kernel)
theorem wd_230 : (Jvm.Cond.instantiable "VersionJoins$Session" (5 : Nat)) ∈ hp_ws := hp_in (i := 230) (by decide +kernel) (by decide +kernel)
theorem wd_232 : (Jvm.Cond.instanceMethod ({ cls := "VersionJoins$Session", name := "<init>", desc := "()V" } : Jvm.MethodName)) ∈ hp_ws := hp_in (i := 232) (by decide +kernel) (by decide +kernel)
set_option maxRecDepth 20000 in
theorem wd_233 : (Jvm.Cond.code ({ cls := "VersionJoins$Session", name := "<init>", desc := "()V" } : Jvm.MethodName) prog_3_method_1_code (1 : Nat) (Option.none : Option Jvm.ClassFile.FieldType)) ∈ hp_ws := hp_in (i := 233) rfl (by decide +kernel)
theorem wd_234 : (Jvm.Cond.methodLink "VersionJoins$Session" (3 : Nat) ({ cls := "java/lang/Object", name := "<init>", desc := "()V" } : Jvm.MethodName)) ∈ hp_ws := hp_in (i := 234) (by decide +kernel) (by decide +kernel)
theorem wd_235 : (Jvm.Cond.fieldLink "VersionJoins$Session" (9 : Nat) "VersionJoins$Session" "touched" "[Z") ∈ hp_ws := hp_in (i := 235) (by decide +kernel) (by decide +kernel)
theorem wd_236 : (Jvm.Cond.fieldLink "VersionJoins$Session" (15 : Nat) "VersionJoins$Session" "bases" "[J") ∈ hp_ws := hp_in (i := 236) (by decide +kernel) (by decide +kernel)
theorem wd_237 : (Jvm.Cond.fieldLink "VersionJoins$Session" (19 : Nat) "VersionJoins$Session" "wrote" "[Z") ∈ hp_ws := hp_in (i := 237) (by decide +kernel) (by decide +kernel)
theorem wd_238 : (Jvm.Cond.fieldLink "VersionJoins" (191 : Nat) "VersionJoins$Session" "wrote" "[Z") ∈ hp_ws := hp_in (i := 238) (by decide +kernel) (by decide +kernel)
theorem wd_239 : (Jvm.Cond.fieldLink "VersionJoins$Session" (22 : Nat) "VersionJoins$Session" "written" "[J") ∈ hp_ws := hp_in (i := 239) (by decide +kernel) (by decide +kernel)
theorem wd_240 : (Jvm.Cond.fieldLink "VersionJoins" (194 : Nat) "VersionJoins$Session" "written" "[J") ∈ hp_ws := hp_in (i := 240) (by decide +kernel) (by decide +kernel)
theorem wd_241 : (Jvm.Cond.fieldLink "VersionJoins$Session" (25 : Nat) "VersionJoins$Session" "open" "Z") ∈ hp_ws := hp_in (i := 241) (by decide +kernel) (by decide +kernel)
theorem wd_242 : (Jvm.Cond.fieldLink "VersionJoins" (120 : Nat) "VersionJoins$Session" "open" "Z") ∈ hp_ws := hp_in (i := 242) (by decide +kernel) (by decide +kernel)
theorem wd_243 : (Jvm.Cond.laysFinal "VersionJoins$Session" "VersionJoins$Session" "touched" "[Z") ∈ hp_ws := hp_in (i := 243) (by decide +kernel) (by decide +kernel)
theorem wd_245 : (Jvm.Cond.laysFinal "VersionJoins$Session" "VersionJoins$Session" "bases" "[J") ∈ hp_ws := hp_in (i := 245) (by decide +kernel) (by decide +kernel)
theorem wd_247 : (Jvm.Cond.laysFinal "VersionJoins$Session" "VersionJoins$Session" "wrote" "[Z") ∈ hp_ws := hp_in (i := 247) (by decide +kernel) (by decide +kernel)
theorem wd_249 : (Jvm.Cond.laysFinal "VersionJoins$Session" "VersionJoins$Session" "written" "[J") ∈ hp_ws := hp_in (i := 249) (by decide +kernel) (by decide +kernel)
theorem wd_251 : (Jvm.Cond.lays "VersionJoins$Session" "VersionJoins$Session" "open" "Z") ∈ hp_ws := hp_in (i := 251) (by decide +kernel) (by decide +kernel)
theorem wd_254 : (Jvm.Cond.methodLink "VersionJoinsLaw" (39 : Nat) ({ cls := "VersionJoins", name := "read", desc := "(II)J" } : Jvm.MethodName)) ∈ hp_ws := hp_in (i := 254) (by decide +kernel) (by decide +kernel)
theorem wd_255 : (Jvm.Cond.instanceMethod ({ cls := "VersionJoins", name := "read", desc := "(II)J" } : Jvm.MethodName)) ∈ hp_ws := hp_in (i := 255) (by decide +kernel) (by decide +kernel)
theorem wd_256 : (Jvm.Cond.selects "VersionJoins" ({ cls := "VersionJoins", name := "read", desc := "(II)J" } : Jvm.MethodName) ({ cls := "VersionJoins", name := "read", desc := "(II)J" } : Jvm.MethodName)) ∈ hp_ws := hp_in (i := 256) (by decide +kernel) (by decide +kernel)
set_option maxRecDepth 20000 in
theorem wd_257 : (Jvm.Cond.code ({ cls := "VersionJoins", name := "read", desc := "(II)J" } : Jvm.MethodName) prog_1_method_7_code (4 : Nat) (Option.some Jvm.ClassFile.FieldType.long)) ∈ hp_ws := hp_in (i := 257) rfl (by decide +kernel)
theorem wd_258 : (Jvm.Cond.methodLink "VersionJoins" (94 : Nat) ({ cls := "VersionJoins", name := "isOpen", desc := "(I)Z" } : Jvm.MethodName)) ∈ hp_ws := hp_in (i := 258) (by decide +kernel) (by decide +kernel)
theorem wd_260 : (Jvm.Cond.instanceMethod ({ cls := "VersionJoins", name := "isOpen", desc := "(I)Z" } : Jvm.MethodName)) ∈ hp_ws := hp_in (i := 260) (by decide +kernel) (by decide +kernel)
set_option maxRecDepth 20000 in
theorem wd_261 : (Jvm.Cond.code ({ cls := "VersionJoins", name := "isOpen", desc := "(I)Z" } : Jvm.MethodName) prog_1_method_20_code (2 : Nat) (Option.some Jvm.ClassFile.FieldType.boolean)) ∈ hp_ws := hp_in (i := 261) rfl (by decide +kernel)
theorem wd_262 : (Jvm.Cond.methodLink "VersionJoins" (97 : Nat) ({ cls := "VersionJoins$Session", name := "touch", desc := "(IJ)V" } : Jvm.MethodName)) ∈ hp_ws := hp_in (i := 262) (by decide +kernel) (by decide +kernel)
theorem wd_263 : (Jvm.Cond.instanceMethod ({ cls := "VersionJoins$Session", name := "touch", desc := "(IJ)V" } : Jvm.MethodName)) ∈ hp_ws := hp_in (i := 263) (by decide +kernel) (by decide +kernel)
theorem wd_264 : (Jvm.Cond.selects "VersionJoins$Session" ({ cls := "VersionJoins$Session", name := "touch", desc := "(IJ)V" } : Jvm.MethodName) ({ cls := "VersionJoins$Session", name := "touch", desc := "(IJ)V" } : Jvm.MethodName)) ∈ hp_ws := hp_in (i := 264) (by decide +kernel) (by decide +kernel)
set_option maxRecDepth 20000 in
theorem wd_265 : (Jvm.Cond.code ({ cls := "VersionJoins$Session", name := "touch", desc := "(IJ)V" } : Jvm.MethodName) prog_3_method_2_code (4 : Nat) (Option.none : Option Jvm.ClassFile.FieldType)) ∈ hp_ws := hp_in (i := 265) rfl (by decide +kernel)
theorem wd_266 : (Jvm.Cond.methodLink "VersionJoins" (101 : Nat) ({ cls := "VersionJoins$Session", name := "view", desc := "(I)J" } : Jvm.MethodName)) ∈ hp_ws := hp_in (i := 266) (by decide +kernel) (by decide +kernel)
theorem wd_267 : (Jvm.Cond.instanceMethod ({ cls := "VersionJoins$Session", name := "view", desc := "(I)J" } : Jvm.MethodName)) ∈ hp_ws := hp_in (i := 267) (by decide +kernel) (by decide +kernel)
theorem wd_268 : (Jvm.Cond.selects "VersionJoins$Session" ({ cls := "VersionJoins$Session", name := "view", desc := "(I)J" } : Jvm.MethodName) ({ cls := "VersionJoins$Session", name := "view", desc := "(I)J" } : Jvm.MethodName)) ∈ hp_ws := hp_in (i := 268) (by decide +kernel) (by decide +kernel)
set_option maxRecDepth 20000 in
theorem wd_269 : (Jvm.Cond.code ({ cls := "VersionJoins$Session", name := "view", desc := "(I)J" } : Jvm.MethodName) prog_3_method_6_code (2 : Nat) (Option.some Jvm.ClassFile.FieldType.long)) ∈ hp_ws := hp_in (i := 269) rfl (by decide +kernel)
theorem wd_270 : (Jvm.Cond.methodLink "VersionJoinsLaw" (44 : Nat) ({ cls := "VersionJoins", name := "write", desc := "(IIJ)Z" } : Jvm.MethodName)) ∈ hp_ws := hp_in (i := 270) (by decide +kernel) (by decide +kernel)
theorem wd_271 : (Jvm.Cond.instanceMethod ({ cls := "VersionJoins", name := "write", desc := "(IIJ)Z" } : Jvm.MethodName)) ∈ hp_ws := hp_in (i := 271) (by decide +kernel) (by decide +kernel)
theorem wd_272 : (Jvm.Cond.selects "VersionJoins" ({ cls := "VersionJoins", name := "write", desc := "(IIJ)Z" } : Jvm.MethodName) ({ cls := "VersionJoins", name := "write", desc := "(IIJ)Z" } : Jvm.MethodName)) ∈ hp_ws := hp_in (i := 272) (by decide +kernel) (by decide +kernel)
set_option maxRecDepth 20000 in
theorem wd_273 : (Jvm.Cond.code ({ cls := "VersionJoins", name := "write", desc := "(IIJ)Z" } : Jvm.MethodName) prog_1_method_8_code (6 : Nat) (Option.some Jvm.ClassFile.FieldType.boolean)) ∈ hp_ws := hp_in (i := 273) rfl (by decide +kernel)
theorem wd_274 : (Jvm.Cond.methodLink "VersionJoins" (105 : Nat) ({ cls := "VersionJoins$Session", name := "keepWritten", desc := "(IJ)V" } : Jvm.MethodName)) ∈ hp_ws := hp_in (i := 274) (by decide +kernel) (by decide +kernel)
theorem wd_275 : (Jvm.Cond.instanceMethod ({ cls := "VersionJoins$Session", name := "keepWritten", desc := "(IJ)V" } : Jvm.MethodName)) ∈ hp_ws := hp_in (i := 275) (by decide +kernel) (by decide +kernel)
theorem wd_276 : (Jvm.Cond.selects "VersionJoins$Session" ({ cls := "VersionJoins$Session", name := "keepWritten", desc := "(IJ)V" } : Jvm.MethodName) ({ cls := "VersionJoins$Session", name := "keepWritten", desc := "(IJ)V" } : Jvm.MethodName)) ∈ hp_ws := hp_in (i := 276) (by decide +kernel) (by decide +kernel)
set_option maxRecDepth 20000 in
theorem wd_277 : (Jvm.Cond.code ({ cls := "VersionJoins$Session", name := "keepWritten", desc := "(IJ)V" } : Jvm.MethodName) prog_3_method_3_code (4 : Nat) (Option.none : Option Jvm.ClassFile.FieldType)) ∈ hp_ws := hp_in (i := 277) rfl (by decide +kernel)
theorem wd_278 : (Jvm.Cond.methodLink "VersionJoinsLaw" (49 : Nat) ({ cls := "VersionJoins", name := "join", desc := "(IZ)I" } : Jvm.MethodName)) ∈ hp_ws := hp_in (i := 278) (by decide +kernel) (by decide +kernel)
theorem wd_279 : (Jvm.Cond.instanceMethod ({ cls := "VersionJoins", name := "join", desc := "(IZ)I" } : Jvm.MethodName)) ∈ hp_ws := hp_in (i := 279) (by decide +kernel) (by decide +kernel)
theorem wd_280 : (Jvm.Cond.selects "VersionJoins" ({ cls := "VersionJoins", name := "join", desc := "(IZ)I" } : Jvm.MethodName) ({ cls := "VersionJoins", name := "join", desc := "(IZ)I" } : Jvm.MethodName)) ∈ hp_ws := hp_in (i := 280) (by decide +kernel) (by decide +kernel)
set_option maxRecDepth 20000 in
theorem wd_281 : (Jvm.Cond.code ({ cls := "VersionJoins", name := "join", desc := "(IZ)I" } : Jvm.MethodName) prog_1_method_9_code (5 : Nat) (Option.some Jvm.ClassFile.FieldType.int)) ∈ hp_ws := hp_in (i := 281) rfl (by decide +kernel)
theorem wd_282 : (Jvm.Cond.methodLink "VersionJoins" (108 : Nat) ({ cls := "VersionJoins", name := "collectConflicts", desc := "(LVersionJoins$Session;)I" } : Jvm.MethodName)) ∈ hp_ws := hp_in (i := 282) (by decide +kernel) (by decide +kernel)
theorem wd_284 : (Jvm.Cond.instanceMethod ({ cls := "VersionJoins", name := "collectConflicts", desc := "(LVersionJoins$Session;)I" } : Jvm.MethodName)) ∈ hp_ws := hp_in (i := 284) (by decide +kernel) (by decide +kernel)
set_option maxRecDepth 20000 in
theorem wd_285 : (Jvm.Cond.code ({ cls := "VersionJoins", name := "collectConflicts", desc := "(LVersionJoins$Session;)I" } : Jvm.MethodName) prog_1_method_23_code (4 : Nat) (Option.some Jvm.ClassFile.FieldType.int)) ∈ hp_ws := hp_in (i := 285) rfl (by decide +kernel)
theorem wd_286 : (Jvm.Cond.methodLink "VersionJoins" (197 : Nat) ({ cls := "VersionJoins$Session", name := "isConflict", desc := "(IJ)Z" } : Jvm.MethodName)) ∈ hp_ws := hp_in (i := 286) (by decide +kernel) (by decide +kernel)
theorem wd_287 : (Jvm.Cond.instanceMethod ({ cls := "VersionJoins$Session", name := "isConflict", desc := "(IJ)Z" } : Jvm.MethodName)) ∈ hp_ws := hp_in (i := 287) (by decide +kernel) (by decide +kernel)
theorem wd_288 : (Jvm.Cond.selects "VersionJoins$Session" ({ cls := "VersionJoins$Session", name := "isConflict", desc := "(IJ)Z" } : Jvm.MethodName) ({ cls := "VersionJoins$Session", name := "isConflict", desc := "(IJ)Z" } : Jvm.MethodName)) ∈ hp_ws := hp_in (i := 288) (by decide +kernel) (by decide +kernel)
set_option maxRecDepth 20000 in
theorem wd_289 : (Jvm.Cond.code ({ cls := "VersionJoins$Session", name := "isConflict", desc := "(IJ)Z" } : Jvm.MethodName) prog_3_method_7_code (4 : Nat) (Option.some Jvm.ClassFile.FieldType.boolean)) ∈ hp_ws := hp_in (i := 289) rfl (by decide +kernel)
theorem wd_290 : (Jvm.Cond.methodLink "VersionJoins" (201 : Nat) ({ cls := "VersionJoins$Conflicts", name := "put", desc := "(IIJJ)V" } : Jvm.MethodName)) ∈ hp_ws := hp_in (i := 290) (by decide +kernel) (by decide +kernel)
theorem wd_291 : (Jvm.Cond.instanceMethod ({ cls := "VersionJoins$Conflicts", name := "put", desc := "(IIJJ)V" } : Jvm.MethodName)) ∈ hp_ws := hp_in (i := 291) (by decide +kernel) (by decide +kernel)
theorem wd_292 : (Jvm.Cond.selects "VersionJoins$Conflicts" ({ cls := "VersionJoins$Conflicts", name := "put", desc := "(IIJJ)V" } : Jvm.MethodName) ({ cls := "VersionJoins$Conflicts", name := "put", desc := "(IIJJ)V" } : Jvm.MethodName)) ∈ hp_ws := hp_in (i := 292) (by decide +kernel) (by decide +kernel)
set_option maxRecDepth 20000 in
theorem wd_293 : (Jvm.Cond.code ({ cls := "VersionJoins$Conflicts", name := "put", desc := "(IIJJ)V" } : Jvm.MethodName) prog_2_method_3_code (7 : Nat) (Option.none : Option Jvm.ClassFile.FieldType)) ∈ hp_ws := hp_in (i := 293) rfl (by decide +kernel)
theorem wd_294 : (Jvm.Cond.methodLink "VersionJoins" (112 : Nat) ({ cls := "VersionJoins$Session", name := "isWithinBounds", desc := "()Z" } : Jvm.MethodName)) ∈ hp_ws := hp_in (i := 294) (by decide +kernel) (by decide +kernel)
theorem wd_295 : (Jvm.Cond.instanceMethod ({ cls := "VersionJoins$Session", name := "isWithinBounds", desc := "()Z" } : Jvm.MethodName)) ∈ hp_ws := hp_in (i := 295) (by decide +kernel) (by decide +kernel)
theorem wd_296 : (Jvm.Cond.selects "VersionJoins$Session" ({ cls := "VersionJoins$Session", name := "isWithinBounds", desc := "()Z" } : Jvm.MethodName) ({ cls := "VersionJoins$Session", name := "isWithinBounds", desc := "()Z" } : Jvm.MethodName)) ∈ hp_ws := hp_in (i := 296) (by decide +kernel) (by decide +kernel)
set_option maxRecDepth 20000 in
theorem wd_297 : (Jvm.Cond.code ({ cls := "VersionJoins$Session", name := "isWithinBounds", desc := "()Z" } : Jvm.MethodName) prog_3_method_8_code (2 : Nat) (Option.some Jvm.ClassFile.FieldType.boolean)) ∈ hp_ws := hp_in (i := 297) rfl (by decide +kernel)
theorem wd_298 : (Jvm.Cond.constantLong "VersionJoins$Session" (29 : Nat) (1000000000000 : Int64)) ∈ hp_ws := hp_in (i := 298) (by decide +kernel) (by decide +kernel)
theorem wd_299 : (Jvm.Cond.constantLong "VersionJoins$Session" (31 : Nat) (-1000000000000 : Int64)) ∈ hp_ws := hp_in (i := 299) (by decide +kernel) (by decide +kernel)
theorem wd_300 : (Jvm.Cond.methodLink "VersionJoins" (116 : Nat) ({ cls := "VersionJoins", name := "giveWritten", desc := "(LVersionJoins$Session;)V" } : Jvm.MethodName)) ∈ hp_ws := hp_in (i := 300) (by decide +kernel) (by decide +kernel)
theorem wd_302 : (Jvm.Cond.instanceMethod ({ cls := "VersionJoins", name := "giveWritten", desc := "(LVersionJoins$Session;)V" } : Jvm.MethodName)) ∈ hp_ws := hp_in (i := 302) (by decide +kernel) (by decide +kernel)
set_option maxRecDepth 20000 in
theorem wd_303 : (Jvm.Cond.code ({ cls := "VersionJoins", name := "giveWritten", desc := "(LVersionJoins$Session;)V" } : Jvm.MethodName) prog_1_method_22_code (3 : Nat) (Option.none : Option Jvm.ClassFile.FieldType)) ∈ hp_ws := hp_in (i := 303) rfl (by decide +kernel)
theorem wd_304 : (Jvm.Cond.methodLink "VersionJoins" (185 : Nat) ({ cls := "VersionJoins", name := "give", desc := "(IJ)V" } : Jvm.MethodName)) ∈ hp_ws := hp_in (i := 304) (by decide +kernel) (by decide +kernel)
theorem wd_306 : (Jvm.Cond.instanceMethod ({ cls := "VersionJoins", name := "give", desc := "(IJ)V" } : Jvm.MethodName)) ∈ hp_ws := hp_in (i := 306) (by decide +kernel) (by decide +kernel)
set_option maxRecDepth 20000 in
theorem wd_307 : (Jvm.Cond.code ({ cls := "VersionJoins", name := "give", desc := "(IJ)V" } : Jvm.MethodName) prog_1_method_21_code (4 : Nat) (Option.none : Option Jvm.ClassFile.FieldType)) ∈ hp_ws := hp_in (i := 307) rfl (by decide +kernel)
theorem wd_308 : (Jvm.Cond.methodLink "VersionJoinsLaw" (54 : Nat) ({ cls := "VersionJoins", name := "conflict", desc := "(II)J" } : Jvm.MethodName)) ∈ hp_ws := hp_in (i := 308) (by decide +kernel) (by decide +kernel)
theorem wd_309 : (Jvm.Cond.instanceMethod ({ cls := "VersionJoins", name := "conflict", desc := "(II)J" } : Jvm.MethodName)) ∈ hp_ws := hp_in (i := 309) (by decide +kernel) (by decide +kernel)
theorem wd_310 : (Jvm.Cond.selects "VersionJoins" ({ cls := "VersionJoins", name := "conflict", desc := "(II)J" } : Jvm.MethodName) ({ cls := "VersionJoins", name := "conflict", desc := "(II)J" } : Jvm.MethodName)) ∈ hp_ws := hp_in (i := 310) (by decide +kernel) (by decide +kernel)
set_option maxRecDepth 20000 in
theorem wd_311 : (Jvm.Cond.code ({ cls := "VersionJoins", name := "conflict", desc := "(II)J" } : Jvm.MethodName) prog_1_method_10_code (3 : Nat) (Option.some Jvm.ClassFile.FieldType.long)) ∈ hp_ws := hp_in (i := 311) rfl (by decide +kernel)
theorem wd_312 : (Jvm.Cond.methodLink "VersionJoins" (124 : Nat) ({ cls := "VersionJoins$Conflicts", name := "has", desc := "(I)Z" } : Jvm.MethodName)) ∈ hp_ws := hp_in (i := 312) (by decide +kernel) (by decide +kernel)
theorem wd_313 : (Jvm.Cond.instanceMethod ({ cls := "VersionJoins$Conflicts", name := "has", desc := "(I)Z" } : Jvm.MethodName)) ∈ hp_ws := hp_in (i := 313) (by decide +kernel) (by decide +kernel)
theorem wd_314 : (Jvm.Cond.selects "VersionJoins$Conflicts" ({ cls := "VersionJoins$Conflicts", name := "has", desc := "(I)Z" } : Jvm.MethodName) ({ cls := "VersionJoins$Conflicts", name := "has", desc := "(I)Z" } : Jvm.MethodName)) ∈ hp_ws := hp_in (i := 314) (by decide +kernel) (by decide +kernel)
set_option maxRecDepth 20000 in
theorem wd_315 : (Jvm.Cond.code ({ cls := "VersionJoins$Conflicts", name := "has", desc := "(I)Z" } : Jvm.MethodName) prog_2_method_2_code (2 : Nat) (Option.some Jvm.ClassFile.FieldType.boolean)) ∈ hp_ws := hp_in (i := 315) rfl (by decide +kernel)
theorem wd_316 : (Jvm.Cond.constantLong "VersionJoins" (127 : Nat) (-1 : Int64)) ∈ hp_ws := hp_in (i := 316) (by decide +kernel) (by decide +kernel)
theorem wd_317 : (Jvm.Cond.constantLong "VersionJoins" (138 : Nat) (-2 : Int64)) ∈ hp_ws := hp_in (i := 317) (by decide +kernel) (by decide +kernel)
theorem wd_318 : (Jvm.Cond.methodLink "VersionJoinsLaw" (58 : Nat) ({ cls := "VersionJoins", name := "settle", desc := "(II)Z" } : Jvm.MethodName)) ∈ hp_ws := hp_in (i := 318) (by decide +kernel) (by decide +kernel)
theorem wd_319 : (Jvm.Cond.instanceMethod ({ cls := "VersionJoins", name := "settle", desc := "(II)Z" } : Jvm.MethodName)) ∈ hp_ws := hp_in (i := 319) (by decide +kernel) (by decide +kernel)
theorem wd_320 : (Jvm.Cond.selects "VersionJoins" ({ cls := "VersionJoins", name := "settle", desc := "(II)Z" } : Jvm.MethodName) ({ cls := "VersionJoins", name := "settle", desc := "(II)Z" } : Jvm.MethodName)) ∈ hp_ws := hp_in (i := 320) (by decide +kernel) (by decide +kernel)
set_option maxRecDepth 20000 in
theorem wd_321 : (Jvm.Cond.code ({ cls := "VersionJoins", name := "settle", desc := "(II)Z" } : Jvm.MethodName) prog_1_method_11_code (5 : Nat) (Option.some Jvm.ClassFile.FieldType.boolean)) ∈ hp_ws := hp_in (i := 321) rfl (by decide +kernel)
theorem wd_322 : (Jvm.Cond.methodLink "VersionJoins" (148 : Nat) ({ cls := "VersionJoins$Session", name := "rebase", desc := "(IJ)V" } : Jvm.MethodName)) ∈ hp_ws := hp_in (i := 322) (by decide +kernel) (by decide +kernel)
theorem wd_323 : (Jvm.Cond.instanceMethod ({ cls := "VersionJoins$Session", name := "rebase", desc := "(IJ)V" } : Jvm.MethodName)) ∈ hp_ws := hp_in (i := 323) (by decide +kernel) (by decide +kernel)
theorem wd_324 : (Jvm.Cond.selects "VersionJoins$Session" ({ cls := "VersionJoins$Session", name := "rebase", desc := "(IJ)V" } : Jvm.MethodName) ({ cls := "VersionJoins$Session", name := "rebase", desc := "(IJ)V" } : Jvm.MethodName)) ∈ hp_ws := hp_in (i := 324) (by decide +kernel) (by decide +kernel)
set_option maxRecDepth 20000 in
theorem wd_325 : (Jvm.Cond.code ({ cls := "VersionJoins$Session", name := "rebase", desc := "(IJ)V" } : Jvm.MethodName) prog_3_method_5_code (4 : Nat) (Option.none : Option Jvm.ClassFile.FieldType)) ∈ hp_ws := hp_in (i := 325) rfl (by decide +kernel)
theorem wd_326 : (Jvm.Cond.methodLink "VersionJoins" (151 : Nat) ({ cls := "VersionJoins$Session", name := "dropWritten", desc := "(I)V" } : Jvm.MethodName)) ∈ hp_ws := hp_in (i := 326) (by decide +kernel) (by decide +kernel)
theorem wd_327 : (Jvm.Cond.instanceMethod ({ cls := "VersionJoins$Session", name := "dropWritten", desc := "(I)V" } : Jvm.MethodName)) ∈ hp_ws := hp_in (i := 327) (by decide +kernel) (by decide +kernel)
theorem wd_328 : (Jvm.Cond.selects "VersionJoins$Session" ({ cls := "VersionJoins$Session", name := "dropWritten", desc := "(I)V" } : Jvm.MethodName) ({ cls := "VersionJoins$Session", name := "dropWritten", desc := "(I)V" } : Jvm.MethodName)) ∈ hp_ws := hp_in (i := 328) (by decide +kernel) (by decide +kernel)
set_option maxRecDepth 20000 in
theorem wd_329 : (Jvm.Cond.code ({ cls := "VersionJoins$Session", name := "dropWritten", desc := "(I)V" } : Jvm.MethodName) prog_3_method_4_code (2 : Nat) (Option.none : Option Jvm.ClassFile.FieldType)) ∈ hp_ws := hp_in (i := 329) rfl (by decide +kernel)
theorem wd_330 : (Jvm.Cond.methodLink "VersionJoinsLaw" (62 : Nat) ({ cls := "VersionJoins", name := "stale", desc := "(I)Z" } : Jvm.MethodName)) ∈ hp_ws := hp_in (i := 330) (by decide +kernel) (by decide +kernel)
theorem wd_331 : (Jvm.Cond.instanceMethod ({ cls := "VersionJoins", name := "stale", desc := "(I)Z" } : Jvm.MethodName)) ∈ hp_ws := hp_in (i := 331) (by decide +kernel) (by decide +kernel)
theorem wd_332 : (Jvm.Cond.selects "VersionJoins" ({ cls := "VersionJoins", name := "stale", desc := "(I)Z" } : Jvm.MethodName) ({ cls := "VersionJoins", name := "stale", desc := "(I)Z" } : Jvm.MethodName)) ∈ hp_ws := hp_in (i := 332) (by decide +kernel) (by decide +kernel)
set_option maxRecDepth 20000 in
theorem wd_333 : (Jvm.Cond.code ({ cls := "VersionJoins", name := "stale", desc := "(I)Z" } : Jvm.MethodName) prog_1_method_12_code (2 : Nat) (Option.some Jvm.ClassFile.FieldType.boolean)) ∈ hp_ws := hp_in (i := 333) rfl (by decide +kernel)
theorem wd_334 : (Jvm.Cond.methodLink "VersionJoins" (154 : Nat) ({ cls := "VersionJoins", name := "isStale", desc := "(I)Z" } : Jvm.MethodName)) ∈ hp_ws := hp_in (i := 334) (by decide +kernel) (by decide +kernel)
theorem wd_336 : (Jvm.Cond.instanceMethod ({ cls := "VersionJoins", name := "isStale", desc := "(I)Z" } : Jvm.MethodName)) ∈ hp_ws := hp_in (i := 336) (by decide +kernel) (by decide +kernel)
set_option maxRecDepth 20000 in
theorem wd_337 : (Jvm.Cond.code ({ cls := "VersionJoins", name := "isStale", desc := "(I)Z" } : Jvm.MethodName) prog_1_method_27_code (4 : Nat) (Option.some Jvm.ClassFile.FieldType.boolean)) ∈ hp_ws := hp_in (i := 337) rfl (by decide +kernel)
theorem wd_338 : (Jvm.Cond.methodLink "VersionJoins" (215 : Nat) ({ cls := "VersionJoins$Step", name := "isOutdated", desc := "([J)Z" } : Jvm.MethodName)) ∈ hp_ws := hp_in (i := 338) (by decide +kernel) (by decide +kernel)
theorem wd_339 : (Jvm.Cond.instanceMethod ({ cls := "VersionJoins$Step", name := "isOutdated", desc := "([J)Z" } : Jvm.MethodName)) ∈ hp_ws := hp_in (i := 339) (by decide +kernel) (by decide +kernel)
theorem wd_340 : (Jvm.Cond.selects "VersionJoins$Step" ({ cls := "VersionJoins$Step", name := "isOutdated", desc := "([J)Z" } : Jvm.MethodName) ({ cls := "VersionJoins$Step", name := "isOutdated", desc := "([J)Z" } : Jvm.MethodName)) ∈ hp_ws := hp_in (i := 340) (by decide +kernel) (by decide +kernel)
set_option maxRecDepth 20000 in
theorem wd_341 : (Jvm.Cond.code ({ cls := "VersionJoins$Step", name := "isOutdated", desc := "([J)Z" } : Jvm.MethodName) prog_4_method_7_code (3 : Nat) (Option.some Jvm.ClassFile.FieldType.boolean)) ∈ hp_ws := hp_in (i := 341) rfl (by decide +kernel)
theorem wd_342 : (Jvm.Cond.methodLink "VersionJoinsLaw" (67 : Nat) ({ cls := "VersionJoins", name := "branch", desc := "()I" } : Jvm.MethodName)) ∈ hp_ws := hp_in (i := 342) (by decide +kernel) (by decide +kernel)
theorem wd_343 : (Jvm.Cond.instanceMethod ({ cls := "VersionJoins", name := "branch", desc := "()I" } : Jvm.MethodName)) ∈ hp_ws := hp_in (i := 343) (by decide +kernel) (by decide +kernel)
theorem wd_344 : (Jvm.Cond.selects "VersionJoins" ({ cls := "VersionJoins", name := "branch", desc := "()I" } : Jvm.MethodName) ({ cls := "VersionJoins", name := "branch", desc := "()I" } : Jvm.MethodName)) ∈ hp_ws := hp_in (i := 344) (by decide +kernel) (by decide +kernel)
set_option maxRecDepth 20000 in
theorem wd_345 : (Jvm.Cond.code ({ cls := "VersionJoins", name := "branch", desc := "()I" } : Jvm.MethodName) prog_1_method_13_code (1 : Nat) (Option.some Jvm.ClassFile.FieldType.int)) ∈ hp_ws := hp_in (i := 345) rfl (by decide +kernel)
theorem wd_346 : (Jvm.Cond.methodLink "VersionJoins" (157 : Nat) ({ cls := "java/lang/System", name := "arraycopy", desc := "(Ljava/lang/Object;ILjava/lang/Object;II)V" } : Jvm.MethodName)) ∈ hp_ws := hp_in (i := 346) (by decide +kernel) (by decide +kernel)
theorem wd_347 : (Jvm.Cond.static ({ cls := "java/lang/System", name := "arraycopy", desc := "(Ljava/lang/Object;ILjava/lang/Object;II)V" } : Jvm.MethodName)) ∈ hp_ws := hp_in (i := 347) (by decide +kernel) (by decide +kernel)
theorem wd_348 : (Jvm.Cond.native ({ cls := "java/lang/System", name := "arraycopy", desc := "(Ljava/lang/Object;ILjava/lang/Object;II)V" } : Jvm.MethodName)) ∈ hp_ws := hp_in (i := 348) (by decide +kernel) (by decide +kernel)
theorem wd_349 : (Jvm.Cond.methodLink "VersionJoinsLaw" (71 : Nat) ({ cls := "VersionJoins", name := "from", desc := "(II)I" } : Jvm.MethodName)) ∈ hp_ws := hp_in (i := 349) (by decide +kernel) (by decide +kernel)
theorem wd_350 : (Jvm.Cond.instanceMethod ({ cls := "VersionJoins", name := "from", desc := "(II)I" } : Jvm.MethodName)) ∈ hp_ws := hp_in (i := 350) (by decide +kernel) (by decide +kernel)
theorem wd_351 : (Jvm.Cond.selects "VersionJoins" ({ cls := "VersionJoins", name := "from", desc := "(II)I" } : Jvm.MethodName) ({ cls := "VersionJoins", name := "from", desc := "(II)I" } : Jvm.MethodName)) ∈ hp_ws := hp_in (i := 351) (by decide +kernel) (by decide +kernel)
set_option maxRecDepth 20000 in
theorem wd_352 : (Jvm.Cond.code ({ cls := "VersionJoins", name := "from", desc := "(II)I" } : Jvm.MethodName) prog_1_method_14_code (4 : Nat) (Option.some Jvm.ClassFile.FieldType.int)) ∈ hp_ws := hp_in (i := 352) rfl (by decide +kernel)
theorem wd_353 : (Jvm.Cond.methodLink "VersionJoins" (163 : Nat) ({ cls := "VersionJoins$Step", name := "hasMade", desc := "(I)Z" } : Jvm.MethodName)) ∈ hp_ws := hp_in (i := 353) (by decide +kernel) (by decide +kernel)
theorem wd_354 : (Jvm.Cond.instanceMethod ({ cls := "VersionJoins$Step", name := "hasMade", desc := "(I)Z" } : Jvm.MethodName)) ∈ hp_ws := hp_in (i := 354) (by decide +kernel) (by decide +kernel)
theorem wd_355 : (Jvm.Cond.selects "VersionJoins$Step" ({ cls := "VersionJoins$Step", name := "hasMade", desc := "(I)Z" } : Jvm.MethodName) ({ cls := "VersionJoins$Step", name := "hasMade", desc := "(I)Z" } : Jvm.MethodName)) ∈ hp_ws := hp_in (i := 355) (by decide +kernel) (by decide +kernel)
set_option maxRecDepth 20000 in
theorem wd_356 : (Jvm.Cond.code ({ cls := "VersionJoins$Step", name := "hasMade", desc := "(I)Z" } : Jvm.MethodName) prog_4_method_4_code (3 : Nat) (Option.some Jvm.ClassFile.FieldType.boolean)) ∈ hp_ws := hp_in (i := 356) rfl (by decide +kernel)
theorem wd_357 : (Jvm.Cond.methodLink "VersionJoinsLaw" (76 : Nat) ({ cls := "VersionJoins", name := "run", desc := "(I)Z" } : Jvm.MethodName)) ∈ hp_ws := hp_in (i := 357) (by decide +kernel) (by decide +kernel)
theorem wd_358 : (Jvm.Cond.instanceMethod ({ cls := "VersionJoins", name := "run", desc := "(I)Z" } : Jvm.MethodName)) ∈ hp_ws := hp_in (i := 358) (by decide +kernel) (by decide +kernel)
theorem wd_359 : (Jvm.Cond.selects "VersionJoins" ({ cls := "VersionJoins", name := "run", desc := "(I)Z" } : Jvm.MethodName) ({ cls := "VersionJoins", name := "run", desc := "(I)Z" } : Jvm.MethodName)) ∈ hp_ws := hp_in (i := 359) (by decide +kernel) (by decide +kernel)
set_option maxRecDepth 20000 in
theorem wd_360 : (Jvm.Cond.code ({ cls := "VersionJoins", name := "run", desc := "(I)Z" } : Jvm.MethodName) prog_1_method_15_code (2 : Nat) (Option.some Jvm.ClassFile.FieldType.boolean)) ∈ hp_ws := hp_in (i := 360) rfl (by decide +kernel)
theorem wd_361 : (Jvm.Cond.methodLink "VersionJoins" (176 : Nat) ({ cls := "VersionJoins", name := "refresh", desc := "(II)Z" } : Jvm.MethodName)) ∈ hp_ws := hp_in (i := 361) (by decide +kernel) (by decide +kernel)
theorem wd_363 : (Jvm.Cond.instanceMethod ({ cls := "VersionJoins", name := "refresh", desc := "(II)Z" } : Jvm.MethodName)) ∈ hp_ws := hp_in (i := 363) (by decide +kernel) (by decide +kernel)
set_option maxRecDepth 20000 in
theorem wd_364 : (Jvm.Cond.code ({ cls := "VersionJoins", name := "refresh", desc := "(II)Z" } : Jvm.MethodName) prog_1_method_28_code (6 : Nat) (Option.some Jvm.ClassFile.FieldType.boolean)) ∈ hp_ws := hp_in (i := 364) rfl (by decide +kernel)
theorem wd_365 : (Jvm.Cond.methodLink "VersionJoins" (219 : Nat) ({ cls := "VersionJoins$Step", name := "work", desc := "([J)V" } : Jvm.MethodName)) ∈ hp_ws := hp_in (i := 365) (by decide +kernel) (by decide +kernel)
theorem wd_366 : (Jvm.Cond.instanceMethod ({ cls := "VersionJoins$Step", name := "work", desc := "([J)V" } : Jvm.MethodName)) ∈ hp_ws := hp_in (i := 366) (by decide +kernel) (by decide +kernel)
theorem wd_367 : (Jvm.Cond.selects "VersionJoins$Step" ({ cls := "VersionJoins$Step", name := "work", desc := "([J)V" } : Jvm.MethodName) ({ cls := "VersionJoins$Step", name := "work", desc := "([J)V" } : Jvm.MethodName)) ∈ hp_ws := hp_in (i := 367) (by decide +kernel) (by decide +kernel)
set_option maxRecDepth 20000 in
theorem wd_368 : (Jvm.Cond.code ({ cls := "VersionJoins$Step", name := "work", desc := "([J)V" } : Jvm.MethodName) prog_4_method_8_code (3 : Nat) (Option.none : Option Jvm.ClassFile.FieldType)) ∈ hp_ws := hp_in (i := 368) rfl (by decide +kernel)
theorem wd_369 : (Jvm.Cond.methodLink "VersionJoins$Step" (49 : Nat) ({ cls := "VersionJoins$Step", name := "resultOfKind", desc := "()J" } : Jvm.MethodName)) ∈ hp_ws := hp_in (i := 369) (by decide +kernel) (by decide +kernel)
theorem wd_371 : (Jvm.Cond.instanceMethod ({ cls := "VersionJoins$Step", name := "resultOfKind", desc := "()J" } : Jvm.MethodName)) ∈ hp_ws := hp_in (i := 371) (by decide +kernel) (by decide +kernel)
set_option maxRecDepth 20000 in
theorem wd_372 : (Jvm.Cond.code ({ cls := "VersionJoins$Step", name := "resultOfKind", desc := "()J" } : Jvm.MethodName) prog_4_method_9_code (1 : Nat) (Option.some Jvm.ClassFile.FieldType.long)) ∈ hp_ws := hp_in (i := 372) rfl (by decide +kernel)
theorem wd_373 : (Jvm.Cond.methodLink "VersionJoins$Step" (53 : Nat) ({ cls := "VersionJoins$Step", name := "sum", desc := "()J" } : Jvm.MethodName)) ∈ hp_ws := hp_in (i := 373) (by decide +kernel) (by decide +kernel)
theorem wd_375 : (Jvm.Cond.instanceMethod ({ cls := "VersionJoins$Step", name := "sum", desc := "()J" } : Jvm.MethodName)) ∈ hp_ws := hp_in (i := 375) (by decide +kernel) (by decide +kernel)
set_option maxRecDepth 20000 in
theorem wd_376 : (Jvm.Cond.code ({ cls := "VersionJoins$Step", name := "sum", desc := "()J" } : Jvm.MethodName) prog_4_method_10_code (4 : Nat) (Option.some Jvm.ClassFile.FieldType.long)) ∈ hp_ws := hp_in (i := 376) rfl (by decide +kernel)
theorem wd_377 : (Jvm.Cond.methodLink "VersionJoins$Step" (56 : Nat) ({ cls := "VersionJoins$Step", name := "greatest", desc := "()J" } : Jvm.MethodName)) ∈ hp_ws := hp_in (i := 377) (by decide +kernel) (by decide +kernel)
theorem wd_379 : (Jvm.Cond.instanceMethod ({ cls := "VersionJoins$Step", name := "greatest", desc := "()J" } : Jvm.MethodName)) ∈ hp_ws := hp_in (i := 379) (by decide +kernel) (by decide +kernel)
set_option maxRecDepth 20000 in
theorem wd_380 : (Jvm.Cond.code ({ cls := "VersionJoins$Step", name := "greatest", desc := "()J" } : Jvm.MethodName) prog_4_method_11_code (4 : Nat) (Option.some Jvm.ClassFile.FieldType.long)) ∈ hp_ws := hp_in (i := 380) rfl (by decide +kernel)
theorem wd_381 : (Jvm.Cond.methodLink "VersionJoins$Step" (65 : Nat) ({ cls := "java/lang/Math", name := "max", desc := "(JJ)J" } : Jvm.MethodName)) ∈ hp_ws := hp_in (i := 381) (by decide +kernel) (by decide +kernel)
theorem wd_382 : (Jvm.Cond.static ({ cls := "java/lang/Math", name := "max", desc := "(JJ)J" } : Jvm.MethodName)) ∈ hp_ws := hp_in (i := 382) (by decide +kernel) (by decide +kernel)
set_option maxRecDepth 20000 in
theorem wd_383 : (Jvm.Cond.code ({ cls := "java/lang/Math", name := "max", desc := "(JJ)J" } : Jvm.MethodName) prog_7_method_66_code (4 : Nat) (Option.some Jvm.ClassFile.FieldType.long)) ∈ hp_ws := hp_in (i := 383) rfl (by decide +kernel)
theorem wd_384 : (Jvm.Cond.methodLink "VersionJoins$Step" (59 : Nat) ({ cls := "VersionJoins$Step", name := "exclusiveOr", desc := "()J" } : Jvm.MethodName)) ∈ hp_ws := hp_in (i := 384) (by decide +kernel) (by decide +kernel)
theorem wd_386 : (Jvm.Cond.instanceMethod ({ cls := "VersionJoins$Step", name := "exclusiveOr", desc := "()J" } : Jvm.MethodName)) ∈ hp_ws := hp_in (i := 386) (by decide +kernel) (by decide +kernel)
set_option maxRecDepth 20000 in
theorem wd_387 : (Jvm.Cond.code ({ cls := "VersionJoins$Step", name := "exclusiveOr", desc := "()J" } : Jvm.MethodName) prog_4_method_12_code (4 : Nat) (Option.some Jvm.ClassFile.FieldType.long)) ∈ hp_ws := hp_in (i := 387) rfl (by decide +kernel)
theorem wd_388 : (Jvm.Cond.methodLink "VersionJoins$Step" (62 : Nat) ({ cls := "VersionJoins$Step", name := "differentOnes", desc := "()J" } : Jvm.MethodName)) ∈ hp_ws := hp_in (i := 388) (by decide +kernel) (by decide +kernel)
theorem wd_390 : (Jvm.Cond.instanceMethod ({ cls := "VersionJoins$Step", name := "differentOnes", desc := "()J" } : Jvm.MethodName)) ∈ hp_ws := hp_in (i := 390) (by decide +kernel) (by decide +kernel)
set_option maxRecDepth 20000 in
theorem wd_391 : (Jvm.Cond.code ({ cls := "VersionJoins$Step", name := "differentOnes", desc := "()J" } : Jvm.MethodName) prog_4_method_13_code (4 : Nat) (Option.some Jvm.ClassFile.FieldType.long)) ∈ hp_ws := hp_in (i := 391) rfl (by decide +kernel)
theorem wd_392 : (Jvm.Cond.methodLink "VersionJoins$Step" (71 : Nat) ({ cls := "VersionJoins$Step", name := "isFirstOfItsValue", desc := "(I)Z" } : Jvm.MethodName)) ∈ hp_ws := hp_in (i := 392) (by decide +kernel) (by decide +kernel)
theorem wd_394 : (Jvm.Cond.instanceMethod ({ cls := "VersionJoins$Step", name := "isFirstOfItsValue", desc := "(I)Z" } : Jvm.MethodName)) ∈ hp_ws := hp_in (i := 394) (by decide +kernel) (by decide +kernel)
set_option maxRecDepth 20000 in
theorem wd_395 : (Jvm.Cond.code ({ cls := "VersionJoins$Step", name := "isFirstOfItsValue", desc := "(I)Z" } : Jvm.MethodName) prog_4_method_14_code (3 : Nat) (Option.some Jvm.ClassFile.FieldType.boolean)) ∈ hp_ws := hp_in (i := 395) rfl (by decide +kernel)
theorem wd_396 : (Jvm.Cond.methodLink "VersionJoinsLaw" (80 : Nat) ({ cls := "VersionJoins", name := "value", desc := "(II)J" } : Jvm.MethodName)) ∈ hp_ws := hp_in (i := 396) (by decide +kernel) (by decide +kernel)
theorem wd_397 : (Jvm.Cond.instanceMethod ({ cls := "VersionJoins", name := "value", desc := "(II)J" } : Jvm.MethodName)) ∈ hp_ws := hp_in (i := 397) (by decide +kernel) (by decide +kernel)
theorem wd_398 : (Jvm.Cond.selects "VersionJoins" ({ cls := "VersionJoins", name := "value", desc := "(II)J" } : Jvm.MethodName) ({ cls := "VersionJoins", name := "value", desc := "(II)J" } : Jvm.MethodName)) ∈ hp_ws := hp_in (i := 398) (by decide +kernel) (by decide +kernel)
set_option maxRecDepth 20000 in
theorem wd_399 : (Jvm.Cond.code ({ cls := "VersionJoins", name := "value", desc := "(II)J" } : Jvm.MethodName) prog_1_method_16_code (3 : Nat) (Option.some Jvm.ClassFile.FieldType.long)) ∈ hp_ws := hp_in (i := 399) rfl (by decide +kernel)
theorem wd_400 : (Jvm.Cond.methodLink "VersionJoinsLaw" (84 : Nat) ({ cls := "VersionJoins", name := "play", desc := "(JI)I" } : Jvm.MethodName)) ∈ hp_ws := hp_in (i := 400) (by decide +kernel) (by decide +kernel)
theorem wd_401 : (Jvm.Cond.instanceMethod ({ cls := "VersionJoins", name := "play", desc := "(JI)I" } : Jvm.MethodName)) ∈ hp_ws := hp_in (i := 401) (by decide +kernel) (by decide +kernel)
theorem wd_402 : (Jvm.Cond.selects "VersionJoins" ({ cls := "VersionJoins", name := "play", desc := "(JI)I" } : Jvm.MethodName) ({ cls := "VersionJoins", name := "play", desc := "(JI)I" } : Jvm.MethodName)) ∈ hp_ws := hp_in (i := 402) (by decide +kernel) (by decide +kernel)
set_option maxRecDepth 20000 in
theorem wd_403 : (Jvm.Cond.code ({ cls := "VersionJoins", name := "play", desc := "(JI)I" } : Jvm.MethodName) prog_1_method_17_code (8 : Nat) (Option.some Jvm.ClassFile.FieldType.int)) ∈ hp_ws := hp_in (i := 403) rfl (by decide +kernel)
theorem wd_404 : (Jvm.Cond.constantLong "VersionJoins" (179 : Nat) (6364136223846793005 : Int64)) ∈ hp_ws := hp_in (i := 404) (by decide +kernel) (by decide +kernel)
theorem wd_405 : (Jvm.Cond.constantLong "VersionJoins" (181 : Nat) (1442695040888963407 : Int64)) ∈ hp_ws := hp_in (i := 405) (by decide +kernel) (by decide +kernel)
theorem wd_406 : (Jvm.Cond.constantLong "VersionJoins" (183 : Nat) (255 : Int64)) ∈ hp_ws := hp_in (i := 406) (by decide +kernel) (by decide +kernel)
theorem wd_407 : (Jvm.Cond.methodLink "VersionJoins" (188 : Nat) ({ cls := "VersionJoins", name := "refreshAll", desc := "()V" } : Jvm.MethodName)) ∈ hp_ws := hp_in (i := 407) (by decide +kernel) (by decide +kernel)
theorem wd_409 : (Jvm.Cond.instanceMethod ({ cls := "VersionJoins", name := "refreshAll", desc := "()V" } : Jvm.MethodName)) ∈ hp_ws := hp_in (i := 409) (by decide +kernel) (by decide +kernel)
set_option maxRecDepth 20000 in
theorem wd_410 : (Jvm.Cond.code ({ cls := "VersionJoins", name := "refreshAll", desc := "()V" } : Jvm.MethodName) prog_1_method_29_code (2 : Nat) (Option.none : Option Jvm.ClassFile.FieldType)) ∈ hp_ws := hp_in (i := 410) rfl (by decide +kernel)
theorem wd_411 : (Jvm.Cond.classLink "VersionJoinsLaw" (10 : Nat) "VersionJoinsModel") ∈ hp_ws := hp_in (i := 411) (by decide +kernel) (by decide +kernel)
theorem wd_412 : (Jvm.Cond.instantiable "VersionJoinsModel" (30 : Nat)) ∈ hp_ws := hp_in (i := 412) (by decide +kernel) (by decide +kernel)
theorem wd_413 : (Jvm.Cond.methodLink "VersionJoinsLaw" (12 : Nat) ({ cls := "VersionJoinsModel", name := "<init>", desc := "()V" } : Jvm.MethodName)) ∈ hp_ws := hp_in (i := 413) (by decide +kernel) (by decide +kernel)
theorem wd_414 : (Jvm.Cond.instanceMethod ({ cls := "VersionJoinsModel", name := "<init>", desc := "()V" } : Jvm.MethodName)) ∈ hp_ws := hp_in (i := 414) (by decide +kernel) (by decide +kernel)
set_option maxRecDepth 20000 in
theorem wd_415 : (Jvm.Cond.code ({ cls := "VersionJoinsModel", name := "<init>", desc := "()V" } : Jvm.MethodName) prog_6_method_1_code (1 : Nat) (Option.none : Option Jvm.ClassFile.FieldType)) ∈ hp_ws := hp_in (i := 415) rfl (by decide +kernel)
theorem wd_416 : (Jvm.Cond.methodLink "VersionJoinsModel" (1 : Nat) ({ cls := "java/lang/Object", name := "<init>", desc := "()V" } : Jvm.MethodName)) ∈ hp_ws := hp_in (i := 416) (by decide +kernel) (by decide +kernel)
theorem wd_417 : (Jvm.Cond.fieldLink "VersionJoinsModel" (82 : Nat) "VersionJoinsModel" "things" "I") ∈ hp_ws := hp_in (i := 417) (by decide +kernel) (by decide +kernel)
theorem wd_418 : (Jvm.Cond.fieldLink "VersionJoinsModel" (7 : Nat) "VersionJoinsModel" "branches" "I") ∈ hp_ws := hp_in (i := 418) (by decide +kernel) (by decide +kernel)
theorem wd_419 : (Jvm.Cond.fieldLink "VersionJoinsModel" (13 : Nat) "VersionJoinsModel" "values" "[J") ∈ hp_ws := hp_in (i := 419) (by decide +kernel) (by decide +kernel)
theorem wd_420 : (Jvm.Cond.fieldLink "VersionJoinsModel" (115 : Nat) "VersionJoinsModel" "sessions" "I") ∈ hp_ws := hp_in (i := 420) (by decide +kernel) (by decide +kernel)
theorem wd_421 : (Jvm.Cond.fieldLink "VersionJoinsModel" (17 : Nat) "VersionJoinsModel" "isOpen" "[Z") ∈ hp_ws := hp_in (i := 421) (by decide +kernel) (by decide +kernel)
theorem wd_422 : (Jvm.Cond.fieldLink "VersionJoinsModel" (21 : Nat) "VersionJoinsModel" "isTouched" "[Z") ∈ hp_ws := hp_in (i := 422) (by decide +kernel) (by decide +kernel)
theorem wd_423 : (Jvm.Cond.fieldLink "VersionJoinsModel" (24 : Nat) "VersionJoinsModel" "isWritten" "[Z") ∈ hp_ws := hp_in (i := 423) (by decide +kernel) (by decide +kernel)
theorem wd_424 : (Jvm.Cond.fieldLink "VersionJoinsModel" (27 : Nat) "VersionJoinsModel" "bases" "[J") ∈ hp_ws := hp_in (i := 424) (by decide +kernel) (by decide +kernel)
theorem wd_425 : (Jvm.Cond.fieldLink "VersionJoinsModel" (30 : Nat) "VersionJoinsModel" "written" "[J") ∈ hp_ws := hp_in (i := 425) (by decide +kernel) (by decide +kernel)
theorem wd_426 : (Jvm.Cond.fieldLink "VersionJoinsModel" (129 : Nat) "VersionJoinsModel" "conflicts" "I") ∈ hp_ws := hp_in (i := 426) (by decide +kernel) (by decide +kernel)
theorem wd_427 : (Jvm.Cond.fieldLink "VersionJoinsModel" (132 : Nat) "VersionJoinsModel" "conflictSession" "I") ∈ hp_ws := hp_in (i := 427) (by decide +kernel) (by decide +kernel)
theorem wd_428 : (Jvm.Cond.fieldLink "VersionJoinsModel" (33 : Nat) "VersionJoinsModel" "conflictThings" "[I") ∈ hp_ws := hp_in (i := 428) (by decide +kernel) (by decide +kernel)
theorem wd_429 : (Jvm.Cond.fieldLink "VersionJoinsModel" (37 : Nat) "VersionJoinsModel" "conflictOwn" "[J") ∈ hp_ws := hp_in (i := 429) (by decide +kernel) (by decide +kernel)
theorem wd_430 : (Jvm.Cond.fieldLink "VersionJoinsModel" (40 : Nat) "VersionJoinsModel" "conflictOther" "[J") ∈ hp_ws := hp_in (i := 430) (by decide +kernel) (by decide +kernel)
theorem wd_431 : (Jvm.Cond.fieldLink "VersionJoinsModel" (43 : Nat) "VersionJoinsModel" "isSettled" "[Z") ∈ hp_ws := hp_in (i := 431) (by decide +kernel) (by decide +kernel)
theorem wd_432 : (Jvm.Cond.fieldLink "VersionJoinsModel" (85 : Nat) "VersionJoinsModel" "steps" "I") ∈ hp_ws := hp_in (i := 432) (by decide +kernel) (by decide +kernel)
theorem wd_433 : (Jvm.Cond.fieldLink "VersionJoinsModel" (46 : Nat) "VersionJoinsModel" "kinds" "[I") ∈ hp_ws := hp_in (i := 433) (by decide +kernel) (by decide +kernel)
theorem wd_434 : (Jvm.Cond.fieldLink "VersionJoinsModel" (49 : Nat) "VersionJoinsModel" "uses" "[I") ∈ hp_ws := hp_in (i := 434) (by decide +kernel) (by decide +kernel)
theorem wd_435 : (Jvm.Cond.fieldLink "VersionJoinsModel" (52 : Nat) "VersionJoinsModel" "useCounts" "[I") ∈ hp_ws := hp_in (i := 435) (by decide +kernel) (by decide +kernel)
theorem wd_436 : (Jvm.Cond.fieldLink "VersionJoinsModel" (55 : Nat) "VersionJoinsModel" "makes" "[I") ∈ hp_ws := hp_in (i := 436) (by decide +kernel) (by decide +kernel)
theorem wd_437 : (Jvm.Cond.fieldLink "VersionJoinsModel" (58 : Nat) "VersionJoinsModel" "makeCounts" "[I") ∈ hp_ws := hp_in (i := 437) (by decide +kernel) (by decide +kernel)
theorem wd_438 : (Jvm.Cond.fieldLink "VersionJoinsModel" (61 : Nat) "VersionJoinsModel" "hasRun" "[Z") ∈ hp_ws := hp_in (i := 438) (by decide +kernel) (by decide +kernel)
theorem wd_439 : (Jvm.Cond.fieldLink "VersionJoinsModel" (64 : Nat) "VersionJoinsModel" "lastUses" "[I") ∈ hp_ws := hp_in (i := 439) (by decide +kernel) (by decide +kernel)
theorem wd_440 : (Jvm.Cond.fieldLink "VersionJoinsModel" (67 : Nat) "VersionJoinsModel" "lastMakes" "[I") ∈ hp_ws := hp_in (i := 440) (by decide +kernel) (by decide +kernel)
theorem wd_441 : (Jvm.Cond.fieldLink "VersionJoinsModel" (70 : Nat) "VersionJoinsModel" "lastValues" "[J") ∈ hp_ws := hp_in (i := 441) (by decide +kernel) (by decide +kernel)
theorem wd_442 : (Jvm.Cond.fieldLink "VersionJoinsModel" (73 : Nat) "VersionJoinsModel" "lastMade" "[J") ∈ hp_ws := hp_in (i := 442) (by decide +kernel) (by decide +kernel)
theorem wd_443 : (Jvm.Cond.fieldLink "VersionJoinsModel" (76 : Nat) "VersionJoinsModel" "isMarked" "[Z") ∈ hp_ws := hp_in (i := 443) (by decide +kernel) (by decide +kernel)
theorem wd_444 : (Jvm.Cond.fieldLink "VersionJoinsModel" (79 : Nat) "VersionJoinsModel" "isDone" "[Z") ∈ hp_ws := hp_in (i := 444) (by decide +kernel) (by decide +kernel)
theorem wd_445 : (Jvm.Cond.fieldLink "VersionJoinsModel" (172 : Nat) "VersionJoinsModel" "changed" "I") ∈ hp_ws := hp_in (i := 445) (by decide +kernel) (by decide +kernel)
theorem wd_446 : (Jvm.Cond.fieldLink "VersionJoinsModel" (159 : Nat) "VersionJoinsModel" "ran" "Z") ∈ hp_ws := hp_in (i := 446) (by decide +kernel) (by decide +kernel)
theorem wd_447 : (Jvm.Cond.lays "VersionJoinsModel" "VersionJoinsModel" "things" "I") ∈ hp_ws := hp_in (i := 447) (by decide +kernel) (by decide +kernel)
theorem wd_449 : (Jvm.Cond.lays "VersionJoinsModel" "VersionJoinsModel" "branches" "I") ∈ hp_ws := hp_in (i := 449) (by decide +kernel) (by decide +kernel)
theorem wd_451 : (Jvm.Cond.laysFinal "VersionJoinsModel" "VersionJoinsModel" "values" "[J") ∈ hp_ws := hp_in (i := 451) (by decide +kernel) (by decide +kernel)
theorem wd_453 : (Jvm.Cond.lays "VersionJoinsModel" "VersionJoinsModel" "sessions" "I") ∈ hp_ws := hp_in (i := 453) (by decide +kernel) (by decide +kernel)
theorem wd_455 : (Jvm.Cond.laysFinal "VersionJoinsModel" "VersionJoinsModel" "isOpen" "[Z") ∈ hp_ws := hp_in (i := 455) (by decide +kernel) (by decide +kernel)
theorem wd_457 : (Jvm.Cond.laysFinal "VersionJoinsModel" "VersionJoinsModel" "isTouched" "[Z") ∈ hp_ws := hp_in (i := 457) (by decide +kernel) (by decide +kernel)
theorem wd_459 : (Jvm.Cond.laysFinal "VersionJoinsModel" "VersionJoinsModel" "isWritten" "[Z") ∈ hp_ws := hp_in (i := 459) (by decide +kernel) (by decide +kernel)
theorem wd_461 : (Jvm.Cond.laysFinal "VersionJoinsModel" "VersionJoinsModel" "bases" "[J") ∈ hp_ws := hp_in (i := 461) (by decide +kernel) (by decide +kernel)
theorem wd_463 : (Jvm.Cond.laysFinal "VersionJoinsModel" "VersionJoinsModel" "written" "[J") ∈ hp_ws := hp_in (i := 463) (by decide +kernel) (by decide +kernel)
theorem wd_465 : (Jvm.Cond.lays "VersionJoinsModel" "VersionJoinsModel" "conflicts" "I") ∈ hp_ws := hp_in (i := 465) (by decide +kernel) (by decide +kernel)
theorem wd_467 : (Jvm.Cond.lays "VersionJoinsModel" "VersionJoinsModel" "conflictSession" "I") ∈ hp_ws := hp_in (i := 467) (by decide +kernel) (by decide +kernel)
theorem wd_469 : (Jvm.Cond.laysFinal "VersionJoinsModel" "VersionJoinsModel" "conflictThings" "[I") ∈ hp_ws := hp_in (i := 469) (by decide +kernel) (by decide +kernel)
theorem wd_471 : (Jvm.Cond.laysFinal "VersionJoinsModel" "VersionJoinsModel" "conflictOwn" "[J") ∈ hp_ws := hp_in (i := 471) (by decide +kernel) (by decide +kernel)
theorem wd_473 : (Jvm.Cond.laysFinal "VersionJoinsModel" "VersionJoinsModel" "conflictOther" "[J") ∈ hp_ws := hp_in (i := 473) (by decide +kernel) (by decide +kernel)
theorem wd_475 : (Jvm.Cond.laysFinal "VersionJoinsModel" "VersionJoinsModel" "isSettled" "[Z") ∈ hp_ws := hp_in (i := 475) (by decide +kernel) (by decide +kernel)
theorem wd_477 : (Jvm.Cond.lays "VersionJoinsModel" "VersionJoinsModel" "steps" "I") ∈ hp_ws := hp_in (i := 477) (by decide +kernel) (by decide +kernel)
theorem wd_479 : (Jvm.Cond.laysFinal "VersionJoinsModel" "VersionJoinsModel" "kinds" "[I") ∈ hp_ws := hp_in (i := 479) (by decide +kernel) (by decide +kernel)
theorem wd_481 : (Jvm.Cond.laysFinal "VersionJoinsModel" "VersionJoinsModel" "uses" "[I") ∈ hp_ws := hp_in (i := 481) (by decide +kernel) (by decide +kernel)
theorem wd_483 : (Jvm.Cond.laysFinal "VersionJoinsModel" "VersionJoinsModel" "useCounts" "[I") ∈ hp_ws := hp_in (i := 483) (by decide +kernel) (by decide +kernel)
theorem wd_485 : (Jvm.Cond.laysFinal "VersionJoinsModel" "VersionJoinsModel" "makes" "[I") ∈ hp_ws := hp_in (i := 485) (by decide +kernel) (by decide +kernel)
theorem wd_487 : (Jvm.Cond.laysFinal "VersionJoinsModel" "VersionJoinsModel" "makeCounts" "[I") ∈ hp_ws := hp_in (i := 487) (by decide +kernel) (by decide +kernel)
theorem wd_489 : (Jvm.Cond.laysFinal "VersionJoinsModel" "VersionJoinsModel" "hasRun" "[Z") ∈ hp_ws := hp_in (i := 489) (by decide +kernel) (by decide +kernel)
theorem wd_491 : (Jvm.Cond.laysFinal "VersionJoinsModel" "VersionJoinsModel" "lastUses" "[I") ∈ hp_ws := hp_in (i := 491) (by decide +kernel) (by decide +kernel)
theorem wd_493 : (Jvm.Cond.laysFinal "VersionJoinsModel" "VersionJoinsModel" "lastMakes" "[I") ∈ hp_ws := hp_in (i := 493) (by decide +kernel) (by decide +kernel)
theorem wd_495 : (Jvm.Cond.laysFinal "VersionJoinsModel" "VersionJoinsModel" "lastValues" "[J") ∈ hp_ws := hp_in (i := 495) (by decide +kernel) (by decide +kernel)
theorem wd_497 : (Jvm.Cond.laysFinal "VersionJoinsModel" "VersionJoinsModel" "lastMade" "[J") ∈ hp_ws := hp_in (i := 497) (by decide +kernel) (by decide +kernel)
theorem wd_499 : (Jvm.Cond.laysFinal "VersionJoinsModel" "VersionJoinsModel" "isMarked" "[Z") ∈ hp_ws := hp_in (i := 499) (by decide +kernel) (by decide +kernel)
theorem wd_501 : (Jvm.Cond.laysFinal "VersionJoinsModel" "VersionJoinsModel" "isDone" "[Z") ∈ hp_ws := hp_in (i := 501) (by decide +kernel) (by decide +kernel)
theorem wd_503 : (Jvm.Cond.lays "VersionJoinsModel" "VersionJoinsModel" "changed" "I") ∈ hp_ws := hp_in (i := 503) (by decide +kernel) (by decide +kernel)
theorem wd_505 : (Jvm.Cond.lays "VersionJoinsModel" "VersionJoinsModel" "ran" "Z") ∈ hp_ws := hp_in (i := 505) (by decide +kernel) (by decide +kernel)
theorem wd_508 : (Jvm.Cond.methodLink "VersionJoinsLaw" (19 : Nat) ({ cls := "VersionJoinsModel", name := "thing", desc := "(J)I" } : Jvm.MethodName)) ∈ hp_ws := hp_in (i := 508) (by decide +kernel) (by decide +kernel)
theorem wd_509 : (Jvm.Cond.instanceMethod ({ cls := "VersionJoinsModel", name := "thing", desc := "(J)I" } : Jvm.MethodName)) ∈ hp_ws := hp_in (i := 509) (by decide +kernel) (by decide +kernel)
theorem wd_510 : (Jvm.Cond.selects "VersionJoinsModel" ({ cls := "VersionJoinsModel", name := "thing", desc := "(J)I" } : Jvm.MethodName) ({ cls := "VersionJoinsModel", name := "thing", desc := "(J)I" } : Jvm.MethodName)) ∈ hp_ws := hp_in (i := 510) (by decide +kernel) (by decide +kernel)
set_option maxRecDepth 20000 in
theorem wd_511 : (Jvm.Cond.code ({ cls := "VersionJoinsModel", name := "thing", desc := "(J)I" } : Jvm.MethodName) prog_6_method_4_code (4 : Nat) (Option.some Jvm.ClassFile.FieldType.int)) ∈ hp_ws := hp_in (i := 511) rfl (by decide +kernel)
theorem wd_512 : (Jvm.Cond.methodLink "VersionJoinsLaw" (24 : Nat) ({ cls := "VersionJoinsModel", name := "step", desc := "(I)I" } : Jvm.MethodName)) ∈ hp_ws := hp_in (i := 512) (by decide +kernel) (by decide +kernel)
theorem wd_513 : (Jvm.Cond.instanceMethod ({ cls := "VersionJoinsModel", name := "step", desc := "(I)I" } : Jvm.MethodName)) ∈ hp_ws := hp_in (i := 513) (by decide +kernel) (by decide +kernel)
theorem wd_514 : (Jvm.Cond.selects "VersionJoinsModel" ({ cls := "VersionJoinsModel", name := "step", desc := "(I)I" } : Jvm.MethodName) ({ cls := "VersionJoinsModel", name := "step", desc := "(I)I" } : Jvm.MethodName)) ∈ hp_ws := hp_in (i := 514) (by decide +kernel) (by decide +kernel)
set_option maxRecDepth 20000 in
theorem wd_515 : (Jvm.Cond.code ({ cls := "VersionJoinsModel", name := "step", desc := "(I)I" } : Jvm.MethodName) prog_6_method_5_code (2 : Nat) (Option.some Jvm.ClassFile.FieldType.int)) ∈ hp_ws := hp_in (i := 515) rfl (by decide +kernel)
theorem wd_516 : (Jvm.Cond.methodLink "VersionJoinsLaw" (29 : Nat) ({ cls := "VersionJoinsModel", name := "uses", desc := "(II)Z" } : Jvm.MethodName)) ∈ hp_ws := hp_in (i := 516) (by decide +kernel) (by decide +kernel)
theorem wd_517 : (Jvm.Cond.instanceMethod ({ cls := "VersionJoinsModel", name := "uses", desc := "(II)Z" } : Jvm.MethodName)) ∈ hp_ws := hp_in (i := 517) (by decide +kernel) (by decide +kernel)
theorem wd_518 : (Jvm.Cond.selects "VersionJoinsModel" ({ cls := "VersionJoinsModel", name := "uses", desc := "(II)Z" } : Jvm.MethodName) ({ cls := "VersionJoinsModel", name := "uses", desc := "(II)Z" } : Jvm.MethodName)) ∈ hp_ws := hp_in (i := 518) (by decide +kernel) (by decide +kernel)
set_option maxRecDepth 20000 in
theorem wd_519 : (Jvm.Cond.code ({ cls := "VersionJoinsModel", name := "uses", desc := "(II)Z" } : Jvm.MethodName) prog_6_method_12_code (4 : Nat) (Option.some Jvm.ClassFile.FieldType.boolean)) ∈ hp_ws := hp_in (i := 519) rfl (by decide +kernel)
theorem wd_520 : (Jvm.Cond.methodLink "VersionJoinsModel" (98 : Nat) ({ cls := "VersionJoinsModel", name := "isStep", desc := "(I)Z" } : Jvm.MethodName)) ∈ hp_ws := hp_in (i := 520) (by decide +kernel) (by decide +kernel)
theorem wd_522 : (Jvm.Cond.instanceMethod ({ cls := "VersionJoinsModel", name := "isStep", desc := "(I)Z" } : Jvm.MethodName)) ∈ hp_ws := hp_in (i := 522) (by decide +kernel) (by decide +kernel)
set_option maxRecDepth 20000 in
theorem wd_523 : (Jvm.Cond.code ({ cls := "VersionJoinsModel", name := "isStep", desc := "(I)Z" } : Jvm.MethodName) prog_6_method_3_code (2 : Nat) (Option.some Jvm.ClassFile.FieldType.boolean)) ∈ hp_ws := hp_in (i := 523) rfl (by decide +kernel)
theorem wd_524 : (Jvm.Cond.methodLink "VersionJoinsModel" (102 : Nat) ({ cls := "VersionJoinsModel", name := "isThing", desc := "(I)Z" } : Jvm.MethodName)) ∈ hp_ws := hp_in (i := 524) (by decide +kernel) (by decide +kernel)
theorem wd_526 : (Jvm.Cond.instanceMethod ({ cls := "VersionJoinsModel", name := "isThing", desc := "(I)Z" } : Jvm.MethodName)) ∈ hp_ws := hp_in (i := 526) (by decide +kernel) (by decide +kernel)
set_option maxRecDepth 20000 in
theorem wd_527 : (Jvm.Cond.code ({ cls := "VersionJoinsModel", name := "isThing", desc := "(I)Z" } : Jvm.MethodName) prog_6_method_2_code (2 : Nat) (Option.some Jvm.ClassFile.FieldType.boolean)) ∈ hp_ws := hp_in (i := 527) rfl (by decide +kernel)
theorem wd_528 : (Jvm.Cond.methodLink "VersionJoinsModel" (92 : Nat) ({ cls := "VersionJoinsModel", name := "doesUse", desc := "(II)Z" } : Jvm.MethodName)) ∈ hp_ws := hp_in (i := 528) (by decide +kernel) (by decide +kernel)
theorem wd_530 : (Jvm.Cond.instanceMethod ({ cls := "VersionJoinsModel", name := "doesUse", desc := "(II)Z" } : Jvm.MethodName)) ∈ hp_ws := hp_in (i := 530) (by decide +kernel) (by decide +kernel)
set_option maxRecDepth 20000 in
theorem wd_531 : (Jvm.Cond.code ({ cls := "VersionJoinsModel", name := "doesUse", desc := "(II)Z" } : Jvm.MethodName) prog_6_method_6_code (5 : Nat) (Option.some Jvm.ClassFile.FieldType.boolean)) ∈ hp_ws := hp_in (i := 531) rfl (by decide +kernel)
theorem wd_532 : (Jvm.Cond.methodLink "VersionJoinsModel" (105 : Nat) ({ cls := "VersionJoinsModel", name := "unmark", desc := "()V" } : Jvm.MethodName)) ∈ hp_ws := hp_in (i := 532) (by decide +kernel) (by decide +kernel)
theorem wd_534 : (Jvm.Cond.instanceMethod ({ cls := "VersionJoinsModel", name := "unmark", desc := "()V" } : Jvm.MethodName)) ∈ hp_ws := hp_in (i := 534) (by decide +kernel) (by decide +kernel)
set_option maxRecDepth 20000 in
theorem wd_535 : (Jvm.Cond.code ({ cls := "VersionJoinsModel", name := "unmark", desc := "()V" } : Jvm.MethodName) prog_6_method_11_code (2 : Nat) (Option.none : Option Jvm.ClassFile.FieldType)) ∈ hp_ws := hp_in (i := 535) rfl (by decide +kernel)
theorem wd_536 : (Jvm.Cond.methodLink "VersionJoinsModel" (108 : Nat) ({ cls := "VersionJoinsModel", name := "markBehind", desc := "()V" } : Jvm.MethodName)) ∈ hp_ws := hp_in (i := 536) (by decide +kernel) (by decide +kernel)
theorem wd_538 : (Jvm.Cond.instanceMethod ({ cls := "VersionJoinsModel", name := "markBehind", desc := "()V" } : Jvm.MethodName)) ∈ hp_ws := hp_in (i := 538) (by decide +kernel) (by decide +kernel)
set_option maxRecDepth 20000 in
theorem wd_539 : (Jvm.Cond.code ({ cls := "VersionJoinsModel", name := "markBehind", desc := "()V" } : Jvm.MethodName) prog_6_method_10_code (4 : Nat) (Option.none : Option Jvm.ClassFile.FieldType)) ∈ hp_ws := hp_in (i := 539) rfl (by decide +kernel)
theorem wd_540 : (Jvm.Cond.methodLink "VersionJoinsModel" (95 : Nat) ({ cls := "VersionJoinsModel", name := "isBehind", desc := "(II)Z" } : Jvm.MethodName)) ∈ hp_ws := hp_in (i := 540) (by decide +kernel) (by decide +kernel)
theorem wd_542 : (Jvm.Cond.instanceMethod ({ cls := "VersionJoinsModel", name := "isBehind", desc := "(II)Z" } : Jvm.MethodName)) ∈ hp_ws := hp_in (i := 542) (by decide +kernel) (by decide +kernel)
set_option maxRecDepth 20000 in
theorem wd_543 : (Jvm.Cond.code ({ cls := "VersionJoinsModel", name := "isBehind", desc := "(II)Z" } : Jvm.MethodName) prog_6_method_9_code (5 : Nat) (Option.some Jvm.ClassFile.FieldType.boolean)) ∈ hp_ws := hp_in (i := 543) rfl (by decide +kernel)
theorem wd_544 : (Jvm.Cond.methodLink "VersionJoinsModel" (111 : Nat) ({ cls := "VersionJoinsModel", name := "maker", desc := "(I)I" } : Jvm.MethodName)) ∈ hp_ws := hp_in (i := 544) (by decide +kernel) (by decide +kernel)
theorem wd_546 : (Jvm.Cond.instanceMethod ({ cls := "VersionJoinsModel", name := "maker", desc := "(I)I" } : Jvm.MethodName)) ∈ hp_ws := hp_in (i := 546) (by decide +kernel) (by decide +kernel)
set_option maxRecDepth 20000 in
theorem wd_547 : (Jvm.Cond.code ({ cls := "VersionJoinsModel", name := "maker", desc := "(I)I" } : Jvm.MethodName) prog_6_method_8_code (4 : Nat) (Option.some Jvm.ClassFile.FieldType.int)) ∈ hp_ws := hp_in (i := 547) rfl (by decide +kernel)
theorem wd_548 : (Jvm.Cond.methodLink "VersionJoinsModel" (88 : Nat) ({ cls := "VersionJoinsModel", name := "doesMake", desc := "(II)Z" } : Jvm.MethodName)) ∈ hp_ws := hp_in (i := 548) (by decide +kernel) (by decide +kernel)
theorem wd_550 : (Jvm.Cond.instanceMethod ({ cls := "VersionJoinsModel", name := "doesMake", desc := "(II)Z" } : Jvm.MethodName)) ∈ hp_ws := hp_in (i := 550) (by decide +kernel) (by decide +kernel)
set_option maxRecDepth 20000 in
theorem wd_551 : (Jvm.Cond.code ({ cls := "VersionJoinsModel", name := "doesMake", desc := "(II)Z" } : Jvm.MethodName) prog_6_method_7_code (5 : Nat) (Option.some Jvm.ClassFile.FieldType.boolean)) ∈ hp_ws := hp_in (i := 551) rfl (by decide +kernel)
theorem wd_552 : (Jvm.Cond.methodLink "VersionJoinsLaw" (33 : Nat) ({ cls := "VersionJoinsModel", name := "makes", desc := "(II)Z" } : Jvm.MethodName)) ∈ hp_ws := hp_in (i := 552) (by decide +kernel) (by decide +kernel)
theorem wd_553 : (Jvm.Cond.instanceMethod ({ cls := "VersionJoinsModel", name := "makes", desc := "(II)Z" } : Jvm.MethodName)) ∈ hp_ws := hp_in (i := 553) (by decide +kernel) (by decide +kernel)
theorem wd_554 : (Jvm.Cond.selects "VersionJoinsModel" ({ cls := "VersionJoinsModel", name := "makes", desc := "(II)Z" } : Jvm.MethodName) ({ cls := "VersionJoinsModel", name := "makes", desc := "(II)Z" } : Jvm.MethodName)) ∈ hp_ws := hp_in (i := 554) (by decide +kernel) (by decide +kernel)
set_option maxRecDepth 20000 in
theorem wd_555 : (Jvm.Cond.code ({ cls := "VersionJoinsModel", name := "makes", desc := "(II)Z" } : Jvm.MethodName) prog_6_method_13_code (4 : Nat) (Option.some Jvm.ClassFile.FieldType.boolean)) ∈ hp_ws := hp_in (i := 555) rfl (by decide +kernel)
theorem wd_556 : (Jvm.Cond.methodLink "VersionJoinsLaw" (38 : Nat) ({ cls := "VersionJoinsModel", name := "session", desc := "()I" } : Jvm.MethodName)) ∈ hp_ws := hp_in (i := 556) (by decide +kernel) (by decide +kernel)
theorem wd_557 : (Jvm.Cond.instanceMethod ({ cls := "VersionJoinsModel", name := "session", desc := "()I" } : Jvm.MethodName)) ∈ hp_ws := hp_in (i := 557) (by decide +kernel) (by decide +kernel)
theorem wd_558 : (Jvm.Cond.selects "VersionJoinsModel" ({ cls := "VersionJoinsModel", name := "session", desc := "()I" } : Jvm.MethodName) ({ cls := "VersionJoinsModel", name := "session", desc := "()I" } : Jvm.MethodName)) ∈ hp_ws := hp_in (i := 558) (by decide +kernel) (by decide +kernel)
set_option maxRecDepth 20000 in
theorem wd_559 : (Jvm.Cond.code ({ cls := "VersionJoinsModel", name := "session", desc := "()I" } : Jvm.MethodName) prog_6_method_14_code (1 : Nat) (Option.some Jvm.ClassFile.FieldType.int)) ∈ hp_ws := hp_in (i := 559) rfl (by decide +kernel)
theorem wd_560 : (Jvm.Cond.methodLink "VersionJoinsLaw" (43 : Nat) ({ cls := "VersionJoinsModel", name := "read", desc := "(II)J" } : Jvm.MethodName)) ∈ hp_ws := hp_in (i := 560) (by decide +kernel) (by decide +kernel)
theorem wd_561 : (Jvm.Cond.instanceMethod ({ cls := "VersionJoinsModel", name := "read", desc := "(II)J" } : Jvm.MethodName)) ∈ hp_ws := hp_in (i := 561) (by decide +kernel) (by decide +kernel)
theorem wd_562 : (Jvm.Cond.selects "VersionJoinsModel" ({ cls := "VersionJoinsModel", name := "read", desc := "(II)J" } : Jvm.MethodName) ({ cls := "VersionJoinsModel", name := "read", desc := "(II)J" } : Jvm.MethodName)) ∈ hp_ws := hp_in (i := 562) (by decide +kernel) (by decide +kernel)
set_option maxRecDepth 20000 in
theorem wd_563 : (Jvm.Cond.code ({ cls := "VersionJoinsModel", name := "read", desc := "(II)J" } : Jvm.MethodName) prog_6_method_18_code (4 : Nat) (Option.some Jvm.ClassFile.FieldType.long)) ∈ hp_ws := hp_in (i := 563) rfl (by decide +kernel)
theorem wd_564 : (Jvm.Cond.methodLink "VersionJoinsModel" (118 : Nat) ({ cls := "VersionJoinsModel", name := "goes", desc := "(II)Z" } : Jvm.MethodName)) ∈ hp_ws := hp_in (i := 564) (by decide +kernel) (by decide +kernel)
theorem wd_566 : (Jvm.Cond.instanceMethod ({ cls := "VersionJoinsModel", name := "goes", desc := "(II)Z" } : Jvm.MethodName)) ∈ hp_ws := hp_in (i := 566) (by decide +kernel) (by decide +kernel)
set_option maxRecDepth 20000 in
theorem wd_567 : (Jvm.Cond.code ({ cls := "VersionJoinsModel", name := "goes", desc := "(II)Z" } : Jvm.MethodName) prog_6_method_15_code (3 : Nat) (Option.some Jvm.ClassFile.FieldType.boolean)) ∈ hp_ws := hp_in (i := 567) rfl (by decide +kernel)
theorem wd_568 : (Jvm.Cond.methodLink "VersionJoinsModel" (121 : Nat) ({ cls := "VersionJoinsModel", name := "touch", desc := "(II)V" } : Jvm.MethodName)) ∈ hp_ws := hp_in (i := 568) (by decide +kernel) (by decide +kernel)
theorem wd_570 : (Jvm.Cond.instanceMethod ({ cls := "VersionJoinsModel", name := "touch", desc := "(II)V" } : Jvm.MethodName)) ∈ hp_ws := hp_in (i := 570) (by decide +kernel) (by decide +kernel)
set_option maxRecDepth 20000 in
theorem wd_571 : (Jvm.Cond.code ({ cls := "VersionJoinsModel", name := "touch", desc := "(II)V" } : Jvm.MethodName) prog_6_method_16_code (3 : Nat) (Option.none : Option Jvm.ClassFile.FieldType)) ∈ hp_ws := hp_in (i := 571) rfl (by decide +kernel)
theorem wd_572 : (Jvm.Cond.methodLink "VersionJoinsModel" (125 : Nat) ({ cls := "VersionJoinsModel", name := "own", desc := "(I)J" } : Jvm.MethodName)) ∈ hp_ws := hp_in (i := 572) (by decide +kernel) (by decide +kernel)
theorem wd_574 : (Jvm.Cond.instanceMethod ({ cls := "VersionJoinsModel", name := "own", desc := "(I)J" } : Jvm.MethodName)) ∈ hp_ws := hp_in (i := 574) (by decide +kernel) (by decide +kernel)
set_option maxRecDepth 20000 in
theorem wd_575 : (Jvm.Cond.code ({ cls := "VersionJoinsModel", name := "own", desc := "(I)J" } : Jvm.MethodName) prog_6_method_17_code (2 : Nat) (Option.some Jvm.ClassFile.FieldType.long)) ∈ hp_ws := hp_in (i := 575) rfl (by decide +kernel)
theorem wd_576 : (Jvm.Cond.methodLink "VersionJoinsLaw" (48 : Nat) ({ cls := "VersionJoinsModel", name := "write", desc := "(IIJ)Z" } : Jvm.MethodName)) ∈ hp_ws := hp_in (i := 576) (by decide +kernel) (by decide +kernel)
theorem wd_577 : (Jvm.Cond.instanceMethod ({ cls := "VersionJoinsModel", name := "write", desc := "(IIJ)Z" } : Jvm.MethodName)) ∈ hp_ws := hp_in (i := 577) (by decide +kernel) (by decide +kernel)
theorem wd_578 : (Jvm.Cond.selects "VersionJoinsModel" ({ cls := "VersionJoinsModel", name := "write", desc := "(IIJ)Z" } : Jvm.MethodName) ({ cls := "VersionJoinsModel", name := "write", desc := "(IIJ)Z" } : Jvm.MethodName)) ∈ hp_ws := hp_in (i := 578) (by decide +kernel) (by decide +kernel)
set_option maxRecDepth 20000 in
theorem wd_579 : (Jvm.Cond.code ({ cls := "VersionJoinsModel", name := "write", desc := "(IIJ)Z" } : Jvm.MethodName) prog_6_method_19_code (6 : Nat) (Option.some Jvm.ClassFile.FieldType.boolean)) ∈ hp_ws := hp_in (i := 579) rfl (by decide +kernel)
theorem wd_580 : (Jvm.Cond.methodLink "VersionJoinsLaw" (53 : Nat) ({ cls := "VersionJoinsModel", name := "join", desc := "(IZ)I" } : Jvm.MethodName)) ∈ hp_ws := hp_in (i := 580) (by decide +kernel) (by decide +kernel)
theorem wd_581 : (Jvm.Cond.instanceMethod ({ cls := "VersionJoinsModel", name := "join", desc := "(IZ)I" } : Jvm.MethodName)) ∈ hp_ws := hp_in (i := 581) (by decide +kernel) (by decide +kernel)
theorem wd_582 : (Jvm.Cond.selects "VersionJoinsModel" ({ cls := "VersionJoinsModel", name := "join", desc := "(IZ)I" } : Jvm.MethodName) ({ cls := "VersionJoinsModel", name := "join", desc := "(IZ)I" } : Jvm.MethodName)) ∈ hp_ws := hp_in (i := 582) (by decide +kernel) (by decide +kernel)
set_option maxRecDepth 20000 in
theorem wd_583 : (Jvm.Cond.code ({ cls := "VersionJoinsModel", name := "join", desc := "(IZ)I" } : Jvm.MethodName) prog_6_method_22_code (7 : Nat) (Option.some Jvm.ClassFile.FieldType.int)) ∈ hp_ws := hp_in (i := 583) rfl (by decide +kernel)
theorem wd_584 : (Jvm.Cond.methodLink "VersionJoinsModel" (135 : Nat) ({ cls := "VersionJoinsModel", name := "isConflict", desc := "(II)Z" } : Jvm.MethodName)) ∈ hp_ws := hp_in (i := 584) (by decide +kernel) (by decide +kernel)
theorem wd_586 : (Jvm.Cond.instanceMethod ({ cls := "VersionJoinsModel", name := "isConflict", desc := "(II)Z" } : Jvm.MethodName)) ∈ hp_ws := hp_in (i := 586) (by decide +kernel) (by decide +kernel)
set_option maxRecDepth 20000 in
theorem wd_587 : (Jvm.Cond.code ({ cls := "VersionJoinsModel", name := "isConflict", desc := "(II)Z" } : Jvm.MethodName) prog_6_method_20_code (4 : Nat) (Option.some Jvm.ClassFile.FieldType.boolean)) ∈ hp_ws := hp_in (i := 587) rfl (by decide +kernel)
theorem wd_588 : (Jvm.Cond.constantLong "VersionJoinsModel" (138 : Nat) (1000000000000 : Int64)) ∈ hp_ws := hp_in (i := 588) (by decide +kernel) (by decide +kernel)
theorem wd_589 : (Jvm.Cond.constantLong "VersionJoinsModel" (140 : Nat) (-1000000000000 : Int64)) ∈ hp_ws := hp_in (i := 589) (by decide +kernel) (by decide +kernel)
theorem wd_590 : (Jvm.Cond.methodLink "VersionJoinsModel" (142 : Nat) ({ cls := "VersionJoinsModel", name := "keepConflicts", desc := "(I)V" } : Jvm.MethodName)) ∈ hp_ws := hp_in (i := 590) (by decide +kernel) (by decide +kernel)
theorem wd_592 : (Jvm.Cond.instanceMethod ({ cls := "VersionJoinsModel", name := "keepConflicts", desc := "(I)V" } : Jvm.MethodName)) ∈ hp_ws := hp_in (i := 592) (by decide +kernel) (by decide +kernel)
set_option maxRecDepth 20000 in
theorem wd_593 : (Jvm.Cond.code ({ cls := "VersionJoinsModel", name := "keepConflicts", desc := "(I)V" } : Jvm.MethodName) prog_6_method_21_code (3 : Nat) (Option.none : Option Jvm.ClassFile.FieldType)) ∈ hp_ws := hp_in (i := 593) rfl (by decide +kernel)
theorem wd_594 : (Jvm.Cond.methodLink "VersionJoinsLaw" (57 : Nat) ({ cls := "VersionJoinsModel", name := "conflict", desc := "(II)J" } : Jvm.MethodName)) ∈ hp_ws := hp_in (i := 594) (by decide +kernel) (by decide +kernel)
theorem wd_595 : (Jvm.Cond.instanceMethod ({ cls := "VersionJoinsModel", name := "conflict", desc := "(II)J" } : Jvm.MethodName)) ∈ hp_ws := hp_in (i := 595) (by decide +kernel) (by decide +kernel)
theorem wd_596 : (Jvm.Cond.selects "VersionJoinsModel" ({ cls := "VersionJoinsModel", name := "conflict", desc := "(II)J" } : Jvm.MethodName) ({ cls := "VersionJoinsModel", name := "conflict", desc := "(II)J" } : Jvm.MethodName)) ∈ hp_ws := hp_in (i := 596) (by decide +kernel) (by decide +kernel)
set_option maxRecDepth 20000 in
theorem wd_597 : (Jvm.Cond.code ({ cls := "VersionJoinsModel", name := "conflict", desc := "(II)J" } : Jvm.MethodName) prog_6_method_23_code (3 : Nat) (Option.some Jvm.ClassFile.FieldType.long)) ∈ hp_ws := hp_in (i := 597) rfl (by decide +kernel)
theorem wd_598 : (Jvm.Cond.constantLong "VersionJoinsModel" (146 : Nat) (-1 : Int64)) ∈ hp_ws := hp_in (i := 598) (by decide +kernel) (by decide +kernel)
theorem wd_599 : (Jvm.Cond.constantLong "VersionJoinsModel" (148 : Nat) (-2 : Int64)) ∈ hp_ws := hp_in (i := 599) (by decide +kernel) (by decide +kernel)
theorem wd_600 : (Jvm.Cond.methodLink "VersionJoinsLaw" (61 : Nat) ({ cls := "VersionJoinsModel", name := "settle", desc := "(II)Z" } : Jvm.MethodName)) ∈ hp_ws := hp_in (i := 600) (by decide +kernel) (by decide +kernel)
theorem wd_601 : (Jvm.Cond.instanceMethod ({ cls := "VersionJoinsModel", name := "settle", desc := "(II)Z" } : Jvm.MethodName)) ∈ hp_ws := hp_in (i := 601) (by decide +kernel) (by decide +kernel)
theorem wd_602 : (Jvm.Cond.selects "VersionJoinsModel" ({ cls := "VersionJoinsModel", name := "settle", desc := "(II)Z" } : Jvm.MethodName) ({ cls := "VersionJoinsModel", name := "settle", desc := "(II)Z" } : Jvm.MethodName)) ∈ hp_ws := hp_in (i := 602) (by decide +kernel) (by decide +kernel)
set_option maxRecDepth 20000 in
theorem wd_603 : (Jvm.Cond.code ({ cls := "VersionJoinsModel", name := "settle", desc := "(II)Z" } : Jvm.MethodName) prog_6_method_24_code (4 : Nat) (Option.some Jvm.ClassFile.FieldType.boolean)) ∈ hp_ws := hp_in (i := 603) rfl (by decide +kernel)
theorem wd_604 : (Jvm.Cond.methodLink "VersionJoinsLaw" (66 : Nat) ({ cls := "VersionJoinsModel", name := "stale", desc := "(I)Z" } : Jvm.MethodName)) ∈ hp_ws := hp_in (i := 604) (by decide +kernel) (by decide +kernel)
theorem wd_605 : (Jvm.Cond.instanceMethod ({ cls := "VersionJoinsModel", name := "stale", desc := "(I)Z" } : Jvm.MethodName)) ∈ hp_ws := hp_in (i := 605) (by decide +kernel) (by decide +kernel)
theorem wd_606 : (Jvm.Cond.selects "VersionJoinsModel" ({ cls := "VersionJoinsModel", name := "stale", desc := "(I)Z" } : Jvm.MethodName) ({ cls := "VersionJoinsModel", name := "stale", desc := "(I)Z" } : Jvm.MethodName)) ∈ hp_ws := hp_in (i := 606) (by decide +kernel) (by decide +kernel)
set_option maxRecDepth 20000 in
theorem wd_607 : (Jvm.Cond.code ({ cls := "VersionJoinsModel", name := "stale", desc := "(I)Z" } : Jvm.MethodName) prog_6_method_26_code (3 : Nat) (Option.some Jvm.ClassFile.FieldType.boolean)) ∈ hp_ws := hp_in (i := 607) rfl (by decide +kernel)
theorem wd_608 : (Jvm.Cond.methodLink "VersionJoinsModel" (150 : Nat) ({ cls := "VersionJoinsModel", name := "isOff", desc := "(I)Z" } : Jvm.MethodName)) ∈ hp_ws := hp_in (i := 608) (by decide +kernel) (by decide +kernel)
theorem wd_610 : (Jvm.Cond.instanceMethod ({ cls := "VersionJoinsModel", name := "isOff", desc := "(I)Z" } : Jvm.MethodName)) ∈ hp_ws := hp_in (i := 610) (by decide +kernel) (by decide +kernel)
set_option maxRecDepth 20000 in
theorem wd_611 : (Jvm.Cond.code ({ cls := "VersionJoinsModel", name := "isOff", desc := "(I)Z" } : Jvm.MethodName) prog_6_method_25_code (4 : Nat) (Option.some Jvm.ClassFile.FieldType.boolean)) ∈ hp_ws := hp_in (i := 611) rfl (by decide +kernel)
theorem wd_612 : (Jvm.Cond.methodLink "VersionJoinsLaw" (79 : Nat) ({ cls := "VersionJoinsModel", name := "run", desc := "(I)Z" } : Jvm.MethodName)) ∈ hp_ws := hp_in (i := 612) (by decide +kernel) (by decide +kernel)
theorem wd_613 : (Jvm.Cond.instanceMethod ({ cls := "VersionJoinsModel", name := "run", desc := "(I)Z" } : Jvm.MethodName)) ∈ hp_ws := hp_in (i := 613) (by decide +kernel) (by decide +kernel)
theorem wd_614 : (Jvm.Cond.selects "VersionJoinsModel" ({ cls := "VersionJoinsModel", name := "run", desc := "(I)Z" } : Jvm.MethodName) ({ cls := "VersionJoinsModel", name := "run", desc := "(I)Z" } : Jvm.MethodName)) ∈ hp_ws := hp_in (i := 614) (by decide +kernel) (by decide +kernel)
set_option maxRecDepth 20000 in
theorem wd_615 : (Jvm.Cond.code ({ cls := "VersionJoinsModel", name := "run", desc := "(I)Z" } : Jvm.MethodName) prog_6_method_33_code (2 : Nat) (Option.some Jvm.ClassFile.FieldType.boolean)) ∈ hp_ws := hp_in (i := 615) rfl (by decide +kernel)
theorem wd_616 : (Jvm.Cond.methodLink "VersionJoinsModel" (178 : Nat) ({ cls := "VersionJoinsModel", name := "go", desc := "(I)V" } : Jvm.MethodName)) ∈ hp_ws := hp_in (i := 616) (by decide +kernel) (by decide +kernel)
theorem wd_618 : (Jvm.Cond.instanceMethod ({ cls := "VersionJoinsModel", name := "go", desc := "(I)V" } : Jvm.MethodName)) ∈ hp_ws := hp_in (i := 618) (by decide +kernel) (by decide +kernel)
set_option maxRecDepth 20000 in
theorem wd_619 : (Jvm.Cond.code ({ cls := "VersionJoinsModel", name := "go", desc := "(I)V" } : Jvm.MethodName) prog_6_method_31_code (3 : Nat) (Option.none : Option Jvm.ClassFile.FieldType)) ∈ hp_ws := hp_in (i := 619) rfl (by decide +kernel)
theorem wd_620 : (Jvm.Cond.methodLink "VersionJoinsModel" (163 : Nat) ({ cls := "VersionJoinsModel", name := "isNext", desc := "(I)Z" } : Jvm.MethodName)) ∈ hp_ws := hp_in (i := 620) (by decide +kernel) (by decide +kernel)
theorem wd_622 : (Jvm.Cond.instanceMethod ({ cls := "VersionJoinsModel", name := "isNext", desc := "(I)Z" } : Jvm.MethodName)) ∈ hp_ws := hp_in (i := 622) (by decide +kernel) (by decide +kernel)
set_option maxRecDepth 20000 in
theorem wd_623 : (Jvm.Cond.code ({ cls := "VersionJoinsModel", name := "isNext", desc := "(I)Z" } : Jvm.MethodName) prog_6_method_30_code (4 : Nat) (Option.some Jvm.ClassFile.FieldType.boolean)) ∈ hp_ws := hp_in (i := 623) rfl (by decide +kernel)
theorem wd_624 : (Jvm.Cond.methodLink "VersionJoinsModel" (166 : Nat) ({ cls := "VersionJoinsModel", name := "isBefore", desc := "(II)Z" } : Jvm.MethodName)) ∈ hp_ws := hp_in (i := 624) (by decide +kernel) (by decide +kernel)
theorem wd_626 : (Jvm.Cond.instanceMethod ({ cls := "VersionJoinsModel", name := "isBefore", desc := "(II)Z" } : Jvm.MethodName)) ∈ hp_ws := hp_in (i := 626) (by decide +kernel) (by decide +kernel)
set_option maxRecDepth 20000 in
theorem wd_627 : (Jvm.Cond.code ({ cls := "VersionJoinsModel", name := "isBefore", desc := "(II)Z" } : Jvm.MethodName) prog_6_method_32_code (3 : Nat) (Option.some Jvm.ClassFile.FieldType.boolean)) ∈ hp_ws := hp_in (i := 627) rfl (by decide +kernel)
theorem wd_628 : (Jvm.Cond.methodLink "VersionJoinsModel" (169 : Nat) ({ cls := "VersionJoinsModel", name := "stale", desc := "(I)Z" } : Jvm.MethodName)) ∈ hp_ws := hp_in (i := 628) (by decide +kernel) (by decide +kernel)
theorem wd_629 : (Jvm.Cond.methodLink "VersionJoinsModel" (175 : Nat) ({ cls := "VersionJoinsModel", name := "give", desc := "(I)I" } : Jvm.MethodName)) ∈ hp_ws := hp_in (i := 629) (by decide +kernel) (by decide +kernel)
theorem wd_631 : (Jvm.Cond.instanceMethod ({ cls := "VersionJoinsModel", name := "give", desc := "(I)I" } : Jvm.MethodName)) ∈ hp_ws := hp_in (i := 631) (by decide +kernel) (by decide +kernel)
set_option maxRecDepth 20000 in
theorem wd_632 : (Jvm.Cond.code ({ cls := "VersionJoinsModel", name := "give", desc := "(I)I" } : Jvm.MethodName) prog_6_method_29_code (7 : Nat) (Option.some Jvm.ClassFile.FieldType.int)) ∈ hp_ws := hp_in (i := 632) rfl (by decide +kernel)
theorem wd_633 : (Jvm.Cond.methodLink "VersionJoinsModel" (156 : Nat) ({ cls := "VersionJoinsModel", name := "worth", desc := "(I)J" } : Jvm.MethodName)) ∈ hp_ws := hp_in (i := 633) (by decide +kernel) (by decide +kernel)
theorem wd_635 : (Jvm.Cond.instanceMethod ({ cls := "VersionJoinsModel", name := "worth", desc := "(I)J" } : Jvm.MethodName)) ∈ hp_ws := hp_in (i := 635) (by decide +kernel) (by decide +kernel)
set_option maxRecDepth 20000 in
theorem wd_636 : (Jvm.Cond.code ({ cls := "VersionJoinsModel", name := "worth", desc := "(I)J" } : Jvm.MethodName) prog_6_method_28_code (7 : Nat) (Option.some Jvm.ClassFile.FieldType.long)) ∈ hp_ws := hp_in (i := 636) rfl (by decide +kernel)
theorem wd_637 : (Jvm.Cond.methodLink "VersionJoinsModel" (153 : Nat) ({ cls := "VersionJoinsModel", name := "isEarlier", desc := "(II)Z" } : Jvm.MethodName)) ∈ hp_ws := hp_in (i := 637) (by decide +kernel) (by decide +kernel)
theorem wd_639 : (Jvm.Cond.instanceMethod ({ cls := "VersionJoinsModel", name := "isEarlier", desc := "(II)Z" } : Jvm.MethodName)) ∈ hp_ws := hp_in (i := 639) (by decide +kernel) (by decide +kernel)
set_option maxRecDepth 20000 in
theorem wd_640 : (Jvm.Cond.code ({ cls := "VersionJoinsModel", name := "isEarlier", desc := "(II)Z" } : Jvm.MethodName) prog_6_method_27_code (5 : Nat) (Option.some Jvm.ClassFile.FieldType.boolean)) ∈ hp_ws := hp_in (i := 640) rfl (by decide +kernel)
theorem wd_641 : (Jvm.Cond.methodLink "VersionJoinsLaw" (70 : Nat) ({ cls := "VersionJoinsModel", name := "branch", desc := "()I" } : Jvm.MethodName)) ∈ hp_ws := hp_in (i := 641) (by decide +kernel) (by decide +kernel)
theorem wd_642 : (Jvm.Cond.instanceMethod ({ cls := "VersionJoinsModel", name := "branch", desc := "()I" } : Jvm.MethodName)) ∈ hp_ws := hp_in (i := 642) (by decide +kernel) (by decide +kernel)
theorem wd_643 : (Jvm.Cond.selects "VersionJoinsModel" ({ cls := "VersionJoinsModel", name := "branch", desc := "()I" } : Jvm.MethodName) ({ cls := "VersionJoinsModel", name := "branch", desc := "()I" } : Jvm.MethodName)) ∈ hp_ws := hp_in (i := 643) (by decide +kernel) (by decide +kernel)
set_option maxRecDepth 20000 in
theorem wd_644 : (Jvm.Cond.code ({ cls := "VersionJoinsModel", name := "branch", desc := "()I" } : Jvm.MethodName) prog_6_method_34_code (2 : Nat) (Option.some Jvm.ClassFile.FieldType.int)) ∈ hp_ws := hp_in (i := 644) rfl (by decide +kernel)
theorem wd_645 : (Jvm.Cond.methodLink "VersionJoinsLaw" (75 : Nat) ({ cls := "VersionJoinsModel", name := "from", desc := "(II)I" } : Jvm.MethodName)) ∈ hp_ws := hp_in (i := 645) (by decide +kernel) (by decide +kernel)
theorem wd_646 : (Jvm.Cond.instanceMethod ({ cls := "VersionJoinsModel", name := "from", desc := "(II)I" } : Jvm.MethodName)) ∈ hp_ws := hp_in (i := 646) (by decide +kernel) (by decide +kernel)
theorem wd_647 : (Jvm.Cond.selects "VersionJoinsModel" ({ cls := "VersionJoinsModel", name := "from", desc := "(II)I" } : Jvm.MethodName) ({ cls := "VersionJoinsModel", name := "from", desc := "(II)I" } : Jvm.MethodName)) ∈ hp_ws := hp_in (i := 647) (by decide +kernel) (by decide +kernel)
set_option maxRecDepth 20000 in
theorem wd_648 : (Jvm.Cond.code ({ cls := "VersionJoinsModel", name := "from", desc := "(II)I" } : Jvm.MethodName) prog_6_method_35_code (6 : Nat) (Option.some Jvm.ClassFile.FieldType.int)) ∈ hp_ws := hp_in (i := 648) rfl (by decide +kernel)
theorem wd_649 : (Jvm.Cond.methodLink "VersionJoinsLaw" (83 : Nat) ({ cls := "VersionJoinsModel", name := "value", desc := "(II)J" } : Jvm.MethodName)) ∈ hp_ws := hp_in (i := 649) (by decide +kernel) (by decide +kernel)
theorem wd_650 : (Jvm.Cond.instanceMethod ({ cls := "VersionJoinsModel", name := "value", desc := "(II)J" } : Jvm.MethodName)) ∈ hp_ws := hp_in (i := 650) (by decide +kernel) (by decide +kernel)
theorem wd_651 : (Jvm.Cond.selects "VersionJoinsModel" ({ cls := "VersionJoinsModel", name := "value", desc := "(II)J" } : Jvm.MethodName) ({ cls := "VersionJoinsModel", name := "value", desc := "(II)J" } : Jvm.MethodName)) ∈ hp_ws := hp_in (i := 651) (by decide +kernel) (by decide +kernel)
set_option maxRecDepth 20000 in
theorem wd_652 : (Jvm.Cond.code ({ cls := "VersionJoinsModel", name := "value", desc := "(II)J" } : Jvm.MethodName) prog_6_method_36_code (3 : Nat) (Option.some Jvm.ClassFile.FieldType.long)) ∈ hp_ws := hp_in (i := 652) rfl (by decide +kernel)
theorem wd_653 : (Jvm.Cond.methodLink "VersionJoinsLaw" (88 : Nat) ({ cls := "VersionJoinsModel", name := "play", desc := "(JI)I" } : Jvm.MethodName)) ∈ hp_ws := hp_in (i := 653) (by decide +kernel) (by decide +kernel)
theorem wd_654 : (Jvm.Cond.instanceMethod ({ cls := "VersionJoinsModel", name := "play", desc := "(JI)I" } : Jvm.MethodName)) ∈ hp_ws := hp_in (i := 654) (by decide +kernel) (by decide +kernel)
theorem wd_655 : (Jvm.Cond.selects "VersionJoinsModel" ({ cls := "VersionJoinsModel", name := "play", desc := "(JI)I" } : Jvm.MethodName) ({ cls := "VersionJoinsModel", name := "play", desc := "(JI)I" } : Jvm.MethodName)) ∈ hp_ws := hp_in (i := 655) (by decide +kernel) (by decide +kernel)
set_option maxRecDepth 20000 in
theorem wd_656 : (Jvm.Cond.code ({ cls := "VersionJoinsModel", name := "play", desc := "(JI)I" } : Jvm.MethodName) prog_6_method_37_code (12 : Nat) (Option.some Jvm.ClassFile.FieldType.int)) ∈ hp_ws := hp_in (i := 656) rfl (by decide +kernel)
theorem wd_657 : (Jvm.Cond.constantLong "VersionJoinsModel" (181 : Nat) (6364136223846793005 : Int64)) ∈ hp_ws := hp_in (i := 657) (by decide +kernel) (by decide +kernel)
theorem wd_658 : (Jvm.Cond.constantLong "VersionJoinsModel" (183 : Nat) (1442695040888963407 : Int64)) ∈ hp_ws := hp_in (i := 658) (by decide +kernel) (by decide +kernel)
theorem wd_659 : (Jvm.Cond.constantLong "VersionJoinsModel" (185 : Nat) (255 : Int64)) ∈ hp_ws := hp_in (i := 659) (by decide +kernel) (by decide +kernel)
theorem wd_660 : (Jvm.Cond.constantLong "VersionJoinsLaw" (13 : Nat) (4294967295 : Int64)) ∈ hp_ws := hp_in (i := 660) (by decide +kernel) (by decide +kernel)
end
section
def TX0 : u_T := fun k => match k with
  | 0 => ("VersionJoins$Conflicts", "things", "[I", true)
  | 1 => ("VersionJoins$Conflicts", "own", "[J", true)
  | 2 => ("VersionJoins$Conflicts", "others", "[J", true)
  | 3 => ("VersionJoins$Conflicts", "settled", "[Z", true)
  | 4 => ("VersionJoins$Conflicts", "owner", "LVersionJoins$Session;", false)
  | _ => ("VersionJoins$Conflicts", "count", "I", false)
def tyX0 : Nat → FieldType := fun k => match k with
  | 0 => .array .int
  | 1 => .array .long
  | 2 => .array .long
  | 3 => .array .boolean
  | 4 => .object "VersionJoins$Session"
  | _ => .int
theorem nmX0 : ∀ a, a < 6 → ∀ b, b < 6 → a ≠ b → (TX0 a).2.1 ≠ (TX0 b).2.1 := by decide +kernel
theorem okX0 : ∀ k, k < 6 → parseFieldDescriptor (TX0 k).2.2.1 = some (tyX0 k) := by decide +kernel
theorem hiX0 : ∀ w ∈ u_ws "VersionJoins$Conflicts" TX0 6, w ∈ hp_ws := by
  intro w hw
  obtain ⟨k, hk, rfl⟩ := List.mem_map.mp hw
  have hk := List.mem_range.mp hk
  match k, hk with
  | 0, _ => exact wd_78
  | 1, _ => exact wd_80
  | 2, _ => exact wd_82
  | 3, _ => exact wd_84
  | 4, _ => exact wd_86
  | 5, _ => exact wd_88
  | k + 6, h => exact absurd h (by omega)
def TX1 : u_T := fun k => match k with
  | 0 => ("VersionJoins$Session", "touched", "[Z", true)
  | 1 => ("VersionJoins$Session", "bases", "[J", true)
  | 2 => ("VersionJoins$Session", "wrote", "[Z", true)
  | 3 => ("VersionJoins$Session", "written", "[J", true)
  | _ => ("VersionJoins$Session", "open", "Z", false)
def tyX1 : Nat → FieldType := fun k => match k with
  | 0 => .array .boolean
  | 1 => .array .long
  | 2 => .array .boolean
  | 3 => .array .long
  | _ => .boolean
theorem nmX1 : ∀ a, a < 5 → ∀ b, b < 5 → a ≠ b → (TX1 a).2.1 ≠ (TX1 b).2.1 := by decide +kernel
theorem okX1 : ∀ k, k < 5 → parseFieldDescriptor (TX1 k).2.2.1 = some (tyX1 k) := by decide +kernel
theorem hiX1 : ∀ w ∈ u_ws "VersionJoins$Session" TX1 5, w ∈ hp_ws := by
  intro w hw
  obtain ⟨k, hk, rfl⟩ := List.mem_map.mp hw
  have hk := List.mem_range.mp hk
  match k, hk with
  | 0, _ => exact wd_243
  | 1, _ => exact wd_245
  | 2, _ => exact wd_247
  | 3, _ => exact wd_249
  | 4, _ => exact wd_251
  | k + 5, h => exact absurd h (by omega)
def TX2 : u_T := fun k => match k with
  | 0 => ("VersionJoins$Step", "kind", "I", true)
  | 1 => ("VersionJoins$Step", "used", "[I", true)
  | 2 => ("VersionJoins$Step", "made", "[I", true)
  | 3 => ("VersionJoins$Step", "inputs", "[J", true)
  | 4 => ("VersionJoins$Step", "usedCount", "I", false)
  | 5 => ("VersionJoins$Step", "madeCount", "I", false)
  | 6 => ("VersionJoins$Step", "above", "I", false)
  | 7 => ("VersionJoins$Step", "ran", "Z", false)
  | 8 => ("VersionJoins$Step", "usedThen", "I", false)
  | 9 => ("VersionJoins$Step", "madeThen", "I", false)
  | _ => ("VersionJoins$Step", "result", "J", false)
def tyX2 : Nat → FieldType := fun k => match k with
  | 0 => .int
  | 1 => .array .int
  | 2 => .array .int
  | 3 => .array .long
  | 4 => .int
  | 5 => .int
  | 6 => .int
  | 7 => .boolean
  | 8 => .int
  | 9 => .int
  | _ => .long
theorem nmX2 : ∀ a, a < 11 → ∀ b, b < 11 → a ≠ b → (TX2 a).2.1 ≠ (TX2 b).2.1 := by decide +kernel
theorem okX2 : ∀ k, k < 11 → parseFieldDescriptor (TX2 k).2.2.1 = some (tyX2 k) := by decide +kernel
theorem hiX2 : ∀ w ∈ u_ws "VersionJoins$Step" TX2 11, w ∈ hp_ws := by
  intro w hw
  obtain ⟨k, hk, rfl⟩ := List.mem_map.mp hw
  have hk := List.mem_range.mp hk
  match k, hk with
  | 0, _ => exact wd_159
  | 1, _ => exact wd_161
  | 2, _ => exact wd_163
  | 3, _ => exact wd_165
  | 4, _ => exact wd_167
  | 5, _ => exact wd_169
  | 6, _ => exact wd_171
  | 7, _ => exact wd_173
  | 8, _ => exact wd_175
  | 9, _ => exact wd_177
  | 10, _ => exact wd_179
  | k + 11, h => exact absurd h (by omega)
def TX3 : u_T := fun k => match k with
  | 0 => ("VersionJoins", "branches", "[[J", true)
  | 1 => ("VersionJoins", "current", "[J", true)
  | 2 => ("VersionJoins", "makers", "[I", true)
  | 3 => ("VersionJoins", "steps", "[LVersionJoins$Step;", true)
  | 4 => ("VersionJoins", "sessions", "[LVersionJoins$Session;", true)
  | 5 => ("VersionJoins", "conflicts", "LVersionJoins$Conflicts;", true)
  | 6 => ("VersionJoins", "thingCount", "I", false)
  | 7 => ("VersionJoins", "branchCount", "I", false)
  | 8 => ("VersionJoins", "stepCount", "I", false)
  | 9 => ("VersionJoins", "sessionCount", "I", false)
  | _ => ("VersionJoins", "changes", "I", false)
def tyX3 : Nat → FieldType := fun k => match k with
  | 0 => .array (.array .long)
  | 1 => .array .long
  | 2 => .array .int
  | 3 => .array (.object "VersionJoins$Step")
  | 4 => .array (.object "VersionJoins$Session")
  | 5 => .object "VersionJoins$Conflicts"
  | 6 => .int
  | 7 => .int
  | 8 => .int
  | 9 => .int
  | _ => .int
theorem nmX3 : ∀ a, a < 11 → ∀ b, b < 11 → a ≠ b → (TX3 a).2.1 ≠ (TX3 b).2.1 := by decide +kernel
theorem okX3 : ∀ k, k < 11 → parseFieldDescriptor (TX3 k).2.2.1 = some (tyX3 k) := by decide +kernel
theorem hiX3 : ∀ w ∈ u_ws "VersionJoins" TX3 11, w ∈ hp_ws := by
  intro w hw
  obtain ⟨k, hk, rfl⟩ := List.mem_map.mp hw
  have hk := List.mem_range.mp hk
  match k, hk with
  | 0, _ => exact wd_105
  | 1, _ => exact wd_107
  | 2, _ => exact wd_109
  | 3, _ => exact wd_111
  | 4, _ => exact wd_113
  | 5, _ => exact wd_115
  | 6, _ => exact wd_117
  | 7, _ => exact wd_119
  | 8, _ => exact wd_121
  | 9, _ => exact wd_123
  | 10, _ => exact wd_125
  | k + 11, h => exact absurd h (by omega)
def TX4 : u_T := fun k => match k with
  | 0 => ("VersionJoinsModel", "things", "I", false)
  | 1 => ("VersionJoinsModel", "branches", "I", false)
  | 2 => ("VersionJoinsModel", "values", "[J", true)
  | 3 => ("VersionJoinsModel", "sessions", "I", false)
  | 4 => ("VersionJoinsModel", "isOpen", "[Z", true)
  | 5 => ("VersionJoinsModel", "isTouched", "[Z", true)
  | 6 => ("VersionJoinsModel", "isWritten", "[Z", true)
  | 7 => ("VersionJoinsModel", "bases", "[J", true)
  | 8 => ("VersionJoinsModel", "written", "[J", true)
  | 9 => ("VersionJoinsModel", "conflicts", "I", false)
  | 10 => ("VersionJoinsModel", "conflictSession", "I", false)
  | 11 => ("VersionJoinsModel", "conflictThings", "[I", true)
  | 12 => ("VersionJoinsModel", "conflictOwn", "[J", true)
  | 13 => ("VersionJoinsModel", "conflictOther", "[J", true)
  | 14 => ("VersionJoinsModel", "isSettled", "[Z", true)
  | 15 => ("VersionJoinsModel", "steps", "I", false)
  | 16 => ("VersionJoinsModel", "kinds", "[I", true)
  | 17 => ("VersionJoinsModel", "uses", "[I", true)
  | 18 => ("VersionJoinsModel", "useCounts", "[I", true)
  | 19 => ("VersionJoinsModel", "makes", "[I", true)
  | 20 => ("VersionJoinsModel", "makeCounts", "[I", true)
  | 21 => ("VersionJoinsModel", "hasRun", "[Z", true)
  | 22 => ("VersionJoinsModel", "lastUses", "[I", true)
  | 23 => ("VersionJoinsModel", "lastMakes", "[I", true)
  | 24 => ("VersionJoinsModel", "lastValues", "[J", true)
  | 25 => ("VersionJoinsModel", "lastMade", "[J", true)
  | 26 => ("VersionJoinsModel", "isMarked", "[Z", true)
  | 27 => ("VersionJoinsModel", "isDone", "[Z", true)
  | 28 => ("VersionJoinsModel", "changed", "I", false)
  | _ => ("VersionJoinsModel", "ran", "Z", false)
def tyX4 : Nat → FieldType := fun k => match k with
  | 0 => .int
  | 1 => .int
  | 2 => .array .long
  | 3 => .int
  | 4 => .array .boolean
  | 5 => .array .boolean
  | 6 => .array .boolean
  | 7 => .array .long
  | 8 => .array .long
  | 9 => .int
  | 10 => .int
  | 11 => .array .int
  | 12 => .array .long
  | 13 => .array .long
  | 14 => .array .boolean
  | 15 => .int
  | 16 => .array .int
  | 17 => .array .int
  | 18 => .array .int
  | 19 => .array .int
  | 20 => .array .int
  | 21 => .array .boolean
  | 22 => .array .int
  | 23 => .array .int
  | 24 => .array .long
  | 25 => .array .long
  | 26 => .array .boolean
  | 27 => .array .boolean
  | 28 => .int
  | _ => .boolean
theorem nmX4 : ∀ a, a < 30 → ∀ b, b < 30 → a ≠ b → (TX4 a).2.1 ≠ (TX4 b).2.1 := by decide +kernel
theorem okX4 : ∀ k, k < 30 → parseFieldDescriptor (TX4 k).2.2.1 = some (tyX4 k) := by decide +kernel
theorem hiX4 : ∀ w ∈ u_ws "VersionJoinsModel" TX4 30, w ∈ hp_ws := by
  intro w hw
  obtain ⟨k, hk, rfl⟩ := List.mem_map.mp hw
  have hk := List.mem_range.mp hk
  match k, hk with
  | 0, _ => exact wd_447
  | 1, _ => exact wd_449
  | 2, _ => exact wd_451
  | 3, _ => exact wd_453
  | 4, _ => exact wd_455
  | 5, _ => exact wd_457
  | 6, _ => exact wd_459
  | 7, _ => exact wd_461
  | 8, _ => exact wd_463
  | 9, _ => exact wd_465
  | 10, _ => exact wd_467
  | 11, _ => exact wd_469
  | 12, _ => exact wd_471
  | 13, _ => exact wd_473
  | 14, _ => exact wd_475
  | 15, _ => exact wd_477
  | 16, _ => exact wd_479
  | 17, _ => exact wd_481
  | 18, _ => exact wd_483
  | 19, _ => exact wd_485
  | 20, _ => exact wd_487
  | 21, _ => exact wd_489
  | 22, _ => exact wd_491
  | 23, _ => exact wd_493
  | 24, _ => exact wd_495
  | 25, _ => exact wd_497
  | 26, _ => exact wd_499
  | 27, _ => exact wd_501
  | 28, _ => exact wd_503
  | 29, _ => exact wd_505
  | k + 30, h => exact absurd h (by omega)
def vwCl : List vw_C := [("VersionJoins$Conflicts", TX0, 6), ("VersionJoins$Session", TX1, 5), ("VersionJoins$Step", TX2, 11), ("VersionJoins", TX3, 11), ("VersionJoinsModel", TX4, 30)]
def yX0_init : MethodName := ⟨"VersionJoins$Conflicts", "<init>", "()V"⟩
abbrev cX0_init : ByteArray := prog_2_method_1_code
def yX0_has : MethodName := ⟨"VersionJoins$Conflicts", "has", "(I)Z"⟩
abbrev cX0_has : ByteArray := prog_2_method_2_code
def yX0_put : MethodName := ⟨"VersionJoins$Conflicts", "put", "(IIJJ)V"⟩
abbrev cX0_put : ByteArray := prog_2_method_3_code
def yX1_init : MethodName := ⟨"VersionJoins$Session", "<init>", "()V"⟩
abbrev cX1_init : ByteArray := prog_3_method_1_code
def yX1_touch : MethodName := ⟨"VersionJoins$Session", "touch", "(IJ)V"⟩
abbrev cX1_touch : ByteArray := prog_3_method_2_code
def yX1_keepWritten : MethodName := ⟨"VersionJoins$Session", "keepWritten", "(IJ)V"⟩
abbrev cX1_keepWritten : ByteArray := prog_3_method_3_code
def yX1_dropWritten : MethodName := ⟨"VersionJoins$Session", "dropWritten", "(I)V"⟩
abbrev cX1_dropWritten : ByteArray := prog_3_method_4_code
def yX1_rebase : MethodName := ⟨"VersionJoins$Session", "rebase", "(IJ)V"⟩
abbrev cX1_rebase : ByteArray := prog_3_method_5_code
def yX1_view : MethodName := ⟨"VersionJoins$Session", "view", "(I)J"⟩
abbrev cX1_view : ByteArray := prog_3_method_6_code
def yX1_isConflict : MethodName := ⟨"VersionJoins$Session", "isConflict", "(IJ)Z"⟩
abbrev cX1_isConflict : ByteArray := prog_3_method_7_code
def yX1_isWithinBounds : MethodName := ⟨"VersionJoins$Session", "isWithinBounds", "()Z"⟩
abbrev cX1_isWithinBounds : ByteArray := prog_3_method_8_code
def yX2_init : MethodName := ⟨"VersionJoins$Step", "<init>", "(I)V"⟩
abbrev cX2_init : ByteArray := prog_4_method_1_code
def yX2_withAbove : MethodName := ⟨"VersionJoins$Step", "withAbove", "(I)I"⟩
abbrev cX2_withAbove : ByteArray := prog_4_method_2_code
def yX2_isUsing : MethodName := ⟨"VersionJoins$Step", "isUsing", "(I)Z"⟩
abbrev cX2_isUsing : ByteArray := prog_4_method_3_code
def yX2_hasMade : MethodName := ⟨"VersionJoins$Step", "hasMade", "(I)Z"⟩
abbrev cX2_hasMade : ByteArray := prog_4_method_4_code
def yX2_addUsed : MethodName := ⟨"VersionJoins$Step", "addUsed", "(I)V"⟩
abbrev cX2_addUsed : ByteArray := prog_4_method_5_code
def yX2_addMade : MethodName := ⟨"VersionJoins$Step", "addMade", "(I)V"⟩
abbrev cX2_addMade : ByteArray := prog_4_method_6_code
def yX2_isOutdated : MethodName := ⟨"VersionJoins$Step", "isOutdated", "([J)Z"⟩
abbrev cX2_isOutdated : ByteArray := prog_4_method_7_code
def yX2_work : MethodName := ⟨"VersionJoins$Step", "work", "([J)V"⟩
abbrev cX2_work : ByteArray := prog_4_method_8_code
def yX2_resultOfKind : MethodName := ⟨"VersionJoins$Step", "resultOfKind", "()J"⟩
abbrev cX2_resultOfKind : ByteArray := prog_4_method_9_code
def yX2_sum : MethodName := ⟨"VersionJoins$Step", "sum", "()J"⟩
abbrev cX2_sum : ByteArray := prog_4_method_10_code
def yX2_greatest : MethodName := ⟨"VersionJoins$Step", "greatest", "()J"⟩
abbrev cX2_greatest : ByteArray := prog_4_method_11_code
def yX2_exclusiveOr : MethodName := ⟨"VersionJoins$Step", "exclusiveOr", "()J"⟩
abbrev cX2_exclusiveOr : ByteArray := prog_4_method_12_code
def yX2_differentOnes : MethodName := ⟨"VersionJoins$Step", "differentOnes", "()J"⟩
abbrev cX2_differentOnes : ByteArray := prog_4_method_13_code
def yX2_isFirstOfItsValue : MethodName := ⟨"VersionJoins$Step", "isFirstOfItsValue", "(I)Z"⟩
abbrev cX2_isFirstOfItsValue : ByteArray := prog_4_method_14_code
def yX3_init : MethodName := ⟨"VersionJoins", "<init>", "()V"⟩
abbrev cX3_init : ByteArray := prog_1_method_1_code
def yX3_thing : MethodName := ⟨"VersionJoins", "thing", "(J)I"⟩
abbrev cX3_thing : ByteArray := prog_1_method_2_code
def yX3_step : MethodName := ⟨"VersionJoins", "step", "(I)I"⟩
abbrev cX3_step : ByteArray := prog_1_method_3_code
def yX3_uses : MethodName := ⟨"VersionJoins", "uses", "(II)Z"⟩
abbrev cX3_uses : ByteArray := prog_1_method_4_code
def yX3_makes : MethodName := ⟨"VersionJoins", "makes", "(II)Z"⟩
abbrev cX3_makes : ByteArray := prog_1_method_5_code
def yX3_session : MethodName := ⟨"VersionJoins", "session", "()I"⟩
abbrev cX3_session : ByteArray := prog_1_method_6_code
def yX3_read : MethodName := ⟨"VersionJoins", "read", "(II)J"⟩
abbrev cX3_read : ByteArray := prog_1_method_7_code
def yX3_write : MethodName := ⟨"VersionJoins", "write", "(IIJ)Z"⟩
abbrev cX3_write : ByteArray := prog_1_method_8_code
def yX3_join : MethodName := ⟨"VersionJoins", "join", "(IZ)I"⟩
abbrev cX3_join : ByteArray := prog_1_method_9_code
def yX3_conflict : MethodName := ⟨"VersionJoins", "conflict", "(II)J"⟩
abbrev cX3_conflict : ByteArray := prog_1_method_10_code
def yX3_settle : MethodName := ⟨"VersionJoins", "settle", "(II)Z"⟩
abbrev cX3_settle : ByteArray := prog_1_method_11_code
def yX3_stale : MethodName := ⟨"VersionJoins", "stale", "(I)Z"⟩
abbrev cX3_stale : ByteArray := prog_1_method_12_code
def yX3_branch : MethodName := ⟨"VersionJoins", "branch", "()I"⟩
abbrev cX3_branch : ByteArray := prog_1_method_13_code
def yX3_from : MethodName := ⟨"VersionJoins", "from", "(II)I"⟩
abbrev cX3_from : ByteArray := prog_1_method_14_code
def yX3_run : MethodName := ⟨"VersionJoins", "run", "(I)Z"⟩
abbrev cX3_run : ByteArray := prog_1_method_15_code
def yX3_value : MethodName := ⟨"VersionJoins", "value", "(II)J"⟩
abbrev cX3_value : ByteArray := prog_1_method_16_code
def yX3_play : MethodName := ⟨"VersionJoins", "play", "(JI)I"⟩
abbrev cX3_play : ByteArray := prog_1_method_17_code
def yX3_isThing : MethodName := ⟨"VersionJoins", "isThing", "(I)Z"⟩
abbrev cX3_isThing : ByteArray := prog_1_method_18_code
def yX3_isStep : MethodName := ⟨"VersionJoins", "isStep", "(I)Z"⟩
abbrev cX3_isStep : ByteArray := prog_1_method_19_code
def yX3_isOpen : MethodName := ⟨"VersionJoins", "isOpen", "(I)Z"⟩
abbrev cX3_isOpen : ByteArray := prog_1_method_20_code
def yX3_give : MethodName := ⟨"VersionJoins", "give", "(IJ)V"⟩
abbrev cX3_give : ByteArray := prog_1_method_21_code
def yX3_giveWritten : MethodName := ⟨"VersionJoins", "giveWritten", "(LVersionJoins$Session;)V"⟩
abbrev cX3_giveWritten : ByteArray := prog_1_method_22_code
def yX3_collectConflicts : MethodName := ⟨"VersionJoins", "collectConflicts", "(LVersionJoins$Session;)I"⟩
abbrev cX3_collectConflicts : ByteArray := prog_1_method_23_code
def yX3_isSameOrAbove : MethodName := ⟨"VersionJoins", "isSameOrAbove", "(II)Z"⟩
abbrev cX3_isSameOrAbove : ByteArray := prog_1_method_24_code
def yX3_hasUserAtOrAbove : MethodName := ⟨"VersionJoins", "hasUserAtOrAbove", "(II)Z"⟩
abbrev cX3_hasUserAtOrAbove : ByteArray := prog_1_method_25_code
def yX3_putAbove : MethodName := ⟨"VersionJoins", "putAbove", "(II)V"⟩
abbrev cX3_putAbove : ByteArray := prog_1_method_26_code
def yX3_isStale : MethodName := ⟨"VersionJoins", "isStale", "(I)Z"⟩
abbrev cX3_isStale : ByteArray := prog_1_method_27_code
def yX3_refresh : MethodName := ⟨"VersionJoins", "refresh", "(II)Z"⟩
abbrev cX3_refresh : ByteArray := prog_1_method_28_code
def yX3_refreshAll : MethodName := ⟨"VersionJoins", "refreshAll", "()V"⟩
abbrev cX3_refreshAll : ByteArray := prog_1_method_29_code
def yX4_init : MethodName := ⟨"VersionJoinsModel", "<init>", "()V"⟩
abbrev cX4_init : ByteArray := prog_6_method_1_code
def yX4_isThing : MethodName := ⟨"VersionJoinsModel", "isThing", "(I)Z"⟩
abbrev cX4_isThing : ByteArray := prog_6_method_2_code
def yX4_isStep : MethodName := ⟨"VersionJoinsModel", "isStep", "(I)Z"⟩
abbrev cX4_isStep : ByteArray := prog_6_method_3_code
def yX4_thing : MethodName := ⟨"VersionJoinsModel", "thing", "(J)I"⟩
abbrev cX4_thing : ByteArray := prog_6_method_4_code
def yX4_step : MethodName := ⟨"VersionJoinsModel", "step", "(I)I"⟩
abbrev cX4_step : ByteArray := prog_6_method_5_code
def yX4_doesUse : MethodName := ⟨"VersionJoinsModel", "doesUse", "(II)Z"⟩
abbrev cX4_doesUse : ByteArray := prog_6_method_6_code
def yX4_doesMake : MethodName := ⟨"VersionJoinsModel", "doesMake", "(II)Z"⟩
abbrev cX4_doesMake : ByteArray := prog_6_method_7_code
def yX4_maker : MethodName := ⟨"VersionJoinsModel", "maker", "(I)I"⟩
abbrev cX4_maker : ByteArray := prog_6_method_8_code
def yX4_isBehind : MethodName := ⟨"VersionJoinsModel", "isBehind", "(II)Z"⟩
abbrev cX4_isBehind : ByteArray := prog_6_method_9_code
def yX4_markBehind : MethodName := ⟨"VersionJoinsModel", "markBehind", "()V"⟩
abbrev cX4_markBehind : ByteArray := prog_6_method_10_code
def yX4_unmark : MethodName := ⟨"VersionJoinsModel", "unmark", "()V"⟩
abbrev cX4_unmark : ByteArray := prog_6_method_11_code
def yX4_uses : MethodName := ⟨"VersionJoinsModel", "uses", "(II)Z"⟩
abbrev cX4_uses : ByteArray := prog_6_method_12_code
def yX4_makes : MethodName := ⟨"VersionJoinsModel", "makes", "(II)Z"⟩
abbrev cX4_makes : ByteArray := prog_6_method_13_code
def yX4_session : MethodName := ⟨"VersionJoinsModel", "session", "()I"⟩
abbrev cX4_session : ByteArray := prog_6_method_14_code
def yX4_goes : MethodName := ⟨"VersionJoinsModel", "goes", "(II)Z"⟩
abbrev cX4_goes : ByteArray := prog_6_method_15_code
def yX4_touch : MethodName := ⟨"VersionJoinsModel", "touch", "(II)V"⟩
abbrev cX4_touch : ByteArray := prog_6_method_16_code
def yX4_own : MethodName := ⟨"VersionJoinsModel", "own", "(I)J"⟩
abbrev cX4_own : ByteArray := prog_6_method_17_code
def yX4_read : MethodName := ⟨"VersionJoinsModel", "read", "(II)J"⟩
abbrev cX4_read : ByteArray := prog_6_method_18_code
def yX4_write : MethodName := ⟨"VersionJoinsModel", "write", "(IIJ)Z"⟩
abbrev cX4_write : ByteArray := prog_6_method_19_code
def yX4_isConflict : MethodName := ⟨"VersionJoinsModel", "isConflict", "(II)Z"⟩
abbrev cX4_isConflict : ByteArray := prog_6_method_20_code
def yX4_keepConflicts : MethodName := ⟨"VersionJoinsModel", "keepConflicts", "(I)V"⟩
abbrev cX4_keepConflicts : ByteArray := prog_6_method_21_code
def yX4_join : MethodName := ⟨"VersionJoinsModel", "join", "(IZ)I"⟩
abbrev cX4_join : ByteArray := prog_6_method_22_code
def yX4_conflict : MethodName := ⟨"VersionJoinsModel", "conflict", "(II)J"⟩
abbrev cX4_conflict : ByteArray := prog_6_method_23_code
def yX4_settle : MethodName := ⟨"VersionJoinsModel", "settle", "(II)Z"⟩
abbrev cX4_settle : ByteArray := prog_6_method_24_code
def yX4_isOff : MethodName := ⟨"VersionJoinsModel", "isOff", "(I)Z"⟩
abbrev cX4_isOff : ByteArray := prog_6_method_25_code
def yX4_stale : MethodName := ⟨"VersionJoinsModel", "stale", "(I)Z"⟩
abbrev cX4_stale : ByteArray := prog_6_method_26_code
def yX4_isEarlier : MethodName := ⟨"VersionJoinsModel", "isEarlier", "(II)Z"⟩
abbrev cX4_isEarlier : ByteArray := prog_6_method_27_code
def yX4_worth : MethodName := ⟨"VersionJoinsModel", "worth", "(I)J"⟩
abbrev cX4_worth : ByteArray := prog_6_method_28_code
def yX4_give : MethodName := ⟨"VersionJoinsModel", "give", "(I)I"⟩
abbrev cX4_give : ByteArray := prog_6_method_29_code
def yX4_isNext : MethodName := ⟨"VersionJoinsModel", "isNext", "(I)Z"⟩
abbrev cX4_isNext : ByteArray := prog_6_method_30_code
def yX4_go : MethodName := ⟨"VersionJoinsModel", "go", "(I)V"⟩
abbrev cX4_go : ByteArray := prog_6_method_31_code
def yX4_isBefore : MethodName := ⟨"VersionJoinsModel", "isBefore", "(II)Z"⟩
abbrev cX4_isBefore : ByteArray := prog_6_method_32_code
def yX4_run : MethodName := ⟨"VersionJoinsModel", "run", "(I)Z"⟩
abbrev cX4_run : ByteArray := prog_6_method_33_code
def yX4_branch : MethodName := ⟨"VersionJoinsModel", "branch", "()I"⟩
abbrev cX4_branch : ByteArray := prog_6_method_34_code
def yX4_from : MethodName := ⟨"VersionJoinsModel", "from", "(II)I"⟩
abbrev cX4_from : ByteArray := prog_6_method_35_code
def yX4_value : MethodName := ⟨"VersionJoinsModel", "value", "(II)J"⟩
abbrev cX4_value : ByteArray := prog_6_method_36_code
def yX4_play : MethodName := ⟨"VersionJoinsModel", "play", "(JI)I"⟩
abbrev cX4_play : ByteArray := prog_6_method_37_code
end
section
/-! THE KINDS: what an abstract object of each kind is: an object (class in vwCl, its places: 0 int, 1 long, 2 reference) or an array (type, length) -/
def hp_kl : List ((Nat × List Nat) ⊕ (Nat × Nat)) := [
  .inl (3, [2, 2, 2, 2, 2, 2, 0, 0, 0, 0, 0]),
  .inr (3, 6),
  .inr (1, 24),
  .inr (0, 24),
  .inr (4, 12),
  .inr (5, 40),
  .inl (0, [2, 2, 2, 2, 2, 0]),
  .inr (0, 24),
  .inr (1, 24),
  .inr (1, 24),
  .inr (2, 24),
  .inl (2, [0, 2, 2, 2, 0, 0, 0, 0, 0, 0, 1]),
  .inr (0, 8),
  .inr (0, 4),
  .inr (1, 8),
  .inl (1, [2, 2, 2, 2, 0]),
  .inr (2, 24),
  .inr (1, 24),
  .inr (2, 24),
  .inr (1, 24),
  .inl (4, [0, 0, 2, 0, 2, 2, 2, 2, 2, 0, 0, 2, 2, 2, 2, 0, 2, 2, 2, 2, 2, 2, 2, 2, 2, 2, 2, 2, 0, 0]),
  .inr (1, 144),
  .inr (2, 40),
  .inr (2, 960),
  .inr (2, 960),
  .inr (1, 960),
  .inr (1, 960),
  .inr (0, 24),
  .inr (1, 24),
  .inr (1, 24),
  .inr (2, 24),
  .inr (0, 12),
  .inr (0, 96),
  .inr (0, 12),
  .inr (0, 48),
  .inr (0, 12),
  .inr (2, 12),
  .inr (0, 12),
  .inr (0, 12),
  .inr (1, 96),
  .inr (1, 12),
  .inr (2, 12),
  .inr (2, 12)]
def hp_kd (n : Nat) : (Nat × List Nat) ⊕ (Nat × Nat) := hp_kl.getD n (.inr (0, 0))
def hp_atl : List FieldType := [.int, .long, .boolean, .array .long, .object "VersionJoins$Step", .object "VersionJoins$Session"]
def hp_aty (a : Nat) : FieldType := hp_atl.getD a .int
def hp_na : Nat := 6
/-- where the references of an object that is whole point to: the kind; the number is the owner's -/
def hp_xl : List (List (Option Nat)) := [
  [some 1, some 2, some 3, some 4, some 5, some 6, none, none, none, none, none],
  [],
  [],
  [],
  [],
  [],
  [some 7, some 8, some 9, some 10, none, none],
  [],
  [],
  [],
  [],
  [none, some 12, some 13, some 14, none, none, none, none, none, none, none],
  [],
  [],
  [],
  [some 16, some 17, some 18, some 19, none],
  [],
  [],
  [],
  [],
  [none, none, some 21, none, some 22, some 23, some 24, some 25, some 26, none, none, some 27, some 28, some 29, some 30, none, some 31, some 32, some 33, some 34, some 35, some 36, some 37, some 38, some 39, some 40, some 41, some 42, none, none],
  [],
  [],
  [],
  [],
  [],
  [],
  [],
  [],
  [],
  [],
  [],
  [],
  [],
  [],
  [],
  [],
  [],
  [],
  [],
  [],
  [],
  []]
def hp_ex (t : Nat × Nat) (k : Nat) : Option (Nat × Nat) := if t.1 = 1 then (if k < 6 then some (2, k) else none) else ((hp_xl.getD t.1 []).getD k none).map (fun q => (q, t.2))
/-- what the tables say beside the words that last -/
def hp_AO (U : State) : Prop := va_AO "VersionJoins$Step" U ∧ va_AO "VersionJoins$Session" U ∧ (Cond.arrayOver (.array .long)).before #[] U = true ∧ va_Nw (.methodLinkNest "VersionJoins" 36 yX0_init "VersionJoins") U ∧ va_Nw (.methodLinkNest "VersionJoins" 93 yX1_init "VersionJoins") U
theorem hp_AOA_spec {A : Array Value} {s : State} (h : (Cond.arrayOver (.array .long)).before A s = true) : ∃ comp c k, s.vm.findClass (FieldType.array .long).toString = some comp ∧ (s.vm.classes.findIdx? fun (z : Class) => match z.kind with | .array component _ => component == comp | _ => false) = some c ∧ s.vm.classes[c]? = some k ∧ k.kind = .array comp (.array .long) ∧ s.vm.findClass ("[" ++ (FieldType.array .long).toString) = some c := by
  simp only [Cond.before, Cond.holds, Cond.value, beq_iff_eq] at h
  cases hc : s.vm.findClass (FieldType.array .long).toString with
  | none => simp [hc] at h
  | some comp =>
    simp only [hc, Option.bind_some, Option.bind_eq_some_iff, Option.map_eq_some_iff] at h
    obtain ⟨c, hi, k, hk, hb⟩ := h
    obtain ⟨hlt, hp, -⟩ := Array.findIdx?_eq_some_iff_getElem.mp hi
    have hkk : s.vm.classes[c] = k := (Array.getElem?_eq_some_iff.mp hk).2
    rw [hkk] at hp
    cases hkind : k.kind with
    | array component ty =>
      rw [hkind] at hb hp
      simp at hb hp
      exact ⟨comp, c, k, rfl, hi, hk, by rw [hkind, hp, hb.1], hb.2⟩
    | _ => rw [hkind] at hb; simp at hb
def hp_AOA (U : State) : Prop := (Cond.arrayOver (.array .long)).before #[] U = true
theorem hp_AOA_moved {u U : State} (hvm : u.vm.Alike U.vm) (h : hp_AOA u) : hp_AOA U := by
  obtain ⟨comp, c, k, h1, h2, h3, h4, h5⟩ := hp_AOA_spec h
  obtain ⟨k', hk', he⟩ := hvm.2.2 _ _ h3
  have hi : (U.vm.classes.findIdx? fun (z : Class) => match z.kind with | .array component _ => component == comp | _ => false) = some c := by
    have e1 := va_idx_bare U.vm comp
    have e2 := va_idx_bare u.vm comp
    have hb : U.vm.bare = u.vm.bare := by first | exact hvm.bare_eq | exact hvm.bare_eq.symm
    rw [hb] at e1
    exact (e1.symm.trans e2).trans h2
  have hkind : k'.kind = .array comp (.array .long) := by rw [he]; exact h4
  have f1 : U.vm.findClass (FieldType.array .long).toString = some comp := by rw [hvm.findClass]; exact h1
  have f2 : U.vm.findClass ("[" ++ (FieldType.array .long).toString) = some c := by rw [hvm.findClass]; exact h5
  unfold hp_AOA Cond.before Cond.holds
  simp only [Cond.value]
  rw [f1, Option.bind_some]
  refine (congrArg (fun o : Option Nat => (o.bind (fun c => (U.vm.classes[c]?).map fun (k : Class) => match k.kind with | .array _ ty => decide (ty = FieldType.array .long) && decide (U.vm.findClass ("[" ++ (FieldType.array .long).toString) = some c) | _ => false) == some true)) hi).trans ?_
  simp [hk', hkind, f2]
theorem hp_AO_same {u U : State} (h : u.vm = U.vm) (hA : hp_AO u) : hp_AO U := by
  have hv : u.vm.Alike U.vm := by rw [h]; exact Vm.Alike.refl U.vm
  exact ⟨va_AO.moved hv hA.1, va_AO.moved hv hA.2.1, hp_AOA_moved hv hA.2.2.1, va_Nw.same rfl h hA.2.2.2.1, va_Nw.same rfl h hA.2.2.2.2⟩
theorem hp_AO_warm {u U : State} (hW : u.WarmedH U.vm) (hA : hp_AO u) : hp_AO U :=
  ⟨va_AO.moved hW.alike hA.1, va_AO.moved hW.alike hA.2.1, hp_AOA_moved hW.alike hA.2.2.1, va_Nw.warmM hW hA.2.2.2.1, va_Nw.warmM hW hA.2.2.2.2⟩
end
section
/-! ABSTRACT OBJECTS. A tag is (kind, number). Each tag has ints, longs and references by places; 'hp_kd' says what a kind is. -/
abbrev hp_T : Type := Nat × Nat
abbrev hp_S : Type := (hp_T → Bool) × (hp_T → Nat → Int32) × (hp_T → Nat → Int64) × (hp_T → Nat → Option hp_T)
def hp_uI (x : hp_S) (t : hp_T) (k : Nat) (v : Int32) : hp_S := (x.1, fun t' k' => if t' = t ∧ k' = k then v else x.2.1 t' k', x.2.2.1, x.2.2.2)
def hp_uL (x : hp_S) (t : hp_T) (k : Nat) (v : Int64) : hp_S := (x.1, x.2.1, fun t' k' => if t' = t ∧ k' = k then v else x.2.2.1 t' k', x.2.2.2)
def hp_uR (x : hp_S) (t : hp_T) (k : Nat) (v : Option hp_T) : hp_S := (x.1, x.2.1, x.2.2.1, fun t' k' => if t' = t ∧ k' = k then v else x.2.2.2 t' k')
/-- a row of longs is written anew -/
def hp_wL (x : hp_S) (t : hp_T) (f : Nat → Int64) : hp_S := (x.1, x.2.1, fun t' => if t' = t then f else x.2.2.1 t', x.2.2.2)
/-- a new object, all zero -/
def hp_nw (x : hp_S) (t : hp_T) : hp_S := (fun t' => if t' = t then true else x.1 t', fun t' k => if t' = t then 0 else x.2.1 t' k, fun t' k => if t' = t then 0 else x.2.2.1 t' k, fun t' k => if t' = t then none else x.2.2.2 t' k)
def hp_ad (ad : hp_T → Nat) (t : hp_T) (q : Nat) : hp_T → Nat := fun t' => if t' = t then q else ad t'
def hp_val (ad : hp_T → Nat) (x : hp_S) (t : hp_T) (c k : Nat) : Value := match c with
  | 0 => .int (x.2.1 t k)
  | 1 => .long (x.2.2.1 t k)
  | _ => va_rf ((x.2.2.2 t k).map ad)
def hp_fs (ad : hp_T → Nat) (x : hp_S) (t : hp_T) (sl : List Nat) : List Value := (List.range sl.length).map (fun k => hp_val ad x t (sl.getD k 0) k)
def hp_bank (ty : FieldType) : Nat := match ty with
  | .long => 1
  | .object _ => 2
  | .array _ => 2
  | _ => 0
def hp_arr (ad : hp_T → Nat) (x : hp_S) (t : hp_T) (b n : Nat) : vp_A := (n, match b with
  | 0 => .inl (x.2.1 t)
  | 1 => .inr (.inl (x.2.2.1 t))
  | _ => .inr (.inr (.inr (.inr (fun j => (x.2.2.2 t j).map ad)))))
def hp_cell (cA : Nat → ClassId) (ad : hp_T → Nat) (x : hp_S) (t : hp_T) : va_E := match hp_kd t.1 with
  | .inl o => .inr (o.1, hp_fs ad x t o.2)
  | .inr a => .inl (cA a.1, hp_arr ad x t (hp_bank (hp_aty a.1)) a.2)
/-- every object that is there is whole -/
def hp_sh (x : hp_S) : Prop := ∀ t k t2, hp_ex t k = some t2 → x.1 t = true → x.2.2.2 t k = some t2
theorem hp_cell_o {cA : Nat → ClassId} {ad : hp_T → Nat} {x : hp_S} {t : hp_T} {ci : Nat} {sl : List Nat} (h : hp_kd t.1 = .inl (ci, sl)) : hp_cell cA ad x t = .inr (ci, hp_fs ad x t sl) := by
  simp only [hp_cell, h]
theorem hp_cell_a {cA : Nat → ClassId} {ad : hp_T → Nat} {x : hp_S} {t : hp_T} {a n : Nat} (h : hp_kd t.1 = .inr (a, n)) : hp_cell cA ad x t = .inl (cA a, hp_arr ad x t (hp_bank (hp_aty a)) n) := by
  simp only [hp_cell, h]
theorem hp_fs_get {ad : hp_T → Nat} {x : hp_S} {t : hp_T} {sl : List Nat} {k c : Nat} (h : sl[k]? = some c) : (hp_fs ad x t sl)[k]? = some (hp_val ad x t c k) := by
  have hl : k < sl.length := (List.getElem?_eq_some_iff.mp h).1
  have e : sl.getD k 0 = c := by rw [List.getD_eq_getElem?_getD, h]; rfl
  simp only [hp_fs, List.getElem?_map, List.getElem?_range hl, Option.map_some, e]
theorem hp_fs_len {ad : hp_T → Nat} {x : hp_S} {t : hp_T} {sl : List Nat} : (hp_fs ad x t sl).length = sl.length := by simp [hp_fs]
/-- the fields behind a write: place by place -/
theorem hp_fs_set {ad : hp_T → Nat} {x x' : hp_S} {t : hp_T} {sl : List Nat} {k : Nat} {v : Value} (hk : k < sl.length) (h1 : hp_val ad x' t (sl.getD k 0) k = v) (h2 : ∀ j, j ≠ k → hp_val ad x' t (sl.getD j 0) j = hp_val ad x t (sl.getD j 0) j) : (hp_fs ad x t sl).set k v = hp_fs ad x' t sl := by
  apply List.ext_getElem?
  intro j
  rw [List.getElem?_set]
  by_cases hj : k = j
  · subst hj
    rw [if_pos rfl, if_pos (by rw [hp_fs_len]; exact hk)]
    simp only [hp_fs, List.getElem?_map, List.getElem?_range hk, Option.map_some, h1]
  · rw [if_neg hj]
    by_cases hl : j < sl.length
    · simp only [hp_fs, List.getElem?_map, List.getElem?_range hl, Option.map_some, h2 j (Ne.symm hj)]
    · simp [hp_fs, hl]
/-- what a cell is made of -/
theorem hp_cell_congr {cA : Nat → ClassId} {ad ad' : hp_T → Nat} {x x' : hp_S} {t : hp_T} (h1 : x'.2.1 t = x.2.1 t) (h2 : x'.2.2.1 t = x.2.2.1 t) (h3 : ∀ k, (x'.2.2.2 t k).map ad' = (x.2.2.2 t k).map ad) : hp_cell cA ad' x' t = hp_cell cA ad x t := by
  have hv : ∀ c k, hp_val ad' x' t c k = hp_val ad x t c k := by
    intro c k
    match c with
    | 0 => simp only [hp_val, h1]
    | 1 => simp only [hp_val, h2]
    | n + 2 => simp only [hp_val, h3]
  have hf : ∀ sl, hp_fs ad' x' t sl = hp_fs ad x t sl := fun sl => by simp only [hp_fs, hv]
  have ha : ∀ b n, hp_arr ad' x' t b n = hp_arr ad x t b n := by
    intro b n
    match b with
    | 0 => simp only [hp_arr, h1]
    | 1 => simp only [hp_arr, h2]
    | m + 2 => simp only [hp_arr, h3]
  simp only [hp_cell, hf, ha]
def hp_H (D : va_G) (cA : Nat → ClassId) (B0 : Nat) (ad : hp_T → Nat) (x : hp_S) (H : Heap) : Prop :=
  B0 ≤ H.size ∧ (∀ t, x.1 t = true → B0 ≤ ad t ∧ va_at D vwCl (ad t, hp_cell cA ad x t) H) ∧ (∀ t t', x.1 t = true → x.1 t' = true → ad t = ad t' → t = t') ∧ ∀ t k t', x.1 t = true → x.2.2.2 t k = some t' → x.1 t' = true
theorem hp_H.put {D : va_G} {cA : Nat → ClassId} {B0 : Nat} {ad : hp_T → Nat} {x x' : hp_S} {H H1 : Heap} {t : hp_T} (h : hp_H D cA B0 ad x H) (ht : x.1 t = true) (hl : x'.1 = x.1) (ho : ∀ t', t' ≠ t → hp_cell cA ad x' t' = hp_cell cA ad x t') (hr : ∀ k t', x'.2.2.2 t k = some t' → x.1 t' = true) (hr2 : ∀ t', t' ≠ t → x'.2.2.2 t' = x.2.2.2 t') (he : va_at D vwCl (ad t, hp_cell cA ad x' t) H1) (hz : H1.size = H.size) (oq : ∀ q : Nat, q ≠ ad t → H1[q]? = H[q]?) : hp_H D cA B0 ad x' H1 := by
  refine ⟨by rw [hz]; exact h.1, fun t' h' => ?_, fun t1 t2 h1 h2 e => ?_, fun t1 k t2 h1 h2 => ?_⟩
  · rw [hl] at h'
    refine ⟨(h.2.1 t' h').1, ?_⟩
    by_cases e : t' = t
    · subst e
      exact he
    · rw [ho t' e]
      exact (h.2.1 t' h').2.kept (oq _ (fun q => e (h.2.2.1 t' t h' ht q)))
  · rw [hl] at h1 h2
    exact h.2.2.1 t1 t2 h1 h2 e
  · rw [hl] at h1 ⊢
    by_cases e : t1 = t
    · subst e
      exact hr k t2 h2
    · rw [hr2 t1 e] at h2
      exact h.2.2.2 t1 k t2 h1 h2
/-- a cell is made -/
theorem hp_H.mk {D : va_G} {cA : Nat → ClassId} {B0 : Nat} {ad : hp_T → Nat} {x : hp_S} {H H1 : Heap} {t : hp_T} (h : hp_H D cA B0 ad x H) (ht : x.1 t = false) (he : va_at D vwCl (H.size, hp_cell cA (hp_ad ad t H.size) (hp_nw x t) t) H1) (hz : H1.size = H.size + 1) (oq : ∀ q : Nat, q < H.size → H1[q]? = H[q]?) : hp_H D cA B0 (hp_ad ad t H.size) (hp_nw x t) H1 := by
  have hlt : ∀ t', x.1 t' = true → ad t' < H.size := fun t' h' => (h.2.1 t' h').2.lt
  have hne : ∀ t', x.1 t' = true → t' ≠ t := fun t' h' e => by rw [e, ht] at h'; cases h'
  refine ⟨by rw [hz]; exact Nat.le_succ_of_le h.1, fun t' h' => ?_, fun t1 t2 h1 h2 e => ?_, fun t1 k t2 h1 h2 => ?_⟩
  · by_cases e : t' = t
    · subst e
      refine ⟨?_, ?_⟩
      · simp only [hp_ad, if_pos]
        exact h.1
      · rw [show hp_ad ad t' H.size t' = H.size by simp [hp_ad]]
        exact he
    · have h0 : x.1 t' = true := by simpa [hp_nw, e] using h'
      have ea : hp_ad ad t H.size t' = ad t' := by simp [hp_ad, e]
      rw [ea]
      refine ⟨(h.2.1 t' h0).1, ?_⟩
      rw [show hp_cell cA (hp_ad ad t H.size) (hp_nw x t) t' = hp_cell cA ad x t' from hp_cell_congr (by funext k; simp [hp_nw, e]) (by funext k; simp [hp_nw, e]) (fun k => by
        have e3 : (hp_nw x t).2.2.2 t' k = x.2.2.2 t' k := by simp [hp_nw, e]
        rw [e3]
        cases hq : x.2.2.2 t' k with
        | none => rfl
        | some t2 => simp [hp_ad, hne t2 (h.2.2.2 t' k t2 h0 hq)])]
      exact (h.2.1 t' h0).2.kept (oq _ (hlt t' h0))
  · by_cases e1 : t1 = t
    · by_cases e2 : t2 = t
      · rw [e1, e2]
      · have h0 : x.1 t2 = true := by simpa [hp_nw, e2] using h2
        have := hlt t2 h0
        simp only [hp_ad, e1, if_pos, if_neg e2] at e
        omega
    · have h0 : x.1 t1 = true := by simpa [hp_nw, e1] using h1
      by_cases e2 : t2 = t
      · have := hlt t1 h0
        simp only [hp_ad, e2, if_pos, if_neg e1] at e
        omega
      · have h9 : x.1 t2 = true := by simpa [hp_nw, e2] using h2
        simp only [hp_ad, if_neg e1, if_neg e2] at e
        exact h.2.2.1 t1 t2 h0 h9 e
  · by_cases e1 : t1 = t
    · subst e1
      simp [hp_nw] at h2
    · have h0 : x.1 t1 = true := by simpa [hp_nw, e1] using h1
      have h3 : x.2.2.2 t1 k = some t2 := by simpa [hp_nw, e1] using h2
      have h4 := h.2.2.2 t1 k t2 h0 h3
      simp only [hp_nw]
      split
      · rfl
      · exact h4
def hp_tys (cA : Nat → ClassId) : List (ClassId × FieldType) := (List.range hp_na).map (fun a => (cA a, hp_aty a))
theorem hp_tys_at {cA : Nat → ClassId} {a : Nat} (h : a < hp_na) : (hp_tys cA)[a]? = some (cA a, hp_aty a) := by
  simp [hp_tys, List.getElem?_map, List.getElem?_range h]
def hp_K (D : va_G) (cA : Nat → ClassId) (U : State) : Prop := va_K D vwCl (hp_tys cA) U ∧ hp_AO U
theorem hp_K.warm {D : va_G} {cA : Nat → ClassId} {u U : State} (hW : u.WarmedH U.vm) (h : hp_K D cA u) : hp_K D cA U := ⟨va_K.moved hW.alike h.1, hp_AO_warm hW h.2⟩
theorem hp_K.same {D : va_G} {cA : Nat → ClassId} {u U : State} (hv : u.vm = U.vm) (h : hp_K D cA u) : hp_K D cA U := ⟨va_K.moved (by rw [hv]; exact Vm.Alike.refl U.vm) h.1, hp_AO_same hv h.2⟩
def hp_E (p : Program) (s : State) (m : MethodId) (args : Array Value) (meth : Method) (c : Code) (cc : ByteArray) (nL : Nat) (own : String) (Ts : List Cond) (D : va_G) (cA : Nat → ClassId) (B0 : Nat) : Prop :=
  CallFix p m c cc nL s args Ts own ∧ hp_K D cA s ∧ meth.locks = false ∧ B0 ≤ s.heap.size
abbrev hx_iushr (z y : Int32) : Int32 := (z.toUInt32 >>> (y.toUInt32 &&& Int32.toUInt32 31)).toInt32
abbrev hx_lushr (z : Int64) (y : Int32) : Int64 := (z.toUInt64 >>> (y.toInt64.toUInt64 &&& Int64.toUInt64 63)).toInt64
theorem hx_out3 {z : Int32} (h0 : ¬ z = nI 0) (h1 : ¬ z = nI 1) (h2 : ¬ z = nI 2) : z.toInt < 0 ∨ 2 < z.toInt := by
  rcases Int.lt_or_le z.toInt 0 with h | h
  · exact Or.inl h
  rcases Int.lt_or_le 2 z.toInt with h' | h'
  · exact Or.inr h'
  exfalso
  have e : z.toInt = 0 ∨ z.toInt = 1 ∨ z.toInt = 2 := by omega
  rcases e with e | e | e
  · exact h0 (Int32.toInt_inj.mp e)
  · exact h1 (Int32.toInt_inj.mp e)
  · exact h2 (Int32.toInt_inj.mp e)
/-! ABSTRACT VALUES: an int, a long, a reference by its tag (or null), an address from outside -/
abbrev hp_A : Type := Int32 ⊕ Int64 ⊕ Option hp_T ⊕ Nat
abbrev aI (i : Int32) : hp_A := .inl i
abbrev aL (i : Int64) : hp_A := .inr (.inl i)
abbrev aR (t : hp_T) : hp_A := .inr (.inr (.inl (some t)))
abbrev aN : hp_A := .inr (.inr (.inl none))
abbrev aQ (b : Nat) : hp_A := .inr (.inr (.inr b))
def hp_c (ad : hp_T → Nat) (v : hp_A) : Value := match v with
  | .inl i => .int i
  | .inr (.inl i) => .long i
  | .inr (.inr (.inl r)) => va_rf (r.map ad)
  | .inr (.inr (.inr b)) => .ref b
def hp_cat (v : hp_A) : Nat := match v with
  | .inr (.inl _) => 2
  | _ => 1
theorem hp_cat_eq (ad : hp_T → Nat) (v : hp_A) : (hp_c ad v).category = hp_cat v := by
  match v with
  | .inl _ => rfl
  | .inr (.inl _) => rfl
  | .inr (.inr (.inl none)) => rfl
  | .inr (.inr (.inl (some _))) => rfl
  | .inr (.inr (.inr _)) => rfl
def hp_ok (b : hp_T → Bool) (v : hp_A) : Prop := match v with
  | .inr (.inr (.inl (some t))) => b t = true
  | _ => True
def hp_oks (b : hp_T → Bool) (l : List hp_A) : Prop := match l with
  | [] => True
  | v :: r => hp_ok b v ∧ hp_oks b r
def hp_okl (b : hp_T → Bool) (l : List (Nat × hp_A)) : Prop := ∀ q ∈ l, hp_ok b q.2
def hp_cl (ad : hp_T → Nat) (l : List (Nat × hp_A)) : List (Nat × Value) := l.map (fun q => (q.1, hp_c ad q.2))
theorem hp_okl_at {x : hp_T → Bool} {l : List (Nat × hp_A)} {j i : Nat} {v : hp_A} (h : hp_okl x l) (hj : l[j]? = some (i, v)) : hp_ok x v := h _ (List.mem_of_getElem? hj)
theorem hp_cl_at {ad : hp_T → Nat} {l : List (Nat × hp_A)} {j i : Nat} {v : hp_A} (hj : l[j]? = some (i, v)) : (hp_cl ad l)[j]? = some (i, hp_c ad v) := by
  simp only [hp_cl, List.getElem?_map, hj, Option.map_some]
def hp_f1 (i : Nat) (l : List (Nat × hp_A)) : List (Nat × hp_A) := l.filter (fun q => !(q.1 == i) && !(q.1 + 1 == i && hp_cat q.2 == 2))
def hp_f2 (i : Nat) (l : List (Nat × hp_A)) : List (Nat × hp_A) := l.filter (fun q => !(q.1 == i) && (!(q.1 == i + 1) && !(q.1 + 1 == i && hp_cat q.2 == 2)))
theorem hp_f1_cl {ad : hp_T → Nat} {i : Nat} {l : List (Nat × hp_A)} : (hp_cl ad l).filter (fun q => !(q.1 == i) && !(q.1 + 1 == i && q.2.category == 2)) = hp_cl ad (hp_f1 i l) := by
  simp only [hp_cl, hp_f1, List.filter_map]
  congr 2
  funext q
  simp only [Function.comp, hp_cat_eq]
theorem hp_f2_cl {ad : hp_T → Nat} {i : Nat} {l : List (Nat × hp_A)} : (hp_cl ad l).filter (fun q => !(q.1 == i) && (!(q.1 == i + 1) && !(q.1 + 1 == i && q.2.category == 2))) = hp_cl ad (hp_f2 i l) := by
  simp only [hp_cl, hp_f2, List.filter_map]
  congr 2
  funext q
  simp only [Function.comp, hp_cat_eq]
theorem hp_f1_ok {x : hp_T → Bool} {i : Nat} {l : List (Nat × hp_A)} (h : hp_okl x l) : hp_okl x (hp_f1 i l) := fun q hq => h q (List.mem_filter.mp hq).1
theorem hp_f2_ok {x : hp_T → Bool} {i : Nat} {l : List (Nat × hp_A)} (h : hp_okl x l) : hp_okl x (hp_f2 i l) := fun q hq => h q (List.mem_filter.mp hq).1
theorem hp_okl_cons {x : hp_T → Bool} {q : Nat × hp_A} {l : List (Nat × hp_A)} (h1 : hp_ok x q.2) (h : hp_okl x l) : hp_okl x (q :: l) := fun r hr => by
  rcases List.mem_cons.mp hr with e | e
  · rw [e]; exact h1
  · exact h r e
/-- what stays when more is alive, and nothing has moved -/
theorem hp_ok_mono {x x' : hp_T → Bool} {v : hp_A} (h : ∀ t, x t = true → x' t = true) (hv : hp_ok x v) : hp_ok x' v := by
  match v with
  | .inl _ => trivial
  | .inr (.inl _) => trivial
  | .inr (.inr (.inl none)) => trivial
  | .inr (.inr (.inl (some t))) => exact h t hv
  | .inr (.inr (.inr _)) => trivial
theorem hp_oks_mono {x x' : hp_T → Bool} (h : ∀ t, x t = true → x' t = true) : ∀ {l : List hp_A}, hp_oks x l → hp_oks x' l
  | [], _ => trivial
  | _ :: _, hl => ⟨hp_ok_mono h hl.1, hp_oks_mono h hl.2⟩
theorem hp_c_same {x : hp_T → Bool} {ad ad' : hp_T → Nat} {v : hp_A} (h : ∀ t, x t = true → ad' t = ad t) (hv : hp_ok x v) : hp_c ad' v = hp_c ad v := by
  match v with
  | .inl _ => rfl
  | .inr (.inl _) => rfl
  | .inr (.inr (.inl none)) => rfl
  | .inr (.inr (.inl (some t))) => simp only [hp_c, Option.map_some, h t hv]
  | .inr (.inr (.inr _)) => rfl
theorem hp_cs_same {x : hp_T → Bool} {ad ad' : hp_T → Nat} (h : ∀ t, x t = true → ad' t = ad t) : ∀ {l : List hp_A}, hp_oks x l → l.map (hp_c ad') = l.map (hp_c ad)
  | [], _ => rfl
  | _ :: _, hl => by rw [List.map_cons, List.map_cons, hp_c_same h hl.1, hp_cs_same h hl.2]
theorem hp_cl_same {x : hp_T → Bool} {ad ad' : hp_T → Nat} {l : List (Nat × hp_A)} (h : ∀ t, x t = true → ad' t = ad t) (hl : hp_okl x l) : hp_cl ad' l = hp_cl ad l := by
  simp only [hp_cl]
  apply List.map_congr_left
  intro q hq
  rw [hp_c_same h (hl q hq)]
/-- the machine, from any heap that holds x, at pc with these locals and this stack, comes to Q; 'S' is what is known of the shape -/
def hp_V (p : Program) (l : Launch) (e : Env) (R : Room) (s : State) (m : MethodId) (args : Array Value) (below : List Frame) (meth : Method) (c : Code) (Q : (hp_T → Nat) → State → Prop) (D : va_G) (cA : Nat → ClassId) (B0 nL : Nat) (ad0 : hp_T → Nat) (x0 : hp_S) (cells slots : Nat) (x : hp_S) (pc : Nat) (lv : List (Nat × hp_A)) (st : List hp_A) : Prop :=
  ∀ (ad : hp_T → Nat) (H : Heap) (locs : List Loc) (ls : Array Slot), hp_H D cA B0 ad x H → (∀ t, x0.1 t = true → x.1 t = true ∧ ad t = ad0 t) → hp_okl x.1 lv → hp_oks x.1 st → va_S (fun q => B0 ≤ q) s.heap H locs → lv_has ls nL (hp_cl ad lv) → W p l e R s m args below meth c H locs cells slots (Q ad0) (F0 m pc ls (st.map (hp_c ad)))
/-- a method's end: the answer, the state behind it -/
def hp_Q (D : va_G) (cA : Nat → ClassId) (B0 : Nat) (ad0 : hp_T → Nat) (x0 : hp_S) (post : Option hp_A → hp_S → Prop) : Array Value → State → Outcome → State → Prop := fun _ st oc t =>
  ∃ (v : Option hp_A) (ad : hp_T → Nat) (x : hp_S), oc = .returned (v.map (hp_c ad)) ∧ post v x ∧ (∀ w, v = some w → hp_ok x.1 w) ∧ (∀ t, x0.1 t = true → x.1 t = true ∧ ad t = ad0 t) ∧ hp_H D cA B0 ad x t.heap ∧ hp_K D cA t ∧ va_F (fun q => B0 ≤ q) st t
/-- a method's contract -/
def hp_C (l : Launch) (y : MethodName) (ws : List Cond) (rm : Room) (av : List hp_A) (x : hp_S) (post : Option hp_A → hp_S → Prop) (mc ms : Nat) : Prop :=
  ∀ (D : va_G) (cA : Nat → ClassId) (B0 : Nat) (ad : hp_T → Nat), hp_oks x.1 av → Met l y ws rm (va_Pc (av.map (hp_c ad)) (fun U => hp_H D cA B0 ad x U.heap ∧ hp_K D cA U)) (hp_Q D cA B0 ad x post) mc ms (fun q => B0 ≤ q)
def hp_args (i : Nat) (l : List hp_A) : List (Nat × hp_A) := match l with
  | [] => []
  | v :: vs => (i, v) :: hp_args (if hp_cat v = 2 then i + 2 else i + 1) vs
theorem hp_args_cl (ad : hp_T → Nat) : ∀ (l : List hp_A) (i : Nat), lv_args i (l.map (hp_c ad)) = hp_cl ad (hp_args i l)
  | [], _ => rfl
  | v :: vs, i => by
    simp only [List.map_cons, lv_args, hp_args, hp_cl, hp_cat_eq]
    rw [hp_args_cl ad vs]
    rfl
theorem hp_args_ok {x : hp_T → Bool} : ∀ {l : List hp_A} {i : Nat}, hp_oks x l → hp_okl x (hp_args i l)
  | [], _, _ => fun q h => by cases h
  | _ :: _, _, h => hp_okl_cons h.1 (hp_args_ok h.2)
def hp_len (l : List hp_A) : Nat := (l.map hp_cat).sum
theorem hp_len_eq (ad : hp_T → Nat) : ∀ l : List hp_A, (lg_sl (l.map (hp_c ad))).length = hp_len l
  | [] => rfl
  | v :: vs => by
    have ih := hp_len_eq ad vs
    simp only [lg_sl, List.map_cons, List.flatMap_cons, List.length_append, hp_len, List.sum_cons, hp_cat_eq] at ih ⊢
    rw [ih]
    congr 1
    match v with
    | .inl _ => rfl
    | .inr (.inl _) => rfl
    | .inr (.inr (.inl none)) => rfl
    | .inr (.inr (.inl (some _))) => rfl
    | .inr (.inr (.inr _)) => rfl
theorem hp_ofV {l : Launch} {y : MethodName} {own : String} {rm : Room} {av : List hp_A} {x : hp_S} {post : Option hp_A → hp_S → Prop} {mc ms : Nat} {cc : ByteArray} {maxL : Nat} {ret : Option FieldType} {lv : List (Nat × hp_A)}
    (hy : plainName y.cls = true) (ho : y.cls = own) (hlen : hp_len av ≤ maxL) (hlv : hp_args 0 av = lv)
    (body : ∀ p e s m args below meth c D cA B0 ad0, hp_E p s m args meth c cc maxL own hp_ws D cA B0 → meth.sig.returnType = ret → meth.name = y.name → hp_V p l e rm s m args below meth c (fun ad0 => MQ below (hp_Q D cA B0 ad0 x post) args s mc ms (fun q => B0 ≤ q)) D cA B0 maxL ad0 x 0 0 x 0 lv []) :
    hp_C l y (Cond.code y cc maxL ret :: hp_ws) rm av x post mc ms := by
  intro D cA B0 ad hok
  subst ho
  refine Met.ofW (cc := cc) (maxL := maxL) (ret := ret) hy rfl ?_
  intro p e s m args below meth c s₁ B hml hv
  obtain ⟨rfl, hG, hK⟩ := hv
  have hl := lv_entry (av.map (hp_c ad)) (n := maxL) (by rw [hp_len_eq]; exact hlen)
  rw [lg_entry_eq]
  rw [hp_args_cl, hlv] at hl
  exact body p e s m _ below meth c D cA B0 ad ⟨⟨B.exec, B.bytes, hml, findClass_of_methodNamed B.named, fun w hw => atoms_spec (ws := Cond.code y cc maxL ret :: hp_ws) B.pre w (List.mem_cons_of_mem _ hw)⟩, hK, B.notSynchronized, hG.1⟩ B.returns (name_of_methodNamed B.named B.method).1 ad s.heap [] _ hG (fun t h => ⟨h, rfl⟩) (by rw [← hlv]; exact hp_args_ok hok) trivial va_S.rf hl
/-- what a method's answer is: an int, a long, nothing; the shape stays -/
def hp_pI (P : Int32 → hp_S → Prop) : Option hp_A → hp_S → Prop := fun v x => ∃ r, v = some (aI r) ∧ hp_sh x ∧ P r x
def hp_pL (P : Int64 → hp_S → Prop) : Option hp_A → hp_S → Prop := fun v x => ∃ r, v = some (aL r) ∧ hp_sh x ∧ P r x
def hp_pV (P : hp_S → Prop) : Option hp_A → hp_S → Prop := fun v x => v = none ∧ hp_sh x ∧ P x
/-- a constructor's: the shape isn't whole yet -/
def hp_p0 (P : hp_S → Prop) : Option hp_A → hp_S → Prop := fun v x => v = none ∧ P x
theorem hp_sh_uR {x : hp_S} {t : hp_T} {k : Nat} {v : Option hp_T} (h : hp_ex t k = none) (hs : hp_sh x) : hp_sh (hp_uR x t k v) := by
  intro t1 k1 t2 he hl
  have h0 := hs t1 k1 t2 he hl
  simp only [hp_uR]
  split
  · rename_i e
    rw [e.1, e.2, h] at he
    cases he
  · exact h0
section HV
variable {p : Program} {l : Launch} {e : Env} {R : Room} {s : State} {m : MethodId} {args : Array Value} {below : List Frame} {meth : Method} {c : Code} {Q : (hp_T → Nat) → State → Prop} {D : va_G} {cA : Nat → ClassId} {B0 nL cells slots : Nat} {ad0 : hp_T → Nat} {x0 x : hp_S} {lv : List (Nat × hp_A)}
variable {cc : ByteArray} {own : String} {Ts : List Cond} {pc : Nat} {rest : List hp_A}
theorem hv_widen {k n : Nat} (h1 : cells ≤ k) (h2 : slots ≤ n) (kk : hp_V p l e R s m args below meth c Q D cA B0 nL ad0 x0 k n x pc lv rest) : hp_V p l e R s m args below meth c Q D cA B0 nL ad0 x0 cells slots x pc lv rest := fun ad H locs ls hG hx0 hl0 hst hS hl => W.widen h1 h2 (kk ad H locs ls hG hx0 hl0 hst hS hl)
theorem hv_lv {lv' : List (Nat × hp_A)} (ks : List Nat) (hk0 : ks.filterMap (fun k => lv[k]?) = lv') (kk : hp_V p l e R s m args below meth c Q D cA B0 nL ad0 x0 cells slots x pc lv' rest) : hp_V p l e R s m args below meth c Q D cA B0 nL ad0 x0 cells slots x pc lv rest := by
  have hk : ∀ q ∈ lv', q ∈ lv := fun q hq => by
    rw [← hk0] at hq
    obtain ⟨k, -, hk⟩ := List.mem_filterMap.mp hq
    exact List.mem_of_getElem? hk
  exact fun ad H locs ls hG hx0 hl0 hst hS hl => kk ad H locs ls hG hx0 (fun q h => hl0 q (hk q h)) hst hS ⟨hl.1, hl.2.1, fun q hq => by
    obtain ⟨r, h1, h2⟩ := List.mem_map.mp hq
    exact hl.2.2 q (List.mem_map.mpr ⟨r, hk r h1, h2⟩)⟩
theorem hv_iconst (E : hp_E p s m args meth c cc nL own Ts D cA B0) {n : Int} {v : Int32} (hdg : decode cc pc = .ok (.iconst n, 1)) (hv : Int32.ofInt n = v) (k : hp_V p l e R s m args below meth c Q D cA B0 nL ad0 x0 cells slots x (pc + 1) lv (aI v :: rest)) : hp_V p l e R s m args below meth c Q D cA B0 nL ad0 x0 cells slots x pc lv rest := fun ad H locs ls hG hx0 hl0 hst hS hl => lv_iconst E.1.1 E.1.2.1 hdg hv (k ad H locs ls hG hx0 hl0 ⟨trivial, hst⟩ hS hl)
theorem hv_bipush (E : hp_E p s m args meth c cc nL own Ts D cA B0) {n : Int} {v : Int32} (hdg : decode cc pc = .ok (.bipush n, 2)) (hv : (Int8.ofInt n).toInt32 = v) (k : hp_V p l e R s m args below meth c Q D cA B0 nL ad0 x0 cells slots x (pc + 2) lv (aI v :: rest)) : hp_V p l e R s m args below meth c Q D cA B0 nL ad0 x0 cells slots x pc lv rest := fun ad H locs ls hG hx0 hl0 hst hS hl => lv_bipush E.1.1 E.1.2.1 hdg hv (k ad H locs ls hG hx0 hl0 ⟨trivial, hst⟩ hS hl)
theorem hv_sipush (E : hp_E p s m args meth c cc nL own Ts D cA B0) {n : Int} {v : Int32} (hdg : decode cc pc = .ok (.sipush n, 3)) (hv : (Int16.ofInt n).toInt32 = v) (k : hp_V p l e R s m args below meth c Q D cA B0 nL ad0 x0 cells slots x (pc + 3) lv (aI v :: rest)) : hp_V p l e R s m args below meth c Q D cA B0 nL ad0 x0 cells slots x pc lv rest := fun ad H locs ls hG hx0 hl0 hst hS hl => lv_sipush E.1.1 E.1.2.1 hdg hv (k ad H locs ls hG hx0 hl0 ⟨trivial, hst⟩ hS hl)
theorem hv_lconst (E : hp_E p s m args meth c cc nL own Ts D cA B0) {n : Fin 2} {v : Int64} (hdg : decode cc pc = .ok (.lconst n, 1)) (hv : Int64.ofNat (n : Nat) = v) (k : hp_V p l e R s m args below meth c Q D cA B0 nL ad0 x0 cells slots x (pc + 1) lv (aL v :: rest)) : hp_V p l e R s m args below meth c Q D cA B0 nL ad0 x0 cells slots x pc lv rest := fun ad H locs ls hG hx0 hl0 hst hS hl => lv_lconst E.1.1 E.1.2.1 hdg hv (k ad H locs ls hG hx0 hl0 ⟨trivial, hst⟩ hS hl)
theorem hv_iadd (E : hp_E p s m args meth c cc nL own Ts D cA B0) {y z v : Int32} (hdg : decode cc pc = .ok (.iadd, 1)) (hv : z + y = v) (k : hp_V p l e R s m args below meth c Q D cA B0 nL ad0 x0 cells slots x (pc + 1) lv (aI v :: rest)) : hp_V p l e R s m args below meth c Q D cA B0 nL ad0 x0 cells slots x pc lv (aI y :: aI z :: rest) := by
  subst hv
  exact fun ad H locs ls hG hx0 hl0 hst hS hl => lv_iadd E.1.1 E.1.2.1 hdg (k ad H locs ls hG hx0 hl0 ⟨trivial, hst.2.2⟩ hS hl)
theorem hv_isub (E : hp_E p s m args meth c cc nL own Ts D cA B0) {y z v : Int32} (hdg : decode cc pc = .ok (.isub, 1)) (hv : z - y = v) (k : hp_V p l e R s m args below meth c Q D cA B0 nL ad0 x0 cells slots x (pc + 1) lv (aI v :: rest)) : hp_V p l e R s m args below meth c Q D cA B0 nL ad0 x0 cells slots x pc lv (aI y :: aI z :: rest) := by
  subst hv
  exact fun ad H locs ls hG hx0 hl0 hst hS hl => lv_isub E.1.1 E.1.2.1 hdg (k ad H locs ls hG hx0 hl0 ⟨trivial, hst.2.2⟩ hS hl)
theorem hv_imul (E : hp_E p s m args meth c cc nL own Ts D cA B0) {y z v : Int32} (hdg : decode cc pc = .ok (.imul, 1)) (hv : z * y = v) (k : hp_V p l e R s m args below meth c Q D cA B0 nL ad0 x0 cells slots x (pc + 1) lv (aI v :: rest)) : hp_V p l e R s m args below meth c Q D cA B0 nL ad0 x0 cells slots x pc lv (aI y :: aI z :: rest) := by
  subst hv
  exact fun ad H locs ls hG hx0 hl0 hst hS hl => lv_imul E.1.1 E.1.2.1 hdg (k ad H locs ls hG hx0 hl0 ⟨trivial, hst.2.2⟩ hS hl)
theorem hv_iand (E : hp_E p s m args meth c cc nL own Ts D cA B0) {y z v : Int32} (hdg : decode cc pc = .ok (.iand, 1)) (hv : z &&& y = v) (k : hp_V p l e R s m args below meth c Q D cA B0 nL ad0 x0 cells slots x (pc + 1) lv (aI v :: rest)) : hp_V p l e R s m args below meth c Q D cA B0 nL ad0 x0 cells slots x pc lv (aI y :: aI z :: rest) := by
  subst hv
  exact fun ad H locs ls hG hx0 hl0 hst hS hl => lv_iand E.1.1 E.1.2.1 hdg (k ad H locs ls hG hx0 hl0 ⟨trivial, hst.2.2⟩ hS hl)
theorem hv_ior (E : hp_E p s m args meth c cc nL own Ts D cA B0) {y z v : Int32} (hdg : decode cc pc = .ok (.ior, 1)) (hv : z ||| y = v) (k : hp_V p l e R s m args below meth c Q D cA B0 nL ad0 x0 cells slots x (pc + 1) lv (aI v :: rest)) : hp_V p l e R s m args below meth c Q D cA B0 nL ad0 x0 cells slots x pc lv (aI y :: aI z :: rest) := by
  subst hv
  exact fun ad H locs ls hG hx0 hl0 hst hS hl => lv_ior E.1.1 E.1.2.1 hdg (k ad H locs ls hG hx0 hl0 ⟨trivial, hst.2.2⟩ hS hl)
theorem hv_ixor (E : hp_E p s m args meth c cc nL own Ts D cA B0) {y z v : Int32} (hdg : decode cc pc = .ok (.ixor, 1)) (hv : z ^^^ y = v) (k : hp_V p l e R s m args below meth c Q D cA B0 nL ad0 x0 cells slots x (pc + 1) lv (aI v :: rest)) : hp_V p l e R s m args below meth c Q D cA B0 nL ad0 x0 cells slots x pc lv (aI y :: aI z :: rest) := by
  subst hv
  exact fun ad H locs ls hG hx0 hl0 hst hS hl => lv_ixor E.1.1 E.1.2.1 hdg (k ad H locs ls hG hx0 hl0 ⟨trivial, hst.2.2⟩ hS hl)
theorem hv_ishl (E : hp_E p s m args meth c cc nL own Ts D cA B0) {y z v : Int32} (hdg : decode cc pc = .ok (.ishl, 1)) (hv : z <<< (y &&& 31) = v) (k : hp_V p l e R s m args below meth c Q D cA B0 nL ad0 x0 cells slots x (pc + 1) lv (aI v :: rest)) : hp_V p l e R s m args below meth c Q D cA B0 nL ad0 x0 cells slots x pc lv (aI y :: aI z :: rest) := by
  subst hv
  exact fun ad H locs ls hG hx0 hl0 hst hS hl => lv_ishl E.1.1 E.1.2.1 hdg (k ad H locs ls hG hx0 hl0 ⟨trivial, hst.2.2⟩ hS hl)
theorem hv_ishr (E : hp_E p s m args meth c cc nL own Ts D cA B0) {y z v : Int32} (hdg : decode cc pc = .ok (.ishr, 1)) (hv : z >>> (y &&& 31) = v) (k : hp_V p l e R s m args below meth c Q D cA B0 nL ad0 x0 cells slots x (pc + 1) lv (aI v :: rest)) : hp_V p l e R s m args below meth c Q D cA B0 nL ad0 x0 cells slots x pc lv (aI y :: aI z :: rest) := by
  subst hv
  exact fun ad H locs ls hG hx0 hl0 hst hS hl => lv_ishr E.1.1 E.1.2.1 hdg (k ad H locs ls hG hx0 hl0 ⟨trivial, hst.2.2⟩ hS hl)
theorem hv_ladd (E : hp_E p s m args meth c cc nL own Ts D cA B0) {y z v : Int64} (hdg : decode cc pc = .ok (.ladd, 1)) (hv : z + y = v) (k : hp_V p l e R s m args below meth c Q D cA B0 nL ad0 x0 cells slots x (pc + 1) lv (aL v :: rest)) : hp_V p l e R s m args below meth c Q D cA B0 nL ad0 x0 cells slots x pc lv (aL y :: aL z :: rest) := by
  subst hv
  exact fun ad H locs ls hG hx0 hl0 hst hS hl => lv_ladd E.1.1 E.1.2.1 hdg (k ad H locs ls hG hx0 hl0 ⟨trivial, hst.2.2⟩ hS hl)
theorem hv_lsub (E : hp_E p s m args meth c cc nL own Ts D cA B0) {y z v : Int64} (hdg : decode cc pc = .ok (.lsub, 1)) (hv : z - y = v) (k : hp_V p l e R s m args below meth c Q D cA B0 nL ad0 x0 cells slots x (pc + 1) lv (aL v :: rest)) : hp_V p l e R s m args below meth c Q D cA B0 nL ad0 x0 cells slots x pc lv (aL y :: aL z :: rest) := by
  subst hv
  exact fun ad H locs ls hG hx0 hl0 hst hS hl => lv_lsub E.1.1 E.1.2.1 hdg (k ad H locs ls hG hx0 hl0 ⟨trivial, hst.2.2⟩ hS hl)
theorem hv_lmul (E : hp_E p s m args meth c cc nL own Ts D cA B0) {y z v : Int64} (hdg : decode cc pc = .ok (.lmul, 1)) (hv : z * y = v) (k : hp_V p l e R s m args below meth c Q D cA B0 nL ad0 x0 cells slots x (pc + 1) lv (aL v :: rest)) : hp_V p l e R s m args below meth c Q D cA B0 nL ad0 x0 cells slots x pc lv (aL y :: aL z :: rest) := by
  subst hv
  exact fun ad H locs ls hG hx0 hl0 hst hS hl => lv_lmul E.1.1 E.1.2.1 hdg (k ad H locs ls hG hx0 hl0 ⟨trivial, hst.2.2⟩ hS hl)
theorem hv_land (E : hp_E p s m args meth c cc nL own Ts D cA B0) {y z v : Int64} (hdg : decode cc pc = .ok (.land, 1)) (hv : z &&& y = v) (k : hp_V p l e R s m args below meth c Q D cA B0 nL ad0 x0 cells slots x (pc + 1) lv (aL v :: rest)) : hp_V p l e R s m args below meth c Q D cA B0 nL ad0 x0 cells slots x pc lv (aL y :: aL z :: rest) := by
  subst hv
  exact fun ad H locs ls hG hx0 hl0 hst hS hl => lv_land E.1.1 E.1.2.1 hdg (k ad H locs ls hG hx0 hl0 ⟨trivial, hst.2.2⟩ hS hl)
theorem hv_lor (E : hp_E p s m args meth c cc nL own Ts D cA B0) {y z v : Int64} (hdg : decode cc pc = .ok (.lor, 1)) (hv : z ||| y = v) (k : hp_V p l e R s m args below meth c Q D cA B0 nL ad0 x0 cells slots x (pc + 1) lv (aL v :: rest)) : hp_V p l e R s m args below meth c Q D cA B0 nL ad0 x0 cells slots x pc lv (aL y :: aL z :: rest) := by
  subst hv
  exact fun ad H locs ls hG hx0 hl0 hst hS hl => lv_lor E.1.1 E.1.2.1 hdg (k ad H locs ls hG hx0 hl0 ⟨trivial, hst.2.2⟩ hS hl)
theorem hv_lxor (E : hp_E p s m args meth c cc nL own Ts D cA B0) {y z v : Int64} (hdg : decode cc pc = .ok (.lxor, 1)) (hv : z ^^^ y = v) (k : hp_V p l e R s m args below meth c Q D cA B0 nL ad0 x0 cells slots x (pc + 1) lv (aL v :: rest)) : hp_V p l e R s m args below meth c Q D cA B0 nL ad0 x0 cells slots x pc lv (aL y :: aL z :: rest) := by
  subst hv
  exact fun ad H locs ls hG hx0 hl0 hst hS hl => lv_lxor E.1.1 E.1.2.1 hdg (k ad H locs ls hG hx0 hl0 ⟨trivial, hst.2.2⟩ hS hl)
theorem hv_lrem (E : hp_E p s m args meth c cc nL own Ts D cA B0) {y z v : Int64} (hdg : decode cc pc = .ok (.lrem, 1)) (hne : ¬ y = 0) (hv : z - z / y * y = v) (k : hp_V p l e R s m args below meth c Q D cA B0 nL ad0 x0 cells slots x (pc + 1) lv (aL v :: rest)) : hp_V p l e R s m args below meth c Q D cA B0 nL ad0 x0 cells slots x pc lv (aL y :: aL z :: rest) := by
  subst hv
  exact fun ad H locs ls hG hx0 hl0 hst hS hl => lv_lrem E.1.1 E.1.2.1 hdg hne (k ad H locs ls hG hx0 hl0 ⟨trivial, hst.2.2⟩ hS hl)
theorem hv_ldiv (E : hp_E p s m args meth c cc nL own Ts D cA B0) {y z v : Int64} (hdg : decode cc pc = .ok (.ldiv, 1)) (hne : ¬ y = 0) (hv : z / y = v) (k : hp_V p l e R s m args below meth c Q D cA B0 nL ad0 x0 cells slots x (pc + 1) lv (aL v :: rest)) : hp_V p l e R s m args below meth c Q D cA B0 nL ad0 x0 cells slots x pc lv (aL y :: aL z :: rest) := by
  subst hv
  exact fun ad H locs ls hG hx0 hl0 hst hS hl => lv_ldiv E.1.1 E.1.2.1 hdg hne (k ad H locs ls hG hx0 hl0 ⟨trivial, hst.2.2⟩ hS hl)
theorem hv_irem (E : hp_E p s m args meth c cc nL own Ts D cA B0) {y z v : Int32} (hdg : decode cc pc = .ok (.irem, 1)) (hne : ¬ y = 0) (hv : z - z / y * y = v) (k : hp_V p l e R s m args below meth c Q D cA B0 nL ad0 x0 cells slots x (pc + 1) lv (aI v :: rest)) : hp_V p l e R s m args below meth c Q D cA B0 nL ad0 x0 cells slots x pc lv (aI y :: aI z :: rest) := by
  subst hv
  exact fun ad H locs ls hG hx0 hl0 hst hS hl => lv_irem E.1.1 E.1.2.1 hdg hne (k ad H locs ls hG hx0 hl0 ⟨trivial, hst.2.2⟩ hS hl)
theorem hv_idiv (E : hp_E p s m args meth c cc nL own Ts D cA B0) {y z v : Int32} (hdg : decode cc pc = .ok (.idiv, 1)) (hne : ¬ y = 0) (hv : z / y = v) (k : hp_V p l e R s m args below meth c Q D cA B0 nL ad0 x0 cells slots x (pc + 1) lv (aI v :: rest)) : hp_V p l e R s m args below meth c Q D cA B0 nL ad0 x0 cells slots x pc lv (aI y :: aI z :: rest) := by
  subst hv
  exact fun ad H locs ls hG hx0 hl0 hst hS hl => lv_idiv E.1.1 E.1.2.1 hdg hne (k ad H locs ls hG hx0 hl0 ⟨trivial, hst.2.2⟩ hS hl)
theorem hv_iushr (E : hp_E p s m args meth c cc nL own Ts D cA B0) {y z v : Int32} (hdg : decode cc pc = .ok (.iushr, 1)) (hv : (z.toUInt32 >>> (y.toUInt32 &&& Int32.toUInt32 31)).toInt32 = v) (k : hp_V p l e R s m args below meth c Q D cA B0 nL ad0 x0 cells slots x (pc + 1) lv (aI v :: rest)) : hp_V p l e R s m args below meth c Q D cA B0 nL ad0 x0 cells slots x pc lv (aI y :: aI z :: rest) := fun ad H locs ls hG hx0 hl0 hst hS hl => lv_iushr E.1.1 E.1.2.1 hdg hv (k ad H locs ls hG hx0 hl0 ⟨trivial, hst.2.2⟩ hS hl)
theorem hv_lushr (E : hp_E p s m args meth c cc nL own Ts D cA B0) {y : Int32} {z v : Int64} (hdg : decode cc pc = .ok (.lushr, 1)) (hv : (z.toUInt64 >>> (y.toInt64.toUInt64 &&& Int64.toUInt64 63)).toInt64 = v) (k : hp_V p l e R s m args below meth c Q D cA B0 nL ad0 x0 cells slots x (pc + 1) lv (aL v :: rest)) : hp_V p l e R s m args below meth c Q D cA B0 nL ad0 x0 cells slots x pc lv (aI y :: aL z :: rest) := fun ad H locs ls hG hx0 hl0 hst hS hl => lv_lushr E.1.1 E.1.2.1 hdg hv (k ad H locs ls hG hx0 hl0 ⟨trivial, hst.2.2⟩ hS hl)
theorem hv_lshl (E : hp_E p s m args meth c cc nL own Ts D cA B0) {y : Int32} {z v : Int64} (hdg : decode cc pc = .ok (.lshl, 1)) (hv : z <<< (y.toInt64 &&& 63) = v) (k : hp_V p l e R s m args below meth c Q D cA B0 nL ad0 x0 cells slots x (pc + 1) lv (aL v :: rest)) : hp_V p l e R s m args below meth c Q D cA B0 nL ad0 x0 cells slots x pc lv (aI y :: aL z :: rest) := fun ad H locs ls hG hx0 hl0 hst hS hl => lv_lshl E.1.1 E.1.2.1 hdg hv (k ad H locs ls hG hx0 hl0 ⟨trivial, hst.2.2⟩ hS hl)
theorem hv_i2l (E : hp_E p s m args meth c cc nL own Ts D cA B0) {z : Int32} {v : Int64} (hdg : decode cc pc = .ok (.i2l, 1)) (hv : z.toInt64 = v) (k : hp_V p l e R s m args below meth c Q D cA B0 nL ad0 x0 cells slots x (pc + 1) lv (aL v :: rest)) : hp_V p l e R s m args below meth c Q D cA B0 nL ad0 x0 cells slots x pc lv (aI z :: rest) := fun ad H locs ls hG hx0 hl0 hst hS hl => lv_i2l E.1.1 E.1.2.1 hdg hv (k ad H locs ls hG hx0 hl0 ⟨trivial, hst.2⟩ hS hl)
theorem hv_l2i (E : hp_E p s m args meth c cc nL own Ts D cA B0) {z : Int64} {v : Int32} (hdg : decode cc pc = .ok (.l2i, 1)) (hv : z.toInt32 = v) (k : hp_V p l e R s m args below meth c Q D cA B0 nL ad0 x0 cells slots x (pc + 1) lv (aI v :: rest)) : hp_V p l e R s m args below meth c Q D cA B0 nL ad0 x0 cells slots x pc lv (aL z :: rest) := fun ad H locs ls hG hx0 hl0 hst hS hl => lv_l2i E.1.1 E.1.2.1 hdg hv (k ad H locs ls hG hx0 hl0 ⟨trivial, hst.2⟩ hS hl)
theorem hv_lcmp (E : hp_E p s m args meth c cc nL own Ts D cA B0) {y z : Int64} (hdg : decode cc pc = .ok (.lcmp, 1)) (k : hp_V p l e R s m args below meth c Q D cA B0 nL ad0 x0 cells slots x (pc + 1) lv (aI (lg_cmp z y) :: rest)) : hp_V p l e R s m args below meth c Q D cA B0 nL ad0 x0 cells slots x pc lv (aL y :: aL z :: rest) := fun ad H locs ls hG hx0 hl0 hst hS hl => W.lcmp E.1.1 E.1.2.1 hdg (k ad H locs ls hG hx0 hl0 ⟨trivial, hst.2.2⟩ hS hl)
theorem hv_ldc (E : hp_E p s m args meth c cc nL own Ts D cA B0) {index : Nat} {v : Int32} (hc : Cond.constant own index v ∈ Ts) (hdg : decode cc pc = .ok (.ldc index, 2)) (k : hp_V p l e R s m args below meth c Q D cA B0 nL ad0 x0 cells slots x (pc + 2) lv (aI v :: rest)) : hp_V p l e R s m args below meth c Q D cA B0 nL ad0 x0 cells slots x pc lv rest := fun ad H locs ls hG hx0 hl0 hst hS hl => lv_ldc E.1.1 E.1.2.1 E.1.2.2.2.1 (E.1.2.2.2.2 _ hc) hdg (k ad H locs ls hG hx0 hl0 ⟨trivial, hst⟩ hS hl)
theorem hv_ldc2 (E : hp_E p s m args meth c cc nL own Ts D cA B0) {index : Nat} {v : Int64} (hc : Cond.constantLong own index v ∈ Ts) (hdg : decode cc pc = .ok (.ldc2_w index, 3)) (k : hp_V p l e R s m args below meth c Q D cA B0 nL ad0 x0 cells slots x (pc + 3) lv (aL v :: rest)) : hp_V p l e R s m args below meth c Q D cA B0 nL ad0 x0 cells slots x pc lv rest := fun ad H locs ls hG hx0 hl0 hst hS hl => lv_ldc2 E.1.1 E.1.2.1 E.1.2.2.2.1 (E.1.2.2.2.2 _ hc) hdg (k ad H locs ls hG hx0 hl0 ⟨trivial, hst⟩ hS hl)
theorem hv_dup (E : hp_E p s m args meth c cc nL own Ts D cA B0) {va : hp_A} (hdg : decode cc pc = .ok (.dup, 1)) (hc : hp_cat va = 1) (k : hp_V p l e R s m args below meth c Q D cA B0 nL ad0 x0 cells slots x (pc + 1) lv (va :: va :: rest)) : hp_V p l e R s m args below meth c Q D cA B0 nL ad0 x0 cells slots x pc lv (va :: rest) := fun ad H locs ls hG hx0 hl0 hst hS hl => lv_dup E.1.1 E.1.2.1 hdg (by rw [hp_cat_eq]; exact hc) (k ad H locs ls hG hx0 hl0 ⟨hst.1, hst⟩ hS hl)
theorem hv_pop (E : hp_E p s m args meth c cc nL own Ts D cA B0) {va : hp_A} (hdg : decode cc pc = .ok (.pop, 1)) (hc : hp_cat va = 1) (k : hp_V p l e R s m args below meth c Q D cA B0 nL ad0 x0 cells slots x (pc + 1) lv rest) : hp_V p l e R s m args below meth c Q D cA B0 nL ad0 x0 cells slots x pc lv (va :: rest) := fun ad H locs ls hG hx0 hl0 hst hS hl => lv_pop E.1.1 E.1.2.1 hdg (by rw [hp_cat_eq]; exact hc) (k ad H locs ls hG hx0 hl0 hst.2 hS hl)
theorem hv_null (E : hp_E p s m args meth c cc nL own Ts D cA B0) (hdg : decode cc pc = .ok (.aconst_null, 1)) (k : hp_V p l e R s m args below meth c Q D cA B0 nL ad0 x0 cells slots x (pc + 1) lv (aN :: rest)) : hp_V p l e R s m args below meth c Q D cA B0 nL ad0 x0 cells slots x pc lv rest := fun ad H locs ls hG hx0 hl0 hst hS hl => lv_null E.1.1 E.1.2.1 hdg (k ad H locs ls hG hx0 hl0 ⟨trivial, hst⟩ hS hl)
theorem hv_goto (E : hp_E p s m args meth c cc nL own Ts D cA B0) {off : Int} {tgt : Nat} (hdg : decode cc pc = .ok (.goto off, 3)) (ht : (pc : Int) + off = (tgt : Int)) (k : hp_V p l e R s m args below meth c Q D cA B0 nL ad0 x0 cells slots x tgt lv rest) : hp_V p l e R s m args below meth c Q D cA B0 nL ad0 x0 cells slots x pc lv rest := fun ad H locs ls hG hx0 hl0 hst hS hl => lv_goto E.1.1 E.1.2.1 hdg ht (k ad H locs ls hG hx0 hl0 hst hS hl)
theorem hv_if_eq (E : hp_E p s m args meth c cc nL own Ts D cA B0) {z : Int32} {off : Int} {tgt : Nat} (hdg : decode cc pc = .ok (.ifCond .eq off, 3)) (ht : (pc : Int) + off = (tgt : Int)) (kt : z = 0 → hp_V p l e R s m args below meth c Q D cA B0 nL ad0 x0 cells slots x tgt lv rest) (kf : ¬ z = 0 → hp_V p l e R s m args below meth c Q D cA B0 nL ad0 x0 cells slots x (pc + 3) lv rest) : hp_V p l e R s m args below meth c Q D cA B0 nL ad0 x0 cells slots x pc lv (aI z :: rest) := fun ad H locs ls hG hx0 hl0 hst hS hl => lv_if_eq E.1.1 E.1.2.1 hdg ht (fun h => kt h ad H locs ls hG hx0 hl0 hst.2 hS hl) (fun h => kf h ad H locs ls hG hx0 hl0 hst.2 hS hl)
theorem hv_if_ne (E : hp_E p s m args meth c cc nL own Ts D cA B0) {z : Int32} {off : Int} {tgt : Nat} (hdg : decode cc pc = .ok (.ifCond .ne off, 3)) (ht : (pc : Int) + off = (tgt : Int)) (kt : ¬ z = 0 → hp_V p l e R s m args below meth c Q D cA B0 nL ad0 x0 cells slots x tgt lv rest) (kf : z = 0 → hp_V p l e R s m args below meth c Q D cA B0 nL ad0 x0 cells slots x (pc + 3) lv rest) : hp_V p l e R s m args below meth c Q D cA B0 nL ad0 x0 cells slots x pc lv (aI z :: rest) := fun ad H locs ls hG hx0 hl0 hst hS hl => lv_if_ne E.1.1 E.1.2.1 hdg ht (fun h => kt h ad H locs ls hG hx0 hl0 hst.2 hS hl) (fun h => kf h ad H locs ls hG hx0 hl0 hst.2 hS hl)
theorem hv_if_lt (E : hp_E p s m args meth c cc nL own Ts D cA B0) {z : Int32} {off : Int} {tgt : Nat} (hdg : decode cc pc = .ok (.ifCond .lt off, 3)) (ht : (pc : Int) + off = (tgt : Int)) (kt : z < 0 → hp_V p l e R s m args below meth c Q D cA B0 nL ad0 x0 cells slots x tgt lv rest) (kf : ¬ z < 0 → hp_V p l e R s m args below meth c Q D cA B0 nL ad0 x0 cells slots x (pc + 3) lv rest) : hp_V p l e R s m args below meth c Q D cA B0 nL ad0 x0 cells slots x pc lv (aI z :: rest) := fun ad H locs ls hG hx0 hl0 hst hS hl => lv_if_lt E.1.1 E.1.2.1 hdg ht (fun h => kt h ad H locs ls hG hx0 hl0 hst.2 hS hl) (fun h => kf h ad H locs ls hG hx0 hl0 hst.2 hS hl)
theorem hv_if_ge (E : hp_E p s m args meth c cc nL own Ts D cA B0) {z : Int32} {off : Int} {tgt : Nat} (hdg : decode cc pc = .ok (.ifCond .ge off, 3)) (ht : (pc : Int) + off = (tgt : Int)) (kt : 0 ≤ z → hp_V p l e R s m args below meth c Q D cA B0 nL ad0 x0 cells slots x tgt lv rest) (kf : ¬ 0 ≤ z → hp_V p l e R s m args below meth c Q D cA B0 nL ad0 x0 cells slots x (pc + 3) lv rest) : hp_V p l e R s m args below meth c Q D cA B0 nL ad0 x0 cells slots x pc lv (aI z :: rest) := fun ad H locs ls hG hx0 hl0 hst hS hl => lv_if_ge E.1.1 E.1.2.1 hdg ht (fun h => kt h ad H locs ls hG hx0 hl0 hst.2 hS hl) (fun h => kf h ad H locs ls hG hx0 hl0 hst.2 hS hl)
theorem hv_if_gt (E : hp_E p s m args meth c cc nL own Ts D cA B0) {z : Int32} {off : Int} {tgt : Nat} (hdg : decode cc pc = .ok (.ifCond .gt off, 3)) (ht : (pc : Int) + off = (tgt : Int)) (kt : 0 < z → hp_V p l e R s m args below meth c Q D cA B0 nL ad0 x0 cells slots x tgt lv rest) (kf : ¬ 0 < z → hp_V p l e R s m args below meth c Q D cA B0 nL ad0 x0 cells slots x (pc + 3) lv rest) : hp_V p l e R s m args below meth c Q D cA B0 nL ad0 x0 cells slots x pc lv (aI z :: rest) := fun ad H locs ls hG hx0 hl0 hst hS hl => lv_if_gt E.1.1 E.1.2.1 hdg ht (fun h => kt h ad H locs ls hG hx0 hl0 hst.2 hS hl) (fun h => kf h ad H locs ls hG hx0 hl0 hst.2 hS hl)
theorem hv_if_le (E : hp_E p s m args meth c cc nL own Ts D cA B0) {z : Int32} {off : Int} {tgt : Nat} (hdg : decode cc pc = .ok (.ifCond .le off, 3)) (ht : (pc : Int) + off = (tgt : Int)) (kt : z ≤ 0 → hp_V p l e R s m args below meth c Q D cA B0 nL ad0 x0 cells slots x tgt lv rest) (kf : ¬ z ≤ 0 → hp_V p l e R s m args below meth c Q D cA B0 nL ad0 x0 cells slots x (pc + 3) lv rest) : hp_V p l e R s m args below meth c Q D cA B0 nL ad0 x0 cells slots x pc lv (aI z :: rest) := fun ad H locs ls hG hx0 hl0 hst hS hl => lv_if_le E.1.1 E.1.2.1 hdg ht (fun h => kt h ad H locs ls hG hx0 hl0 hst.2 hS hl) (fun h => kf h ad H locs ls hG hx0 hl0 hst.2 hS hl)
theorem hv_icmp_eq (E : hp_E p s m args meth c cc nL own Ts D cA B0) {y z : Int32} {off : Int} {tgt : Nat} (hdg : decode cc pc = .ok (.if_icmp .eq off, 3)) (ht : (pc : Int) + off = (tgt : Int)) (kt : z = y → hp_V p l e R s m args below meth c Q D cA B0 nL ad0 x0 cells slots x tgt lv rest) (kf : ¬ z = y → hp_V p l e R s m args below meth c Q D cA B0 nL ad0 x0 cells slots x (pc + 3) lv rest) : hp_V p l e R s m args below meth c Q D cA B0 nL ad0 x0 cells slots x pc lv (aI y :: aI z :: rest) := fun ad H locs ls hG hx0 hl0 hst hS hl => lv_icmp_eq E.1.1 E.1.2.1 hdg ht (fun h => kt h ad H locs ls hG hx0 hl0 hst.2.2 hS hl) (fun h => kf h ad H locs ls hG hx0 hl0 hst.2.2 hS hl)
theorem hv_icmp_ne (E : hp_E p s m args meth c cc nL own Ts D cA B0) {y z : Int32} {off : Int} {tgt : Nat} (hdg : decode cc pc = .ok (.if_icmp .ne off, 3)) (ht : (pc : Int) + off = (tgt : Int)) (kt : ¬ z = y → hp_V p l e R s m args below meth c Q D cA B0 nL ad0 x0 cells slots x tgt lv rest) (kf : z = y → hp_V p l e R s m args below meth c Q D cA B0 nL ad0 x0 cells slots x (pc + 3) lv rest) : hp_V p l e R s m args below meth c Q D cA B0 nL ad0 x0 cells slots x pc lv (aI y :: aI z :: rest) := fun ad H locs ls hG hx0 hl0 hst hS hl => lv_icmp_ne E.1.1 E.1.2.1 hdg ht (fun h => kt h ad H locs ls hG hx0 hl0 hst.2.2 hS hl) (fun h => kf h ad H locs ls hG hx0 hl0 hst.2.2 hS hl)
theorem hv_icmp_lt (E : hp_E p s m args meth c cc nL own Ts D cA B0) {y z : Int32} {off : Int} {tgt : Nat} (hdg : decode cc pc = .ok (.if_icmp .lt off, 3)) (ht : (pc : Int) + off = (tgt : Int)) (kt : z < y → hp_V p l e R s m args below meth c Q D cA B0 nL ad0 x0 cells slots x tgt lv rest) (kf : ¬ z < y → hp_V p l e R s m args below meth c Q D cA B0 nL ad0 x0 cells slots x (pc + 3) lv rest) : hp_V p l e R s m args below meth c Q D cA B0 nL ad0 x0 cells slots x pc lv (aI y :: aI z :: rest) := fun ad H locs ls hG hx0 hl0 hst hS hl => lv_icmp_lt E.1.1 E.1.2.1 hdg ht (fun h => kt h ad H locs ls hG hx0 hl0 hst.2.2 hS hl) (fun h => kf h ad H locs ls hG hx0 hl0 hst.2.2 hS hl)
theorem hv_icmp_ge (E : hp_E p s m args meth c cc nL own Ts D cA B0) {y z : Int32} {off : Int} {tgt : Nat} (hdg : decode cc pc = .ok (.if_icmp .ge off, 3)) (ht : (pc : Int) + off = (tgt : Int)) (kt : y ≤ z → hp_V p l e R s m args below meth c Q D cA B0 nL ad0 x0 cells slots x tgt lv rest) (kf : ¬ y ≤ z → hp_V p l e R s m args below meth c Q D cA B0 nL ad0 x0 cells slots x (pc + 3) lv rest) : hp_V p l e R s m args below meth c Q D cA B0 nL ad0 x0 cells slots x pc lv (aI y :: aI z :: rest) := fun ad H locs ls hG hx0 hl0 hst hS hl => lv_icmp_ge E.1.1 E.1.2.1 hdg ht (fun h => kt h ad H locs ls hG hx0 hl0 hst.2.2 hS hl) (fun h => kf h ad H locs ls hG hx0 hl0 hst.2.2 hS hl)
theorem hv_icmp_gt (E : hp_E p s m args meth c cc nL own Ts D cA B0) {y z : Int32} {off : Int} {tgt : Nat} (hdg : decode cc pc = .ok (.if_icmp .gt off, 3)) (ht : (pc : Int) + off = (tgt : Int)) (kt : y < z → hp_V p l e R s m args below meth c Q D cA B0 nL ad0 x0 cells slots x tgt lv rest) (kf : ¬ y < z → hp_V p l e R s m args below meth c Q D cA B0 nL ad0 x0 cells slots x (pc + 3) lv rest) : hp_V p l e R s m args below meth c Q D cA B0 nL ad0 x0 cells slots x pc lv (aI y :: aI z :: rest) := fun ad H locs ls hG hx0 hl0 hst hS hl => lv_icmp_gt E.1.1 E.1.2.1 hdg ht (fun h => kt h ad H locs ls hG hx0 hl0 hst.2.2 hS hl) (fun h => kf h ad H locs ls hG hx0 hl0 hst.2.2 hS hl)
theorem hv_icmp_le (E : hp_E p s m args meth c cc nL own Ts D cA B0) {y z : Int32} {off : Int} {tgt : Nat} (hdg : decode cc pc = .ok (.if_icmp .le off, 3)) (ht : (pc : Int) + off = (tgt : Int)) (kt : z ≤ y → hp_V p l e R s m args below meth c Q D cA B0 nL ad0 x0 cells slots x tgt lv rest) (kf : ¬ z ≤ y → hp_V p l e R s m args below meth c Q D cA B0 nL ad0 x0 cells slots x (pc + 3) lv rest) : hp_V p l e R s m args below meth c Q D cA B0 nL ad0 x0 cells slots x pc lv (aI y :: aI z :: rest) := fun ad H locs ls hG hx0 hl0 hst hS hl => lv_icmp_le E.1.1 E.1.2.1 hdg ht (fun h => kt h ad H locs ls hG hx0 hl0 hst.2.2 hS hl) (fun h => kf h ad H locs ls hG hx0 hl0 hst.2.2 hS hl)
theorem hv_ifnull (E : hp_E p s m args meth c cc nL own Ts D cA B0) {t : hp_T} {off : Int} (hdg : decode cc pc = .ok (.ifnull off, 3)) (k : hp_V p l e R s m args below meth c Q D cA B0 nL ad0 x0 cells slots x (pc + 3) lv rest) : hp_V p l e R s m args below meth c Q D cA B0 nL ad0 x0 cells slots x pc lv (aR t :: rest) := fun ad H locs ls hG hx0 hl0 hst hS hl => lv_ifnull E.1.1 E.1.2.1 hdg (k ad H locs ls hG hx0 hl0 hst.2 hS hl)
theorem hv_ifnonnull (E : hp_E p s m args meth c cc nL own Ts D cA B0) {t : hp_T} {off : Int} {tgt : Nat} (hdg : decode cc pc = .ok (.ifnonnull off, 3)) (ht : (pc : Int) + off = (tgt : Int)) (k : hp_V p l e R s m args below meth c Q D cA B0 nL ad0 x0 cells slots x tgt lv rest) : hp_V p l e R s m args below meth c Q D cA B0 nL ad0 x0 cells slots x pc lv (aR t :: rest) := fun ad H locs ls hG hx0 hl0 hst hS hl => lv_ifnonnull E.1.1 E.1.2.1 hdg ht (k ad H locs ls hG hx0 hl0 hst.2 hS hl)
theorem hv_ifnullN (E : hp_E p s m args meth c cc nL own Ts D cA B0) {off : Int} {tgt : Nat} (hdg : decode cc pc = .ok (.ifnull off, 3)) (ht : (pc : Int) + off = (tgt : Int)) (k : hp_V p l e R s m args below meth c Q D cA B0 nL ad0 x0 cells slots x tgt lv rest) : hp_V p l e R s m args below meth c Q D cA B0 nL ad0 x0 cells slots x pc lv (aN :: rest) := fun ad H locs ls hG hx0 hl0 hst hS hl => lv_ifnullN E.1.1 E.1.2.1 hdg ht (k ad H locs ls hG hx0 hl0 hst.2 hS hl)
theorem hv_ifnonnullN (E : hp_E p s m args meth c cc nL own Ts D cA B0) {off : Int} (hdg : decode cc pc = .ok (.ifnonnull off, 3)) (k : hp_V p l e R s m args below meth c Q D cA B0 nL ad0 x0 cells slots x (pc + 3) lv rest) : hp_V p l e R s m args below meth c Q D cA B0 nL ad0 x0 cells slots x pc lv (aN :: rest) := fun ad H locs ls hG hx0 hl0 hst hS hl => lv_ifnonnullN E.1.1 E.1.2.1 hdg (k ad H locs ls hG hx0 hl0 hst.2 hS hl)
theorem hv_tableIn (E : hp_E p s m args meth c cc nL own Ts D cA B0) {dflt lo hi : Int} {offs : Array Int} {len : Nat} {z : Int32} {off : Int} {tgt : Nat} (hdg : decode cc pc = .ok (.tableswitch dflt lo hi offs, len)) (h1 : ¬ z.toInt < lo) (h2 : ¬ hi < z.toInt) (ho : offs[(z.toInt - lo).toNat]? = some off) (ht : (pc : Int) + off = (tgt : Int)) (k : hp_V p l e R s m args below meth c Q D cA B0 nL ad0 x0 cells slots x tgt lv rest) : hp_V p l e R s m args below meth c Q D cA B0 nL ad0 x0 cells slots x pc lv (aI z :: rest) := fun ad H locs ls hG hx0 hl0 hst hS hl => lv_tableIn E.1.1 E.1.2.1 hdg h1 h2 ho ht (k ad H locs ls hG hx0 hl0 hst.2 hS hl)
theorem hv_tableOut (E : hp_E p s m args meth c cc nL own Ts D cA B0) {dflt lo hi : Int} {offs : Array Int} {len : Nat} {z : Int32} {tgt : Nat} (hdg : decode cc pc = .ok (.tableswitch dflt lo hi offs, len)) (h : z.toInt < lo ∨ hi < z.toInt) (ht : (pc : Int) + dflt = (tgt : Int)) (k : hp_V p l e R s m args below meth c Q D cA B0 nL ad0 x0 cells slots x tgt lv rest) : hp_V p l e R s m args below meth c Q D cA B0 nL ad0 x0 cells slots x pc lv (aI z :: rest) := fun ad H locs ls hG hx0 hl0 hst hS hl => lv_tableOut E.1.1 E.1.2.1 hdg h ht (k ad H locs ls hG hx0 hl0 hst.2 hS hl)
theorem hv_iload_n (E : hp_E p s m args meth c cc nL own Ts D cA B0) {n : Fin 4} {i : Nat} {v : Int32} (hdg : decode cc pc = .ok (.iload_n n, 1)) (hi : (n : Nat) = i) (j : Nat) (hj : lv[j]? = some (i, aI v)) (k : hp_V p l e R s m args below meth c Q D cA B0 nL ad0 x0 cells slots x (pc + 1) lv (aI v :: rest)) : hp_V p l e R s m args below meth c Q D cA B0 nL ad0 x0 cells slots x pc lv rest := fun ad H locs ls hG hx0 hl0 hst hS hl => lv_iload_n E.1.1 E.1.2.1 hdg hi (lv_at hl j (hp_cl_at hj)) (k ad H locs ls hG hx0 hl0 ⟨trivial, hst⟩ hS hl)
theorem hv_iload (E : hp_E p s m args meth c cc nL own Ts D cA B0) {i : Nat} {v : Int32} (hdg : decode cc pc = .ok (.iload i, 2)) (j : Nat) (hj : lv[j]? = some (i, aI v)) (k : hp_V p l e R s m args below meth c Q D cA B0 nL ad0 x0 cells slots x (pc + 2) lv (aI v :: rest)) : hp_V p l e R s m args below meth c Q D cA B0 nL ad0 x0 cells slots x pc lv rest := fun ad H locs ls hG hx0 hl0 hst hS hl => lv_iload E.1.1 E.1.2.1 hdg (lv_at hl j (hp_cl_at hj)) (k ad H locs ls hG hx0 hl0 ⟨trivial, hst⟩ hS hl)
theorem hv_lload_n (E : hp_E p s m args meth c cc nL own Ts D cA B0) {n : Fin 4} {i : Nat} {v : Int64} (hdg : decode cc pc = .ok (.lload_n n, 1)) (hi : (n : Nat) = i) (j : Nat) (hj : lv[j]? = some (i, aL v)) (k : hp_V p l e R s m args below meth c Q D cA B0 nL ad0 x0 cells slots x (pc + 1) lv (aL v :: rest)) : hp_V p l e R s m args below meth c Q D cA B0 nL ad0 x0 cells slots x pc lv rest := fun ad H locs ls hG hx0 hl0 hst hS hl => lv_lload_n E.1.1 E.1.2.1 hdg hi (lv_at hl j (hp_cl_at hj)) (k ad H locs ls hG hx0 hl0 ⟨trivial, hst⟩ hS hl)
theorem hv_lload (E : hp_E p s m args meth c cc nL own Ts D cA B0) {i : Nat} {v : Int64} (hdg : decode cc pc = .ok (.lload i, 2)) (j : Nat) (hj : lv[j]? = some (i, aL v)) (k : hp_V p l e R s m args below meth c Q D cA B0 nL ad0 x0 cells slots x (pc + 2) lv (aL v :: rest)) : hp_V p l e R s m args below meth c Q D cA B0 nL ad0 x0 cells slots x pc lv rest := fun ad H locs ls hG hx0 hl0 hst hS hl => lv_lload E.1.1 E.1.2.1 hdg (lv_at hl j (hp_cl_at hj)) (k ad H locs ls hG hx0 hl0 ⟨trivial, hst⟩ hS hl)
theorem hv_aload_n (E : hp_E p s m args meth c cc nL own Ts D cA B0) {n : Fin 4} {i : Nat} {v : hp_T} (hdg : decode cc pc = .ok (.aload_n n, 1)) (hi : (n : Nat) = i) (j : Nat) (hj : lv[j]? = some (i, aR v)) (k : hp_V p l e R s m args below meth c Q D cA B0 nL ad0 x0 cells slots x (pc + 1) lv (aR v :: rest)) : hp_V p l e R s m args below meth c Q D cA B0 nL ad0 x0 cells slots x pc lv rest := fun ad H locs ls hG hx0 hl0 hst hS hl => lv_aload_n E.1.1 E.1.2.1 hdg hi (lv_at hl j (hp_cl_at hj)) (k ad H locs ls hG hx0 hl0 ⟨hp_okl_at hl0 hj, hst⟩ hS hl)
theorem hv_aload (E : hp_E p s m args meth c cc nL own Ts D cA B0) {i : Nat} {v : hp_T} (hdg : decode cc pc = .ok (.aload i, 2)) (j : Nat) (hj : lv[j]? = some (i, aR v)) (k : hp_V p l e R s m args below meth c Q D cA B0 nL ad0 x0 cells slots x (pc + 2) lv (aR v :: rest)) : hp_V p l e R s m args below meth c Q D cA B0 nL ad0 x0 cells slots x pc lv rest := fun ad H locs ls hG hx0 hl0 hst hS hl => lv_aload E.1.1 E.1.2.1 hdg (lv_at hl j (hp_cl_at hj)) (k ad H locs ls hG hx0 hl0 ⟨hp_okl_at hl0 hj, hst⟩ hS hl)
theorem hv_aload_nQ (E : hp_E p s m args meth c cc nL own Ts D cA B0) {n : Fin 4} {i : Nat} {v : Nat} (hdg : decode cc pc = .ok (.aload_n n, 1)) (hi : (n : Nat) = i) (j : Nat) (hj : lv[j]? = some (i, aQ v)) (k : hp_V p l e R s m args below meth c Q D cA B0 nL ad0 x0 cells slots x (pc + 1) lv (aQ v :: rest)) : hp_V p l e R s m args below meth c Q D cA B0 nL ad0 x0 cells slots x pc lv rest := fun ad H locs ls hG hx0 hl0 hst hS hl => lv_aload_n E.1.1 E.1.2.1 hdg hi (lv_at hl j (hp_cl_at hj)) (k ad H locs ls hG hx0 hl0 ⟨hp_okl_at hl0 hj, hst⟩ hS hl)
theorem hv_aloadQ (E : hp_E p s m args meth c cc nL own Ts D cA B0) {i : Nat} {v : Nat} (hdg : decode cc pc = .ok (.aload i, 2)) (j : Nat) (hj : lv[j]? = some (i, aQ v)) (k : hp_V p l e R s m args below meth c Q D cA B0 nL ad0 x0 cells slots x (pc + 2) lv (aQ v :: rest)) : hp_V p l e R s m args below meth c Q D cA B0 nL ad0 x0 cells slots x pc lv rest := fun ad H locs ls hG hx0 hl0 hst hS hl => lv_aload E.1.1 E.1.2.1 hdg (lv_at hl j (hp_cl_at hj)) (k ad H locs ls hG hx0 hl0 ⟨hp_okl_at hl0 hj, hst⟩ hS hl)
theorem hv_istore (E : hp_E p s m args meth c cc nL own Ts D cA B0) {i : Nat} {v : Int32} {lv' : List (Nat × hp_A)} (hdg : decode cc pc = .ok (.istore i, 2)) (hn : i < nL) (hf : hp_f1 i lv = lv') (k : hp_V p l e R s m args below meth c Q D cA B0 nL ad0 x0 cells slots x (pc + 2) ((i, aI v) :: lv') rest) : hp_V p l e R s m args below meth c Q D cA B0 nL ad0 x0 cells slots x pc lv (aI v :: rest) := fun ad H locs ls hG hx0 hl0 hst hS hl => lv_istore E.1.1 E.1.2.1 hdg hl hn rfl (fun ls2 h2 => k ad H locs ls2 hG hx0 (hp_okl_cons hst.1 (by rw [← hf]; exact hp_f1_ok hl0)) hst.2 hS (by rw [hp_f1_cl, hf] at h2; exact h2))
theorem hv_istore_n (E : hp_E p s m args meth c cc nL own Ts D cA B0) {n : Fin 4} {i : Nat} {v : Int32} {lv' : List (Nat × hp_A)} (hdg : decode cc pc = .ok (.istore_n n, 1)) (hi : (n : Nat) = i) (hn : i < nL) (hf : hp_f1 i lv = lv') (k : hp_V p l e R s m args below meth c Q D cA B0 nL ad0 x0 cells slots x (pc + 1) ((i, aI v) :: lv') rest) : hp_V p l e R s m args below meth c Q D cA B0 nL ad0 x0 cells slots x pc lv (aI v :: rest) := fun ad H locs ls hG hx0 hl0 hst hS hl => lv_istore_n E.1.1 E.1.2.1 hdg hi hl hn rfl (fun ls2 h2 => k ad H locs ls2 hG hx0 (hp_okl_cons hst.1 (by rw [← hf]; exact hp_f1_ok hl0)) hst.2 hS (by rw [hp_f1_cl, hf] at h2; exact h2))
theorem hv_lstore (E : hp_E p s m args meth c cc nL own Ts D cA B0) {i : Nat} {v : Int64} {lv' : List (Nat × hp_A)} (hdg : decode cc pc = .ok (.lstore i, 2)) (hn : i + 1 < nL) (hf : hp_f2 i lv = lv') (k : hp_V p l e R s m args below meth c Q D cA B0 nL ad0 x0 cells slots x (pc + 2) ((i, aL v) :: lv') rest) : hp_V p l e R s m args below meth c Q D cA B0 nL ad0 x0 cells slots x pc lv (aL v :: rest) := fun ad H locs ls hG hx0 hl0 hst hS hl => lv_lstore E.1.1 E.1.2.1 hdg hl hn rfl (fun ls2 h2 => k ad H locs ls2 hG hx0 (hp_okl_cons hst.1 (by rw [← hf]; exact hp_f2_ok hl0)) hst.2 hS (by rw [hp_f2_cl, hf] at h2; exact h2))
theorem hv_lstore_n (E : hp_E p s m args meth c cc nL own Ts D cA B0) {n : Fin 4} {i : Nat} {v : Int64} {lv' : List (Nat × hp_A)} (hdg : decode cc pc = .ok (.lstore_n n, 1)) (hi : (n : Nat) = i) (hn : i + 1 < nL) (hf : hp_f2 i lv = lv') (k : hp_V p l e R s m args below meth c Q D cA B0 nL ad0 x0 cells slots x (pc + 1) ((i, aL v) :: lv') rest) : hp_V p l e R s m args below meth c Q D cA B0 nL ad0 x0 cells slots x pc lv (aL v :: rest) := fun ad H locs ls hG hx0 hl0 hst hS hl => lv_lstore_n E.1.1 E.1.2.1 hdg hi hl hn rfl (fun ls2 h2 => k ad H locs ls2 hG hx0 (hp_okl_cons hst.1 (by rw [← hf]; exact hp_f2_ok hl0)) hst.2 hS (by rw [hp_f2_cl, hf] at h2; exact h2))
theorem hv_astore (E : hp_E p s m args meth c cc nL own Ts D cA B0) {i : Nat} {v : hp_T} {lv' : List (Nat × hp_A)} (hdg : decode cc pc = .ok (.astore i, 2)) (hn : i < nL) (hf : hp_f1 i lv = lv') (k : hp_V p l e R s m args below meth c Q D cA B0 nL ad0 x0 cells slots x (pc + 2) ((i, aR v) :: lv') rest) : hp_V p l e R s m args below meth c Q D cA B0 nL ad0 x0 cells slots x pc lv (aR v :: rest) := fun ad H locs ls hG hx0 hl0 hst hS hl => lv_astore E.1.1 E.1.2.1 hdg hl hn rfl (fun ls2 h2 => k ad H locs ls2 hG hx0 (hp_okl_cons hst.1 (by rw [← hf]; exact hp_f1_ok hl0)) hst.2 hS (by rw [hp_f1_cl, hf] at h2; exact h2))
theorem hv_astore_n (E : hp_E p s m args meth c cc nL own Ts D cA B0) {n : Fin 4} {i : Nat} {v : hp_T} {lv' : List (Nat × hp_A)} (hdg : decode cc pc = .ok (.astore_n n, 1)) (hi : (n : Nat) = i) (hn : i < nL) (hf : hp_f1 i lv = lv') (k : hp_V p l e R s m args below meth c Q D cA B0 nL ad0 x0 cells slots x (pc + 1) ((i, aR v) :: lv') rest) : hp_V p l e R s m args below meth c Q D cA B0 nL ad0 x0 cells slots x pc lv (aR v :: rest) := fun ad H locs ls hG hx0 hl0 hst hS hl => lv_astore_n E.1.1 E.1.2.1 hdg hi hl hn rfl (fun ls2 h2 => k ad H locs ls2 hG hx0 (hp_okl_cons hst.1 (by rw [← hf]; exact hp_f1_ok hl0)) hst.2 hS (by rw [hp_f1_cl, hf] at h2; exact h2))
theorem hv_iinc (E : hp_E p s m args meth c cc nL own Ts D cA B0) {i : Nat} {n : Int} {u v : Int32} {lv' : List (Nat × hp_A)} (j : Nat) (hdg : decode cc pc = .ok (.iinc i n, 3)) (hk : lv[j]? = some (i, aI u)) (hv : u + Int32.ofInt n = v) (hn : i < nL) (hf : hp_f1 i lv = lv') (k : hp_V p l e R s m args below meth c Q D cA B0 nL ad0 x0 cells slots x (pc + 3) ((i, aI v) :: lv') rest) : hp_V p l e R s m args below meth c Q D cA B0 nL ad0 x0 cells slots x pc lv rest := fun ad H locs ls hG hx0 hl0 hst hS hl => lv_iinc (k := j) E.1.1 E.1.2.1 hdg hl (hp_cl_at hk) hv hn rfl (fun ls2 h2 => k ad H locs ls2 hG hx0 (hp_okl_cons trivial (by rw [← hf]; exact hp_f1_ok hl0)) hst hS (by rw [hp_f1_cl, hf] at h2; exact h2))
/-- a single cell as a world -/
theorem hp_one {D : va_G} {q : Nat × va_E} {H : Heap} (h : va_at D vwCl q H) : va_P D vwCl [q] H := fun k0 q0 h0 => by
  match k0, h0 with
  | 0, h0 => cases h0; exact h
  | n + 1, h0 => cases h0
theorem hp_getW (E : hp_E p s m args meth c cc nL own Ts D cA B0) {ci index k : Nat} {sl : List Nat} {C ref : String} {T : u_T} {N : Nat} {t : hp_T} {cd : Nat} {ad : hp_T → Nat} {H : Heap} {locs : List Loc} {ls : Array Slot} {QQ : State → Prop} {st : List Value} (hdg : decode cc pc = .ok (.getfield index, 3)) (hk : hp_kd t.1 = .inl (ci, sl)) (hc : vwCl[ci]? = some (C, T, N)) (hin : ∀ w ∈ u_ws C T N, w ∈ Ts) (hkN : k < N) (hlink : Cond.fieldLink own index ref (T k).2.1 (T k).2.2.1 ∈ Ts) (hsame : (T k).1 = ref) (hsk : sl[k]? = some cd) (hG : hp_H D cA B0 ad x H) (ht : x.1 t = true) (kk : W p l e R s m args below meth c H locs cells slots QQ (F0 m (pc + 3) ls (hp_val ad x t cd k :: st))) : W p l e R s m args below meth c H locs cells slots QQ (F0 m pc ls (.ref (ad t) :: st)) := by
  obtain ⟨hx, hb, hml, hown, hts⟩ := E.1
  have hat := (hG.2.1 t ht).2
  rw [hp_cell_o hk] at hat
  subst hsame
  exact va_get (ws := [(ad t, .inr (ci, hp_fs ad x t sl))]) hx hb hts hin hown E.2.1.1 (hp_one hat) 0 rfl hc k hkN (hts _ hlink) (fun _ h9 => h9) (hp_fs_get hsk) hdg kk
theorem hv_getI (E : hp_E p s m args meth c cc nL own Ts D cA B0) {ci index k : Nat} {sl : List Nat} {C ref : String} {T : u_T} {N : Nat} {t : hp_T} (hdg : decode cc pc = .ok (.getfield index, 3)) (hk : hp_kd t.1 = .inl (ci, sl)) (hc : vwCl[ci]? = some (C, T, N)) (hin : ∀ w ∈ u_ws C T N, w ∈ Ts) (hkN : k < N) (hlink : Cond.fieldLink own index ref (T k).2.1 (T k).2.2.1 ∈ Ts) (hsame : (T k).1 = ref) (hsk : sl[k]? = some 0)
    (kk : hp_V p l e R s m args below meth c Q D cA B0 nL ad0 x0 cells slots x (pc + 3) lv (aI (x.2.1 t k) :: rest)) : hp_V p l e R s m args below meth c Q D cA B0 nL ad0 x0 cells slots x pc lv (aR t :: rest) := fun ad H locs ls hG hx0 hl0 hst hS hl => hp_getW E hdg hk hc hin hkN hlink hsame hsk hG hst.1 (kk ad H locs ls hG hx0 hl0 ⟨trivial, hst.2⟩ hS hl)
theorem hv_getL (E : hp_E p s m args meth c cc nL own Ts D cA B0) {ci index k : Nat} {sl : List Nat} {C ref : String} {T : u_T} {N : Nat} {t : hp_T} (hdg : decode cc pc = .ok (.getfield index, 3)) (hk : hp_kd t.1 = .inl (ci, sl)) (hc : vwCl[ci]? = some (C, T, N)) (hin : ∀ w ∈ u_ws C T N, w ∈ Ts) (hkN : k < N) (hlink : Cond.fieldLink own index ref (T k).2.1 (T k).2.2.1 ∈ Ts) (hsame : (T k).1 = ref) (hsk : sl[k]? = some 1)
    (kk : hp_V p l e R s m args below meth c Q D cA B0 nL ad0 x0 cells slots x (pc + 3) lv (aL (x.2.2.1 t k) :: rest)) : hp_V p l e R s m args below meth c Q D cA B0 nL ad0 x0 cells slots x pc lv (aR t :: rest) := fun ad H locs ls hG hx0 hl0 hst hS hl => hp_getW E hdg hk hc hin hkN hlink hsame hsk hG hst.1 (kk ad H locs ls hG hx0 hl0 ⟨trivial, hst.2⟩ hS hl)
theorem hv_getR (E : hp_E p s m args meth c cc nL own Ts D cA B0) {ci index k : Nat} {sl : List Nat} {C ref : String} {T : u_T} {N : Nat} {t : hp_T} {t2 : hp_T} (hdg : decode cc pc = .ok (.getfield index, 3)) (hk : hp_kd t.1 = .inl (ci, sl)) (hc : vwCl[ci]? = some (C, T, N)) (hin : ∀ w ∈ u_ws C T N, w ∈ Ts) (hkN : k < N) (hlink : Cond.fieldLink own index ref (T k).2.1 (T k).2.2.1 ∈ Ts) (hsame : (T k).1 = ref) (hsk : sl[k]? = some 2) (hv : x.1 t = true → x.2.2.2 t k = some t2)
    (kk : hp_V p l e R s m args below meth c Q D cA B0 nL ad0 x0 cells slots x (pc + 3) lv (aR t2 :: rest)) : hp_V p l e R s m args below meth c Q D cA B0 nL ad0 x0 cells slots x pc lv (aR t :: rest) := by
  intro ad H locs ls hG hx0 hl0 hst hS hl
  have ht : x.1 t = true := hst.1
  refine hp_getW E hdg hk hc hin hkN hlink hsame hsk hG ht ?_
  rw [show hp_val ad x t 2 k = hp_c ad (aR t2) by simp [hp_val, hp_c, hv ht]]
  exact kk ad H locs ls hG hx0 hl0 ⟨hG.2.2.2 t k t2 ht (hv ht), hst.2⟩ hS hl
theorem hv_getN (E : hp_E p s m args meth c cc nL own Ts D cA B0) {ci index k : Nat} {sl : List Nat} {C ref : String} {T : u_T} {N : Nat} {t : hp_T} (hdg : decode cc pc = .ok (.getfield index, 3)) (hk : hp_kd t.1 = .inl (ci, sl)) (hc : vwCl[ci]? = some (C, T, N)) (hin : ∀ w ∈ u_ws C T N, w ∈ Ts) (hkN : k < N) (hlink : Cond.fieldLink own index ref (T k).2.1 (T k).2.2.1 ∈ Ts) (hsame : (T k).1 = ref) (hsk : sl[k]? = some 2) (hv : x.2.2.2 t k = none)
    (kk : hp_V p l e R s m args below meth c Q D cA B0 nL ad0 x0 cells slots x (pc + 3) lv (aN :: rest)) : hp_V p l e R s m args below meth c Q D cA B0 nL ad0 x0 cells slots x pc lv (aR t :: rest) := by
  intro ad H locs ls hG hx0 hl0 hst hS hl
  refine hp_getW E hdg hk hc hin hkN hlink hsame hsk hG hst.1 ?_
  rw [show hp_val ad x t 2 k = hp_c ad aN by simp [hp_val, hp_c, hv]]
  exact kk ad H locs ls hG hx0 hl0 ⟨trivial, hst.2⟩ hS hl
theorem hp_putW (E : hp_E p s m args meth c cc nL own Ts D cA B0) {ci index k : Nat} {sl : List Nat} {C ref : String} {T : u_T} {N : Nat} {t : hp_T} {ty : FieldType} {v : Value} {x' : hp_S} {ad : hp_T → Nat} {H : Heap} {locs : List Loc} {ls : Array Slot} {QQ : State → Prop} {st : List Value} (ty0 : Nat → FieldType) (hty : ∀ k, k < N → parseFieldDescriptor (T k).2.2.1 = some (ty0 k)) (hnm : ∀ a, a < N → ∀ b, b < N → a ≠ b → (T a).2.1 ≠ (T b).2.1) (hdg : decode cc pc = .ok (.putfield index, 3)) (hk : hp_kd t.1 = .inl (ci, sl)) (hc : vwCl[ci]? = some (C, T, N)) (hin : ∀ w ∈ u_ws C T N, w ∈ Ts) (hkN : k < N) (hlink : Cond.fieldLink own index ref (T k).2.1 (T k).2.2.1 ∈ Ts) (hsame : (T k).1 = ref) (hks : k < sl.length) (hfin : (T k).2.2.2 = false ∨ ((T k).2.2.2 = true ∧ meth.name = "<init>" ∧ ref = own)) (hd : parseFieldDescriptor (T k).2.2.1 = some ty) (hn : narrow ty v = v) (hfit : fits ty v = true) (hG : hp_H D cA B0 ad x H) (hS : va_S (fun q => B0 ≤ q) s.heap H locs) (ht : x.1 t = true)
    (hl1 : x'.1 = x.1) (ho : ∀ t', t' ≠ t → hp_cell cA ad x' t' = hp_cell cA ad x t') (hr : ∀ k t', x'.2.2.2 t k = some t' → x.2.2.2 t k = some t' ∨ x.1 t' = true) (hr2 : ∀ t', t' ≠ t → x'.2.2.2 t' = x.2.2.2 t') (hset : (hp_fs ad x t sl).set k v = hp_fs ad x' t sl)
    (kk : ∀ (H1 : Heap) (locs1 : List Loc), hp_H D cA B0 ad x' H1 → va_S (fun q => B0 ≤ q) s.heap H1 locs1 → W p l e R s m args below meth c H1 locs1 cells slots QQ (F0 m (pc + 3) ls st)) : W p l e R s m args below meth c H locs cells slots QQ (F0 m pc ls (v :: .ref (ad t) :: st)) := by
  obtain ⟨hx, hb, hml, hown, hts⟩ := E.1
  have hK := E.2.1.1
  have hap := va_apart (own := own) hts hin ty0 hty hnm hK hc
  obtain ⟨hB, hat⟩ := hG.2.1 t ht
  rw [hp_cell_o hk] at hat
  subst hsame
  obtain ⟨r, h1, cell, q1, q2, q3, q4⟩ := hat
  have hr0 : r = (C, T, N) := Option.some.inj (h1.symm.trans hc)
  subst hr0
  obtain ⟨hSl, hfc, kC, hkC, hkind⟩ := hK.1 ci _ hc
  obtain ⟨cf, kf, fi, f, hi, hsl⟩ := hSl k hkN
  have hlay := hts _ (hin _ (u_in_lay hkN))
  unfold u_lay at hlay
  have hst := (u_facts hfc hkC (u_lays hts hin hkN) hi).1
  have fin : ∀ H' : Heap, H'[ad t]? = some (cell.setSlot f.slot v) → H'.size = H.size → (∀ q, q ≠ ad t → H'[q]? = H[q]?) → W p l e R s m args below meth c H' (locs ++ [⟨ad t, f.slot⟩]) cells slots QQ (F0 m (pc + 3) ls st) := by
    intro H' e1 e2 e3
    rw [hsl] at e1 ⊢
    refine kk H' _ (hG.put ht hl1 ho (fun k t' h => (hr k t' h).elim (hG.2.2.2 t k t' ht) id) hr2 ?_ e2 e3) (hS.put e2 e3 hB)
    rw [hp_cell_o hk]
    refine ⟨_, hc, t_OB.to (V := updV (vp_V (hp_fs ad x t sl)) k v) ⟨_, e1, q2, q3, t_set q4 hap hkN v⟩ (fun j _ => ?_)⟩
    rw [vp_updV_set (by rw [hp_fs_len]; exact hks) v j, hset]
  rcases hfin with hfin | ⟨hfin, hnm2, hdecl⟩
  · rw [if_neg (by rw [hfin]; decide)] at hlay
    have h6 := u_store hfc hkC hkind hlay hi hd hn hfit
    exact W.putK hx hb (f := f) ⟨hown, hts _ hlink, ⟨_, _, _, hi⟩, hst⟩ (by rw [q2]; exact h6) q1 q3 (by rw [hsl]; exact k2_hasslot (q4 k hkN)) rfl rfl hdg fin
  · rw [if_pos hfin] at hlay
    have hcf : m.cls = cf := by
      obtain ⟨_, _, c', _, _, _, -, -, hf', -, -, -, hown2, -⟩ := Cond.laysFinal_spec hlay
      have e1 : c' = cf := by have := hi.symm.trans hf'; simp at this; exact this.1.symm
      rw [hdecl] at hown2
      rw [← e1]; exact Option.some.inj (hown.symm.trans hown2)
    have h6 := u_fits hfc hkC hkind (Or.inr hlay) hi hd hn hfit
    exact W.putFinK hx hb hown (hts _ hlink) hi hst hcf hnm2 (by rw [q2]; exact h6) q1 q3 (by rw [hsl]; exact k2_hasslot (q4 k hkN)) rfl rfl hdg fin
theorem hv_putI (E : hp_E p s m args meth c cc nL own Ts D cA B0) {ci index k : Nat} {sl : List Nat} {C ref : String} {T : u_T} {N : Nat} {t : hp_T} {ty : FieldType} {v : Int32} (ty0 : Nat → FieldType) (hty : ∀ k, k < N → parseFieldDescriptor (T k).2.2.1 = some (ty0 k)) (hnm : ∀ a, a < N → ∀ b, b < N → a ≠ b → (T a).2.1 ≠ (T b).2.1) (hdg : decode cc pc = .ok (.putfield index, 3)) (hk : hp_kd t.1 = .inl (ci, sl)) (hc : vwCl[ci]? = some (C, T, N)) (hin : ∀ w ∈ u_ws C T N, w ∈ Ts) (hkN : k < N) (hlink : Cond.fieldLink own index ref (T k).2.1 (T k).2.2.1 ∈ Ts) (hsame : (T k).1 = ref) (hsk : sl[k]? = some 0) (hfin : (T k).2.2.2 = false ∨ ((T k).2.2.2 = true ∧ meth.name = "<init>" ∧ ref = own)) (hd : parseFieldDescriptor (T k).2.2.1 = some ty) (hn : narrow ty (.int v) = (.int v)) (hfit : fits ty (.int v) = true)
    (kk : hp_V p l e R s m args below meth c Q D cA B0 nL ad0 x0 cells slots (hp_uI x t k v) (pc + 3) lv rest) : hp_V p l e R s m args below meth c Q D cA B0 nL ad0 x0 cells slots x pc lv (aI v :: aR t :: rest) := by
  intro ad H locs ls hG hx0 hl0 hst hS hl
  have ht : x.1 t = true := hst.2.1
  have e0 : sl.getD k 0 = 0 := by rw [List.getD_eq_getElem?_getD, hsk]; rfl
  refine hp_putW (x' := (hp_uI x t k v)) E ty0 hty hnm hdg hk hc hin hkN hlink hsame (List.getElem?_eq_some_iff.mp hsk).1 hfin hd hn hfit hG hS ht rfl (fun t' h => hp_cell_congr (by funext j; simp [hp_uI, h]) rfl (fun _ => rfl)) (fun _ _ h => Or.inl h) (fun _ _ => rfl) (hp_fs_set (List.getElem?_eq_some_iff.mp hsk).1 ?_ ?_) (fun H1 locs1 hG1 hS1 => kk ad H1 locs1 ls hG1 hx0 hl0 hst.2.2 hS1 hl)
  · rw [e0]
    simp [hp_val, hp_uI, hp_c]
  · intro j hj
    match sl.getD j 0 with
    | 0 => simp [hp_val, hp_uI, hj]
    | 1 => rfl
    | n + 2 => rfl
theorem hv_putL (E : hp_E p s m args meth c cc nL own Ts D cA B0) {ci index k : Nat} {sl : List Nat} {C ref : String} {T : u_T} {N : Nat} {t : hp_T} {ty : FieldType} {v : Int64} (ty0 : Nat → FieldType) (hty : ∀ k, k < N → parseFieldDescriptor (T k).2.2.1 = some (ty0 k)) (hnm : ∀ a, a < N → ∀ b, b < N → a ≠ b → (T a).2.1 ≠ (T b).2.1) (hdg : decode cc pc = .ok (.putfield index, 3)) (hk : hp_kd t.1 = .inl (ci, sl)) (hc : vwCl[ci]? = some (C, T, N)) (hin : ∀ w ∈ u_ws C T N, w ∈ Ts) (hkN : k < N) (hlink : Cond.fieldLink own index ref (T k).2.1 (T k).2.2.1 ∈ Ts) (hsame : (T k).1 = ref) (hsk : sl[k]? = some 1) (hfin : (T k).2.2.2 = false ∨ ((T k).2.2.2 = true ∧ meth.name = "<init>" ∧ ref = own)) (hd : parseFieldDescriptor (T k).2.2.1 = some ty) (hn : narrow ty (.long v) = (.long v)) (hfit : fits ty (.long v) = true)
    (kk : hp_V p l e R s m args below meth c Q D cA B0 nL ad0 x0 cells slots (hp_uL x t k v) (pc + 3) lv rest) : hp_V p l e R s m args below meth c Q D cA B0 nL ad0 x0 cells slots x pc lv (aL v :: aR t :: rest) := by
  intro ad H locs ls hG hx0 hl0 hst hS hl
  have ht : x.1 t = true := hst.2.1
  have e0 : sl.getD k 0 = 1 := by rw [List.getD_eq_getElem?_getD, hsk]; rfl
  refine hp_putW (x' := (hp_uL x t k v)) E ty0 hty hnm hdg hk hc hin hkN hlink hsame (List.getElem?_eq_some_iff.mp hsk).1 hfin hd hn hfit hG hS ht rfl (fun t' h => hp_cell_congr rfl (by funext j; simp [hp_uL, h]) (fun _ => rfl)) (fun _ _ h => Or.inl h) (fun _ _ => rfl) (hp_fs_set (List.getElem?_eq_some_iff.mp hsk).1 ?_ ?_) (fun H1 locs1 hG1 hS1 => kk ad H1 locs1 ls hG1 hx0 hl0 hst.2.2 hS1 hl)
  · rw [e0]
    simp [hp_val, hp_uL, hp_c]
  · intro j hj
    match sl.getD j 0 with
    | 0 => rfl
    | 1 => simp [hp_val, hp_uL, hj]
    | n + 2 => rfl
theorem hv_putR (E : hp_E p s m args meth c cc nL own Ts D cA B0) {ci index k : Nat} {sl : List Nat} {C ref : String} {T : u_T} {N : Nat} {t : hp_T} {ty : FieldType} {t2 : hp_T} (ty0 : Nat → FieldType) (hty : ∀ k, k < N → parseFieldDescriptor (T k).2.2.1 = some (ty0 k)) (hnm : ∀ a, a < N → ∀ b, b < N → a ≠ b → (T a).2.1 ≠ (T b).2.1) (hdg : decode cc pc = .ok (.putfield index, 3)) (hk : hp_kd t.1 = .inl (ci, sl)) (hc : vwCl[ci]? = some (C, T, N)) (hin : ∀ w ∈ u_ws C T N, w ∈ Ts) (hkN : k < N) (hlink : Cond.fieldLink own index ref (T k).2.1 (T k).2.2.1 ∈ Ts) (hsame : (T k).1 = ref) (hsk : sl[k]? = some 2) (hfin : (T k).2.2.2 = false ∨ ((T k).2.2.2 = true ∧ meth.name = "<init>" ∧ ref = own)) (hd : parseFieldDescriptor (T k).2.2.1 = some ty) (hn : ∀ q : Nat, narrow ty (.ref q) = .ref q) (hfit : ∀ q : Nat, fits ty (.ref q) = true)
    (kk : hp_V p l e R s m args below meth c Q D cA B0 nL ad0 x0 cells slots (hp_uR x t k (some t2)) (pc + 3) lv rest) : hp_V p l e R s m args below meth c Q D cA B0 nL ad0 x0 cells slots x pc lv (aR t2 :: aR t :: rest) := by
  intro ad H locs ls hG hx0 hl0 hst hS hl
  have ht : x.1 t = true := hst.2.1
  have e0 : sl.getD k 0 = 2 := by rw [List.getD_eq_getElem?_getD, hsk]; rfl
  refine hp_putW (x' := (hp_uR x t k (some t2))) E ty0 hty hnm hdg hk hc hin hkN hlink hsame (List.getElem?_eq_some_iff.mp hsk).1 hfin hd (hn _) (hfit _) hG hS ht rfl (fun t' h => hp_cell_congr rfl rfl (fun j => by simp [hp_uR, h])) (fun j t' h => by
    by_cases e : j = k
    · right; simp [hp_uR, e] at h; rw [← h]; exact hst.1
    · left; simpa [hp_uR, e] using h) (fun t' h => by funext j; simp [hp_uR, h]) (hp_fs_set (List.getElem?_eq_some_iff.mp hsk).1 ?_ ?_) (fun H1 locs1 hG1 hS1 => kk ad H1 locs1 ls hG1 hx0 hl0 hst.2.2 hS1 hl)
  · rw [e0]
    simp [hp_val, hp_uR, hp_c]
  · intro j hj
    match sl.getD j 0 with
    | 0 => rfl
    | 1 => rfl
    | n + 2 => simp [hp_val, hp_uR, hj]
theorem hv_putN (E : hp_E p s m args meth c cc nL own Ts D cA B0) {ci index k : Nat} {sl : List Nat} {C ref : String} {T : u_T} {N : Nat} {t : hp_T} {ty : FieldType}  (ty0 : Nat → FieldType) (hty : ∀ k, k < N → parseFieldDescriptor (T k).2.2.1 = some (ty0 k)) (hnm : ∀ a, a < N → ∀ b, b < N → a ≠ b → (T a).2.1 ≠ (T b).2.1) (hdg : decode cc pc = .ok (.putfield index, 3)) (hk : hp_kd t.1 = .inl (ci, sl)) (hc : vwCl[ci]? = some (C, T, N)) (hin : ∀ w ∈ u_ws C T N, w ∈ Ts) (hkN : k < N) (hlink : Cond.fieldLink own index ref (T k).2.1 (T k).2.2.1 ∈ Ts) (hsame : (T k).1 = ref) (hsk : sl[k]? = some 2) (hfin : (T k).2.2.2 = false ∨ ((T k).2.2.2 = true ∧ meth.name = "<init>" ∧ ref = own)) (hd : parseFieldDescriptor (T k).2.2.1 = some ty) (hn : narrow ty .null = .null) (hfit : fits ty .null = true)
    (kk : hp_V p l e R s m args below meth c Q D cA B0 nL ad0 x0 cells slots (hp_uR x t k none) (pc + 3) lv rest) : hp_V p l e R s m args below meth c Q D cA B0 nL ad0 x0 cells slots x pc lv (aN :: aR t :: rest) := by
  intro ad H locs ls hG hx0 hl0 hst hS hl
  have ht : x.1 t = true := hst.2.1
  have e0 : sl.getD k 0 = 2 := by rw [List.getD_eq_getElem?_getD, hsk]; rfl
  refine hp_putW (x' := (hp_uR x t k none)) E ty0 hty hnm hdg hk hc hin hkN hlink hsame (List.getElem?_eq_some_iff.mp hsk).1 hfin hd hn hfit hG hS ht rfl (fun t' h => hp_cell_congr rfl rfl (fun j => by simp [hp_uR, h])) (fun j t' h => by
    by_cases e : j = k
    · simp [hp_uR, e] at h
    · left; simpa [hp_uR, e] using h) (fun t' h => by funext j; simp [hp_uR, h]) (hp_fs_set (List.getElem?_eq_some_iff.mp hsk).1 ?_ ?_) (fun H1 locs1 hG1 hS1 => kk ad H1 locs1 ls hG1 hx0 hl0 hst.2.2 hS1 hl)
  · rw [e0]
    simp [hp_val, hp_uR, hp_c]
  · intro j hj
    match sl.getD j 0 with
    | 0 => rfl
    | 1 => rfl
    | n + 2 => simp [hp_val, hp_uR, hj]
theorem hv_iald (E : hp_E p s m args meth c cc nL own Ts D cA B0) {a n : Nat} {t : hp_T} {i : Int32} (hdg : decode cc pc = .ok (.iaload, 1)) (hk : hp_kd t.1 = .inr (a, n)) (ha : a < hp_na) (hty : hp_aty a = .int) (hi : vp_in i n)
    (kk : hp_V p l e R s m args below meth c Q D cA B0 nL ad0 x0 cells slots x (pc + 1) lv (aI (x.2.1 t i.toNatClampNeg) :: rest)) : hp_V p l e R s m args below meth c Q D cA B0 nL ad0 x0 cells slots x pc lv (aI i :: aR t :: rest) := by
  intro ad H locs ls hG hx0 hl0 hst hS hl
  have ht : x.1 t = true := hst.2.1
  have hat := (hG.2.1 t ht).2
  rw [hp_cell_a hk] at hat
  have hy := hp_tys_at (cA := cA) ha
  rw [hty] at hat hy
  exact va_iald (ws := [(ad t, .inl (cA a, hp_arr ad x t 0 n))]) E.1.1 E.1.2.1 E.2.1.1 (hp_one hat) 0 a rfl hy hi hdg (kk ad H locs ls hG hx0 hl0 ⟨trivial, hst.2.2⟩ hS hl)
theorem hv_zald (E : hp_E p s m args meth c cc nL own Ts D cA B0) {a n : Nat} {t : hp_T} {i : Int32} (hdg : decode cc pc = .ok (.baload, 1)) (hk : hp_kd t.1 = .inr (a, n)) (ha : a < hp_na) (hty : hp_aty a = .boolean) (hi : vp_in i n)
    (kk : hp_V p l e R s m args below meth c Q D cA B0 nL ad0 x0 cells slots x (pc + 1) lv (aI (x.2.1 t i.toNatClampNeg) :: rest)) : hp_V p l e R s m args below meth c Q D cA B0 nL ad0 x0 cells slots x pc lv (aI i :: aR t :: rest) := by
  intro ad H locs ls hG hx0 hl0 hst hS hl
  have ht : x.1 t = true := hst.2.1
  have hat := (hG.2.1 t ht).2
  rw [hp_cell_a hk] at hat
  have hy := hp_tys_at (cA := cA) ha
  rw [hty] at hat hy
  exact va_zald (ws := [(ad t, .inl (cA a, hp_arr ad x t 0 n))]) E.1.1 E.1.2.1 E.2.1.1 (hp_one hat) 0 a rfl hy hi hdg (kk ad H locs ls hG hx0 hl0 ⟨trivial, hst.2.2⟩ hS hl)
theorem hv_lald (E : hp_E p s m args meth c cc nL own Ts D cA B0) {a n : Nat} {t : hp_T} {i : Int32} (hdg : decode cc pc = .ok (.laload, 1)) (hk : hp_kd t.1 = .inr (a, n)) (ha : a < hp_na) (hty : hp_aty a = .long) (hi : vp_in i n)
    (kk : hp_V p l e R s m args below meth c Q D cA B0 nL ad0 x0 cells slots x (pc + 1) lv (aL (x.2.2.1 t i.toNatClampNeg) :: rest)) : hp_V p l e R s m args below meth c Q D cA B0 nL ad0 x0 cells slots x pc lv (aI i :: aR t :: rest) := by
  intro ad H locs ls hG hx0 hl0 hst hS hl
  have ht : x.1 t = true := hst.2.1
  have hat := (hG.2.1 t ht).2
  rw [hp_cell_a hk] at hat
  have hy := hp_tys_at (cA := cA) ha
  rw [hty] at hat hy
  exact va_lald (ws := [(ad t, .inl (cA a, hp_arr ad x t 1 n))]) E.1.1 E.1.2.1 E.2.1.1 (hp_one hat) 0 a rfl hy hi hdg (kk ad H locs ls hG hx0 hl0 ⟨trivial, hst.2.2⟩ hS hl)
theorem hv_aald (E : hp_E p s m args meth c cc nL own Ts D cA B0) {a n : Nat} {t t2 : hp_T} {i : Int32} (hdg : decode cc pc = .ok (.aaload, 1)) (hk : hp_kd t.1 = .inr (a, n)) (ha : a < hp_na) (hty : hp_bank (hp_aty a) = 2) (hrf : (hp_aty a).isReference = true) (hi : vp_in i n) (hv : x.1 t = true → x.2.2.2 t i.toNatClampNeg = some t2)
    (kk : hp_V p l e R s m args below meth c Q D cA B0 nL ad0 x0 cells slots x (pc + 1) lv (aR t2 :: rest)) : hp_V p l e R s m args below meth c Q D cA B0 nL ad0 x0 cells slots x pc lv (aI i :: aR t :: rest) := by
  intro ad H locs ls hG hx0 hl0 hst hS hl
  have ht : x.1 t = true := hst.2.1
  have hat := (hG.2.1 t ht).2
  rw [hp_cell_a hk, hty] at hat
  have hlt : i.toNatClampNeg < n := Nat.not_le.mp fun q => hi (Or.inr q)
  refine W.aald (v := hp_c ad (aR t2)) (ty := hp_aty a) E.1.1 E.1.2.1 (show H[ad t]? = some (arrV (cA a) n (fun j => va_rf ((x.2.2.2 t j).map ad))) from hat) ((E.2.1.1.2 a _ (hp_tys_at ha)).1 n _) hrf (fun q => by cases q) (by rw [arrV_size]; exact hi) (by rw [arrV_read _ _ hlt, hv ht]; rfl) rfl rfl hdg (kk ad H locs ls hG hx0 hl0 ⟨hG.2.2.2 t _ t2 ht (hv ht), hst.2.2⟩ hS hl)
theorem hv_alen (E : hp_E p s m args meth c cc nL own Ts D cA B0) {a n : Nat} {t : hp_T} {v : Int32} (hdg : decode cc pc = .ok (.arraylength, 1)) (hk : hp_kd t.1 = .inr (a, n)) (ha : a < hp_na) (hv : Int32.ofNat n = v)
    (kk : hp_V p l e R s m args below meth c Q D cA B0 nL ad0 x0 cells slots x (pc + 1) lv (aI v :: rest)) : hp_V p l e R s m args below meth c Q D cA B0 nL ad0 x0 cells slots x pc lv (aR t :: rest) := by
  intro ad H locs ls hG hx0 hl0 hst hS hl
  have hat := (hG.2.1 t hst.1).2
  rw [hp_cell_a hk] at hat
  exact va_alen (ws := [(ad t, .inl (cA a, hp_arr ad x t (hp_bank (hp_aty a)) n))]) E.1.1 E.1.2.1 E.2.1.1 (hp_one hat) 0 a rfl (hp_tys_at ha) hv hdg (kk ad H locs ls hG hx0 hl0 ⟨trivial, hst.2⟩ hS hl)
theorem hv_iast (E : hp_E p s m args meth c cc nL own Ts D cA B0) {a n : Nat} {t : hp_T} {i : Int32} {v : Int32} (hdg : decode cc pc = .ok (.iastore, 1)) (hk : hp_kd t.1 = .inr (a, n)) (ha : a < hp_na) (hty : hp_aty a = .int) (hi : vp_in i n)
    (kk : hp_V p l e R s m args below meth c Q D cA B0 nL ad0 x0 cells slots (hp_uI x t i.toNatClampNeg v) (pc + 1) lv rest) : hp_V p l e R s m args below meth c Q D cA B0 nL ad0 x0 cells slots x pc lv (aI v :: aI i :: aR t :: rest) := by
  intro ad H locs ls hG hx0 hl0 hst hS hl
  have ht : x.1 t = true := hst.2.2.1
  obtain ⟨hB, hat⟩ := hG.2.1 t ht
  rw [hp_cell_a hk] at hat
  have hy := hp_tys_at (cA := cA) ha
  rw [hty] at hat hy
  have hc0 : H[ad t]? = some (arrV (cA a) n (fun j => .int (x.2.1 t j))) := hat
  refine W.iast E.1.1 E.1.2.1 hc0 ((E.2.1.1.2 a _ hy).1 n _) (fun q => by cases q) (by rw [arrV_size]; exact hi) rfl rfl hdg fun H1 e z oq => ?_
  refine kk ad H1 _ ls (hG.put ht rfl (fun t' h => hp_cell_congr (by funext j; simp [hp_uI, h]) rfl (fun _ => rfl)) (fun k t' h => hG.2.2.2 t k t' ht h) (fun _ _ => rfl) ?_ z oq) hx0 hl0 hst.2.2.2 (hS.put z oq hB) hl
  rw [hp_cell_a hk, hty]
  show H1[ad t]? = some (vp_cell (cA a) (n, .inl ((hp_uI x t i.toNatClampNeg v).2.1 t)))
  rw [e, vp_cell_i, arrV_store]
  congr 2
  funext q
  by_cases hq : q = i.toNatClampNeg
  · subst hq
    simp [updV, hp_uI]
    try rfl
  · simp [updV, hp_uI, hq]
theorem hp_narw {v w : Int32} (h : vp_nar .boolean v = w) : narrow .boolean (.int v) = .int w := by
  rw [← h]; rfl
theorem hv_zast (E : hp_E p s m args meth c cc nL own Ts D cA B0) {a n : Nat} {t : hp_T} {i : Int32} {v : Int32} (hdg : decode cc pc = .ok (.bastore, 1)) (hk : hp_kd t.1 = .inr (a, n)) (ha : a < hp_na) (hty : hp_aty a = .boolean) (hi : vp_in i n) {w : Int32} (hw : vp_nar .boolean v = w)
    (kk : hp_V p l e R s m args below meth c Q D cA B0 nL ad0 x0 cells slots (hp_uI x t i.toNatClampNeg w) (pc + 1) lv rest) : hp_V p l e R s m args below meth c Q D cA B0 nL ad0 x0 cells slots x pc lv (aI v :: aI i :: aR t :: rest) := by
  intro ad H locs ls hG hx0 hl0 hst hS hl
  have ht : x.1 t = true := hst.2.2.1
  obtain ⟨hB, hat⟩ := hG.2.1 t ht
  rw [hp_cell_a hk] at hat
  have hy := hp_tys_at (cA := cA) ha
  rw [hty] at hat hy
  have hc0 : H[ad t]? = some (arrV (cA a) n (fun j => .int (x.2.1 t j))) := hat
  refine W.zast E.1.1 E.1.2.1 hc0 ((E.2.1.1.2 a _ hy).1 n _) (fun q => by cases q) (by rw [arrV_size]; exact hi) rfl rfl hdg fun H1 e z oq => ?_
  refine kk ad H1 _ ls (hG.put ht rfl (fun t' h => hp_cell_congr (by funext j; simp [hp_uI, h]) rfl (fun _ => rfl)) (fun k t' h => hG.2.2.2 t k t' ht h) (fun _ _ => rfl) ?_ z oq) hx0 hl0 hst.2.2.2 (hS.put z oq hB) hl
  rw [hp_cell_a hk, hty]
  show H1[ad t]? = some (vp_cell (cA a) (n, .inl ((hp_uI x t i.toNatClampNeg w).2.1 t)))
  rw [e, vp_cell_i, arrV_store]
  congr 2
  funext q
  by_cases hq : q = i.toNatClampNeg
  · subst hq
    simp [updV, hp_uI, hp_narw hw]
    try rfl
  · simp [updV, hp_uI, hq]
theorem hv_last (E : hp_E p s m args meth c cc nL own Ts D cA B0) {a n : Nat} {t : hp_T} {i : Int32} {v : Int64} (hdg : decode cc pc = .ok (.lastore, 1)) (hk : hp_kd t.1 = .inr (a, n)) (ha : a < hp_na) (hty : hp_aty a = .long) (hi : vp_in i n)
    (kk : hp_V p l e R s m args below meth c Q D cA B0 nL ad0 x0 cells slots (hp_uL x t i.toNatClampNeg v) (pc + 1) lv rest) : hp_V p l e R s m args below meth c Q D cA B0 nL ad0 x0 cells slots x pc lv (aL v :: aI i :: aR t :: rest) := by
  intro ad H locs ls hG hx0 hl0 hst hS hl
  have ht : x.1 t = true := hst.2.2.1
  obtain ⟨hB, hat⟩ := hG.2.1 t ht
  rw [hp_cell_a hk] at hat
  have hy := hp_tys_at (cA := cA) ha
  rw [hty] at hat hy
  have hc0 : H[ad t]? = some (arrV (cA a) n (fun j => .long (x.2.2.1 t j))) := hat
  refine W.last E.1.1 E.1.2.1 hc0 ((E.2.1.1.2 a _ hy).1 n _) (fun q => by cases q) (by rw [arrV_size]; exact hi) rfl rfl hdg fun H1 e z oq => ?_
  refine kk ad H1 _ ls (hG.put ht rfl (fun t' h => hp_cell_congr rfl (by funext j; simp [hp_uL, h]) (fun _ => rfl)) (fun k t' h => hG.2.2.2 t k t' ht h) (fun _ _ => rfl) ?_ z oq) hx0 hl0 hst.2.2.2 (hS.put z oq hB) hl
  rw [hp_cell_a hk, hty]
  show H1[ad t]? = some (vp_cell (cA a) (n, .inr (.inl ((hp_uL x t i.toNatClampNeg v).2.2.1 t))))
  rw [e, vp_cell_l, arrV_store]
  congr 2
  funext q
  by_cases hq : q = i.toNatClampNeg
  · subst hq
    simp [updV, hp_uL]
    try rfl
  · simp [updV, hp_uL, hq]
theorem hv_aast (E : hp_E p s m args meth c cc nL own Ts D cA B0) {a n ci : Nat} {sl : List Nat} {q : vw_C} {t t2 : hp_T} {i : Int32} (hdg : decode cc pc = .ok (.aastore, 1)) (hk : hp_kd t.1 = .inr (a, n)) (ha : a < hp_na) (hty : hp_aty a = .object q.1) (hk2 : hp_kd t2.1 = .inl (ci, sl)) (hc : vwCl[ci]? = some q) (hi : vp_in i n)
    (kk : hp_V p l e R s m args below meth c Q D cA B0 nL ad0 x0 cells slots (hp_uR x t i.toNatClampNeg (some t2)) (pc + 1) lv rest) : hp_V p l e R s m args below meth c Q D cA B0 nL ad0 x0 cells slots x pc lv (aR t2 :: aI i :: aR t :: rest) := by
  intro ad H locs ls hG hx0 hl0 hst hS hl
  have ht2 : x.1 t2 = true := hst.1
  have ht : x.1 t = true := hst.2.2.1
  obtain ⟨hB, hat⟩ := hG.2.1 t ht
  obtain ⟨-, hat2⟩ := hG.2.1 t2 ht2
  rw [hp_cell_a hk] at hat
  rw [hp_cell_o hk2] at hat2
  have hy := hp_tys_at (cA := cA) ha
  rw [hty] at hat hy
  have hc0 : H[ad t]? = some (arrV (cA a) n (fun j => va_rf ((x.2.2.2 t j).map ad))) := hat
  have hlt : i.toNatClampNeg < n := Nat.not_le.mp fun q => hi (Or.inr q)
  have h0 : ¬ i < 0 := fun q => hi (Or.inl q)
  obtain ⟨r', hr', cellV, g1, g2, g3, -⟩ := hat2
  have hcls := (E.2.1.1.1 ci q hc).2
  obtain ⟨kA, comp, k1, k2, k3, -⟩ := (E.2.1.1.2 a _ hy).2
  have hcomp : comp = D.1 ci := Option.some.inj (k3.symm.trans hcls.1)
  subst hcomp
  obtain ⟨kC, hkC, -⟩ := id hcls.2
  refine W.aast E.1.1 E.1.2.1 hc0 (fun q h => by cases h) (fun h => by cases h) k1 k2 rfl hkC ⟨h0, by rw [arrV_size]; exact hlt⟩ g1 (fun q h => by rw [g3] at h; cases h) (by rw [g2]; exact hkC) (by rw [g2]; exact va_assign hcls) rfl rfl hdg fun H1 e z oq => ?_
  refine kk ad H1 _ ls (hG.put ht rfl (fun t' h => hp_cell_congr rfl rfl (fun j => by simp [hp_uR, h])) (fun j t' h => ?_) (fun t' h => by funext j; simp [hp_uR, h]) ?_ z oq) hx0 hl0 hst.2.2.2 (hS.put z oq hB) hl
  · by_cases e9 : j = i.toNatClampNeg
    · simp [hp_uR, e9] at h
      rw [← h]; exact ht2
    · exact hG.2.2.2 t j t' ht (by simpa [hp_uR, e9] using h)
  · rw [hp_cell_a hk, hty]
    show H1[ad t]? = some (vp_cell (cA a) (n, .inr (.inr (.inr (.inr (fun j => ((hp_uR x t i.toNatClampNeg (some t2)).2.2.2 t j).map ad))))))
    rw [e, vp_cell_q, arrV_store]
    congr 2
    funext q
    by_cases hq : q = i.toNatClampNeg
    · subst hq
      simp [updV, hp_uR, va_rf]
    · simp [updV, hp_uR, hq]
/-- behind the making of a cell: what was there, and the new one -/
theorem hp_newK {ad : hp_T → Nat} {H H1 : Heap} {locs : List Loc} {ls : Array Slot} {t : hp_T} {st : List hp_A} {QQ : State → Prop} {cells' slots' pc' : Nat} (kk : ∀ (ad : hp_T → Nat) (H : Heap) (locs : List Loc) (ls : Array Slot), hp_H D cA B0 ad (hp_nw x t) H → (∀ t', x0.1 t' = true → (hp_nw x t).1 t' = true ∧ ad t' = ad0 t') → hp_okl (hp_nw x t).1 lv → hp_oks (hp_nw x t).1 (aR t :: st) → va_S (fun q => B0 ≤ q) s.heap H locs → lv_has ls nL (hp_cl ad lv) → W p l e R s m args below meth c H locs cells' slots' QQ (F0 m pc' ls ((aR t :: st).map (hp_c ad))))
    (ht : x.1 t = false) (hx0 : ∀ t', x0.1 t' = true → x.1 t' = true ∧ ad t' = ad0 t') (hl0 : hp_okl x.1 lv) (hst : hp_oks x.1 st) (hS : va_S (fun q => B0 ≤ q) s.heap H locs) (hl : lv_has ls nL (hp_cl ad lv)) (hG1 : hp_H D cA B0 (hp_ad ad t H.size) (hp_nw x t) H1) (z1 : H1.size = H.size + 1) (o1 : ∀ q : Nat, q < H.size → H1[q]? = H[q]?) :
    W p l e R s m args below meth c H1 locs cells' slots' QQ (F0 m pc' ls (.ref H.size :: st.map (hp_c ad))) := by
  have hmono : ∀ t', x.1 t' = true → (hp_nw x t).1 t' = true := fun t' h => by
    simp only [hp_nw]
    split
    · rfl
    · exact h
  have hne : ∀ t', x.1 t' = true → t' ≠ t := fun t' h' e => by rw [e, ht] at h'; cases h'
  have hsame : ∀ t', x.1 t' = true → hp_ad ad t H.size t' = ad t' := fun t' h => by simp [hp_ad, hne t' h]
  have w := kk (hp_ad ad t H.size) H1 locs ls hG1 (fun t' h => ⟨hmono t' (hx0 t' h).1, (hsame t' (hx0 t' h).1).trans (hx0 t' h).2⟩) (fun q hq => hp_ok_mono hmono (hl0 q hq)) ⟨by simp [hp_ok, hp_nw], hp_oks_mono hmono hst⟩
    ⟨Nat.le_trans hS.1 (by omega), fun y h1 h2 => (o1 y (Nat.lt_of_lt_of_le h1 hS.1)).trans (hS.2.1 y h1 h2), hS.2.2⟩ (by rw [hp_cl_same hsame hl0]; exact hl)
  rw [List.map_cons, hp_cs_same hsame hst] at w
  have e2 : hp_c (hp_ad ad t H.size) (aR t) = .ref H.size := by simp [hp_c, hp_ad, va_rf]
  rw [e2] at w
  exact w
theorem hv_new (E : hp_E p s m args meth c cc nL own Ts D cA B0) {ci index : Nat} {sl : List Nat} {C : String} {T : u_T} {N : Nat} (t : hp_T) (ty : Nat → FieldType) (hty : ∀ k, k < N → parseFieldDescriptor (T k).2.2.1 = some (ty k)) (hdg : decode cc pc = .ok (.new index, 3)) (hk : hp_kd t.1 = .inl (ci, sl)) (hc : vwCl[ci]? = some (C, T, N)) (hin : ∀ w ∈ u_ws C T N, w ∈ Ts) (hcl : Cond.classLink own index C ∈ Ts) (hinst : Cond.instantiable C N ∈ Ts) (hini : Cond.initialized C ∈ Ts) (hsl : ∀ j, j < N → defaultValue (ty j) = (match sl.getD j 0 with | 0 => .int 0 | 1 => .long 0 | _ => .null) ∧ j < sl.length) (ht : x.1 t = false) (hcells : cells + 1 ≤ R.cells) (hslots : slots + N ≤ R.slots)
    (kk : hp_V p l e R s m args below meth c Q D cA B0 nL ad0 x0 (cells + 1) (slots + N) (hp_nw x t) (pc + 3) lv (aR t :: rest)) : hp_V p l e R s m args below meth c Q D cA B0 nL ad0 x0 cells slots x pc lv rest := by
  intro ad H locs ls hG hx0 hl0 hst hS hl
  obtain ⟨hx, hb, hml, hown, hts⟩ := E.1
  have hKn := E.2.1.1.1 ci _ hc
  refine W.newcK hx hb hown (hts _ hcl) (hts _ hinst) (hts _ hini) rfl hdg hcells hslots hKn.2.1 rfl fun H1 kC hkC e1 z1 o1 => ?_
  refine hp_newK kk ht hx0 hl0 hst hS hl (hG.mk ht ?_ z1 o1) z1 o1
  rw [hp_cell_o hk]
  refine ⟨_, hc, (u_born ty hts hin hKn hkC e1 hty).to (fun j hj => ?_)⟩
  obtain ⟨h1, h2⟩ := hsl j hj
  show defaultValue (ty j) = (hp_fs _ _ _ _).getD j .null
  rw [List.getD_eq_getElem?_getD, hp_fs_get (c := sl.getD j 0) (by rw [List.getD_eq_getElem?_getD, List.getElem?_eq_getElem h2]; rfl), h1]
  match sl.getD j 0 with
  | 0 => simp [hp_val, hp_nw]
  | 1 => simp [hp_val, hp_nw]
  | n + 2 => simp [hp_val, hp_nw, va_rf]
theorem hv_newa (E : hp_E p s m args meth c cc nL own Ts D cA B0) {a n : Nat} {atype : ArrayType} {i : Int32} (t : hp_T) (hdg : decode cc pc = .ok (.newarray atype, 2)) (harr : Cond.arrayClass (newarray.typeOf atype) ∈ Ts) (hk : hp_kd t.1 = .inr (a, n)) (ha : a < hp_na) (hty : newarray.typeOf atype = hp_aty a) (hnf : ¬ atype = .float ∧ ¬ atype = .double) (hn : ¬ i < 0) (hN : i.toNatClampNeg = n) (hbytes : n * componentBytes (hp_aty a) ≤ 536870912) (ht : x.1 t = false) (hcells : cells + 1 ≤ R.cells) (hslots : slots + n ≤ R.slots)
    (kk : hp_V p l e R s m args below meth c Q D cA B0 nL ad0 x0 (cells + 1) (slots + n) (hp_nw x t) (pc + 2) lv (aR t :: rest)) : hp_V p l e R s m args below meth c Q D cA B0 nL ad0 x0 cells slots x pc lv (aI i :: rest) := by
  intro ad H locs ls hG hx0 hl0 hst hS hl
  obtain ⟨hx, hb, hml, hown, hts⟩ := E.1
  refine va_newaK hx hb (hts _ harr) rfl hdg rfl hn hN (by rw [hty]; exact hbytes) hcells hslots rfl fun H1 c0 e1 z1 o1 hAr hNm => ?_
  have hRA := (E.2.1.1.2 a _ (hp_tys_at ha)).2
  simp only [← hty] at hRA
  have ec : c0 = cA a := by
    cases atype <;> exact Option.some.inj (hNm.symm.trans hRA)
  subst ec
  refine hp_newK kk ht hx0 hl0 hst.2 hS hl (hG.mk ht ?_ z1 o1) z1 o1
  rw [hp_cell_a hk, ← hty]
  show H1[H.size]? = some (vp_cell _ _)
  rw [e1]
  cases atype <;> first | exact absurd rfl hnf.1 | exact absurd rfl hnf.2 | simp [newarray.typeOf, hp_bank, hp_arr, vp_cell, defaultValue, hp_nw]
theorem hv_newq (E : hp_E p s m args meth c cc nL own Ts D cA B0) {a n index : Nat} {C : String} {i : Int32} (t : hp_T) (hdg : decode cc pc = .ok (.anewarray index, 3)) (hcl : Cond.classLink own index C ∈ Ts) (hover : va_AO C s) (hk : hp_kd t.1 = .inr (a, n)) (ha : a < hp_na) (hty : hp_aty a = .object C) (hn : ¬ i < 0) (hN : i.toNatClampNeg = n) (hbytes : n * 4 ≤ 536870912) (ht : x.1 t = false) (hcells : cells + 1 ≤ R.cells) (hslots : slots + n ≤ R.slots)
    (kk : hp_V p l e R s m args below meth c Q D cA B0 nL ad0 x0 (cells + 1) (slots + n) (hp_nw x t) (pc + 3) lv (aR t :: rest)) : hp_V p l e R s m args below meth c Q D cA B0 nL ad0 x0 cells slots x pc lv (aI i :: rest) := by
  intro ad H locs ls hG hx0 hl0 hst hS hl
  obtain ⟨hx, hb, hml, hown, hts⟩ := E.1
  subst hN
  refine W.anew hx hb hown (hts _ hcl) (va_AO.use hover) rfl hdg rfl hn hbytes hcells hslots fun c0 kA comp f1 f2 f3 f4 => ?_
  have hRA := (E.2.1.1.2 a _ (hp_tys_at ha)).2
  simp only [hty] at hRA
  obtain ⟨_, _, _, _, _, f5⟩ := hRA
  have ec : c0 = cA a := Option.some.inj (f1.symm.trans f5)
  subst ec
  generalize hH1 : H.push ({ cls := cA a, slots := Array.replicate i.toNatClampNeg .null, vm := .none } : Cell) = H1
  have z1 : H1.size = H.size + 1 := by rw [← hH1, Array.size_push]
  have e1 : H1[H.size]? = some (arrV (cA a) i.toNatClampNeg (fun _ => .null)) := by rw [← hH1, Array.getElem?_push_size, ← arrV_new]
  have o1 : ∀ q : Nat, q < H.size → H1[q]? = H[q]? := fun q hq => by rw [← hH1, Array.getElem?_push, if_neg (Nat.ne_of_lt hq)]
  refine hp_newK kk ht hx0 hl0 hst.2 hS hl (hG.mk ht ?_ z1 o1) z1 o1
  rw [hp_cell_a hk, hty]
  show H1[H.size]? = some (vp_cell _ _)
  rw [e1]
  simp [hp_bank, hp_arr, vp_cell, hp_nw, va_rf]
theorem hp_sumcat {ad : hp_T → Nat} (l : List hp_A) : ((l.map (hp_c ad)).map fun v => v.category).sum = (l.map hp_cat).sum := by
  rw [List.map_map]
  congr 1
  apply List.map_congr_left
  intro v _
  exact hp_cat_eq ad v
theorem hv_objInit (E : hp_E p s m args meth c cc nL own Ts D cA B0) {idx : Nat} {t : hp_T} (hdg : decode cc pc = .ok (.invokespecial idx, 3)) (hlink : Cond.methodLink own idx Lib.objectInit ∈ Ts) (hinst : Cond.instanceMethod Lib.objectInit ∈ Ts) (hcode : Cond.code Lib.objectInit ⟨#[0xb1]⟩ 1 none ∈ Ts) (hframes : 1 ≤ R.frames) (hlocals : (rest.map hp_cat).sum + 12 ≤ R.locals)
    (kk : hp_V p l e R s m args below meth c Q D cA B0 nL ad0 x0 cells slots x (pc + 3) lv rest) : hp_V p l e R s m args below meth c Q D cA B0 nL ad0 x0 cells slots x pc lv (aR t :: rest) := by
  intro ad H locs ls hG hx0 hl0 hst hS hl
  obtain ⟨hx, hb, hml, hown, hts⟩ := E.1
  exact W.objInit hx hb hown (hts _ hlink) (hts _ hinst) (hts _ hcode) rfl (by rw [hml]; exact hl.1) rfl hdg hframes (by show 2 * 0 + _ + 12 ≤ _; rw [hp_sumcat]; omega) (kk ad H locs ls hG hx0 hl0 hst.2 hS hl)
theorem hv_iret (E : hp_E p s m args meth c cc nL own Ts D cA B0) {mc ms : Nat} {post : Option hp_A → hp_S → Prop} {v : Int32} (hr : meth.sig.returnType = some .int) (hdg : decode cc pc = .ok (.ireturn, 1)) (hc : cells ≤ mc) (hs : slots ≤ ms) (hp : post (some (aI v)) x) : hp_V p l e R s m args below meth c (fun ad0 => MQ below (hp_Q D cA B0 ad0 x0 post) args s mc ms (fun q => B0 ≤ q)) D cA B0 nL ad0 x0 cells slots x pc lv [aI v] := by
  intro ad H locs ls hG hx0 hl0 hst hS hl
  refine W.widen hc hs ?_
  exact W.iret E.1.1 E.1.2.1 hr (fun t ht hW => ⟨(some (aI v)), ad, x, rfl, hp, (by intro w h; cases h; trivial), hx0, by rw [ht]; exact hG, hp_K.warm hW E.2.1, hS.F ht⟩) hS.2.2 hdg E.2.2.1
theorem hv_zret (E : hp_E p s m args meth c cc nL own Ts D cA B0) {mc ms : Nat} {post : Option hp_A → hp_S → Prop} {v : Int32} (hr : meth.sig.returnType = some .boolean) (hdg : decode cc pc = .ok (.ireturn, 1)) (hv : narrow .boolean (.int v) = .int v) (hc : cells ≤ mc) (hs : slots ≤ ms) (hp : post (some (aI v)) x) : hp_V p l e R s m args below meth c (fun ad0 => MQ below (hp_Q D cA B0 ad0 x0 post) args s mc ms (fun q => B0 ≤ q)) D cA B0 nL ad0 x0 cells slots x pc lv [aI v] := by
  intro ad H locs ls hG hx0 hl0 hst hS hl
  refine W.widen hc hs ?_
  exact W.zret E.1.1 E.1.2.1 hr hv (fun t ht hW => ⟨(some (aI v)), ad, x, rfl, hp, (by intro w h; cases h; trivial), hx0, by rw [ht]; exact hG, hp_K.warm hW E.2.1, hS.F ht⟩) hS.2.2 hdg E.2.2.1
theorem hv_lret (E : hp_E p s m args meth c cc nL own Ts D cA B0) {mc ms : Nat} {post : Option hp_A → hp_S → Prop} {v : Int64} (hr : meth.sig.returnType = some .long) (hdg : decode cc pc = .ok (.lreturn, 1)) (hc : cells ≤ mc) (hs : slots ≤ ms) (hp : post (some (aL v)) x) : hp_V p l e R s m args below meth c (fun ad0 => MQ below (hp_Q D cA B0 ad0 x0 post) args s mc ms (fun q => B0 ≤ q)) D cA B0 nL ad0 x0 cells slots x pc lv [aL v] := by
  intro ad H locs ls hG hx0 hl0 hst hS hl
  refine W.widen hc hs ?_
  exact W.lret E.1.1 E.1.2.1 hr (fun t ht hW => ⟨(some (aL v)), ad, x, rfl, hp, (by intro w h; cases h; trivial), hx0, by rw [ht]; exact hG, hp_K.warm hW E.2.1, hS.F ht⟩) hS.2.2 hdg E.2.2.1
theorem hv_vret (E : hp_E p s m args meth c cc nL own Ts D cA B0) {mc ms : Nat} {post : Option hp_A → hp_S → Prop} (hr : meth.sig.returnType = none) (hdg : decode cc pc = .ok (.return_, 1)) (hc : cells ≤ mc) (hs : slots ≤ ms) (hp : post none x) : hp_V p l e R s m args below meth c (fun ad0 => MQ below (hp_Q D cA B0 ad0 x0 post) args s mc ms (fun q => B0 ≤ q)) D cA B0 nL ad0 x0 cells slots x pc lv [] := by
  intro ad H locs ls hG hx0 hl0 hst hS hl
  refine W.widen hc hs ?_
  exact W.vret E.1.1 E.1.2.1 hr (fun t ht hW => ⟨none, ad, x, rfl, hp, (by intro w h; cases h), hx0, by rw [ht]; exact hG, hp_K.warm hW E.2.1, hS.F ht⟩) hS.2.2 hdg E.2.2.1
/-- behind a call -/
theorem hp_call {mc ms : Nat} {post : Option hp_A → hp_S → Prop} {a : Array Value} {ad : hp_T → Nat} {st0 : List Value} {H : Heap} {locs : List Loc} {ls : Array Slot} (hr : va_Run p l e R s m args below meth c H locs cells slots mc ms (F0 m pc ls st0) (rest.map (hp_c ad)) (hp_Q D cA B0 ad x post a) (fun q => B0 ≤ q)) (hx0 : ∀ t, x0.1 t = true → x.1 t = true ∧ ad t = ad0 t) (hl0 : hp_okl x.1 lv) (hst : hp_oks x.1 rest) (hS : va_S (fun q => B0 ≤ q) s.heap H locs) (hl : lv_has ls nL (hp_cl ad lv))
    (kk : ∀ (v : Option hp_A) (x' : hp_S), post v x' → (∀ t, x.1 t = true → x'.1 t = true) → hp_V p l e R s m args below meth c Q D cA B0 nL ad0 x0 (cells + mc) (slots + ms) x' (pc + 3) lv (v.toList ++ rest)) : W p l e R s m args below meth c H locs cells slots (Q ad0) (F0 m pc ls st0) := by
  intro T hT X
  obtain ⟨v, st₀, t, T', L, h0, X', hL, e1, e2, ⟨v', ad', x', hv, hp, hvk, hx1, hG, hK, hz, hk⟩, st⟩ := hr T hT X
  cases hv
  rw [h0] at hz hk
  have hmono : ∀ t, x.1 t = true → x'.1 t = true := fun t h => (hx1 t h).1
  have hsame : ∀ t, x.1 t = true → ad' t = ad t := fun t h => (hx1 t h).2
  have w := kk v' x' hp hmono ad' T'.heap (locs ++ L) ls (by rw [e1]; exact hG) (fun t h => ⟨hmono t (hx0 t h).1, (hsame t (hx0 t h).1).trans (hx0 t h).2⟩) (fun q hq => hp_ok_mono hmono (hl0 q hq)) (by
      cases v' with
      | none => exact hp_oks_mono hmono hst
      | some w => exact ⟨hvk w rfl, hp_oks_mono hmono hst⟩)
    ⟨Nat.le_trans hS.1 (by rw [e1]; exact hz), fun q h1 h2 => by rw [e1, hk q (Nat.lt_of_lt_of_le h1 hS.1) h2]; exact hS.2.1 q h1 h2, fun q hq => by
      rcases List.mem_append.mp hq with h | h
      · exact hS.2.2 q h
      · exact hL q h⟩ (by rw [hp_cl_same hsame hl0]; exact hl)
  have e3 : (v'.toList ++ rest).map (hp_c ad') = (v'.map (hp_c ad')).toList ++ rest.map (hp_c ad) := by
    rw [List.map_append, hp_cs_same hsame hst]
    cases v' <;> rfl
  rw [e3] at w
  obtain ⟨t2, a1, b1⟩ := w T' rfl X'
  exact ⟨t2, st t2 a1, b1⟩
theorem hp_blind {av : List Value} {ad : hp_T → Nat} : FrameBlind (va_Pc av (fun U => hp_H D cA B0 ad x U.heap ∧ hp_K D cA U)) := fun a U g mk q => by
  obtain ⟨q0, q1, q2⟩ := q
  exact ⟨q0, q1, hp_K.same (u := U) (U := U.calling g mk a) rfl q2⟩
theorem hp_oks_app {y : hp_T → Bool} : ∀ {l r : List hp_A}, hp_oks y (l ++ r) → hp_oks y l ∧ hp_oks y r
  | [], _, h => ⟨trivial, h⟩
  | _ :: _, _, h => ⟨⟨h.1, (hp_oks_app h.2).1⟩, (hp_oks_app h.2).2⟩
theorem hp_oks_in {y : hp_T → Bool} : ∀ {l : List hp_A}, hp_oks y l ↔ ∀ v ∈ l, hp_ok y v
  | [] => ⟨fun _ v h => absurd h List.not_mem_nil, fun _ => trivial⟩
  | a :: r => ⟨fun h v hv => by
      rcases List.mem_cons.mp hv with e | e
      · rw [e]; exact h.1
      · exact hp_oks_in.mp h.2 v e, fun h => ⟨h a List.mem_cons_self, hp_oks_in.mpr (fun v hv => h v (List.mem_cons_of_mem _ hv))⟩⟩
theorem hp_oks_rev {y : hp_T → Bool} {l : List hp_A} (h : hp_oks y l.reverse) : hp_oks y l := hp_oks_in.mpr (fun v hv => hp_oks_in.mp h v (List.mem_reverse.mpr hv))
theorem hv_runV (E : hp_E p s m args meth c cc nL own Ts D cA B0) {y : MethodName} {bytes : ByteArray} {maxL mc ms n index : Nat} {ret : Option FieldType} {ws : List Cond} {rm : Room} {post : Option hp_A → hp_S → Prop} {st : List hp_A} (As : List hp_A) {t : hp_T} {ci : Nat} {sl : List Nat} {C : String} {T : u_T} {N : Nat} (hM : hp_C l y ws rm (aR t :: As) x post mc ms) (cw : CallW R s args own C index y bytes maxL ret ws rm mc ms n) (hk : hp_kd t.1 = .inl (ci, sl)) (hc : vwCl[ci]? = some (C, T, N)) (hn : As.length = n) (hst0 : st = As.reverse ++ aR t :: rest) (hW : (rest.map hp_cat).sum ≤ 8) (hdg : decode cc pc = .ok (.invokevirtual index, 3)) (hf : cells + mc ≤ R.cells ∧ slots + ms ≤ R.slots)
    (kk : ∀ (v : Option hp_A) (x' : hp_S), post v x' → (∀ t, x.1 t = true → x'.1 t = true) → hp_V p l e R s m args below meth c Q D cA B0 nL ad0 x0 (cells + mc) (slots + ms) x' (pc + 3) lv (v.toList ++ rest)) : hp_V p l e R s m args below meth c Q D cA B0 nL ad0 x0 cells slots x pc lv st := by
  intro ad H locs ls hG hx0 hl0 hst hS hl
  subst hst0
  have hsa := (hp_oks_app hst).1
  have hsb := (hp_oks_app hst).2
  have hoks : hp_oks x.1 (aR t :: As) := ⟨hsb.1, hp_oks_rev hsa⟩
  have hat := (hG.2.1 t hsb.1).2
  rw [hp_cell_o hk] at hat
  refine hp_call (rest := rest) (ad := ad) (va_runV (As := As.map (hp_c ad)) (rest := rest.map (hp_c ad)) (b := ad t) E.1 (hM D cA B0 ad hoks) cw ⟨hp_blind, va_recv E.2.1.1 (hp_one hat) (ci := ci) (q0 := 0) hc rfl, fun U hU hW => ⟨rfl, by rw [hU]; exact hG, hp_K.warm hW E.2.1⟩⟩ rfl (by rw [List.length_map]; exact hn) hl.1 (by simp [hp_c, va_rf]) (lv_room (by rw [hp_sumcat]; exact hW)) hdg hf) hx0 hl0 hsb.2 hS hl kk
theorem hv_runS (E : hp_E p s m args meth c cc nL own Ts D cA B0) {y : MethodName} {bytes : ByteArray} {maxL mc ms n index : Nat} {ret : Option FieldType} {ws : List Cond} {rm : Room} {post : Option hp_A → hp_S → Prop} {st : List hp_A} (As : List hp_A) (hM : hp_C l y ws rm As x post mc ms) (cw : CallB R s args own index y bytes maxL ret ws rm mc ms n ∧ (Cond.static y).before args s = true) (hn : As.length = n) (hst0 : st = As.reverse ++ rest) (hW : (rest.map hp_cat).sum ≤ 8) (hdg : decode cc pc = .ok (.invokestatic index, 3)) (hf : cells + mc ≤ R.cells ∧ slots + ms ≤ R.slots)
    (kk : ∀ (v : Option hp_A) (x' : hp_S), post v x' → (∀ t, x.1 t = true → x'.1 t = true) → hp_V p l e R s m args below meth c Q D cA B0 nL ad0 x0 (cells + mc) (slots + ms) x' (pc + 3) lv (v.toList ++ rest)) : hp_V p l e R s m args below meth c Q D cA B0 nL ad0 x0 cells slots x pc lv st := by
  intro ad H locs ls hG hx0 hl0 hst hS hl
  subst hst0
  have hsa := (hp_oks_app hst).1
  have hsb := (hp_oks_app hst).2
  refine hp_call (rest := rest) (ad := ad) (va_runS (As := As.map (hp_c ad)) (rest := rest.map (hp_c ad)) E.1 (hM D cA B0 ad (hp_oks_rev hsa)) cw ⟨hp_blind, fun U hU hW => ⟨rfl, by rw [hU]; exact hG, hp_K.warm hW E.2.1⟩⟩ rfl (by rw [List.length_map]; exact hn) hl.1 (by simp [hp_c, va_rf]) (lv_room (by rw [hp_sumcat]; exact hW)) hdg hf) hx0 hl0 hsb hS hl kk
theorem hv_runI (E : hp_E p s m args meth c cc nL own Ts D cA B0) {y : MethodName} {bytes : ByteArray} {maxL mc ms n index : Nat} {ws : List Cond} {rm : Room} {post : Option hp_A → hp_S → Prop} {st : List hp_A} (As : List hp_A) {t : hp_T} (hM : hp_C l y ws rm (aR t :: As) x post mc ms) (cw : CallB R s args own index y bytes maxL none ws rm mc ms n ∧ y.name = "<init>" ∧ (Cond.instanceMethod y).before args s = true) (hn : As.length = n) (hst0 : st = As.reverse ++ aR t :: rest) (hW : (rest.map hp_cat).sum ≤ 8) (hdg : decode cc pc = .ok (.invokespecial index, 3)) (hf : cells + mc ≤ R.cells ∧ slots + ms ≤ R.slots)
    (kk : ∀ (v : Option hp_A) (x' : hp_S), post v x' → (∀ t, x.1 t = true → x'.1 t = true) → hp_V p l e R s m args below meth c Q D cA B0 nL ad0 x0 (cells + mc) (slots + ms) x' (pc + 3) lv (v.toList ++ rest)) : hp_V p l e R s m args below meth c Q D cA B0 nL ad0 x0 cells slots x pc lv st := by
  intro ad H locs ls hG hx0 hl0 hst hS hl
  subst hst0
  have hsa := (hp_oks_app hst).1
  have hsb := (hp_oks_app hst).2
  have hoks : hp_oks x.1 (aR t :: As) := ⟨hsb.1, hp_oks_rev hsa⟩
  refine hp_call (rest := rest) (ad := ad) (va_runI (As := As.map (hp_c ad)) (rest := rest.map (hp_c ad)) (b := ad t) E.1 (hM D cA B0 ad hoks) cw ⟨hp_blind, fun U hU hW => ⟨rfl, by rw [hU]; exact hG, hp_K.warm hW E.2.1⟩⟩ rfl (by rw [List.length_map]; exact hn) hl.1 (by simp [hp_c, va_rf]) (lv_room (by rw [hp_sumcat]; exact hW)) hdg hf) hx0 hl0 hsb.2 hS hl kk
theorem hv_runIN (E : hp_E p s m args meth c cc nL own Ts D cA B0) {y : MethodName} {bytes : ByteArray} {maxL mc ms n index : Nat} {ws : List Cond} {rm : Room} {post : Option hp_A → hp_S → Prop} {st : List hp_A} (As : List hp_A) {t : hp_T} {host : String} (hM : hp_C l y ws rm (aR t :: As) x post mc ms) (cw : va_CN R s args own index y host bytes maxL none ws rm mc ms n ∧ y.name = "<init>" ∧ (Cond.instanceMethod y).before args s = true) (hn : As.length = n) (hst0 : st = As.reverse ++ aR t :: rest) (hW : (rest.map hp_cat).sum ≤ 8) (hdg : decode cc pc = .ok (.invokespecial index, 3)) (hf : cells + mc ≤ R.cells ∧ slots + ms ≤ R.slots)
    (kk : ∀ (v : Option hp_A) (x' : hp_S), post v x' → (∀ t, x.1 t = true → x'.1 t = true) → hp_V p l e R s m args below meth c Q D cA B0 nL ad0 x0 (cells + mc) (slots + ms) x' (pc + 3) lv (v.toList ++ rest)) : hp_V p l e R s m args below meth c Q D cA B0 nL ad0 x0 cells slots x pc lv st := by
  intro ad H locs ls hG hx0 hl0 hst hS hl
  subst hst0
  have hsa := (hp_oks_app hst).1
  have hsb := (hp_oks_app hst).2
  have hoks : hp_oks x.1 (aR t :: As) := ⟨hsb.1, hp_oks_rev hsa⟩
  refine hp_call (rest := rest) (ad := ad) (va_runIN (As := As.map (hp_c ad)) (rest := rest.map (hp_c ad)) (b := ad t) E.1 (hM D cA B0 ad hoks) cw ⟨hp_blind, fun U hU hW => ⟨rfl, by rw [hU]; exact hG, hp_K.warm hW E.2.1⟩⟩ rfl (by rw [List.length_map]; exact hn) hl.1 (by simp [hp_c, va_rf]) (lv_room (by rw [hp_sumcat]; exact hW)) hdg hf) hx0 hl0 hsb.2 hS hl kk
theorem hv_maxl (E : hp_E p s m args meth c cc nL own Ts D cA B0) {index : Nat} {a b : Int64} (hdg : decode cc pc = .ok (.invokestatic index, 3)) (hlink : Cond.methodLink own index Lib.MathLoose.max_long.x ∈ Ts) (hstat : Cond.static Lib.MathLoose.max_long.x ∈ Ts) (hini : Cond.initialized "java/lang/Math" ∈ Ts) (hcode : Cond.code Lib.MathLoose.max_long.x Lib.MathLoose.max_long.code 4 (some .long) ∈ Ts) (hframes : 1 ≤ R.frames) (hlocals : (rest.map hp_cat).sum + 15 ≤ R.locals) (hc : cells ≤ R.cells) (hs : slots ≤ R.slots)
    (kk : hp_V p l e R s m args below meth c Q D cA B0 nL ad0 x0 cells slots x (pc + 3) lv (aL (if b < a then a else b) :: rest)) : hp_V p l e R s m args below meth c Q D cA B0 nL ad0 x0 cells slots x pc lv (aL b :: aL a :: rest) := by
  intro ad H locs ls hG hx0 hl0 hst hS hl
  obtain ⟨hx, hb, hml, hown, hts⟩ := E.1
  exact va_mmax_long hx hb (by rw [hml]; exact hl.1.symm) hown (hts _ hlink) (hts _ hstat) (hts _ hini) (hts _ hcode) hframes (by rw [hp_sumcat]; exact hlocals) hc hs hdg (kk ad H locs ls hG hx0 hl0 ⟨trivial, hst.2.2⟩ hS hl)
theorem hv_VI (E : hp_E p s m args meth c cc nL own Ts D cA B0) {y : MethodName} {bytes : ByteArray} {maxL mc ms n index : Nat} {ret : Option FieldType} {ws : List Cond} {rm : Room} {P : Int32 → hp_S → Prop} {st : List hp_A} (As : List hp_A) {t : hp_T} {ci : Nat} {sl : List Nat} {C : String} {T : u_T} {N : Nat} (hM : hp_C l y ws rm (aR t :: As) x (hp_pI P) mc ms) (cw : CallW R s args own C index y bytes maxL ret ws rm mc ms n) (hk : hp_kd t.1 = .inl (ci, sl)) (hc : vwCl[ci]? = some (C, T, N)) (hn : As.length = n) (hst0 : st = As.reverse ++ aR t :: rest) (hW : (rest.map hp_cat).sum ≤ 8) (hdg : decode cc pc = .ok (.invokevirtual index, 3)) (hf : cells + mc ≤ R.cells ∧ slots + ms ≤ R.slots)
    (kk : ∀ (r : Int32) (x' : hp_S), hp_sh x' → P r x' → hp_V p l e R s m args below meth c Q D cA B0 nL ad0 x0 (cells + mc) (slots + ms) x' (pc + 3) lv (aI r :: rest)) : hp_V p l e R s m args below meth c Q D cA B0 nL ad0 x0 cells slots x pc lv st := by
  refine hv_runV E As hM cw hk hc hn hst0 hW hdg hf ?_
  rintro v x' hp -
  obtain ⟨r, rfl, h1, h2⟩ := hp
  exact kk r x' h1 h2
theorem hv_VL (E : hp_E p s m args meth c cc nL own Ts D cA B0) {y : MethodName} {bytes : ByteArray} {maxL mc ms n index : Nat} {ret : Option FieldType} {ws : List Cond} {rm : Room} {P : Int64 → hp_S → Prop} {st : List hp_A} (As : List hp_A) {t : hp_T} {ci : Nat} {sl : List Nat} {C : String} {T : u_T} {N : Nat} (hM : hp_C l y ws rm (aR t :: As) x (hp_pL P) mc ms) (cw : CallW R s args own C index y bytes maxL ret ws rm mc ms n) (hk : hp_kd t.1 = .inl (ci, sl)) (hc : vwCl[ci]? = some (C, T, N)) (hn : As.length = n) (hst0 : st = As.reverse ++ aR t :: rest) (hW : (rest.map hp_cat).sum ≤ 8) (hdg : decode cc pc = .ok (.invokevirtual index, 3)) (hf : cells + mc ≤ R.cells ∧ slots + ms ≤ R.slots)
    (kk : ∀ (r : Int64) (x' : hp_S), hp_sh x' → P r x' → hp_V p l e R s m args below meth c Q D cA B0 nL ad0 x0 (cells + mc) (slots + ms) x' (pc + 3) lv (aL r :: rest)) : hp_V p l e R s m args below meth c Q D cA B0 nL ad0 x0 cells slots x pc lv st := by
  refine hv_runV E As hM cw hk hc hn hst0 hW hdg hf ?_
  rintro v x' hp -
  obtain ⟨r, rfl, h1, h2⟩ := hp
  exact kk r x' h1 h2
theorem hv_VV (E : hp_E p s m args meth c cc nL own Ts D cA B0) {y : MethodName} {bytes : ByteArray} {maxL mc ms n index : Nat} {ret : Option FieldType} {ws : List Cond} {rm : Room} {P : hp_S → Prop} {st : List hp_A} (As : List hp_A) {t : hp_T} {ci : Nat} {sl : List Nat} {C : String} {T : u_T} {N : Nat} (hM : hp_C l y ws rm (aR t :: As) x (hp_pV P) mc ms) (cw : CallW R s args own C index y bytes maxL ret ws rm mc ms n) (hk : hp_kd t.1 = .inl (ci, sl)) (hc : vwCl[ci]? = some (C, T, N)) (hn : As.length = n) (hst0 : st = As.reverse ++ aR t :: rest) (hW : (rest.map hp_cat).sum ≤ 8) (hdg : decode cc pc = .ok (.invokevirtual index, 3)) (hf : cells + mc ≤ R.cells ∧ slots + ms ≤ R.slots)
    (kk : ∀ (x' : hp_S), hp_sh x' → P x' → hp_V p l e R s m args below meth c Q D cA B0 nL ad0 x0 (cells + mc) (slots + ms) x' (pc + 3) lv rest) : hp_V p l e R s m args below meth c Q D cA B0 nL ad0 x0 cells slots x pc lv st := by
  refine hv_runV E As hM cw hk hc hn hst0 hW hdg hf ?_
  rintro v x' hp -
  obtain ⟨rfl, h1, h2⟩ := hp
  exact kk x' h1 h2
theorem hv_SI (E : hp_E p s m args meth c cc nL own Ts D cA B0) {y : MethodName} {bytes : ByteArray} {maxL mc ms n index : Nat} {ret : Option FieldType} {ws : List Cond} {rm : Room} {P : Int32 → hp_S → Prop} {st : List hp_A} (As : List hp_A)  (hM : hp_C l y ws rm (As) x (hp_pI P) mc ms) (cw : CallB R s args own index y bytes maxL ret ws rm mc ms n ∧ (Cond.static y).before args s = true) (hn : As.length = n) (hst0 : st = As.reverse ++ rest) (hW : (rest.map hp_cat).sum ≤ 8) (hdg : decode cc pc = .ok (.invokestatic index, 3)) (hf : cells + mc ≤ R.cells ∧ slots + ms ≤ R.slots)
    (kk : ∀ (r : Int32) (x' : hp_S), hp_sh x' → P r x' → hp_V p l e R s m args below meth c Q D cA B0 nL ad0 x0 (cells + mc) (slots + ms) x' (pc + 3) lv (aI r :: rest)) : hp_V p l e R s m args below meth c Q D cA B0 nL ad0 x0 cells slots x pc lv st := by
  refine hv_runS E As hM cw hn hst0 hW hdg hf ?_
  rintro v x' hp -
  obtain ⟨r, rfl, h1, h2⟩ := hp
  exact kk r x' h1 h2
theorem hv_SL (E : hp_E p s m args meth c cc nL own Ts D cA B0) {y : MethodName} {bytes : ByteArray} {maxL mc ms n index : Nat} {ret : Option FieldType} {ws : List Cond} {rm : Room} {P : Int64 → hp_S → Prop} {st : List hp_A} (As : List hp_A)  (hM : hp_C l y ws rm (As) x (hp_pL P) mc ms) (cw : CallB R s args own index y bytes maxL ret ws rm mc ms n ∧ (Cond.static y).before args s = true) (hn : As.length = n) (hst0 : st = As.reverse ++ rest) (hW : (rest.map hp_cat).sum ≤ 8) (hdg : decode cc pc = .ok (.invokestatic index, 3)) (hf : cells + mc ≤ R.cells ∧ slots + ms ≤ R.slots)
    (kk : ∀ (r : Int64) (x' : hp_S), hp_sh x' → P r x' → hp_V p l e R s m args below meth c Q D cA B0 nL ad0 x0 (cells + mc) (slots + ms) x' (pc + 3) lv (aL r :: rest)) : hp_V p l e R s m args below meth c Q D cA B0 nL ad0 x0 cells slots x pc lv st := by
  refine hv_runS E As hM cw hn hst0 hW hdg hf ?_
  rintro v x' hp -
  obtain ⟨r, rfl, h1, h2⟩ := hp
  exact kk r x' h1 h2
theorem hv_SV (E : hp_E p s m args meth c cc nL own Ts D cA B0) {y : MethodName} {bytes : ByteArray} {maxL mc ms n index : Nat} {ret : Option FieldType} {ws : List Cond} {rm : Room} {P : hp_S → Prop} {st : List hp_A} (As : List hp_A)  (hM : hp_C l y ws rm (As) x (hp_pV P) mc ms) (cw : CallB R s args own index y bytes maxL ret ws rm mc ms n ∧ (Cond.static y).before args s = true) (hn : As.length = n) (hst0 : st = As.reverse ++ rest) (hW : (rest.map hp_cat).sum ≤ 8) (hdg : decode cc pc = .ok (.invokestatic index, 3)) (hf : cells + mc ≤ R.cells ∧ slots + ms ≤ R.slots)
    (kk : ∀ (x' : hp_S), hp_sh x' → P x' → hp_V p l e R s m args below meth c Q D cA B0 nL ad0 x0 (cells + mc) (slots + ms) x' (pc + 3) lv rest) : hp_V p l e R s m args below meth c Q D cA B0 nL ad0 x0 cells slots x pc lv st := by
  refine hv_runS E As hM cw hn hst0 hW hdg hf ?_
  rintro v x' hp -
  obtain ⟨rfl, h1, h2⟩ := hp
  exact kk x' h1 h2
theorem hp_cwV {own C : String} {index maxL mc ms : Nat} {y : MethodName} {bytes : ByteArray} {ret : Option FieldType} {rm : Room} (n : Nat) (E : hp_E p s m args meth c cc nL own hp_ws D cA B0) (h1 : Cond.methodLink own index y ∈ hp_ws) (h2 : Cond.instanceMethod y ∈ hp_ws) (h3 : Cond.selects C y y ∈ hp_ws) (h4 : Cond.initialized C ∈ hp_ws) (h5 : Cond.code y bytes maxL ret ∈ hp_ws) (hrc : rm.cells = mc) (hrs : rm.slots = ms) (hd : y.cls = C ∧ y.cls ≠ "java/lang/invoke/MethodHandle" ∧ y.cls ≠ "java/lang/invoke/VarHandle" ∧ (parseMethodDescriptor y.desc).map (fun d => d.parameters.length) = some n) (hR : rm.frames + 1 ≤ R.frames ∧ 8 + (maxL + 11) + rm.locals ≤ R.locals) : CallW R s args own C index y bytes maxL ret (Cond.code y bytes maxL ret :: hp_ws) rm mc ms n := by
  refine cwV n E.1.2.2.2.2 (fun w hw => ?_) rfl hrc hrs hd hR
  simp only [wsV, List.mem_append, List.mem_cons, List.not_mem_nil, or_false] at hw
  rcases hw with (rfl | rfl | rfl | rfl) | rfl | hw
  · exact hp_ws_good _ h1
  · exact hp_ws_good _ h2
  · exact hp_ws_good _ h3
  · exact hp_ws_good _ h4
  · exact hp_ws_good _ h5
  · exact hp_ws_good _ hw
theorem hp_cwI {own : String} {index maxL mc ms : Nat} {y : MethodName} {bytes : ByteArray} {rm : Room} (n : Nat) (E : hp_E p s m args meth c cc nL own hp_ws D cA B0) (h1 : Cond.methodLink own index y ∈ hp_ws) (h2 : Cond.instanceMethod y ∈ hp_ws) (h4 : Cond.initialized y.cls ∈ hp_ws) (h5 : Cond.code y bytes maxL none ∈ hp_ws) (hrc : rm.cells = mc) (hrs : rm.slots = ms) (hy : y.name = "<init>") (hd : y.cls ≠ "java/lang/invoke/MethodHandle" ∧ y.cls ≠ "java/lang/invoke/VarHandle" ∧ (parseMethodDescriptor y.desc).map (fun d => d.parameters.length) = some n) (hR : rm.frames + 1 ≤ R.frames ∧ 8 + (maxL + 11) + rm.locals ≤ R.locals) : CallB R s args own index y bytes maxL none (Cond.code y bytes maxL none :: hp_ws) rm mc ms n ∧ y.name = "<init>" ∧ (Cond.instanceMethod y).before args s = true := by
  refine cwI n E.1.2.2.2.2 (fun w hw => ?_) rfl hrc hrs (E.1.2.2.2.2 _ h4) (E.1.2.2.2.2 _ h1) (E.1.2.2.2.2 _ h2) hy hd hR
  rcases List.mem_cons.mp hw with rfl | hw
  · exact hp_ws_good _ h5
  · exact hp_ws_good _ hw
theorem hp_cwN {own host : String} {index maxL mc ms : Nat} {y : MethodName} {bytes : ByteArray} {rm : Room} (n : Nat) (E : hp_E p s m args meth c cc nL own hp_ws D cA B0) (h1 : va_Nw (.methodLinkNest own index y host) s) (h2 : Cond.instanceMethod y ∈ hp_ws) (h4 : Cond.initialized y.cls ∈ hp_ws) (h5 : Cond.code y bytes maxL none ∈ hp_ws) (hrc : rm.cells = mc) (hrs : rm.slots = ms) (hy : y.name = "<init>") (hd : y.cls ≠ "java/lang/invoke/MethodHandle" ∧ y.cls ≠ "java/lang/invoke/VarHandle" ∧ (parseMethodDescriptor y.desc).map (fun d => d.parameters.length) = some n) (hR : rm.frames + 1 ≤ R.frames ∧ 8 + (maxL + 11) + rm.locals ≤ R.locals) : va_CN R s args own index y host bytes maxL none (Cond.code y bytes maxL none :: hp_ws) rm mc ms n ∧ y.name = "<init>" ∧ (Cond.instanceMethod y).before args s = true := by
  refine ⟨va_cnB n E.1.2.2.2.2 (fun w hw => ?_) rfl hrc hrs h1 (E.1.2.2.2.2 _ h4) hd hR, hy, E.1.2.2.2.2 _ h2⟩
  rcases List.mem_cons.mp hw with rfl | hw
  · exact hp_ws_good _ h5
  · exact hp_ws_good _ hw
end HV
end
