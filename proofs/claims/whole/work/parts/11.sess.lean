-- VersionJoins$Session.<init>()V
def k_X1_init (P : hp_S → Prop) (i : Nat) (x : hp_S) : Prop := x.1 (16, i) = false ∧ ((hp_uR (hp_nw x (16, i)) (15, i) 0 (some (16, i))).1 (17, i) = false ∧ ((hp_uR (hp_nw (hp_uR (hp_nw x (16, i)) (15, i) 0 (some (16, i))) (17, i)) (15, i) 1 (some (17, i))).1 (18, i) = false ∧ ((hp_uR (hp_nw (hp_uR (hp_nw (hp_uR (hp_nw x (16, i)) (15, i) 0 (some (16, i))) (17, i)) (15, i) 1 (some (17, i))) (18, i)) (15, i) 2 (some (18, i))).1 (19, i) = false ∧ (P (hp_uI (hp_uR (hp_nw (hp_uR (hp_nw (hp_uR (hp_nw (hp_uR (hp_nw x (16, i)) (15, i) 0 (some (16, i))) (17, i)) (15, i) 1 (some (17, i))) (18, i)) (15, i) 2 (some (18, i))) (19, i)) (15, i) 3 (some (19, i))) (15, i) 4 (nI 1))))))
abbrev rm_X1_init : Room := ({ frames := 1, cells := 4, slots := 96, locals := 20 } : Room)
set_option maxRecDepth 100000 in
set_option maxHeartbeats 4000000 in
theorem c_X1_init (l : Launch) (P : hp_S → Prop) (i : Nat) (x : hp_S) (h : k_X1_init P i x) : hp_C l yX1_init (Cond.code yX1_init cX1_init 1 (Option.none : Option Jvm.ClassFile.FieldType) :: hp_ws) rm_X1_init [aR (15, i)] x (hp_p0 P) 4 96 := by
  refine hp_ofV (own := "VersionJoins$Session") (lv := [(0, aR (15, i))]) (by decide) rfl (Nat.le_of_ble_eq_true rfl) rfl ?_
  intro p e s m args below meth c D cA B0 ad0 E hret hnm
  unfold k_X1_init at h
  refine hv_aload_n E dX1_init_0 rfl 0 rfl ?_
  refine hv_objInit E dX1_init_1 wd_234 wd_52 wd_53 (Nat.le_of_ble_eq_true rfl) (Nat.le_of_ble_eq_true rfl) ?_
  refine hv_aload_n E dX1_init_4 rfl 0 rfl ?_
  refine hv_bipush (v := nI 24) E dX1_init_5 (by decide) ?_
  obtain ⟨h1, h⟩ := h
  refine hv_newa (i := nI 24) E (16, i) dX1_init_7 wd_93 rfl (by decide) rfl ⟨by simp, by simp⟩ (by decide) (by decide) (by decide) h1 (Nat.le_of_ble_eq_true rfl) (Nat.le_of_ble_eq_true rfl) ?_
  refine hv_putR (ty := .array .boolean) (k := 0) E tyX1 okX1 nmX1 dX1_init_9 rfl rfl hiX1 (by decide) wd_235 rfl rfl (Or.inr ⟨rfl, hnm, rfl⟩) (by decide +kernel) (fun _ => rfl) (fun _ => rfl) ?_
  refine hv_aload_n E dX1_init_12 rfl 0 rfl ?_
  refine hv_bipush (v := nI 24) E dX1_init_13 (by decide) ?_
  obtain ⟨h2, h⟩ := h
  refine hv_newa (i := nI 24) E (17, i) dX1_init_15 wd_91 rfl (by decide) rfl ⟨by simp, by simp⟩ (by decide) (by decide) (by decide) h2 (Nat.le_of_ble_eq_true rfl) (Nat.le_of_ble_eq_true rfl) ?_
  refine hv_putR (ty := .array .long) (k := 1) E tyX1 okX1 nmX1 dX1_init_17 rfl rfl hiX1 (by decide) wd_236 rfl rfl (Or.inr ⟨rfl, hnm, rfl⟩) (by decide +kernel) (fun _ => rfl) (fun _ => rfl) ?_
  refine hv_aload_n E dX1_init_20 rfl 0 rfl ?_
  refine hv_bipush (v := nI 24) E dX1_init_21 (by decide) ?_
  obtain ⟨h3, h⟩ := h
  refine hv_newa (i := nI 24) E (18, i) dX1_init_23 wd_93 rfl (by decide) rfl ⟨by simp, by simp⟩ (by decide) (by decide) (by decide) h3 (Nat.le_of_ble_eq_true rfl) (Nat.le_of_ble_eq_true rfl) ?_
  refine hv_putR (ty := .array .boolean) (k := 2) E tyX1 okX1 nmX1 dX1_init_25 rfl rfl hiX1 (by decide) wd_237 rfl rfl (Or.inr ⟨rfl, hnm, rfl⟩) (by decide +kernel) (fun _ => rfl) (fun _ => rfl) ?_
  refine hv_aload_n E dX1_init_28 rfl 0 rfl ?_
  refine hv_bipush (v := nI 24) E dX1_init_29 (by decide) ?_
  obtain ⟨h4, h⟩ := h
  refine hv_newa (i := nI 24) E (19, i) dX1_init_31 wd_91 rfl (by decide) rfl ⟨by simp, by simp⟩ (by decide) (by decide) (by decide) h4 (Nat.le_of_ble_eq_true rfl) (Nat.le_of_ble_eq_true rfl) ?_
  refine hv_putR (ty := .array .long) (k := 3) E tyX1 okX1 nmX1 dX1_init_33 rfl rfl hiX1 (by decide) wd_239 rfl rfl (Or.inr ⟨rfl, hnm, rfl⟩) (by decide +kernel) (fun _ => rfl) (fun _ => rfl) ?_
  refine hv_aload_n E dX1_init_36 rfl 0 rfl ?_
  refine hv_iconst (v := nI 1) E dX1_init_37 (by decide) ?_
  refine hv_putI (ty := .boolean) (k := 4) E tyX1 okX1 nmX1 dX1_init_38 rfl rfl hiX1 (by decide) wd_241 rfl rfl (Or.inl rfl) (by decide +kernel) (by decide) rfl ?_
  exact hv_vret E hret dX1_init_41 (Nat.le_of_ble_eq_true rfl) (Nat.le_of_ble_eq_true rfl) ⟨rfl, h⟩
-- VersionJoins$Session.touch(IJ)V
def k_X1_touch (P : hp_S → Prop) (i : Nat) (a1 : Int32) (a2 : Int64) (x : hp_S) : Prop := vp_in a1 24 ∧ ((¬ (x.2.1 (16, i) a1.toNatClampNeg) = 0 → (P x)) ∧ ((x.2.1 (16, i) a1.toNatClampNeg) = 0 → (vp_in a1 24 ∧ (vp_in a1 24 ∧ (P (hp_uL (hp_uI x (16, i) a1.toNatClampNeg (nI 1)) (17, i) a1.toNatClampNeg a2))))))
abbrev rm_X1_touch : Room := ({ frames := 0, cells := 0, slots := 0, locals := 0 } : Room)
set_option maxRecDepth 100000 in
set_option maxHeartbeats 4000000 in
theorem c_X1_touch (l : Launch) (P : hp_S → Prop) (i : Nat) (a1 : Int32) (a2 : Int64) (x : hp_S) (hs : hp_sh x) (h : k_X1_touch P i a1 a2 x) : hp_C l yX1_touch (Cond.code yX1_touch cX1_touch 4 (Option.none : Option Jvm.ClassFile.FieldType) :: hp_ws) rm_X1_touch [aR (15, i), aI a1, aL a2] x (hp_pV P) 0 0 := by
  refine hp_ofV (own := "VersionJoins$Session") (lv := [(0, aR (15, i)), (1, aI a1), (2, aL a2)]) (by decide) rfl (Nat.le_of_ble_eq_true rfl) rfl ?_
  intro p e s m args below meth c D cA B0 ad0 E hret hnm
  unfold k_X1_touch at h
  refine hv_aload_n E dX1_touch_0 rfl 0 rfl ?_
  refine hv_getR (k := 0) (t2 := (16, i)) E dX1_touch_1 rfl rfl hiX1 (by decide) wd_235 rfl rfl (hs _ _ _ rfl) ?_
  refine hv_iload_n E dX1_touch_4 rfl 1 rfl ?_
  obtain ⟨h1, h⟩ := h
  refine hv_zald E dX1_touch_5 rfl (by decide) rfl h1 ?_
  refine hv_if_ne (tgt := 23) E dX1_touch_6 (by decide) (fun c2 => ?_) (fun c2 => ?_)
  · have h := h.1 c2
    exact hv_vret E hret dX1_touch_23 (Nat.le_of_ble_eq_true rfl) (Nat.le_of_ble_eq_true rfl) ⟨rfl, hs, h⟩
  · have h := h.2 c2
    refine hv_aload_n E dX1_touch_9 rfl 0 rfl ?_
    refine hv_getR (k := 0) (t2 := (16, i)) E dX1_touch_10 rfl rfl hiX1 (by decide) wd_235 rfl rfl (hs _ _ _ rfl) ?_
    refine hv_iload_n E dX1_touch_13 rfl 1 rfl ?_
    refine hv_iconst (v := nI 1) E dX1_touch_14 (by decide) ?_
    obtain ⟨h3, h⟩ := h
    refine hv_zast (w := nI 1) E dX1_touch_15 rfl (by decide) rfl h3 (by decide) ?_
    refine hv_aload_n E dX1_touch_16 rfl 0 rfl ?_
    refine hv_getR (k := 1) (t2 := (17, i)) E dX1_touch_17 rfl rfl hiX1 (by decide) wd_236 rfl rfl (hs _ _ _ rfl) ?_
    refine hv_iload_n E dX1_touch_20 rfl 1 rfl ?_
    refine hv_lload_n E dX1_touch_21 rfl 2 rfl ?_
    obtain ⟨h4, h⟩ := h
    refine hv_last E dX1_touch_22 rfl (by decide) rfl h4 ?_
    exact hv_vret E hret dX1_touch_23 (Nat.le_of_ble_eq_true rfl) (Nat.le_of_ble_eq_true rfl) ⟨rfl, hs, h⟩
-- VersionJoins$Session.keepWritten(IJ)V
def k_X1_keepWritten (P : hp_S → Prop) (i : Nat) (a1 : Int32) (a2 : Int64) (x : hp_S) : Prop := vp_in a1 24 ∧ (vp_in a1 24 ∧ (P (hp_uL (hp_uI x (18, i) a1.toNatClampNeg (nI 1)) (19, i) a1.toNatClampNeg a2)))
abbrev rm_X1_keepWritten : Room := ({ frames := 0, cells := 0, slots := 0, locals := 0 } : Room)
set_option maxRecDepth 100000 in
set_option maxHeartbeats 4000000 in
theorem c_X1_keepWritten (l : Launch) (P : hp_S → Prop) (i : Nat) (a1 : Int32) (a2 : Int64) (x : hp_S) (hs : hp_sh x) (h : k_X1_keepWritten P i a1 a2 x) : hp_C l yX1_keepWritten (Cond.code yX1_keepWritten cX1_keepWritten 4 (Option.none : Option Jvm.ClassFile.FieldType) :: hp_ws) rm_X1_keepWritten [aR (15, i), aI a1, aL a2] x (hp_pV P) 0 0 := by
  refine hp_ofV (own := "VersionJoins$Session") (lv := [(0, aR (15, i)), (1, aI a1), (2, aL a2)]) (by decide) rfl (Nat.le_of_ble_eq_true rfl) rfl ?_
  intro p e s m args below meth c D cA B0 ad0 E hret hnm
  unfold k_X1_keepWritten at h
  refine hv_aload_n E dX1_keepWritten_0 rfl 0 rfl ?_
  refine hv_getR (k := 2) (t2 := (18, i)) E dX1_keepWritten_1 rfl rfl hiX1 (by decide) wd_237 rfl rfl (hs _ _ _ rfl) ?_
  refine hv_iload_n E dX1_keepWritten_4 rfl 1 rfl ?_
  refine hv_iconst (v := nI 1) E dX1_keepWritten_5 (by decide) ?_
  obtain ⟨h1, h⟩ := h
  refine hv_zast (w := nI 1) E dX1_keepWritten_6 rfl (by decide) rfl h1 (by decide) ?_
  refine hv_aload_n E dX1_keepWritten_7 rfl 0 rfl ?_
  refine hv_getR (k := 3) (t2 := (19, i)) E dX1_keepWritten_8 rfl rfl hiX1 (by decide) wd_239 rfl rfl (hs _ _ _ rfl) ?_
  refine hv_iload_n E dX1_keepWritten_11 rfl 1 rfl ?_
  refine hv_lload_n E dX1_keepWritten_12 rfl 2 rfl ?_
  obtain ⟨h2, h⟩ := h
  refine hv_last E dX1_keepWritten_13 rfl (by decide) rfl h2 ?_
  exact hv_vret E hret dX1_keepWritten_14 (Nat.le_of_ble_eq_true rfl) (Nat.le_of_ble_eq_true rfl) ⟨rfl, hs, h⟩
-- VersionJoins$Session.dropWritten(I)V
def k_X1_dropWritten (P : hp_S → Prop) (i : Nat) (a1 : Int32) (x : hp_S) : Prop := vp_in a1 24 ∧ (P (hp_uI x (18, i) a1.toNatClampNeg (nI 0)))
abbrev rm_X1_dropWritten : Room := ({ frames := 0, cells := 0, slots := 0, locals := 0 } : Room)
set_option maxRecDepth 100000 in
set_option maxHeartbeats 4000000 in
theorem c_X1_dropWritten (l : Launch) (P : hp_S → Prop) (i : Nat) (a1 : Int32) (x : hp_S) (hs : hp_sh x) (h : k_X1_dropWritten P i a1 x) : hp_C l yX1_dropWritten (Cond.code yX1_dropWritten cX1_dropWritten 2 (Option.none : Option Jvm.ClassFile.FieldType) :: hp_ws) rm_X1_dropWritten [aR (15, i), aI a1] x (hp_pV P) 0 0 := by
  refine hp_ofV (own := "VersionJoins$Session") (lv := [(0, aR (15, i)), (1, aI a1)]) (by decide) rfl (Nat.le_of_ble_eq_true rfl) rfl ?_
  intro p e s m args below meth c D cA B0 ad0 E hret hnm
  unfold k_X1_dropWritten at h
  refine hv_aload_n E dX1_dropWritten_0 rfl 0 rfl ?_
  refine hv_getR (k := 2) (t2 := (18, i)) E dX1_dropWritten_1 rfl rfl hiX1 (by decide) wd_237 rfl rfl (hs _ _ _ rfl) ?_
  refine hv_iload_n E dX1_dropWritten_4 rfl 1 rfl ?_
  refine hv_iconst (v := nI 0) E dX1_dropWritten_5 (by decide) ?_
  obtain ⟨h1, h⟩ := h
  refine hv_zast (w := nI 0) E dX1_dropWritten_6 rfl (by decide) rfl h1 (by decide) ?_
  exact hv_vret E hret dX1_dropWritten_7 (Nat.le_of_ble_eq_true rfl) (Nat.le_of_ble_eq_true rfl) ⟨rfl, hs, h⟩
-- VersionJoins$Session.rebase(IJ)V
def k_X1_rebase (P : hp_S → Prop) (i : Nat) (a1 : Int32) (a2 : Int64) (x : hp_S) : Prop := vp_in a1 24 ∧ (P (hp_uL x (17, i) a1.toNatClampNeg a2))
abbrev rm_X1_rebase : Room := ({ frames := 0, cells := 0, slots := 0, locals := 0 } : Room)
set_option maxRecDepth 100000 in
set_option maxHeartbeats 4000000 in
theorem c_X1_rebase (l : Launch) (P : hp_S → Prop) (i : Nat) (a1 : Int32) (a2 : Int64) (x : hp_S) (hs : hp_sh x) (h : k_X1_rebase P i a1 a2 x) : hp_C l yX1_rebase (Cond.code yX1_rebase cX1_rebase 4 (Option.none : Option Jvm.ClassFile.FieldType) :: hp_ws) rm_X1_rebase [aR (15, i), aI a1, aL a2] x (hp_pV P) 0 0 := by
  refine hp_ofV (own := "VersionJoins$Session") (lv := [(0, aR (15, i)), (1, aI a1), (2, aL a2)]) (by decide) rfl (Nat.le_of_ble_eq_true rfl) rfl ?_
  intro p e s m args below meth c D cA B0 ad0 E hret hnm
  unfold k_X1_rebase at h
  refine hv_aload_n E dX1_rebase_0 rfl 0 rfl ?_
  refine hv_getR (k := 1) (t2 := (17, i)) E dX1_rebase_1 rfl rfl hiX1 (by decide) wd_236 rfl rfl (hs _ _ _ rfl) ?_
  refine hv_iload_n E dX1_rebase_4 rfl 1 rfl ?_
  refine hv_lload_n E dX1_rebase_5 rfl 2 rfl ?_
  obtain ⟨h1, h⟩ := h
  refine hv_last E dX1_rebase_6 rfl (by decide) rfl h1 ?_
  exact hv_vret E hret dX1_rebase_7 (Nat.le_of_ble_eq_true rfl) (Nat.le_of_ble_eq_true rfl) ⟨rfl, hs, h⟩
-- VersionJoins$Session.view(I)J
def k_X1_view (P : Int64 → hp_S → Prop) (i : Nat) (a1 : Int32) (x : hp_S) : Prop := vp_in a1 24 ∧ (((x.2.1 (18, i) a1.toNatClampNeg) = 0 → (vp_in a1 24 ∧ (P (x.2.2.1 (17, i) a1.toNatClampNeg) x))) ∧ (¬ (x.2.1 (18, i) a1.toNatClampNeg) = 0 → (vp_in a1 24 ∧ (P (x.2.2.1 (19, i) a1.toNatClampNeg) x))))
abbrev rm_X1_view : Room := ({ frames := 0, cells := 0, slots := 0, locals := 0 } : Room)
set_option maxRecDepth 100000 in
set_option maxHeartbeats 4000000 in
theorem c_X1_view (l : Launch) (P : Int64 → hp_S → Prop) (i : Nat) (a1 : Int32) (x : hp_S) (hs : hp_sh x) (h : k_X1_view P i a1 x) : hp_C l yX1_view (Cond.code yX1_view cX1_view 2 (Option.some Jvm.ClassFile.FieldType.long) :: hp_ws) rm_X1_view [aR (15, i), aI a1] x (hp_pL P) 0 0 := by
  refine hp_ofV (own := "VersionJoins$Session") (lv := [(0, aR (15, i)), (1, aI a1)]) (by decide) rfl (Nat.le_of_ble_eq_true rfl) rfl ?_
  intro p e s m args below meth c D cA B0 ad0 E hret hnm
  unfold k_X1_view at h
  refine hv_aload_n E dX1_view_0 rfl 0 rfl ?_
  refine hv_getR (k := 2) (t2 := (18, i)) E dX1_view_1 rfl rfl hiX1 (by decide) wd_237 rfl rfl (hs _ _ _ rfl) ?_
  refine hv_iload_n E dX1_view_4 rfl 1 rfl ?_
  obtain ⟨h1, h⟩ := h
  refine hv_zald E dX1_view_5 rfl (by decide) rfl h1 ?_
  refine hv_if_eq (tgt := 18) E dX1_view_6 (by decide) (fun c2 => ?_) (fun c2 => ?_)
  · have h := h.1 c2
    refine hv_aload_n E dX1_view_18 rfl 0 rfl ?_
    refine hv_getR (k := 1) (t2 := (17, i)) E dX1_view_19 rfl rfl hiX1 (by decide) wd_236 rfl rfl (hs _ _ _ rfl) ?_
    refine hv_iload_n E dX1_view_22 rfl 1 rfl ?_
    obtain ⟨h3, h⟩ := h
    refine hv_lald E dX1_view_23 rfl (by decide) rfl h3 ?_
    exact hv_lret E hret dX1_view_24 (Nat.le_of_ble_eq_true rfl) (Nat.le_of_ble_eq_true rfl) ⟨_, rfl, hs, h⟩
  · have h := h.2 c2
    refine hv_aload_n E dX1_view_9 rfl 0 rfl ?_
    refine hv_getR (k := 3) (t2 := (19, i)) E dX1_view_10 rfl rfl hiX1 (by decide) wd_239 rfl rfl (hs _ _ _ rfl) ?_
    refine hv_iload_n E dX1_view_13 rfl 1 rfl ?_
    obtain ⟨h4, h⟩ := h
    refine hv_lald E dX1_view_14 rfl (by decide) rfl h4 ?_
    refine hv_goto (tgt := 24) E dX1_view_15 (by decide) ?_
    exact hv_lret E hret dX1_view_24 (Nat.le_of_ble_eq_true rfl) (Nat.le_of_ble_eq_true rfl) ⟨_, rfl, hs, h⟩
-- VersionJoins$Session.isConflict(IJ)Z
def k_X1_isConflict (P : Int32 → hp_S → Prop) (i : Nat) (a1 : Int32) (a2 : Int64) (x : hp_S) : Prop := vp_in a1 24 ∧ (((x.2.1 (16, i) a1.toNatClampNeg) = 0 → (P (nI 0) x)) ∧ (¬ (x.2.1 (16, i) a1.toNatClampNeg) = 0 → (vp_in a1 24 ∧ (((lg_cmp (x.2.2.1 (17, i) a1.toNatClampNeg) a2) = 0 → (P (nI 0) x)) ∧ (¬ (lg_cmp (x.2.2.1 (17, i) a1.toNatClampNeg) a2) = 0 → (vp_in a1 24 ∧ (((x.2.1 (18, i) a1.toNatClampNeg) = 0 → (P (nI 1) x)) ∧ (¬ (x.2.1 (18, i) a1.toNatClampNeg) = 0 → (vp_in a1 24 ∧ (((lg_cmp (x.2.2.1 (19, i) a1.toNatClampNeg) a2) = 0 → (P (nI 0) x)) ∧ (¬ (lg_cmp (x.2.2.1 (19, i) a1.toNatClampNeg) a2) = 0 → (P (nI 1) x))))))))))))
abbrev rm_X1_isConflict : Room := ({ frames := 0, cells := 0, slots := 0, locals := 0 } : Room)
set_option maxRecDepth 100000 in
set_option maxHeartbeats 4000000 in
theorem c_X1_isConflict (l : Launch) (P : Int32 → hp_S → Prop) (i : Nat) (a1 : Int32) (a2 : Int64) (x : hp_S) (hs : hp_sh x) (h : k_X1_isConflict P i a1 a2 x) : hp_C l yX1_isConflict (Cond.code yX1_isConflict cX1_isConflict 4 (Option.some Jvm.ClassFile.FieldType.boolean) :: hp_ws) rm_X1_isConflict [aR (15, i), aI a1, aL a2] x (hp_pI P) 0 0 := by
  refine hp_ofV (own := "VersionJoins$Session") (lv := [(0, aR (15, i)), (1, aI a1), (2, aL a2)]) (by decide) rfl (Nat.le_of_ble_eq_true rfl) rfl ?_
  intro p e s m args below meth c D cA B0 ad0 E hret hnm
  unfold k_X1_isConflict at h
  refine hv_aload_n E dX1_isConflict_0 rfl 0 rfl ?_
  refine hv_getR (k := 0) (t2 := (16, i)) E dX1_isConflict_1 rfl rfl hiX1 (by decide) wd_235 rfl rfl (hs _ _ _ rfl) ?_
  refine hv_iload_n E dX1_isConflict_4 rfl 1 rfl ?_
  obtain ⟨h1, h⟩ := h
  refine hv_zald E dX1_isConflict_5 rfl (by decide) rfl h1 ?_
  refine hv_if_eq (tgt := 44) E dX1_isConflict_6 (by decide) (fun c2 => ?_) (fun c2 => ?_)
  · have h := h.1 c2
    refine hv_iconst (v := nI 0) E dX1_isConflict_44 (by decide) ?_
    exact hv_zret E hret dX1_isConflict_45 (by decide) (Nat.le_of_ble_eq_true rfl) (Nat.le_of_ble_eq_true rfl) ⟨_, rfl, hs, h⟩
  · have h := h.2 c2
    refine hv_aload_n E dX1_isConflict_9 rfl 0 rfl ?_
    refine hv_getR (k := 1) (t2 := (17, i)) E dX1_isConflict_10 rfl rfl hiX1 (by decide) wd_236 rfl rfl (hs _ _ _ rfl) ?_
    refine hv_iload_n E dX1_isConflict_13 rfl 1 rfl ?_
    obtain ⟨h3, h⟩ := h
    refine hv_lald E dX1_isConflict_14 rfl (by decide) rfl h3 ?_
    refine hv_lload_n E dX1_isConflict_15 rfl 2 rfl ?_
    refine hv_lcmp E dX1_isConflict_16 ?_
    refine hv_if_eq (tgt := 44) E dX1_isConflict_17 (by decide) (fun c4 => ?_) (fun c4 => ?_)
    · have h := h.1 c4
      refine hv_iconst (v := nI 0) E dX1_isConflict_44 (by decide) ?_
      exact hv_zret E hret dX1_isConflict_45 (by decide) (Nat.le_of_ble_eq_true rfl) (Nat.le_of_ble_eq_true rfl) ⟨_, rfl, hs, h⟩
    · have h := h.2 c4
      refine hv_aload_n E dX1_isConflict_20 rfl 0 rfl ?_
      refine hv_getR (k := 2) (t2 := (18, i)) E dX1_isConflict_21 rfl rfl hiX1 (by decide) wd_237 rfl rfl (hs _ _ _ rfl) ?_
      refine hv_iload_n E dX1_isConflict_24 rfl 1 rfl ?_
      obtain ⟨h5, h⟩ := h
      refine hv_zald E dX1_isConflict_25 rfl (by decide) rfl h5 ?_
      refine hv_if_eq (tgt := 40) E dX1_isConflict_26 (by decide) (fun c6 => ?_) (fun c6 => ?_)
      · have h := h.1 c6
        refine hv_iconst (v := nI 1) E dX1_isConflict_40 (by decide) ?_
        refine hv_goto (tgt := 45) E dX1_isConflict_41 (by decide) ?_
        exact hv_zret E hret dX1_isConflict_45 (by decide) (Nat.le_of_ble_eq_true rfl) (Nat.le_of_ble_eq_true rfl) ⟨_, rfl, hs, h⟩
      · have h := h.2 c6
        refine hv_aload_n E dX1_isConflict_29 rfl 0 rfl ?_
        refine hv_getR (k := 3) (t2 := (19, i)) E dX1_isConflict_30 rfl rfl hiX1 (by decide) wd_239 rfl rfl (hs _ _ _ rfl) ?_
        refine hv_iload_n E dX1_isConflict_33 rfl 1 rfl ?_
        obtain ⟨h7, h⟩ := h
        refine hv_lald E dX1_isConflict_34 rfl (by decide) rfl h7 ?_
        refine hv_lload_n E dX1_isConflict_35 rfl 2 rfl ?_
        refine hv_lcmp E dX1_isConflict_36 ?_
        refine hv_if_eq (tgt := 44) E dX1_isConflict_37 (by decide) (fun c8 => ?_) (fun c8 => ?_)
        · have h := h.1 c8
          refine hv_iconst (v := nI 0) E dX1_isConflict_44 (by decide) ?_
          exact hv_zret E hret dX1_isConflict_45 (by decide) (Nat.le_of_ble_eq_true rfl) (Nat.le_of_ble_eq_true rfl) ⟨_, rfl, hs, h⟩
        · have h := h.2 c8
          refine hv_iconst (v := nI 1) E dX1_isConflict_40 (by decide) ?_
          refine hv_goto (tgt := 45) E dX1_isConflict_41 (by decide) ?_
          exact hv_zret E hret dX1_isConflict_45 (by decide) (Nat.le_of_ble_eq_true rfl) (Nat.le_of_ble_eq_true rfl) ⟨_, rfl, hs, h⟩
-- VersionJoins$Session.isWithinBounds()Z
def k_X1_isWithinBounds_2 (P : Int32 → hp_S → Prop) (i : Nat) : Nat → hp_S → Int32 → Prop
  | 0, _, _ => False
  | n + 1, x, l1 => ((nI 24) ≤ l1 → (P (nI 1) x)) ∧ (¬ (nI 24) ≤ l1 → (vp_in l1 24 ∧ (((x.2.1 (18, i) l1.toNatClampNeg) = 0 → (k_X1_isWithinBounds_2 P i n x (l1 + nI 1))) ∧ (¬ (x.2.1 (18, i) l1.toNatClampNeg) = 0 → (vp_in l1 24 ∧ ((0 < (lg_cmp (x.2.2.1 (19, i) l1.toNatClampNeg) 1000000000000) → (P (nI 0) x)) ∧ (¬ 0 < (lg_cmp (x.2.2.1 (19, i) l1.toNatClampNeg) 1000000000000) → (vp_in l1 24 ∧ ((0 ≤ (lg_cmp (x.2.2.1 (19, i) l1.toNatClampNeg) (-1000000000000)) → (k_X1_isWithinBounds_2 P i n x (l1 + nI 1))) ∧ (¬ 0 ≤ (lg_cmp (x.2.2.1 (19, i) l1.toNatClampNeg) (-1000000000000)) → (P (nI 0) x)))))))))))
def k_X1_isWithinBounds (P : Int32 → hp_S → Prop) (i : Nat) (x : hp_S) : Prop := ∃ q, k_X1_isWithinBounds_2 P i q x (nI 0)
abbrev rm_X1_isWithinBounds : Room := ({ frames := 0, cells := 0, slots := 0, locals := 0 } : Room)
set_option maxRecDepth 100000 in
set_option maxHeartbeats 4000000 in
theorem w_X1_isWithinBounds_2 {p : Program} {l : Launch} {e : Env} {s : State} {m : MethodId} {args : Array Value} {below : List Frame} {meth : Method} {c : Code} {D : va_G} {cA : Nat → ClassId} {B0 : Nat} {ad0 : hp_T → Nat} {x0 : hp_S} (E : hp_E p s m args meth c cX1_isWithinBounds 2 "VersionJoins$Session" hp_ws D cA B0) (hret : meth.sig.returnType = (Option.some Jvm.ClassFile.FieldType.boolean)) {P : Int32 → hp_S → Prop} (i : Nat) : ∀ (n : Nat) (x : hp_S) (l1 : Int32), hp_sh x → k_X1_isWithinBounds_2 P i n x l1 → hp_V p l e rm_X1_isWithinBounds s m args below meth c (fun ad0 => MQ below (hp_Q D cA B0 ad0 x0 (hp_pI P)) args s 0 0 (fun q => B0 ≤ q)) D cA B0 2 ad0 x0 0 0 x 2 [(0, aR (15, i)), (1, aI l1)] [] := by
  intro n
  induction n with
  | zero => intro x l1 hs h; exact absurd h id
  | succ n ih =>
    intro x l1 hs h
    unfold k_X1_isWithinBounds_2 at h
    refine hv_iload_n E dX1_isWithinBounds_2 rfl 1 rfl ?_
    refine hv_bipush (v := nI 24) E dX1_isWithinBounds_3 (by decide) ?_
    refine hv_icmp_ge (tgt := 51) E dX1_isWithinBounds_5 (by decide) (fun c1 => ?_) (fun c1 => ?_)
    · have h := h.1 c1
      refine hv_iconst (v := nI 1) E dX1_isWithinBounds_51 (by decide) ?_
      exact hv_zret E hret dX1_isWithinBounds_52 (by decide) (Nat.le_of_ble_eq_true rfl) (Nat.le_of_ble_eq_true rfl) ⟨_, rfl, hs, h⟩
    · have h := h.2 c1
      refine hv_aload_n E dX1_isWithinBounds_8 rfl 0 rfl ?_
      refine hv_getR (k := 2) (t2 := (18, i)) E dX1_isWithinBounds_9 rfl rfl hiX1 (by decide) wd_237 rfl rfl (hs _ _ _ rfl) ?_
      refine hv_iload_n E dX1_isWithinBounds_12 rfl 1 rfl ?_
      obtain ⟨h2, h⟩ := h
      refine hv_zald E dX1_isWithinBounds_13 rfl (by decide) rfl h2 ?_
      refine hv_if_eq (tgt := 45) E dX1_isWithinBounds_14 (by decide) (fun c3 => ?_) (fun c3 => ?_)
      · have h := h.1 c3
        refine hv_iinc (v := l1 + nI 1) (lv' := [(0, aR (15, i))]) E 1 dX1_isWithinBounds_45 rfl (hx_i1 _) (by decide) rfl ?_
        refine hv_goto (tgt := 2) E dX1_isWithinBounds_48 (by decide) ?_
        refine hv_lv [1, 0] rfl ?_
        exact ih x (l1 + nI 1) hs h
      · have h := h.2 c3
        refine hv_aload_n E dX1_isWithinBounds_17 rfl 0 rfl ?_
        refine hv_getR (k := 3) (t2 := (19, i)) E dX1_isWithinBounds_18 rfl rfl hiX1 (by decide) wd_239 rfl rfl (hs _ _ _ rfl) ?_
        refine hv_iload_n E dX1_isWithinBounds_21 rfl 1 rfl ?_
        obtain ⟨h4, h⟩ := h
        refine hv_lald E dX1_isWithinBounds_22 rfl (by decide) rfl h4 ?_
        refine hv_ldc2 (v := 1000000000000) E wd_298 dX1_isWithinBounds_23 ?_
        refine hv_lcmp E dX1_isWithinBounds_26 ?_
        refine hv_if_gt (tgt := 43) E dX1_isWithinBounds_27 (by decide) (fun c5 => ?_) (fun c5 => ?_)
        · have h := h.1 c5
          refine hv_iconst (v := nI 0) E dX1_isWithinBounds_43 (by decide) ?_
          exact hv_zret E hret dX1_isWithinBounds_44 (by decide) (Nat.le_of_ble_eq_true rfl) (Nat.le_of_ble_eq_true rfl) ⟨_, rfl, hs, h⟩
        · have h := h.2 c5
          refine hv_aload_n E dX1_isWithinBounds_30 rfl 0 rfl ?_
          refine hv_getR (k := 3) (t2 := (19, i)) E dX1_isWithinBounds_31 rfl rfl hiX1 (by decide) wd_239 rfl rfl (hs _ _ _ rfl) ?_
          refine hv_iload_n E dX1_isWithinBounds_34 rfl 1 rfl ?_
          obtain ⟨h6, h⟩ := h
          refine hv_lald E dX1_isWithinBounds_35 rfl (by decide) rfl h6 ?_
          refine hv_ldc2 (v := (-1000000000000)) E wd_299 dX1_isWithinBounds_36 ?_
          refine hv_lcmp E dX1_isWithinBounds_39 ?_
          refine hv_if_ge (tgt := 45) E dX1_isWithinBounds_40 (by decide) (fun c7 => ?_) (fun c7 => ?_)
          · have h := h.1 c7
            refine hv_iinc (v := l1 + nI 1) (lv' := [(0, aR (15, i))]) E 1 dX1_isWithinBounds_45 rfl (hx_i1 _) (by decide) rfl ?_
            refine hv_goto (tgt := 2) E dX1_isWithinBounds_48 (by decide) ?_
            refine hv_lv [1, 0] rfl ?_
            exact ih x (l1 + nI 1) hs h
          · have h := h.2 c7
            refine hv_iconst (v := nI 0) E dX1_isWithinBounds_43 (by decide) ?_
            exact hv_zret E hret dX1_isWithinBounds_44 (by decide) (Nat.le_of_ble_eq_true rfl) (Nat.le_of_ble_eq_true rfl) ⟨_, rfl, hs, h⟩
set_option maxRecDepth 100000 in
set_option maxHeartbeats 4000000 in
theorem c_X1_isWithinBounds (l : Launch) (P : Int32 → hp_S → Prop) (i : Nat) (x : hp_S) (hs : hp_sh x) (h : k_X1_isWithinBounds P i x) : hp_C l yX1_isWithinBounds (Cond.code yX1_isWithinBounds cX1_isWithinBounds 2 (Option.some Jvm.ClassFile.FieldType.boolean) :: hp_ws) rm_X1_isWithinBounds [aR (15, i)] x (hp_pI P) 0 0 := by
  refine hp_ofV (own := "VersionJoins$Session") (lv := [(0, aR (15, i))]) (by decide) rfl (Nat.le_of_ble_eq_true rfl) rfl ?_
  intro p e s m args below meth c D cA B0 ad0 E hret hnm
  unfold k_X1_isWithinBounds at h
  refine hv_iconst (v := nI 0) E dX1_isWithinBounds_0 (by decide) ?_
  refine hv_istore_n (lv' := [(0, aR (15, i))]) E dX1_isWithinBounds_1 rfl (by decide) rfl ?_
  obtain ⟨n8, h⟩ := h
  refine hv_lv [1, 0] rfl ?_
  exact w_X1_isWithinBounds_2 E hret i n8 x (nI 0) hs h
