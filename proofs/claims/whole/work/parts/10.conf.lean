-- VersionJoins$Conflicts.<init>()V
def k_X0_init (P : hp_S → Prop)  (x : hp_S) : Prop := x.1 (7, 0) = false ∧ ((hp_uR (hp_nw x (7, 0)) (6, 0) 0 (some (7, 0))).1 (8, 0) = false ∧ ((hp_uR (hp_nw (hp_uR (hp_nw x (7, 0)) (6, 0) 0 (some (7, 0))) (8, 0)) (6, 0) 1 (some (8, 0))).1 (9, 0) = false ∧ ((hp_uR (hp_nw (hp_uR (hp_nw (hp_uR (hp_nw x (7, 0)) (6, 0) 0 (some (7, 0))) (8, 0)) (6, 0) 1 (some (8, 0))) (9, 0)) (6, 0) 2 (some (9, 0))).1 (10, 0) = false ∧ (P (hp_uI (hp_uR (hp_uR (hp_nw (hp_uR (hp_nw (hp_uR (hp_nw (hp_uR (hp_nw x (7, 0)) (6, 0) 0 (some (7, 0))) (8, 0)) (6, 0) 1 (some (8, 0))) (9, 0)) (6, 0) 2 (some (9, 0))) (10, 0)) (6, 0) 3 (some (10, 0))) (6, 0) 4 none) (6, 0) 5 (nI 0))))))
abbrev rm_X0_init : Room := ({ frames := 1, cells := 4, slots := 96, locals := 20 } : Room)
set_option maxRecDepth 100000 in
set_option maxHeartbeats 4000000 in
theorem c_X0_init (l : Launch) (P : hp_S → Prop)  (x : hp_S) (h : k_X0_init P  x) : hp_C l yX0_init (Cond.code yX0_init cX0_init 1 (Option.none : Option Jvm.ClassFile.FieldType) :: hp_ws) rm_X0_init [aR (6, 0)] x (hp_p0 P) 4 96 := by
  refine hp_ofV (own := "VersionJoins$Conflicts") (lv := [(0, aR (6, 0))]) (by decide) rfl (Nat.le_of_ble_eq_true rfl) rfl ?_
  intro p e s m args below meth c D cA B0 ad0 E hret hnm
  unfold k_X0_init at h
  refine hv_aload_n E dX0_init_0 rfl 0 rfl ?_
  refine hv_objInit E dX0_init_1 wd_65 wd_52 wd_53 (Nat.le_of_ble_eq_true rfl) (Nat.le_of_ble_eq_true rfl) ?_
  refine hv_aload_n E dX0_init_4 rfl 0 rfl ?_
  refine hv_bipush (v := nI 24) E dX0_init_5 (by decide) ?_
  obtain ⟨h1, h⟩ := h
  refine hv_newa (i := nI 24) E (7, 0) dX0_init_7 wd_92 rfl (by decide) rfl ⟨by simp, by simp⟩ (by decide) (by decide) (by decide) h1 (Nat.le_of_ble_eq_true rfl) (Nat.le_of_ble_eq_true rfl) ?_
  refine hv_putR (ty := .array .int) (k := 0) E tyX0 okX0 nmX0 dX0_init_9 rfl rfl hiX0 (by decide) wd_66 rfl rfl (Or.inr ⟨rfl, hnm, rfl⟩) (by decide +kernel) (fun _ => rfl) (fun _ => rfl) ?_
  refine hv_aload_n E dX0_init_12 rfl 0 rfl ?_
  refine hv_bipush (v := nI 24) E dX0_init_13 (by decide) ?_
  obtain ⟨h2, h⟩ := h
  refine hv_newa (i := nI 24) E (8, 0) dX0_init_15 wd_91 rfl (by decide) rfl ⟨by simp, by simp⟩ (by decide) (by decide) (by decide) h2 (Nat.le_of_ble_eq_true rfl) (Nat.le_of_ble_eq_true rfl) ?_
  refine hv_putR (ty := .array .long) (k := 1) E tyX0 okX0 nmX0 dX0_init_17 rfl rfl hiX0 (by decide) wd_68 rfl rfl (Or.inr ⟨rfl, hnm, rfl⟩) (by decide +kernel) (fun _ => rfl) (fun _ => rfl) ?_
  refine hv_aload_n E dX0_init_20 rfl 0 rfl ?_
  refine hv_bipush (v := nI 24) E dX0_init_21 (by decide) ?_
  obtain ⟨h3, h⟩ := h
  refine hv_newa (i := nI 24) E (9, 0) dX0_init_23 wd_91 rfl (by decide) rfl ⟨by simp, by simp⟩ (by decide) (by decide) (by decide) h3 (Nat.le_of_ble_eq_true rfl) (Nat.le_of_ble_eq_true rfl) ?_
  refine hv_putR (ty := .array .long) (k := 2) E tyX0 okX0 nmX0 dX0_init_25 rfl rfl hiX0 (by decide) wd_70 rfl rfl (Or.inr ⟨rfl, hnm, rfl⟩) (by decide +kernel) (fun _ => rfl) (fun _ => rfl) ?_
  refine hv_aload_n E dX0_init_28 rfl 0 rfl ?_
  refine hv_bipush (v := nI 24) E dX0_init_29 (by decide) ?_
  obtain ⟨h4, h⟩ := h
  refine hv_newa (i := nI 24) E (10, 0) dX0_init_31 wd_93 rfl (by decide) rfl ⟨by simp, by simp⟩ (by decide) (by decide) (by decide) h4 (Nat.le_of_ble_eq_true rfl) (Nat.le_of_ble_eq_true rfl) ?_
  refine hv_putR (ty := .array .boolean) (k := 3) E tyX0 okX0 nmX0 dX0_init_33 rfl rfl hiX0 (by decide) wd_72 rfl rfl (Or.inr ⟨rfl, hnm, rfl⟩) (by decide +kernel) (fun _ => rfl) (fun _ => rfl) ?_
  refine hv_aload_n E dX0_init_36 rfl 0 rfl ?_
  refine hv_null E dX0_init_37 ?_
  refine hv_putN (ty := .object "VersionJoins$Session") (k := 4) E tyX0 okX0 nmX0 dX0_init_38 rfl rfl hiX0 (by decide) wd_74 rfl rfl (Or.inl rfl) (by decide +kernel) rfl rfl ?_
  refine hv_aload_n E dX0_init_41 rfl 0 rfl ?_
  refine hv_iconst (v := nI 0) E dX0_init_42 (by decide) ?_
  refine hv_putI (ty := .int) (k := 5) E tyX0 okX0 nmX0 dX0_init_43 rfl rfl hiX0 (by decide) wd_76 rfl rfl (Or.inl rfl) (by decide +kernel) rfl rfl ?_
  exact hv_vret E hret dX0_init_46 (Nat.le_of_ble_eq_true rfl) (Nat.le_of_ble_eq_true rfl) ⟨rfl, h⟩
-- VersionJoins$Conflicts.has(I)Z
def k_X0_has (P : Int32 → hp_S → Prop) (a1 : Int32) (x : hp_S) : Prop := (a1 < 0 → (P (nI 0) x)) ∧ (¬ a1 < 0 → (((x.2.1 (6, 0) 5) ≤ a1 → (P (nI 0) x)) ∧ (¬ (x.2.1 (6, 0) 5) ≤ a1 → (P (nI 1) x))))
abbrev rm_X0_has : Room := ({ frames := 0, cells := 0, slots := 0, locals := 0 } : Room)
set_option maxRecDepth 100000 in
set_option maxHeartbeats 4000000 in
theorem c_X0_has (l : Launch) (P : Int32 → hp_S → Prop) (a1 : Int32) (x : hp_S) (hs : hp_sh x) (h : k_X0_has P a1 x) : hp_C l yX0_has (Cond.code yX0_has cX0_has 2 (Option.some Jvm.ClassFile.FieldType.boolean) :: hp_ws) rm_X0_has [aR (6, 0), aI a1] x (hp_pI P) 0 0 := by
  refine hp_ofV (own := "VersionJoins$Conflicts") (lv := [(0, aR (6, 0)), (1, aI a1)]) (by decide) rfl (Nat.le_of_ble_eq_true rfl) rfl ?_
  intro p e s m args below meth c D cA B0 ad0 E hret hnm
  unfold k_X0_has at h
  refine hv_iload_n E dX0_has_0 rfl 1 rfl ?_
  refine hv_if_lt (tgt := 16) E dX0_has_1 (by decide) (fun c1 => ?_) (fun c1 => ?_)
  · have h := h.1 c1
    refine hv_iconst (v := nI 0) E dX0_has_16 (by decide) ?_
    exact hv_zret E hret dX0_has_17 (by decide) (Nat.le_of_ble_eq_true rfl) (Nat.le_of_ble_eq_true rfl) ⟨_, rfl, hs, h⟩
  · have h := h.2 c1
    refine hv_iload_n E dX0_has_4 rfl 1 rfl ?_
    refine hv_aload_n E dX0_has_5 rfl 0 rfl ?_
    refine hv_getI (k := 5) E dX0_has_6 rfl rfl hiX0 (by decide) wd_76 rfl rfl ?_
    refine hv_icmp_ge (tgt := 16) E dX0_has_9 (by decide) (fun c2 => ?_) (fun c2 => ?_)
    · have h := h.1 c2
      refine hv_iconst (v := nI 0) E dX0_has_16 (by decide) ?_
      exact hv_zret E hret dX0_has_17 (by decide) (Nat.le_of_ble_eq_true rfl) (Nat.le_of_ble_eq_true rfl) ⟨_, rfl, hs, h⟩
    · have h := h.2 c2
      refine hv_iconst (v := nI 1) E dX0_has_12 (by decide) ?_
      refine hv_goto (tgt := 17) E dX0_has_13 (by decide) ?_
      exact hv_zret E hret dX0_has_17 (by decide) (Nat.le_of_ble_eq_true rfl) (Nat.le_of_ble_eq_true rfl) ⟨_, rfl, hs, h⟩
-- VersionJoins$Conflicts.put(IIJJ)V
def k_X0_put (P : hp_S → Prop) (a1 : Int32) (a2 : Int32) (a3 : Int64) (a4 : Int64) (x : hp_S) : Prop := vp_in a1 24 ∧ (vp_in a1 24 ∧ (vp_in a1 24 ∧ (vp_in a1 24 ∧ (P (hp_uI (hp_uL (hp_uL (hp_uI x (7, 0) a1.toNatClampNeg a2) (8, 0) a1.toNatClampNeg a3) (9, 0) a1.toNatClampNeg a4) (10, 0) a1.toNatClampNeg (nI 0))))))
abbrev rm_X0_put : Room := ({ frames := 0, cells := 0, slots := 0, locals := 0 } : Room)
set_option maxRecDepth 100000 in
set_option maxHeartbeats 4000000 in
theorem c_X0_put (l : Launch) (P : hp_S → Prop) (a1 : Int32) (a2 : Int32) (a3 : Int64) (a4 : Int64) (x : hp_S) (hs : hp_sh x) (h : k_X0_put P a1 a2 a3 a4 x) : hp_C l yX0_put (Cond.code yX0_put cX0_put 7 (Option.none : Option Jvm.ClassFile.FieldType) :: hp_ws) rm_X0_put [aR (6, 0), aI a1, aI a2, aL a3, aL a4] x (hp_pV P) 0 0 := by
  refine hp_ofV (own := "VersionJoins$Conflicts") (lv := [(0, aR (6, 0)), (1, aI a1), (2, aI a2), (3, aL a3), (5, aL a4)]) (by decide) rfl (Nat.le_of_ble_eq_true rfl) rfl ?_
  intro p e s m args below meth c D cA B0 ad0 E hret hnm
  unfold k_X0_put at h
  refine hv_aload_n E dX0_put_0 rfl 0 rfl ?_
  refine hv_getR (k := 0) (t2 := (7, 0)) E dX0_put_1 rfl rfl hiX0 (by decide) wd_66 rfl rfl (hs _ _ _ rfl) ?_
  refine hv_iload_n E dX0_put_4 rfl 1 rfl ?_
  refine hv_iload_n E dX0_put_5 rfl 2 rfl ?_
  obtain ⟨h1, h⟩ := h
  refine hv_iast E dX0_put_6 rfl (by decide) rfl h1 ?_
  refine hv_aload_n E dX0_put_7 rfl 0 rfl ?_
  refine hv_getR (k := 1) (t2 := (8, 0)) E dX0_put_8 rfl rfl hiX0 (by decide) wd_68 rfl rfl (hs _ _ _ rfl) ?_
  refine hv_iload_n E dX0_put_11 rfl 1 rfl ?_
  refine hv_lload_n E dX0_put_12 rfl 3 rfl ?_
  obtain ⟨h2, h⟩ := h
  refine hv_last E dX0_put_13 rfl (by decide) rfl h2 ?_
  refine hv_aload_n E dX0_put_14 rfl 0 rfl ?_
  refine hv_getR (k := 2) (t2 := (9, 0)) E dX0_put_15 rfl rfl hiX0 (by decide) wd_70 rfl rfl (hs _ _ _ rfl) ?_
  refine hv_iload_n E dX0_put_18 rfl 1 rfl ?_
  refine hv_lload E dX0_put_19 4 rfl ?_
  obtain ⟨h3, h⟩ := h
  refine hv_last E dX0_put_21 rfl (by decide) rfl h3 ?_
  refine hv_aload_n E dX0_put_22 rfl 0 rfl ?_
  refine hv_getR (k := 3) (t2 := (10, 0)) E dX0_put_23 rfl rfl hiX0 (by decide) wd_72 rfl rfl (hs _ _ _ rfl) ?_
  refine hv_iload_n E dX0_put_26 rfl 1 rfl ?_
  refine hv_iconst (v := nI 0) E dX0_put_27 (by decide) ?_
  obtain ⟨h4, h⟩ := h
  refine hv_zast (w := nI 0) E dX0_put_28 rfl (by decide) rfl h4 (by decide) ?_
  exact hv_vret E hret dX0_put_29 (Nat.le_of_ble_eq_true rfl) (Nat.le_of_ble_eq_true rfl) ⟨rfl, hs, h⟩
