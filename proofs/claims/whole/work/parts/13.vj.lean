-- VersionJoins.<init>()V
def k_X3_init (P : hp_S → Prop)  (x : hp_S) : Prop := (x.1 (1, 0) = false ∧ ∀ i, i < 6 → x.1 (2, i) = false) ∧ ((hp_uR (hp_nwG x) (0, 0) 0 (some (1, 0))).2.2.2 (0, 0) 0 = some (1, 0) ∧ (vp_in (nI 0) 6 ∧ ((hp_uR (hp_nwG x) (0, 0) 0 (some (1, 0))).2.2.2 (1, 0) ((nI 0).toNatClampNeg) = some (2, (nI 0).toNatClampNeg) ∧ ((hp_uR (hp_uR (hp_nwG x) (0, 0) 0 (some (1, 0))) (0, 0) 1 (some (2, (nI 0).toNatClampNeg))).1 (3, 0) = false ∧ ((hp_uR (hp_nw (hp_uR (hp_uR (hp_nwG x) (0, 0) 0 (some (1, 0))) (0, 0) 1 (some (2, (nI 0).toNatClampNeg))) (3, 0)) (0, 0) 2 (some (3, 0))).1 (4, 0) = false ∧ ((hp_uR (hp_nw (hp_uR (hp_nw (hp_uR (hp_uR (hp_nwG x) (0, 0) 0 (some (1, 0))) (0, 0) 1 (some (2, (nI 0).toNatClampNeg))) (3, 0)) (0, 0) 2 (some (3, 0))) (4, 0)) (0, 0) 3 (some (4, 0))).1 (5, 0) = false ∧ ((hp_uR (hp_nw (hp_uR (hp_nw (hp_uR (hp_nw (hp_uR (hp_uR (hp_nwG x) (0, 0) 0 (some (1, 0))) (0, 0) 1 (some (2, (nI 0).toNatClampNeg))) (3, 0)) (0, 0) 2 (some (3, 0))) (4, 0)) (0, 0) 3 (some (4, 0))) (5, 0)) (0, 0) 4 (some (5, 0))).1 (6, 0) = false ∧ (k_X0_init (fun x57 => P (hp_uI (hp_uI (hp_uI (hp_uI (hp_uI (hp_uR x57 (0, 0) 5 (some (6, 0))) (0, 0) 6 (nI 0)) (0, 0) 7 (nI 1)) (0, 0) 8 (nI 0)) (0, 0) 9 (nI 0)) (0, 0) 10 (nI 0)))  (hp_nw (hp_uR (hp_nw (hp_uR (hp_nw (hp_uR (hp_nw (hp_uR (hp_uR (hp_nwG x) (0, 0) 0 (some (1, 0))) (0, 0) 1 (some (2, (nI 0).toNatClampNeg))) (3, 0)) (0, 0) 2 (some (3, 0))) (4, 0)) (0, 0) 3 (some (4, 0))) (5, 0)) (0, 0) 4 (some (5, 0))) (6, 0))))))))))
abbrev rm_X3_init : Room := ({ frames := 2, cells := 15, slots := 328, locals := 40 } : Room)
set_option maxRecDepth 100000 in
set_option maxHeartbeats 4000000 in
theorem c_X3_init (l : Launch) (P : hp_S → Prop)  (x : hp_S) (h : k_X3_init P  x) : hp_C l yX3_init (Cond.code yX3_init cX3_init 1 (Option.none : Option Jvm.ClassFile.FieldType) :: hp_ws) rm_X3_init [aR (0, 0)] x (hp_p0 P) 15 328 := by
  refine hp_ofV (own := "VersionJoins") (lv := [(0, aR (0, 0))]) (by decide) rfl (Nat.le_of_ble_eq_true rfl) rfl ?_
  intro p e s m args below meth c D cA B0 ad0 E hret hnm
  unfold k_X3_init at h
  refine hv_aload_n E dX3_init_0 rfl 0 rfl ?_
  refine hv_objInit E dX3_init_1 wd_51 wd_52 wd_53 (Nat.le_of_ble_eq_true rfl) (Nat.le_of_ble_eq_true rfl) ?_
  refine hv_aload_n E dX3_init_4 rfl 0 rfl ?_
  refine hv_bipush (v := nI 6) E dX3_init_5 (by decide) ?_
  refine hv_bipush (v := nI 24) E dX3_init_7 (by decide) ?_
  obtain ⟨h1, h⟩ := h
  refine hv_mna E dX3_init_9 wd_54 wd_91 h1.1 h1.2 (Nat.le_of_ble_eq_true rfl) (Nat.le_of_ble_eq_true rfl) ?_
  refine hv_putR (ty := .array (.array .long)) (k := 0) E tyX3 okX3 nmX3 dX3_init_13 rfl rfl hiX3 (by decide) wd_94 rfl rfl (Or.inr ⟨rfl, hnm, rfl⟩) (by decide +kernel) (fun _ => rfl) (fun _ => rfl) ?_
  refine hv_aload_n E dX3_init_16 rfl 0 rfl ?_
  refine hv_aload_n E dX3_init_17 rfl 0 rfl ?_
  obtain ⟨h2, h⟩ := h
  refine hv_getR (k := 0) (t2 := (1, 0)) E dX3_init_18 rfl rfl hiX3 (by decide) wd_94 rfl rfl (fun _ => h2) ?_
  refine hv_iconst (v := nI 0) E dX3_init_21 (by decide) ?_
  obtain ⟨h3, h⟩ := h
  obtain ⟨h4, h⟩ := h
  refine hv_aald (t2 := (2, (nI 0).toNatClampNeg)) E dX3_init_22 rfl (by decide) rfl rfl h3 (fun _ => h4) ?_
  refine hv_putR (ty := .array .long) (k := 1) E tyX3 okX3 nmX3 dX3_init_23 rfl rfl hiX3 (by decide) wd_95 rfl rfl (Or.inr ⟨rfl, hnm, rfl⟩) (by decide +kernel) (fun _ => rfl) (fun _ => rfl) ?_
  refine hv_aload_n E dX3_init_26 rfl 0 rfl ?_
  refine hv_bipush (v := nI 24) E dX3_init_27 (by decide) ?_
  obtain ⟨h5, h⟩ := h
  refine hv_newa (i := nI 24) E (3, 0) dX3_init_29 wd_92 rfl (by decide) rfl ⟨by simp, by simp⟩ (by decide) (by decide) (by decide) h5 (Nat.le_of_ble_eq_true rfl) (Nat.le_of_ble_eq_true rfl) ?_
  refine hv_putR (ty := .array .int) (k := 2) E tyX3 okX3 nmX3 dX3_init_31 rfl rfl hiX3 (by decide) wd_96 rfl rfl (Or.inr ⟨rfl, hnm, rfl⟩) (by decide +kernel) (fun _ => rfl) (fun _ => rfl) ?_
  refine hv_aload_n E dX3_init_34 rfl 0 rfl ?_
  refine hv_bipush (v := nI 12) E dX3_init_35 (by decide) ?_
  obtain ⟨h6, h⟩ := h
  refine hv_newq (i := nI 12) E (4, 0) dX3_init_37 wd_56 E.2.1.2.1 rfl (by decide) rfl (by decide) (by decide) (by decide) h6 (Nat.le_of_ble_eq_true rfl) (Nat.le_of_ble_eq_true rfl) ?_
  refine hv_putR (ty := .array (.object "VersionJoins$Step")) (k := 3) E tyX3 okX3 nmX3 dX3_init_40 rfl rfl hiX3 (by decide) wd_97 rfl rfl (Or.inr ⟨rfl, hnm, rfl⟩) (by decide +kernel) (fun _ => rfl) (fun _ => rfl) ?_
  refine hv_aload_n E dX3_init_43 rfl 0 rfl ?_
  refine hv_bipush (v := nI 40) E dX3_init_44 (by decide) ?_
  obtain ⟨h7, h⟩ := h
  refine hv_newq (i := nI 40) E (5, 0) dX3_init_46 wd_58 E.2.1.2.2.1 rfl (by decide) rfl (by decide) (by decide) (by decide) h7 (Nat.le_of_ble_eq_true rfl) (Nat.le_of_ble_eq_true rfl) ?_
  refine hv_putR (ty := .array (.object "VersionJoins$Session")) (k := 4) E tyX3 okX3 nmX3 dX3_init_49 rfl rfl hiX3 (by decide) wd_98 rfl rfl (Or.inr ⟨rfl, hnm, rfl⟩) (by decide +kernel) (fun _ => rfl) (fun _ => rfl) ?_
  refine hv_aload_n E dX3_init_52 rfl 0 rfl ?_
  obtain ⟨h8, h⟩ := h
  refine hv_new E (6, 0) tyX0 okX0 dX3_init_53 rfl rfl hiX0 wd_60 wd_61 wd_40 nwX0 h8 (Nat.le_of_ble_eq_true rfl) (Nat.le_of_ble_eq_true rfl) ?_
  refine hv_dup E dX3_init_56 rfl ?_
  refine hv_N0 E [] (c_X0_init l _  (hp_nw (hp_uR (hp_nw (hp_uR (hp_nw (hp_uR (hp_nw (hp_uR (hp_uR (hp_nwG x) (0, 0) 0 (some (1, 0))) (0, 0) 1 (some (2, (nI 0).toNatClampNeg))) (3, 0)) (0, 0) 2 (some (3, 0))) (4, 0)) (0, 0) 3 (some (4, 0))) (5, 0)) (0, 0) 4 (some (5, 0))) (6, 0)) h) (hp_cwN 0 E E.2.1.2.2.2.2.1 wd_63 wd_40 wd_64 rfl rfl rfl (by decide +kernel) ⟨(Nat.le_of_ble_eq_true rfl), (Nat.le_of_ble_eq_true rfl)⟩) rfl rfl (Nat.le_of_ble_eq_true rfl) dX3_init_57 ⟨(Nat.le_of_ble_eq_true rfl), (Nat.le_of_ble_eq_true rfl)⟩ (fun x57 h => ?_)
  refine hv_putR (ty := .object "VersionJoins$Conflicts") (k := 5) E tyX3 okX3 nmX3 dX3_init_60 rfl rfl hiX3 (by decide) wd_99 rfl rfl (Or.inr ⟨rfl, hnm, rfl⟩) (by decide +kernel) (fun _ => rfl) (fun _ => rfl) ?_
  refine hv_aload_n E dX3_init_63 rfl 0 rfl ?_
  refine hv_iconst (v := nI 0) E dX3_init_64 (by decide) ?_
  refine hv_putI (ty := .int) (k := 6) E tyX3 okX3 nmX3 dX3_init_65 rfl rfl hiX3 (by decide) wd_100 rfl rfl (Or.inl rfl) (by decide +kernel) rfl rfl ?_
  refine hv_aload_n E dX3_init_68 rfl 0 rfl ?_
  refine hv_iconst (v := nI 1) E dX3_init_69 (by decide) ?_
  refine hv_putI (ty := .int) (k := 7) E tyX3 okX3 nmX3 dX3_init_70 rfl rfl hiX3 (by decide) wd_101 rfl rfl (Or.inl rfl) (by decide +kernel) rfl rfl ?_
  refine hv_aload_n E dX3_init_73 rfl 0 rfl ?_
  refine hv_iconst (v := nI 0) E dX3_init_74 (by decide) ?_
  refine hv_putI (ty := .int) (k := 8) E tyX3 okX3 nmX3 dX3_init_75 rfl rfl hiX3 (by decide) wd_102 rfl rfl (Or.inl rfl) (by decide +kernel) rfl rfl ?_
  refine hv_aload_n E dX3_init_78 rfl 0 rfl ?_
  refine hv_iconst (v := nI 0) E dX3_init_79 (by decide) ?_
  refine hv_putI (ty := .int) (k := 9) E tyX3 okX3 nmX3 dX3_init_80 rfl rfl hiX3 (by decide) wd_103 rfl rfl (Or.inl rfl) (by decide +kernel) rfl rfl ?_
  refine hv_aload_n E dX3_init_83 rfl 0 rfl ?_
  refine hv_iconst (v := nI 0) E dX3_init_84 (by decide) ?_
  refine hv_putI (ty := .int) (k := 10) E tyX3 okX3 nmX3 dX3_init_85 rfl rfl hiX3 (by decide) wd_104 rfl rfl (Or.inl rfl) (by decide +kernel) rfl rfl ?_
  exact hv_vret E hret dX3_init_88 (Nat.le_of_ble_eq_true rfl) (Nat.le_of_ble_eq_true rfl) ⟨rfl, h⟩
-- VersionJoins.thing(J)I
def k_X3_thing_13 (P : Int32 → hp_S → Prop) (a1 : Int64) : Nat → hp_S → Int32 → Prop
  | 0, _, _ => False
  | n + 1, x, l3 => ((nI 6) ≤ l3 → (vp_in (x.2.1 (0, 0) 6) 24 ∧ (P (((hp_uI (hp_uI x (3, 0) ((x.2.1 (0, 0) 6).toNatClampNeg) (-1 : Int32)) (0, 0) 6 (((hp_uI x (3, 0) ((x.2.1 (0, 0) 6).toNatClampNeg) (-1 : Int32)).2.1 (0, 0) 6) + (nI 1))).2.1 (0, 0) 6) - (nI 1)) (hp_uI (hp_uI x (3, 0) ((x.2.1 (0, 0) 6).toNatClampNeg) (-1 : Int32)) (0, 0) 6 (((hp_uI x (3, 0) ((x.2.1 (0, 0) 6).toNatClampNeg) (-1 : Int32)).2.1 (0, 0) 6) + (nI 1)))))) ∧ (¬ (nI 6) ≤ l3 → (vp_in l3 6 ∧ (vp_in (x.2.1 (0, 0) 6) 24 ∧ (k_X3_thing_13 P a1 n (hp_uL x (2, l3.toNatClampNeg) ((x.2.1 (0, 0) 6).toNatClampNeg) a1) (l3 + nI 1)))))
def k_X3_thing (P : Int32 → hp_S → Prop) (a1 : Int64) (x : hp_S) : Prop := ((x.2.1 (0, 0) 6) < (nI 24) → (∃ q, k_X3_thing_13 P a1 q x (nI 0))) ∧ (¬ (x.2.1 (0, 0) 6) < (nI 24) → (P (-1 : Int32) x))
abbrev rm_X3_thing : Room := ({ frames := 0, cells := 0, slots := 0, locals := 0 } : Room)
set_option maxRecDepth 100000 in
set_option maxHeartbeats 4000000 in
theorem w_X3_thing_13 {p : Program} {l : Launch} {e : Env} {s : State} {m : MethodId} {args : Array Value} {below : List Frame} {meth : Method} {c : Code} {D : va_G} {cA : Nat → ClassId} {B0 : Nat} {ad0 : hp_T → Nat} {x0 : hp_S} (E : hp_E p s m args meth c cX3_thing 4 "VersionJoins" hp_ws D cA B0) (hret : meth.sig.returnType = (Option.some Jvm.ClassFile.FieldType.int)) {P : Int32 → hp_S → Prop} (a1 : Int64) : ∀ (n : Nat) (x : hp_S) (l3 : Int32), hp_sh x → k_X3_thing_13 P a1 n x l3 → hp_V p l e rm_X3_thing s m args below meth c (fun ad0 => MQ below (hp_Q D cA B0 ad0 x0 (hp_pI P)) args s 0 0 (fun q => B0 ≤ q)) D cA B0 4 ad0 x0 0 0 x 13 [(0, aR (0, 0)), (1, aL a1), (3, aI l3)] [] := by
  intro n
  induction n with
  | zero => intro x l3 hs h; exact absurd h id
  | succ n ih =>
    intro x l3 hs h
    unfold k_X3_thing_13 at h
    refine hv_iload_n E dX3_thing_13 rfl 2 rfl ?_
    refine hv_bipush (v := nI 6) E dX3_thing_14 (by decide) ?_
    refine hv_icmp_ge (tgt := 37) E dX3_thing_16 (by decide) (fun c2 => ?_) (fun c2 => ?_)
    · have h := h.1 c2
      refine hv_aload_n E dX3_thing_37 rfl 0 rfl ?_
      refine hv_getR (k := 2) (t2 := (3, 0)) E dX3_thing_38 rfl rfl hiX3 (by decide) wd_96 rfl rfl (hs _ _ _ rfl) ?_
      refine hv_aload_n E dX3_thing_41 rfl 0 rfl ?_
      refine hv_getI (k := 6) E dX3_thing_42 rfl rfl hiX3 (by decide) wd_100 rfl rfl ?_
      refine hv_iconst (v := (-1 : Int32)) E dX3_thing_45 (by decide) ?_
      obtain ⟨h3, h⟩ := h
      refine hv_iast E dX3_thing_46 rfl (by decide) rfl h3 ?_
      refine hv_aload_n E dX3_thing_47 rfl 0 rfl ?_
      refine hv_dup E dX3_thing_48 rfl ?_
      refine hv_getI (k := 6) E dX3_thing_49 rfl rfl hiX3 (by decide) wd_100 rfl rfl ?_
      refine hv_iconst (v := nI 1) E dX3_thing_52 (by decide) ?_
      refine hv_iadd (v := ((hp_uI x (3, 0) ((x.2.1 (0, 0) 6).toNatClampNeg) (-1 : Int32)).2.1 (0, 0) 6) + (nI 1)) E dX3_thing_53 rfl ?_
      refine hv_putI (ty := .int) (k := 6) E tyX3 okX3 nmX3 dX3_thing_54 rfl rfl hiX3 (by decide) wd_100 rfl rfl (Or.inl rfl) (by decide +kernel) rfl rfl ?_
      refine hv_aload_n E dX3_thing_57 rfl 0 rfl ?_
      refine hv_getI (k := 6) E dX3_thing_58 rfl rfl hiX3 (by decide) wd_100 rfl rfl ?_
      refine hv_iconst (v := nI 1) E dX3_thing_61 (by decide) ?_
      refine hv_isub (v := ((hp_uI (hp_uI x (3, 0) ((x.2.1 (0, 0) 6).toNatClampNeg) (-1 : Int32)) (0, 0) 6 (((hp_uI x (3, 0) ((x.2.1 (0, 0) 6).toNatClampNeg) (-1 : Int32)).2.1 (0, 0) 6) + (nI 1))).2.1 (0, 0) 6) - (nI 1)) E dX3_thing_62 rfl ?_
      exact hv_iret E hret dX3_thing_63 (Nat.le_of_ble_eq_true rfl) (Nat.le_of_ble_eq_true rfl) ⟨_, rfl, hs, h⟩
    · have h := h.2 c2
      refine hv_aload_n E dX3_thing_19 rfl 0 rfl ?_
      refine hv_getR (k := 0) (t2 := (1, 0)) E dX3_thing_20 rfl rfl hiX3 (by decide) wd_94 rfl rfl (hs _ _ _ rfl) ?_
      refine hv_iload_n E dX3_thing_23 rfl 2 rfl ?_
      obtain ⟨h4, h⟩ := h
      refine hv_aald (t2 := (2, l3.toNatClampNeg)) E dX3_thing_24 rfl (by decide) rfl rfl h4 (hs _ _ _ (hp_ex_row h4)) ?_
      refine hv_aload_n E dX3_thing_25 rfl 0 rfl ?_
      refine hv_getI (k := 6) E dX3_thing_26 rfl rfl hiX3 (by decide) wd_100 rfl rfl ?_
      refine hv_lload_n E dX3_thing_29 rfl 1 rfl ?_
      obtain ⟨h5, h⟩ := h
      refine hv_last E dX3_thing_30 rfl (by decide) rfl h5 ?_
      refine hv_iinc (v := l3 + nI 1) (lv' := [(0, aR (0, 0)), (1, aL a1)]) E 2 dX3_thing_31 rfl (hx_i1 _) (by decide) rfl ?_
      refine hv_goto (tgt := 13) E dX3_thing_34 (by decide) ?_
      refine hv_lv [1, 2, 0] rfl ?_
      exact ih (hp_uL x (2, l3.toNatClampNeg) ((x.2.1 (0, 0) 6).toNatClampNeg) a1) (l3 + nI 1) hs h
set_option maxRecDepth 100000 in
set_option maxHeartbeats 4000000 in
theorem c_X3_thing (l : Launch) (P : Int32 → hp_S → Prop) (a1 : Int64) (x : hp_S) (hs : hp_sh x) (h : k_X3_thing P a1 x) : hp_C l yX3_thing (Cond.code yX3_thing cX3_thing 4 (Option.some Jvm.ClassFile.FieldType.int) :: hp_ws) rm_X3_thing [aR (0, 0), aL a1] x (hp_pI P) 0 0 := by
  refine hp_ofV (own := "VersionJoins") (lv := [(0, aR (0, 0)), (1, aL a1)]) (by decide) rfl (Nat.le_of_ble_eq_true rfl) rfl ?_
  intro p e s m args below meth c D cA B0 ad0 E hret hnm
  unfold k_X3_thing at h
  refine hv_aload_n E dX3_thing_0 rfl 0 rfl ?_
  refine hv_getI (k := 6) E dX3_thing_1 rfl rfl hiX3 (by decide) wd_100 rfl rfl ?_
  refine hv_bipush (v := nI 24) E dX3_thing_4 (by decide) ?_
  refine hv_icmp_lt (tgt := 11) E dX3_thing_6 (by decide) (fun c1 => ?_) (fun c1 => ?_)
  · have h := h.1 c1
    refine hv_iconst (v := nI 0) E dX3_thing_11 (by decide) ?_
    refine hv_istore_n (lv' := [(0, aR (0, 0)), (1, aL a1)]) E dX3_thing_12 rfl (by decide) rfl ?_
    obtain ⟨n6, h⟩ := h
    refine hv_lv [1, 2, 0] rfl ?_
    exact w_X3_thing_13 E hret a1 n6 x (nI 0) hs h
  · have h := h.2 c1
    refine hv_iconst (v := (-1 : Int32)) E dX3_thing_9 (by decide) ?_
    exact hv_iret E hret dX3_thing_10 (Nat.le_of_ble_eq_true rfl) (Nat.le_of_ble_eq_true rfl) ⟨_, rfl, hs, h⟩
-- VersionJoins.step(I)I
def k_X3_step (P : Int32 → hp_S → Prop) (a1 : Int32) (x : hp_S) : Prop := (a1 < 0 → (P (-2 : Int32) x)) ∧ (¬ a1 < 0 → ((a1 ≤ (nI 3) → (((x.2.1 (0, 0) 8) < (nI 12) → (x.1 (11, (x.2.1 (0, 0) 8).toNatClampNeg) = false ∧ (k_X2_init (fun x36 => vp_in (x.2.1 (0, 0) 8) 12 ∧ (hp_sh (hp_uI (hp_uR x36 (4, 0) ((x.2.1 (0, 0) 8).toNatClampNeg) (some (11, (x.2.1 (0, 0) 8).toNatClampNeg))) (0, 0) 8 (((hp_uR x36 (4, 0) ((x.2.1 (0, 0) 8).toNatClampNeg) (some (11, (x.2.1 (0, 0) 8).toNatClampNeg))).2.1 (0, 0) 8) + (nI 1))) ∧ (P (((hp_uI (hp_uR x36 (4, 0) ((x.2.1 (0, 0) 8).toNatClampNeg) (some (11, (x.2.1 (0, 0) 8).toNatClampNeg))) (0, 0) 8 (((hp_uR x36 (4, 0) ((x.2.1 (0, 0) 8).toNatClampNeg) (some (11, (x.2.1 (0, 0) 8).toNatClampNeg))).2.1 (0, 0) 8) + (nI 1))).2.1 (0, 0) 8) - (nI 1)) (hp_uI (hp_uR x36 (4, 0) ((x.2.1 (0, 0) 8).toNatClampNeg) (some (11, (x.2.1 (0, 0) 8).toNatClampNeg))) (0, 0) 8 (((hp_uR x36 (4, 0) ((x.2.1 (0, 0) 8).toNatClampNeg) (some (11, (x.2.1 (0, 0) 8).toNatClampNeg))).2.1 (0, 0) 8) + (nI 1)))))) ((x.2.1 (0, 0) 8).toNatClampNeg) a1 (hp_nw x (11, (x.2.1 (0, 0) 8).toNatClampNeg))))) ∧ (¬ (x.2.1 (0, 0) 8) < (nI 12) → (P (-1 : Int32) x)))) ∧ (¬ a1 ≤ (nI 3) → (P (-2 : Int32) x))))
abbrev rm_X3_step : Room := ({ frames := 2, cells := 4, slots := 31, locals := 41 } : Room)
set_option maxRecDepth 100000 in
set_option maxHeartbeats 4000000 in
theorem c_X3_step (l : Launch) (P : Int32 → hp_S → Prop) (a1 : Int32) (x : hp_S) (hs : hp_sh x) (h : k_X3_step P a1 x) : hp_C l yX3_step (Cond.code yX3_step cX3_step 2 (Option.some Jvm.ClassFile.FieldType.int) :: hp_ws) rm_X3_step [aR (0, 0), aI a1] x (hp_pI P) 4 31 := by
  refine hp_ofV (own := "VersionJoins") (lv := [(0, aR (0, 0)), (1, aI a1)]) (by decide) rfl (Nat.le_of_ble_eq_true rfl) rfl ?_
  intro p e s m args below meth c D cA B0 ad0 E hret hnm
  unfold k_X3_step at h
  refine hv_iload_n E dX3_step_0 rfl 1 rfl ?_
  refine hv_if_lt (tgt := 9) E dX3_step_1 (by decide) (fun c1 => ?_) (fun c1 => ?_)
  · have h := h.1 c1
    refine hv_bipush (v := (-2 : Int32)) E dX3_step_9 (by decide) ?_
    exact hv_iret E hret dX3_step_11 (Nat.le_of_ble_eq_true rfl) (Nat.le_of_ble_eq_true rfl) ⟨_, rfl, hs, h⟩
  · have h := h.2 c1
    refine hv_iload_n E dX3_step_4 rfl 1 rfl ?_
    refine hv_iconst (v := nI 3) E dX3_step_5 (by decide) ?_
    refine hv_icmp_le (tgt := 12) E dX3_step_6 (by decide) (fun c2 => ?_) (fun c2 => ?_)
    · have h := h.1 c2
      refine hv_aload_n E dX3_step_12 rfl 0 rfl ?_
      refine hv_getI (k := 8) E dX3_step_13 rfl rfl hiX3 (by decide) wd_102 rfl rfl ?_
      refine hv_bipush (v := nI 12) E dX3_step_16 (by decide) ?_
      refine hv_icmp_lt (tgt := 23) E dX3_step_18 (by decide) (fun c3 => ?_) (fun c3 => ?_)
      · have h := h.1 c3
        refine hv_aload_n E dX3_step_23 rfl 0 rfl ?_
        refine hv_getR (k := 3) (t2 := (4, 0)) E dX3_step_24 rfl rfl hiX3 (by decide) wd_97 rfl rfl (hs _ _ _ rfl) ?_
        refine hv_aload_n E dX3_step_27 rfl 0 rfl ?_
        refine hv_getI (k := 8) E dX3_step_28 rfl rfl hiX3 (by decide) wd_102 rfl rfl ?_
        obtain ⟨h4, h⟩ := h
        refine hv_new E (11, (x.2.1 (0, 0) 8).toNatClampNeg) tyX2 okX2 dX3_step_31 rfl rfl hiX2 wd_56 wd_136 wd_42 nwX2 h4 (Nat.le_of_ble_eq_true rfl) (Nat.le_of_ble_eq_true rfl) ?_
        refine hv_dup E dX3_step_34 rfl ?_
        refine hv_iload_n E dX3_step_35 rfl 1 rfl ?_
        refine hv_I0 E [aI a1] (c_X2_init l _ ((x.2.1 (0, 0) 8).toNatClampNeg) a1 (hp_nw x (11, (x.2.1 (0, 0) 8).toNatClampNeg)) h) (hp_cwI 1 E wd_137 wd_138 wd_42 wd_139 rfl rfl rfl (by decide +kernel) ⟨(Nat.le_of_ble_eq_true rfl), (Nat.le_of_ble_eq_true rfl)⟩) rfl rfl (Nat.le_of_ble_eq_true rfl) dX3_step_36 ⟨(Nat.le_of_ble_eq_true rfl), (Nat.le_of_ble_eq_true rfl)⟩ (fun x36 h => ?_)
        obtain ⟨h5, h⟩ := h
        refine hv_aast (q := ("VersionJoins$Step", TX2, 11)) E dX3_step_39 rfl (by decide) rfl rfl rfl h5 ?_
        refine hv_aload_n E dX3_step_40 rfl 0 rfl ?_
        refine hv_dup E dX3_step_41 rfl ?_
        refine hv_getI (k := 8) E dX3_step_42 rfl rfl hiX3 (by decide) wd_102 rfl rfl ?_
        refine hv_iconst (v := nI 1) E dX3_step_45 (by decide) ?_
        refine hv_iadd (v := ((hp_uR x36 (4, 0) ((x.2.1 (0, 0) 8).toNatClampNeg) (some (11, (x.2.1 (0, 0) 8).toNatClampNeg))).2.1 (0, 0) 8) + (nI 1)) E dX3_step_46 rfl ?_
        refine hv_putI (ty := .int) (k := 8) E tyX3 okX3 nmX3 dX3_step_47 rfl rfl hiX3 (by decide) wd_102 rfl rfl (Or.inl rfl) (by decide +kernel) rfl rfl ?_
        refine hv_aload_n E dX3_step_50 rfl 0 rfl ?_
        refine hv_getI (k := 8) E dX3_step_51 rfl rfl hiX3 (by decide) wd_102 rfl rfl ?_
        refine hv_iconst (v := nI 1) E dX3_step_54 (by decide) ?_
        refine hv_isub (v := ((hp_uI (hp_uR x36 (4, 0) ((x.2.1 (0, 0) 8).toNatClampNeg) (some (11, (x.2.1 (0, 0) 8).toNatClampNeg))) (0, 0) 8 (((hp_uR x36 (4, 0) ((x.2.1 (0, 0) 8).toNatClampNeg) (some (11, (x.2.1 (0, 0) 8).toNatClampNeg))).2.1 (0, 0) 8) + (nI 1))).2.1 (0, 0) 8) - (nI 1)) E dX3_step_55 rfl ?_
        obtain ⟨hs, h⟩ := h
        exact hv_iret E hret dX3_step_56 (Nat.le_of_ble_eq_true rfl) (Nat.le_of_ble_eq_true rfl) ⟨_, rfl, hs, h⟩
      · have h := h.2 c3
        refine hv_iconst (v := (-1 : Int32)) E dX3_step_21 (by decide) ?_
        exact hv_iret E hret dX3_step_22 (Nat.le_of_ble_eq_true rfl) (Nat.le_of_ble_eq_true rfl) ⟨_, rfl, hs, h⟩
    · have h := h.2 c2
      refine hv_bipush (v := (-2 : Int32)) E dX3_step_9 (by decide) ?_
      exact hv_iret E hret dX3_step_11 (Nat.le_of_ble_eq_true rfl) (Nat.le_of_ble_eq_true rfl) ⟨_, rfl, hs, h⟩
-- VersionJoins.isStep(I)Z
def k_X3_isStep (P : Int32 → hp_S → Prop) (a1 : Int32) (x : hp_S) : Prop := (a1 < 0 → (P (nI 0) x)) ∧ (¬ a1 < 0 → (((x.2.1 (0, 0) 8) ≤ a1 → (P (nI 0) x)) ∧ (¬ (x.2.1 (0, 0) 8) ≤ a1 → (P (nI 1) x))))
abbrev rm_X3_isStep : Room := ({ frames := 0, cells := 0, slots := 0, locals := 0 } : Room)
set_option maxRecDepth 100000 in
set_option maxHeartbeats 4000000 in
theorem c_X3_isStep (l : Launch) (P : Int32 → hp_S → Prop) (a1 : Int32) (x : hp_S) (hs : hp_sh x) (h : k_X3_isStep P a1 x) : hp_C l yX3_isStep (Cond.code yX3_isStep cX3_isStep 2 (Option.some Jvm.ClassFile.FieldType.boolean) :: hp_ws) rm_X3_isStep [aR (0, 0), aI a1] x (hp_pI P) 0 0 := by
  refine hp_ofV (own := "VersionJoins") (lv := [(0, aR (0, 0)), (1, aI a1)]) (by decide) rfl (Nat.le_of_ble_eq_true rfl) rfl ?_
  intro p e s m args below meth c D cA B0 ad0 E hret hnm
  unfold k_X3_isStep at h
  refine hv_iload_n E dX3_isStep_0 rfl 1 rfl ?_
  refine hv_if_lt (tgt := 16) E dX3_isStep_1 (by decide) (fun c1 => ?_) (fun c1 => ?_)
  · have h := h.1 c1
    refine hv_iconst (v := nI 0) E dX3_isStep_16 (by decide) ?_
    exact hv_zret E hret dX3_isStep_17 (by decide) (Nat.le_of_ble_eq_true rfl) (Nat.le_of_ble_eq_true rfl) ⟨_, rfl, hs, h⟩
  · have h := h.2 c1
    refine hv_iload_n E dX3_isStep_4 rfl 1 rfl ?_
    refine hv_aload_n E dX3_isStep_5 rfl 0 rfl ?_
    refine hv_getI (k := 8) E dX3_isStep_6 rfl rfl hiX3 (by decide) wd_102 rfl rfl ?_
    refine hv_icmp_ge (tgt := 16) E dX3_isStep_9 (by decide) (fun c2 => ?_) (fun c2 => ?_)
    · have h := h.1 c2
      refine hv_iconst (v := nI 0) E dX3_isStep_16 (by decide) ?_
      exact hv_zret E hret dX3_isStep_17 (by decide) (Nat.le_of_ble_eq_true rfl) (Nat.le_of_ble_eq_true rfl) ⟨_, rfl, hs, h⟩
    · have h := h.2 c2
      refine hv_iconst (v := nI 1) E dX3_isStep_12 (by decide) ?_
      refine hv_goto (tgt := 17) E dX3_isStep_13 (by decide) ?_
      exact hv_zret E hret dX3_isStep_17 (by decide) (Nat.le_of_ble_eq_true rfl) (Nat.le_of_ble_eq_true rfl) ⟨_, rfl, hs, h⟩
-- VersionJoins.isThing(I)Z
def k_X3_isThing (P : Int32 → hp_S → Prop) (a1 : Int32) (x : hp_S) : Prop := (a1 < 0 → (P (nI 0) x)) ∧ (¬ a1 < 0 → (((x.2.1 (0, 0) 6) ≤ a1 → (P (nI 0) x)) ∧ (¬ (x.2.1 (0, 0) 6) ≤ a1 → (P (nI 1) x))))
abbrev rm_X3_isThing : Room := ({ frames := 0, cells := 0, slots := 0, locals := 0 } : Room)
set_option maxRecDepth 100000 in
set_option maxHeartbeats 4000000 in
theorem c_X3_isThing (l : Launch) (P : Int32 → hp_S → Prop) (a1 : Int32) (x : hp_S) (hs : hp_sh x) (h : k_X3_isThing P a1 x) : hp_C l yX3_isThing (Cond.code yX3_isThing cX3_isThing 2 (Option.some Jvm.ClassFile.FieldType.boolean) :: hp_ws) rm_X3_isThing [aR (0, 0), aI a1] x (hp_pI P) 0 0 := by
  refine hp_ofV (own := "VersionJoins") (lv := [(0, aR (0, 0)), (1, aI a1)]) (by decide) rfl (Nat.le_of_ble_eq_true rfl) rfl ?_
  intro p e s m args below meth c D cA B0 ad0 E hret hnm
  unfold k_X3_isThing at h
  refine hv_iload_n E dX3_isThing_0 rfl 1 rfl ?_
  refine hv_if_lt (tgt := 16) E dX3_isThing_1 (by decide) (fun c1 => ?_) (fun c1 => ?_)
  · have h := h.1 c1
    refine hv_iconst (v := nI 0) E dX3_isThing_16 (by decide) ?_
    exact hv_zret E hret dX3_isThing_17 (by decide) (Nat.le_of_ble_eq_true rfl) (Nat.le_of_ble_eq_true rfl) ⟨_, rfl, hs, h⟩
  · have h := h.2 c1
    refine hv_iload_n E dX3_isThing_4 rfl 1 rfl ?_
    refine hv_aload_n E dX3_isThing_5 rfl 0 rfl ?_
    refine hv_getI (k := 6) E dX3_isThing_6 rfl rfl hiX3 (by decide) wd_100 rfl rfl ?_
    refine hv_icmp_ge (tgt := 16) E dX3_isThing_9 (by decide) (fun c2 => ?_) (fun c2 => ?_)
    · have h := h.1 c2
      refine hv_iconst (v := nI 0) E dX3_isThing_16 (by decide) ?_
      exact hv_zret E hret dX3_isThing_17 (by decide) (Nat.le_of_ble_eq_true rfl) (Nat.le_of_ble_eq_true rfl) ⟨_, rfl, hs, h⟩
    · have h := h.2 c2
      refine hv_iconst (v := nI 1) E dX3_isThing_12 (by decide) ?_
      refine hv_goto (tgt := 17) E dX3_isThing_13 (by decide) ?_
      exact hv_zret E hret dX3_isThing_17 (by decide) (Nat.le_of_ble_eq_true rfl) (Nat.le_of_ble_eq_true rfl) ⟨_, rfl, hs, h⟩
-- VersionJoins.isSameOrAbove(II)Z
def k_X3_isSameOrAbove (P : Int32 → hp_S → Prop) (a1 : Int32) (a2 : Int32) (x : hp_S) : Prop := vp_in a2 12 ∧ (x.2.2.2 (4, 0) a2.toNatClampNeg = some (11, a2.toNatClampNeg) ∧ (k_X2_withAbove (fun r7 x7 => (((hx_iushr r7 a1) &&& (nI 1)) = 0 → (P (nI 0) x7)) ∧ (¬ ((hx_iushr r7 a1) &&& (nI 1)) = 0 → (P (nI 1) x7))) a2.toNatClampNeg a2 x))
abbrev rm_X3_isSameOrAbove : Room := ({ frames := 1, cells := 0, slots := 0, locals := 21 } : Room)
set_option maxRecDepth 100000 in
set_option maxHeartbeats 4000000 in
theorem c_X3_isSameOrAbove (l : Launch) (P : Int32 → hp_S → Prop) (a1 : Int32) (a2 : Int32) (x : hp_S) (hs : hp_sh x) (h : k_X3_isSameOrAbove P a1 a2 x) : hp_C l yX3_isSameOrAbove (Cond.code yX3_isSameOrAbove cX3_isSameOrAbove 3 (Option.some Jvm.ClassFile.FieldType.boolean) :: hp_ws) rm_X3_isSameOrAbove [aR (0, 0), aI a1, aI a2] x (hp_pI P) 0 0 := by
  refine hp_ofV (own := "VersionJoins") (lv := [(0, aR (0, 0)), (1, aI a1), (2, aI a2)]) (by decide) rfl (Nat.le_of_ble_eq_true rfl) rfl ?_
  intro p e s m args below meth c D cA B0 ad0 E hret hnm
  unfold k_X3_isSameOrAbove at h
  refine hv_aload_n E dX3_isSameOrAbove_0 rfl 0 rfl ?_
  refine hv_getR (k := 3) (t2 := (4, 0)) E dX3_isSameOrAbove_1 rfl rfl hiX3 (by decide) wd_97 rfl rfl (hs _ _ _ rfl) ?_
  refine hv_iload_n E dX3_isSameOrAbove_4 rfl 2 rfl ?_
  obtain ⟨h1, h⟩ := h
  obtain ⟨h2, h⟩ := h
  refine hv_aald (t2 := (11, a2.toNatClampNeg)) E dX3_isSameOrAbove_5 rfl (by decide) rfl rfl h1 (fun _ => h2) ?_
  refine hv_iload_n E dX3_isSameOrAbove_6 rfl 2 rfl ?_
  refine hv_VI E [aI a2] (c_X2_withAbove l _ a2.toNatClampNeg a2 x hs h) (hp_cwV 1 E wd_202 wd_203 wd_204 wd_42 wd_205 rfl rfl (by decide +kernel) ⟨(Nat.le_of_ble_eq_true rfl), (Nat.le_of_ble_eq_true rfl)⟩) rfl rfl rfl rfl (Nat.le_of_ble_eq_true rfl) dX3_isSameOrAbove_7 ⟨(Nat.le_of_ble_eq_true rfl), (Nat.le_of_ble_eq_true rfl)⟩ (fun r7 x7 hs h => ?_)
  refine hv_iload_n E dX3_isSameOrAbove_10 rfl 1 rfl ?_
  refine hv_iushr (v := hx_iushr r7 a1) E dX3_isSameOrAbove_11 rfl ?_
  refine hv_iconst (v := nI 1) E dX3_isSameOrAbove_12 (by decide) ?_
  refine hv_iand (v := (hx_iushr r7 a1) &&& (nI 1)) E dX3_isSameOrAbove_13 rfl ?_
  refine hv_if_eq (tgt := 21) E dX3_isSameOrAbove_14 (by decide) (fun c3 => ?_) (fun c3 => ?_)
  · have h := h.1 c3
    refine hv_iconst (v := nI 0) E dX3_isSameOrAbove_21 (by decide) ?_
    exact hv_zret E hret dX3_isSameOrAbove_22 (by decide) (Nat.le_of_ble_eq_true rfl) (Nat.le_of_ble_eq_true rfl) ⟨_, rfl, hs, h⟩
  · have h := h.2 c3
    refine hv_iconst (v := nI 1) E dX3_isSameOrAbove_17 (by decide) ?_
    refine hv_goto (tgt := 22) E dX3_isSameOrAbove_18 (by decide) ?_
    exact hv_zret E hret dX3_isSameOrAbove_22 (by decide) (Nat.le_of_ble_eq_true rfl) (Nat.le_of_ble_eq_true rfl) ⟨_, rfl, hs, h⟩
-- VersionJoins.putAbove(II)V
def k_X3_putAbove_14 (P : hp_S → Prop) (a1 : Int32) (a2 : Int32) (f3 : Int32) : Nat → hp_S → Int32 → Prop
  | 0, _, _ => False
  | n + 1, x, l4 => ((x.2.1 (0, 0) 8) ≤ l4 → (P x)) ∧ (¬ (x.2.1 (0, 0) 8) ≤ l4 → (k_X3_isSameOrAbove (fun r27 x27 => (r27 = 0 → (k_X3_putAbove_14 P a1 a2 f3 n x27 (l4 + nI 1))) ∧ (¬ r27 = 0 → (vp_in l4 12 ∧ (x27.2.2.2 (4, 0) l4.toNatClampNeg = some (11, l4.toNatClampNeg) ∧ (k_X3_putAbove_14 P a1 a2 f3 n (hp_uI x27 (11, l4.toNatClampNeg) 6 ((x27.2.1 (11, l4.toNatClampNeg) 6) ||| f3)) (l4 + nI 1)))))) a2 l4 x))
def k_X3_putAbove (P : hp_S → Prop) (a1 : Int32) (a2 : Int32) (x : hp_S) : Prop := vp_in a1 12 ∧ (x.2.2.2 (4, 0) a1.toNatClampNeg = some (11, a1.toNatClampNeg) ∧ (k_X2_withAbove (fun r7 x7 => ∃ q, k_X3_putAbove_14 P a1 a2 r7 q x7 (nI 0)) a1.toNatClampNeg a1 x))
abbrev rm_X3_putAbove : Room := ({ frames := 2, cells := 0, slots := 0, locals := 43 } : Room)
set_option maxRecDepth 100000 in
set_option maxHeartbeats 4000000 in
theorem w_X3_putAbove_14 {p : Program} {l : Launch} {e : Env} {s : State} {m : MethodId} {args : Array Value} {below : List Frame} {meth : Method} {c : Code} {D : va_G} {cA : Nat → ClassId} {B0 : Nat} {ad0 : hp_T → Nat} {x0 : hp_S} (E : hp_E p s m args meth c cX3_putAbove 5 "VersionJoins" hp_ws D cA B0) (hret : meth.sig.returnType = (Option.none : Option Jvm.ClassFile.FieldType)) {P : hp_S → Prop} (a1 : Int32) (a2 : Int32) (f3 : Int32) : ∀ (n : Nat) (x : hp_S) (l4 : Int32), hp_sh x → k_X3_putAbove_14 P a1 a2 f3 n x l4 → hp_V p l e rm_X3_putAbove s m args below meth c (fun ad0 => MQ below (hp_Q D cA B0 ad0 x0 (hp_pV P)) args s 0 0 (fun q => B0 ≤ q)) D cA B0 5 ad0 x0 0 0 x 14 [(0, aR (0, 0)), (1, aI a1), (2, aI a2), (3, aI f3), (4, aI l4)] [] := by
  intro n
  induction n with
  | zero => intro x l4 hs h; exact absurd h id
  | succ n ih =>
    intro x l4 hs h
    unfold k_X3_putAbove_14 at h
    refine hv_iload E dX3_putAbove_14 4 rfl ?_
    refine hv_aload_n E dX3_putAbove_16 rfl 0 rfl ?_
    refine hv_getI (k := 8) E dX3_putAbove_17 rfl rfl hiX3 (by decide) wd_102 rfl rfl ?_
    refine hv_icmp_ge (tgt := 55) E dX3_putAbove_20 (by decide) (fun c3 => ?_) (fun c3 => ?_)
    · have h := h.1 c3
      exact hv_vret E hret dX3_putAbove_55 (Nat.le_of_ble_eq_true rfl) (Nat.le_of_ble_eq_true rfl) ⟨rfl, hs, h⟩
    · have h := h.2 c3
      refine hv_aload_n E dX3_putAbove_23 rfl 0 rfl ?_
      refine hv_iload_n E dX3_putAbove_24 rfl 2 rfl ?_
      refine hv_iload E dX3_putAbove_25 4 rfl ?_
      refine hv_VI E [aI a2, aI l4] (c_X3_isSameOrAbove l _ a2 l4 x hs h) (hp_cwV 2 E wd_198 wd_200 wd_2 wd_39 wd_201 rfl rfl (by decide +kernel) ⟨(Nat.le_of_ble_eq_true rfl), (Nat.le_of_ble_eq_true rfl)⟩) rfl rfl rfl rfl (Nat.le_of_ble_eq_true rfl) dX3_putAbove_27 ⟨(Nat.le_of_ble_eq_true rfl), (Nat.le_of_ble_eq_true rfl)⟩ (fun r27 x27 hs h => ?_)
      refine hv_if_eq (tgt := 49) E dX3_putAbove_30 (by decide) (fun c4 => ?_) (fun c4 => ?_)
      · have h := h.1 c4
        refine hv_iinc (v := l4 + nI 1) (lv' := [(0, aR (0, 0)), (1, aI a1), (2, aI a2), (3, aI f3)]) E 4 dX3_putAbove_49 rfl (hx_i1 _) (by decide) rfl ?_
        refine hv_goto (tgt := 14) E dX3_putAbove_52 (by decide) ?_
        refine hv_lv [1, 2, 3, 4, 0] rfl ?_
        exact ih x27 (l4 + nI 1) hs h
      · have h := h.2 c4
        refine hv_aload_n E dX3_putAbove_33 rfl 0 rfl ?_
        refine hv_getR (k := 3) (t2 := (4, 0)) E dX3_putAbove_34 rfl rfl hiX3 (by decide) wd_97 rfl rfl (hs _ _ _ rfl) ?_
        refine hv_iload E dX3_putAbove_37 4 rfl ?_
        obtain ⟨h5, h⟩ := h
        obtain ⟨h6, h⟩ := h
        refine hv_aald (t2 := (11, l4.toNatClampNeg)) E dX3_putAbove_39 rfl (by decide) rfl rfl h5 (fun _ => h6) ?_
        refine hv_dup E dX3_putAbove_40 rfl ?_
        refine hv_getI (k := 6) E dX3_putAbove_41 rfl rfl hiX2 (by decide) wd_152 rfl rfl ?_
        refine hv_iload_n E dX3_putAbove_44 rfl 3 rfl ?_
        refine hv_ior (v := (x27.2.1 (11, l4.toNatClampNeg) 6) ||| f3) E dX3_putAbove_45 rfl ?_
        refine hv_putI (ty := .int) (k := 6) E tyX2 okX2 nmX2 dX3_putAbove_46 rfl rfl hiX2 (by decide) wd_152 rfl rfl (Or.inl rfl) (by decide +kernel) rfl rfl ?_
        refine hv_iinc (v := l4 + nI 1) (lv' := [(0, aR (0, 0)), (1, aI a1), (2, aI a2), (3, aI f3)]) E 4 dX3_putAbove_49 rfl (hx_i1 _) (by decide) rfl ?_
        refine hv_goto (tgt := 14) E dX3_putAbove_52 (by decide) ?_
        refine hv_lv [1, 2, 3, 4, 0] rfl ?_
        exact ih (hp_uI x27 (11, l4.toNatClampNeg) 6 ((x27.2.1 (11, l4.toNatClampNeg) 6) ||| f3)) (l4 + nI 1) hs h
set_option maxRecDepth 100000 in
set_option maxHeartbeats 4000000 in
theorem c_X3_putAbove (l : Launch) (P : hp_S → Prop) (a1 : Int32) (a2 : Int32) (x : hp_S) (hs : hp_sh x) (h : k_X3_putAbove P a1 a2 x) : hp_C l yX3_putAbove (Cond.code yX3_putAbove cX3_putAbove 5 (Option.none : Option Jvm.ClassFile.FieldType) :: hp_ws) rm_X3_putAbove [aR (0, 0), aI a1, aI a2] x (hp_pV P) 0 0 := by
  refine hp_ofV (own := "VersionJoins") (lv := [(0, aR (0, 0)), (1, aI a1), (2, aI a2)]) (by decide) rfl (Nat.le_of_ble_eq_true rfl) rfl ?_
  intro p e s m args below meth c D cA B0 ad0 E hret hnm
  unfold k_X3_putAbove at h
  refine hv_aload_n E dX3_putAbove_0 rfl 0 rfl ?_
  refine hv_getR (k := 3) (t2 := (4, 0)) E dX3_putAbove_1 rfl rfl hiX3 (by decide) wd_97 rfl rfl (hs _ _ _ rfl) ?_
  refine hv_iload_n E dX3_putAbove_4 rfl 1 rfl ?_
  obtain ⟨h1, h⟩ := h
  obtain ⟨h2, h⟩ := h
  refine hv_aald (t2 := (11, a1.toNatClampNeg)) E dX3_putAbove_5 rfl (by decide) rfl rfl h1 (fun _ => h2) ?_
  refine hv_iload_n E dX3_putAbove_6 rfl 1 rfl ?_
  refine hv_VI E [aI a1] (c_X2_withAbove l _ a1.toNatClampNeg a1 x hs h) (hp_cwV 1 E wd_202 wd_203 wd_204 wd_42 wd_205 rfl rfl (by decide +kernel) ⟨(Nat.le_of_ble_eq_true rfl), (Nat.le_of_ble_eq_true rfl)⟩) rfl rfl rfl rfl (Nat.le_of_ble_eq_true rfl) dX3_putAbove_7 ⟨(Nat.le_of_ble_eq_true rfl), (Nat.le_of_ble_eq_true rfl)⟩ (fun r7 x7 hs h => ?_)
  refine hv_istore_n (lv' := [(0, aR (0, 0)), (1, aI a1), (2, aI a2)]) E dX3_putAbove_10 rfl (by decide) rfl ?_
  refine hv_iconst (v := nI 0) E dX3_putAbove_11 (by decide) ?_
  refine hv_istore (lv' := [(3, aI r7), (0, aR (0, 0)), (1, aI a1), (2, aI a2)]) E dX3_putAbove_12 (by decide) rfl ?_
  obtain ⟨n7, h⟩ := h
  refine hv_lv [2, 3, 4, 1, 0] rfl ?_
  exact w_X3_putAbove_14 E hret a1 a2 r7 n7 x7 (nI 0) hs h
-- VersionJoins.uses(II)Z
def k_X3_uses (P : Int32 → hp_S → Prop) (a1 : Int32) (a2 : Int32) (x : hp_S) : Prop := k_X3_isStep (fun r2 x2 => (r2 = 0 → (P (nI 0) x2)) ∧ (¬ r2 = 0 → (k_X3_isThing (fun r10 x10 => (¬ r10 = 0 → (vp_in a1 12 ∧ (x10.2.2.2 (4, 0) a1.toNatClampNeg = some (11, a1.toNatClampNeg) ∧ (k_X2_isUsing (fun r27 x27 => (¬ r27 = 0 → (P (nI 0) x27)) ∧ (r27 = 0 → (((x27.2.1 (11, a1.toNatClampNeg) 4) < (nI 8) → (vp_in a2 24 ∧ (((x27.2.1 (3, 0) a2.toNatClampNeg) = (-1 : Int32) → (k_X2_addUsed (fun x79 => P (nI 1) x79) a1.toNatClampNeg a2 x27)) ∧ (¬ (x27.2.1 (3, 0) a2.toNatClampNeg) = (-1 : Int32) → (k_X3_isSameOrAbove (fun r62 x62 => (r62 = 0 → (k_X3_putAbove (fun x74 => k_X2_addUsed (fun x79 => P (nI 1) x79) a1.toNatClampNeg a2 x74) (x27.2.1 (3, 0) a2.toNatClampNeg) a1 x62)) ∧ (¬ r62 = 0 → (P (nI 0) x62))) a1 (x27.2.1 (3, 0) a2.toNatClampNeg) x27))))) ∧ (¬ (x27.2.1 (11, a1.toNatClampNeg) 4) < (nI 8) → (P (nI 0) x27))))) a1.toNatClampNeg a2 x10)))) ∧ (r10 = 0 → (P (nI 0) x10))) a2 x2))) a1 x
abbrev rm_X3_uses : Room := ({ frames := 3, cells := 0, slots := 0, locals := 67 } : Room)
set_option maxRecDepth 100000 in
set_option maxHeartbeats 4000000 in
theorem c_X3_uses (l : Launch) (P : Int32 → hp_S → Prop) (a1 : Int32) (a2 : Int32) (x : hp_S) (hs : hp_sh x) (h : k_X3_uses P a1 a2 x) : hp_C l yX3_uses (Cond.code yX3_uses cX3_uses 5 (Option.some Jvm.ClassFile.FieldType.boolean) :: hp_ws) rm_X3_uses [aR (0, 0), aI a1, aI a2] x (hp_pI P) 0 0 := by
  refine hp_ofV (own := "VersionJoins") (lv := [(0, aR (0, 0)), (1, aI a1), (2, aI a2)]) (by decide) rfl (Nat.le_of_ble_eq_true rfl) rfl ?_
  intro p e s m args below meth c D cA B0 ad0 E hret hnm
  unfold k_X3_uses at h
  refine hv_aload_n E dX3_uses_0 rfl 0 rfl ?_
  refine hv_iload_n E dX3_uses_1 rfl 1 rfl ?_
  refine hv_VI E [aI a1] (c_X3_isStep l _ a1 x hs h) (hp_cwV 1 E wd_186 wd_188 wd_0 wd_39 wd_189 rfl rfl (by decide +kernel) ⟨(Nat.le_of_ble_eq_true rfl), (Nat.le_of_ble_eq_true rfl)⟩) rfl rfl rfl rfl (Nat.le_of_ble_eq_true rfl) dX3_uses_2 ⟨(Nat.le_of_ble_eq_true rfl), (Nat.le_of_ble_eq_true rfl)⟩ (fun r2 x2 hs h => ?_)
  refine hv_if_eq (tgt := 16) E dX3_uses_5 (by decide) (fun c1 => ?_) (fun c1 => ?_)
  · have h := h.1 c1
    refine hv_iconst (v := nI 0) E dX3_uses_16 (by decide) ?_
    exact hv_zret E hret dX3_uses_17 (by decide) (Nat.le_of_ble_eq_true rfl) (Nat.le_of_ble_eq_true rfl) ⟨_, rfl, hs, h⟩
  · have h := h.2 c1
    refine hv_aload_n E dX3_uses_8 rfl 0 rfl ?_
    refine hv_iload_n E dX3_uses_9 rfl 2 rfl ?_
    refine hv_VI E [aI a2] (c_X3_isThing l _ a2 x2 hs h) (hp_cwV 1 E wd_190 wd_192 wd_1 wd_39 wd_193 rfl rfl (by decide +kernel) ⟨(Nat.le_of_ble_eq_true rfl), (Nat.le_of_ble_eq_true rfl)⟩) rfl rfl rfl rfl (Nat.le_of_ble_eq_true rfl) dX3_uses_10 ⟨(Nat.le_of_ble_eq_true rfl), (Nat.le_of_ble_eq_true rfl)⟩ (fun r10 x10 hs h => ?_)
    refine hv_if_ne (tgt := 18) E dX3_uses_13 (by decide) (fun c2 => ?_) (fun c2 => ?_)
    · have h := h.1 c2
      refine hv_aload_n E dX3_uses_18 rfl 0 rfl ?_
      refine hv_getR (k := 3) (t2 := (4, 0)) E dX3_uses_19 rfl rfl hiX3 (by decide) wd_97 rfl rfl (hs _ _ _ rfl) ?_
      refine hv_iload_n E dX3_uses_22 rfl 1 rfl ?_
      obtain ⟨h3, h⟩ := h
      obtain ⟨h4, h⟩ := h
      refine hv_aald (t2 := (11, a1.toNatClampNeg)) E dX3_uses_23 rfl (by decide) rfl rfl h3 (fun _ => h4) ?_
      refine hv_astore_n (lv' := [(0, aR (0, 0)), (1, aI a1), (2, aI a2)]) E dX3_uses_24 rfl (by decide) rfl ?_
      refine hv_aload_n E dX3_uses_25 rfl 0 rfl ?_
      refine hv_iload_n E dX3_uses_26 rfl 3 rfl ?_
      refine hv_VI E [aI a2] (c_X2_isUsing l _ a1.toNatClampNeg a2 x10 hs h) (hp_cwV 1 E wd_194 wd_195 wd_196 wd_42 wd_197 rfl rfl (by decide +kernel) ⟨(Nat.le_of_ble_eq_true rfl), (Nat.le_of_ble_eq_true rfl)⟩) rfl rfl rfl rfl (Nat.le_of_ble_eq_true rfl) dX3_uses_27 ⟨(Nat.le_of_ble_eq_true rfl), (Nat.le_of_ble_eq_true rfl)⟩ (fun r27 x27 hs h => ?_)
      refine hv_if_ne (tgt := 42) E dX3_uses_30 (by decide) (fun c5 => ?_) (fun c5 => ?_)
      · have h := h.1 c5
        refine hv_iconst (v := nI 0) E dX3_uses_42 (by decide) ?_
        exact hv_zret E hret dX3_uses_43 (by decide) (Nat.le_of_ble_eq_true rfl) (Nat.le_of_ble_eq_true rfl) ⟨_, rfl, hs, h⟩
      · have h := h.2 c5
        refine hv_aload_n E dX3_uses_33 rfl 0 rfl ?_
        refine hv_getI (k := 4) E dX3_uses_34 rfl rfl hiX2 (by decide) wd_148 rfl rfl ?_
        refine hv_bipush (v := nI 8) E dX3_uses_37 (by decide) ?_
        refine hv_icmp_lt (tgt := 44) E dX3_uses_39 (by decide) (fun c6 => ?_) (fun c6 => ?_)
        · have h := h.1 c6
          refine hv_aload_n E dX3_uses_44 rfl 1 rfl ?_
          refine hv_getR (k := 2) (t2 := (3, 0)) E dX3_uses_45 rfl rfl hiX3 (by decide) wd_96 rfl rfl (hs _ _ _ rfl) ?_
          refine hv_iload_n E dX3_uses_48 rfl 3 rfl ?_
          obtain ⟨h7, h⟩ := h
          refine hv_iald E dX3_uses_49 rfl (by decide) rfl h7 ?_
          refine hv_istore (lv' := [(3, aR (11, a1.toNatClampNeg)), (0, aR (0, 0)), (1, aI a1), (2, aI a2)]) E dX3_uses_50 (by decide) rfl ?_
          refine hv_iload E dX3_uses_52 0 rfl ?_
          refine hv_iconst (v := (-1 : Int32)) E dX3_uses_54 (by decide) ?_
          refine hv_icmp_eq (tgt := 77) E dX3_uses_55 (by decide) (fun c8 => ?_) (fun c8 => ?_)
          · have h := h.1 c8
            refine hv_aload_n E dX3_uses_77 rfl 1 rfl ?_
            refine hv_iload_n E dX3_uses_78 rfl 4 rfl ?_
            refine hv_VV E [aI a2] (c_X2_addUsed l _ a1.toNatClampNeg a2 x27 hs h) (hp_cwV 1 E wd_210 wd_211 wd_212 wd_42 wd_213 rfl rfl (by decide +kernel) ⟨(Nat.le_of_ble_eq_true rfl), (Nat.le_of_ble_eq_true rfl)⟩) rfl rfl rfl rfl (Nat.le_of_ble_eq_true rfl) dX3_uses_79 ⟨(Nat.le_of_ble_eq_true rfl), (Nat.le_of_ble_eq_true rfl)⟩ (fun x79 hs h => ?_)
            refine hv_iconst (v := nI 1) E dX3_uses_82 (by decide) ?_
            exact hv_zret E hret dX3_uses_83 (by decide) (Nat.le_of_ble_eq_true rfl) (Nat.le_of_ble_eq_true rfl) ⟨_, rfl, hs, h⟩
          · have h := h.2 c8
            refine hv_aload_n E dX3_uses_58 rfl 2 rfl ?_
            refine hv_iload_n E dX3_uses_59 rfl 3 rfl ?_
            refine hv_iload E dX3_uses_60 0 rfl ?_
            refine hv_VI E [aI a1, aI (x27.2.1 (3, 0) a2.toNatClampNeg)] (c_X3_isSameOrAbove l _ a1 (x27.2.1 (3, 0) a2.toNatClampNeg) x27 hs h) (hp_cwV 2 E wd_198 wd_200 wd_2 wd_39 wd_201 rfl rfl (by decide +kernel) ⟨(Nat.le_of_ble_eq_true rfl), (Nat.le_of_ble_eq_true rfl)⟩) rfl rfl rfl rfl (Nat.le_of_ble_eq_true rfl) dX3_uses_62 ⟨(Nat.le_of_ble_eq_true rfl), (Nat.le_of_ble_eq_true rfl)⟩ (fun r62 x62 hs h => ?_)
            refine hv_if_eq (tgt := 70) E dX3_uses_65 (by decide) (fun c9 => ?_) (fun c9 => ?_)
            · have h := h.1 c9
              refine hv_aload_n E dX3_uses_70 rfl 2 rfl ?_
              refine hv_iload E dX3_uses_71 0 rfl ?_
              refine hv_iload_n E dX3_uses_73 rfl 3 rfl ?_
              refine hv_VV E [aI (x27.2.1 (3, 0) a2.toNatClampNeg), aI a1] (c_X3_putAbove l _ (x27.2.1 (3, 0) a2.toNatClampNeg) a1 x62 hs h) (hp_cwV 2 E wd_206 wd_208 wd_3 wd_39 wd_209 rfl rfl (by decide +kernel) ⟨(Nat.le_of_ble_eq_true rfl), (Nat.le_of_ble_eq_true rfl)⟩) rfl rfl rfl rfl (Nat.le_of_ble_eq_true rfl) dX3_uses_74 ⟨(Nat.le_of_ble_eq_true rfl), (Nat.le_of_ble_eq_true rfl)⟩ (fun x74 hs h => ?_)
              refine hv_aload_n E dX3_uses_77 rfl 1 rfl ?_
              refine hv_iload_n E dX3_uses_78 rfl 4 rfl ?_
              refine hv_VV E [aI a2] (c_X2_addUsed l _ a1.toNatClampNeg a2 x74 hs h) (hp_cwV 1 E wd_210 wd_211 wd_212 wd_42 wd_213 rfl rfl (by decide +kernel) ⟨(Nat.le_of_ble_eq_true rfl), (Nat.le_of_ble_eq_true rfl)⟩) rfl rfl rfl rfl (Nat.le_of_ble_eq_true rfl) dX3_uses_79 ⟨(Nat.le_of_ble_eq_true rfl), (Nat.le_of_ble_eq_true rfl)⟩ (fun x79 hs h => ?_)
              refine hv_iconst (v := nI 1) E dX3_uses_82 (by decide) ?_
              exact hv_zret E hret dX3_uses_83 (by decide) (Nat.le_of_ble_eq_true rfl) (Nat.le_of_ble_eq_true rfl) ⟨_, rfl, hs, h⟩
            · have h := h.2 c9
              refine hv_iconst (v := nI 0) E dX3_uses_68 (by decide) ?_
              exact hv_zret E hret dX3_uses_69 (by decide) (Nat.le_of_ble_eq_true rfl) (Nat.le_of_ble_eq_true rfl) ⟨_, rfl, hs, h⟩
        · have h := h.2 c6
          refine hv_iconst (v := nI 0) E dX3_uses_42 (by decide) ?_
          exact hv_zret E hret dX3_uses_43 (by decide) (Nat.le_of_ble_eq_true rfl) (Nat.le_of_ble_eq_true rfl) ⟨_, rfl, hs, h⟩
    · have h := h.2 c2
      refine hv_iconst (v := nI 0) E dX3_uses_16 (by decide) ?_
      exact hv_zret E hret dX3_uses_17 (by decide) (Nat.le_of_ble_eq_true rfl) (Nat.le_of_ble_eq_true rfl) ⟨_, rfl, hs, h⟩
-- VersionJoins.hasUserAtOrAbove(II)Z
def k_X3_hasUserAtOrAbove_2 (P : Int32 → hp_S → Prop) (a1 : Int32) (a2 : Int32) : Nat → hp_S → Int32 → Prop
  | 0, _, _ => False
  | n + 1, x, l3 => ((x.2.1 (0, 0) 8) ≤ l3 → (P (nI 0) x)) ∧ (¬ (x.2.1 (0, 0) 8) ≤ l3 → (vp_in l3 12 ∧ (x.2.2.2 (4, 0) l3.toNatClampNeg = some (11, l3.toNatClampNeg) ∧ (k_X2_isUsing (fun r17 x17 => (r17 = 0 → (k_X3_hasUserAtOrAbove_2 P a1 a2 n x17 (l3 + nI 1))) ∧ (¬ r17 = 0 → (k_X3_isSameOrAbove (fun r26 x26 => (r26 = 0 → (k_X3_hasUserAtOrAbove_2 P a1 a2 n x26 (l3 + nI 1))) ∧ (¬ r26 = 0 → (P (nI 1) x26))) l3 a2 x17))) l3.toNatClampNeg a1 x))))
def k_X3_hasUserAtOrAbove (P : Int32 → hp_S → Prop) (a1 : Int32) (a2 : Int32) (x : hp_S) : Prop := ∃ q, k_X3_hasUserAtOrAbove_2 P a1 a2 q x (nI 0)
abbrev rm_X3_hasUserAtOrAbove : Room := ({ frames := 2, cells := 0, slots := 0, locals := 43 } : Room)
set_option maxRecDepth 100000 in
set_option maxHeartbeats 4000000 in
theorem w_X3_hasUserAtOrAbove_2 {p : Program} {l : Launch} {e : Env} {s : State} {m : MethodId} {args : Array Value} {below : List Frame} {meth : Method} {c : Code} {D : va_G} {cA : Nat → ClassId} {B0 : Nat} {ad0 : hp_T → Nat} {x0 : hp_S} (E : hp_E p s m args meth c cX3_hasUserAtOrAbove 4 "VersionJoins" hp_ws D cA B0) (hret : meth.sig.returnType = (Option.some Jvm.ClassFile.FieldType.boolean)) {P : Int32 → hp_S → Prop} (a1 : Int32) (a2 : Int32) : ∀ (n : Nat) (x : hp_S) (l3 : Int32), hp_sh x → k_X3_hasUserAtOrAbove_2 P a1 a2 n x l3 → hp_V p l e rm_X3_hasUserAtOrAbove s m args below meth c (fun ad0 => MQ below (hp_Q D cA B0 ad0 x0 (hp_pI P)) args s 0 0 (fun q => B0 ≤ q)) D cA B0 4 ad0 x0 0 0 x 2 [(0, aR (0, 0)), (1, aI a1), (2, aI a2), (3, aI l3)] [] := by
  intro n
  induction n with
  | zero => intro x l3 hs h; exact absurd h id
  | succ n ih =>
    intro x l3 hs h
    unfold k_X3_hasUserAtOrAbove_2 at h
    refine hv_iload_n E dX3_hasUserAtOrAbove_2 rfl 3 rfl ?_
    refine hv_aload_n E dX3_hasUserAtOrAbove_3 rfl 0 rfl ?_
    refine hv_getI (k := 8) E dX3_hasUserAtOrAbove_4 rfl rfl hiX3 (by decide) wd_102 rfl rfl ?_
    refine hv_icmp_ge (tgt := 40) E dX3_hasUserAtOrAbove_7 (by decide) (fun c1 => ?_) (fun c1 => ?_)
    · have h := h.1 c1
      refine hv_iconst (v := nI 0) E dX3_hasUserAtOrAbove_40 (by decide) ?_
      exact hv_zret E hret dX3_hasUserAtOrAbove_41 (by decide) (Nat.le_of_ble_eq_true rfl) (Nat.le_of_ble_eq_true rfl) ⟨_, rfl, hs, h⟩
    · have h := h.2 c1
      refine hv_aload_n E dX3_hasUserAtOrAbove_10 rfl 0 rfl ?_
      refine hv_getR (k := 3) (t2 := (4, 0)) E dX3_hasUserAtOrAbove_11 rfl rfl hiX3 (by decide) wd_97 rfl rfl (hs _ _ _ rfl) ?_
      refine hv_iload_n E dX3_hasUserAtOrAbove_14 rfl 3 rfl ?_
      obtain ⟨h2, h⟩ := h
      obtain ⟨h3, h⟩ := h
      refine hv_aald (t2 := (11, l3.toNatClampNeg)) E dX3_hasUserAtOrAbove_15 rfl (by decide) rfl rfl h2 (fun _ => h3) ?_
      refine hv_iload_n E dX3_hasUserAtOrAbove_16 rfl 1 rfl ?_
      refine hv_VI E [aI a1] (c_X2_isUsing l _ l3.toNatClampNeg a1 x hs h) (hp_cwV 1 E wd_194 wd_195 wd_196 wd_42 wd_197 rfl rfl (by decide +kernel) ⟨(Nat.le_of_ble_eq_true rfl), (Nat.le_of_ble_eq_true rfl)⟩) rfl rfl rfl rfl (Nat.le_of_ble_eq_true rfl) dX3_hasUserAtOrAbove_17 ⟨(Nat.le_of_ble_eq_true rfl), (Nat.le_of_ble_eq_true rfl)⟩ (fun r17 x17 hs h => ?_)
      refine hv_if_eq (tgt := 34) E dX3_hasUserAtOrAbove_20 (by decide) (fun c4 => ?_) (fun c4 => ?_)
      · have h := h.1 c4
        refine hv_iinc (v := l3 + nI 1) (lv' := [(0, aR (0, 0)), (1, aI a1), (2, aI a2)]) E 3 dX3_hasUserAtOrAbove_34 rfl (hx_i1 _) (by decide) rfl ?_
        refine hv_goto (tgt := 2) E dX3_hasUserAtOrAbove_37 (by decide) ?_
        refine hv_lv [1, 2, 3, 0] rfl ?_
        exact ih x17 (l3 + nI 1) hs h
      · have h := h.2 c4
        refine hv_aload_n E dX3_hasUserAtOrAbove_23 rfl 0 rfl ?_
        refine hv_iload_n E dX3_hasUserAtOrAbove_24 rfl 3 rfl ?_
        refine hv_iload_n E dX3_hasUserAtOrAbove_25 rfl 2 rfl ?_
        refine hv_VI E [aI l3, aI a2] (c_X3_isSameOrAbove l _ l3 a2 x17 hs h) (hp_cwV 2 E wd_198 wd_200 wd_2 wd_39 wd_201 rfl rfl (by decide +kernel) ⟨(Nat.le_of_ble_eq_true rfl), (Nat.le_of_ble_eq_true rfl)⟩) rfl rfl rfl rfl (Nat.le_of_ble_eq_true rfl) dX3_hasUserAtOrAbove_26 ⟨(Nat.le_of_ble_eq_true rfl), (Nat.le_of_ble_eq_true rfl)⟩ (fun r26 x26 hs h => ?_)
        refine hv_if_eq (tgt := 34) E dX3_hasUserAtOrAbove_29 (by decide) (fun c5 => ?_) (fun c5 => ?_)
        · have h := h.1 c5
          refine hv_iinc (v := l3 + nI 1) (lv' := [(0, aR (0, 0)), (1, aI a1), (2, aI a2)]) E 3 dX3_hasUserAtOrAbove_34 rfl (hx_i1 _) (by decide) rfl ?_
          refine hv_goto (tgt := 2) E dX3_hasUserAtOrAbove_37 (by decide) ?_
          refine hv_lv [1, 2, 3, 0] rfl ?_
          exact ih x26 (l3 + nI 1) hs h
        · have h := h.2 c5
          refine hv_iconst (v := nI 1) E dX3_hasUserAtOrAbove_32 (by decide) ?_
          exact hv_zret E hret dX3_hasUserAtOrAbove_33 (by decide) (Nat.le_of_ble_eq_true rfl) (Nat.le_of_ble_eq_true rfl) ⟨_, rfl, hs, h⟩
set_option maxRecDepth 100000 in
set_option maxHeartbeats 4000000 in
theorem c_X3_hasUserAtOrAbove (l : Launch) (P : Int32 → hp_S → Prop) (a1 : Int32) (a2 : Int32) (x : hp_S) (hs : hp_sh x) (h : k_X3_hasUserAtOrAbove P a1 a2 x) : hp_C l yX3_hasUserAtOrAbove (Cond.code yX3_hasUserAtOrAbove cX3_hasUserAtOrAbove 4 (Option.some Jvm.ClassFile.FieldType.boolean) :: hp_ws) rm_X3_hasUserAtOrAbove [aR (0, 0), aI a1, aI a2] x (hp_pI P) 0 0 := by
  refine hp_ofV (own := "VersionJoins") (lv := [(0, aR (0, 0)), (1, aI a1), (2, aI a2)]) (by decide) rfl (Nat.le_of_ble_eq_true rfl) rfl ?_
  intro p e s m args below meth c D cA B0 ad0 E hret hnm
  unfold k_X3_hasUserAtOrAbove at h
  refine hv_iconst (v := nI 0) E dX3_hasUserAtOrAbove_0 (by decide) ?_
  refine hv_istore_n (lv' := [(0, aR (0, 0)), (1, aI a1), (2, aI a2)]) E dX3_hasUserAtOrAbove_1 rfl (by decide) rfl ?_
  obtain ⟨n6, h⟩ := h
  refine hv_lv [1, 2, 3, 0] rfl ?_
  exact w_X3_hasUserAtOrAbove_2 E hret a1 a2 n6 x (nI 0) hs h
-- VersionJoins.makes(II)Z
def k_X3_makes_57 (P : Int32 → hp_S → Prop) (a1 : Int32) (a2 : Int32) (g3 : Nat) : Nat → hp_S → Int32 → Prop
  | 0, _, _ => False
  | n + 1, x, l4 => ((x.2.1 (0, 0) 8) ≤ l4 → (k_X2_addMade (fun x95 => vp_in a2 24 ∧ (P (nI 1) (hp_uI x95 (3, 0) a2.toNatClampNeg a1))) g3 a2 x)) ∧ (¬ (x.2.1 (0, 0) 8) ≤ l4 → (vp_in l4 12 ∧ (x.2.2.2 (4, 0) l4.toNatClampNeg = some (11, l4.toNatClampNeg) ∧ (k_X2_isUsing (fun r74 x74 => (r74 = 0 → (k_X3_makes_57 P a1 a2 g3 n x74 (l4 + nI 1))) ∧ (¬ r74 = 0 → (k_X3_putAbove (fun x84 => k_X3_makes_57 P a1 a2 g3 n x84 (l4 + nI 1)) a1 l4 x74))) l4.toNatClampNeg a2 x))))
def k_X3_makes (P : Int32 → hp_S → Prop) (a1 : Int32) (a2 : Int32) (x : hp_S) : Prop := k_X3_isStep (fun r2 x2 => (r2 = 0 → (P (nI 0) x2)) ∧ (¬ r2 = 0 → (k_X3_isThing (fun r10 x10 => (¬ r10 = 0 → (vp_in a1 12 ∧ (x10.2.2.2 (4, 0) a1.toNatClampNeg = some (11, a1.toNatClampNeg) ∧ (vp_in a2 24 ∧ ((¬ (x10.2.1 (3, 0) a2.toNatClampNeg) = (-1 : Int32) → (P (nI 0) x10)) ∧ ((x10.2.1 (3, 0) a2.toNatClampNeg) = (-1 : Int32) → (((nI 4) ≤ (x10.2.1 (11, a1.toNatClampNeg) 5) → (P (nI 0) x10)) ∧ (¬ (nI 4) ≤ (x10.2.1 (11, a1.toNatClampNeg) 5) → (k_X3_hasUserAtOrAbove (fun r46 x46 => (r46 = 0 → (∃ q, k_X3_makes_57 P a1 a2 a1.toNatClampNeg q x46 (nI 0))) ∧ (¬ r46 = 0 → (P (nI 0) x46))) a2 a1 x10))))))))) ∧ (r10 = 0 → (P (nI 0) x10))) a2 x2))) a1 x
abbrev rm_X3_makes : Room := ({ frames := 3, cells := 0, slots := 0, locals := 67 } : Room)
set_option maxRecDepth 100000 in
set_option maxHeartbeats 4000000 in
theorem w_X3_makes_57 {p : Program} {l : Launch} {e : Env} {s : State} {m : MethodId} {args : Array Value} {below : List Frame} {meth : Method} {c : Code} {D : va_G} {cA : Nat → ClassId} {B0 : Nat} {ad0 : hp_T → Nat} {x0 : hp_S} (E : hp_E p s m args meth c cX3_makes 5 "VersionJoins" hp_ws D cA B0) (hret : meth.sig.returnType = (Option.some Jvm.ClassFile.FieldType.boolean)) {P : Int32 → hp_S → Prop} (a1 : Int32) (a2 : Int32) (g3 : Nat) : ∀ (n : Nat) (x : hp_S) (l4 : Int32), hp_sh x → k_X3_makes_57 P a1 a2 g3 n x l4 → hp_V p l e rm_X3_makes s m args below meth c (fun ad0 => MQ below (hp_Q D cA B0 ad0 x0 (hp_pI P)) args s 0 0 (fun q => B0 ≤ q)) D cA B0 5 ad0 x0 0 0 x 57 [(0, aR (0, 0)), (1, aI a1), (2, aI a2), (3, aR (11, g3)), (4, aI l4)] [] := by
  intro n
  induction n with
  | zero => intro x l4 hs h; exact absurd h id
  | succ n ih =>
    intro x l4 hs h
    unfold k_X3_makes_57 at h
    refine hv_iload E dX3_makes_57 4 rfl ?_
    refine hv_aload_n E dX3_makes_59 rfl 0 rfl ?_
    refine hv_getI (k := 8) E dX3_makes_60 rfl rfl hiX3 (by decide) wd_102 rfl rfl ?_
    refine hv_icmp_ge (tgt := 93) E dX3_makes_63 (by decide) (fun c9 => ?_) (fun c9 => ?_)
    · have h := h.1 c9
      refine hv_aload_n E dX3_makes_93 rfl 3 rfl ?_
      refine hv_iload_n E dX3_makes_94 rfl 2 rfl ?_
      refine hv_VV E [aI a2] (c_X2_addMade l _ g3 a2 x hs h) (hp_cwV 1 E wd_222 wd_223 wd_224 wd_42 wd_225 rfl rfl (by decide +kernel) ⟨(Nat.le_of_ble_eq_true rfl), (Nat.le_of_ble_eq_true rfl)⟩) rfl rfl rfl rfl (Nat.le_of_ble_eq_true rfl) dX3_makes_95 ⟨(Nat.le_of_ble_eq_true rfl), (Nat.le_of_ble_eq_true rfl)⟩ (fun x95 hs h => ?_)
      refine hv_aload_n E dX3_makes_98 rfl 0 rfl ?_
      refine hv_getR (k := 2) (t2 := (3, 0)) E dX3_makes_99 rfl rfl hiX3 (by decide) wd_96 rfl rfl (hs _ _ _ rfl) ?_
      refine hv_iload_n E dX3_makes_102 rfl 2 rfl ?_
      refine hv_iload_n E dX3_makes_103 rfl 1 rfl ?_
      obtain ⟨h10, h⟩ := h
      refine hv_iast E dX3_makes_104 rfl (by decide) rfl h10 ?_
      refine hv_iconst (v := nI 1) E dX3_makes_105 (by decide) ?_
      exact hv_zret E hret dX3_makes_106 (by decide) (Nat.le_of_ble_eq_true rfl) (Nat.le_of_ble_eq_true rfl) ⟨_, rfl, hs, h⟩
    · have h := h.2 c9
      refine hv_aload_n E dX3_makes_66 rfl 0 rfl ?_
      refine hv_getR (k := 3) (t2 := (4, 0)) E dX3_makes_67 rfl rfl hiX3 (by decide) wd_97 rfl rfl (hs _ _ _ rfl) ?_
      refine hv_iload E dX3_makes_70 4 rfl ?_
      obtain ⟨h11, h⟩ := h
      obtain ⟨h12, h⟩ := h
      refine hv_aald (t2 := (11, l4.toNatClampNeg)) E dX3_makes_72 rfl (by decide) rfl rfl h11 (fun _ => h12) ?_
      refine hv_iload_n E dX3_makes_73 rfl 2 rfl ?_
      refine hv_VI E [aI a2] (c_X2_isUsing l _ l4.toNatClampNeg a2 x hs h) (hp_cwV 1 E wd_194 wd_195 wd_196 wd_42 wd_197 rfl rfl (by decide +kernel) ⟨(Nat.le_of_ble_eq_true rfl), (Nat.le_of_ble_eq_true rfl)⟩) rfl rfl rfl rfl (Nat.le_of_ble_eq_true rfl) dX3_makes_74 ⟨(Nat.le_of_ble_eq_true rfl), (Nat.le_of_ble_eq_true rfl)⟩ (fun r74 x74 hs h => ?_)
      refine hv_if_eq (tgt := 87) E dX3_makes_77 (by decide) (fun c13 => ?_) (fun c13 => ?_)
      · have h := h.1 c13
        refine hv_iinc (v := l4 + nI 1) (lv' := [(0, aR (0, 0)), (1, aI a1), (2, aI a2), (3, aR (11, g3))]) E 4 dX3_makes_87 rfl (hx_i1 _) (by decide) rfl ?_
        refine hv_goto (tgt := 57) E dX3_makes_90 (by decide) ?_
        refine hv_lv [1, 2, 3, 4, 0] rfl ?_
        exact ih x74 (l4 + nI 1) hs h
      · have h := h.2 c13
        refine hv_aload_n E dX3_makes_80 rfl 0 rfl ?_
        refine hv_iload_n E dX3_makes_81 rfl 1 rfl ?_
        refine hv_iload E dX3_makes_82 4 rfl ?_
        refine hv_VV E [aI a1, aI l4] (c_X3_putAbove l _ a1 l4 x74 hs h) (hp_cwV 2 E wd_206 wd_208 wd_3 wd_39 wd_209 rfl rfl (by decide +kernel) ⟨(Nat.le_of_ble_eq_true rfl), (Nat.le_of_ble_eq_true rfl)⟩) rfl rfl rfl rfl (Nat.le_of_ble_eq_true rfl) dX3_makes_84 ⟨(Nat.le_of_ble_eq_true rfl), (Nat.le_of_ble_eq_true rfl)⟩ (fun x84 hs h => ?_)
        refine hv_iinc (v := l4 + nI 1) (lv' := [(0, aR (0, 0)), (1, aI a1), (2, aI a2), (3, aR (11, g3))]) E 4 dX3_makes_87 rfl (hx_i1 _) (by decide) rfl ?_
        refine hv_goto (tgt := 57) E dX3_makes_90 (by decide) ?_
        refine hv_lv [1, 2, 3, 4, 0] rfl ?_
        exact ih x84 (l4 + nI 1) hs h
set_option maxRecDepth 100000 in
set_option maxHeartbeats 4000000 in
theorem c_X3_makes (l : Launch) (P : Int32 → hp_S → Prop) (a1 : Int32) (a2 : Int32) (x : hp_S) (hs : hp_sh x) (h : k_X3_makes P a1 a2 x) : hp_C l yX3_makes (Cond.code yX3_makes cX3_makes 5 (Option.some Jvm.ClassFile.FieldType.boolean) :: hp_ws) rm_X3_makes [aR (0, 0), aI a1, aI a2] x (hp_pI P) 0 0 := by
  refine hp_ofV (own := "VersionJoins") (lv := [(0, aR (0, 0)), (1, aI a1), (2, aI a2)]) (by decide) rfl (Nat.le_of_ble_eq_true rfl) rfl ?_
  intro p e s m args below meth c D cA B0 ad0 E hret hnm
  unfold k_X3_makes at h
  refine hv_aload_n E dX3_makes_0 rfl 0 rfl ?_
  refine hv_iload_n E dX3_makes_1 rfl 1 rfl ?_
  refine hv_VI E [aI a1] (c_X3_isStep l _ a1 x hs h) (hp_cwV 1 E wd_186 wd_188 wd_0 wd_39 wd_189 rfl rfl (by decide +kernel) ⟨(Nat.le_of_ble_eq_true rfl), (Nat.le_of_ble_eq_true rfl)⟩) rfl rfl rfl rfl (Nat.le_of_ble_eq_true rfl) dX3_makes_2 ⟨(Nat.le_of_ble_eq_true rfl), (Nat.le_of_ble_eq_true rfl)⟩ (fun r2 x2 hs h => ?_)
  refine hv_if_eq (tgt := 16) E dX3_makes_5 (by decide) (fun c1 => ?_) (fun c1 => ?_)
  · have h := h.1 c1
    refine hv_iconst (v := nI 0) E dX3_makes_16 (by decide) ?_
    exact hv_zret E hret dX3_makes_17 (by decide) (Nat.le_of_ble_eq_true rfl) (Nat.le_of_ble_eq_true rfl) ⟨_, rfl, hs, h⟩
  · have h := h.2 c1
    refine hv_aload_n E dX3_makes_8 rfl 0 rfl ?_
    refine hv_iload_n E dX3_makes_9 rfl 2 rfl ?_
    refine hv_VI E [aI a2] (c_X3_isThing l _ a2 x2 hs h) (hp_cwV 1 E wd_190 wd_192 wd_1 wd_39 wd_193 rfl rfl (by decide +kernel) ⟨(Nat.le_of_ble_eq_true rfl), (Nat.le_of_ble_eq_true rfl)⟩) rfl rfl rfl rfl (Nat.le_of_ble_eq_true rfl) dX3_makes_10 ⟨(Nat.le_of_ble_eq_true rfl), (Nat.le_of_ble_eq_true rfl)⟩ (fun r10 x10 hs h => ?_)
    refine hv_if_ne (tgt := 18) E dX3_makes_13 (by decide) (fun c2 => ?_) (fun c2 => ?_)
    · have h := h.1 c2
      refine hv_aload_n E dX3_makes_18 rfl 0 rfl ?_
      refine hv_getR (k := 3) (t2 := (4, 0)) E dX3_makes_19 rfl rfl hiX3 (by decide) wd_97 rfl rfl (hs _ _ _ rfl) ?_
      refine hv_iload_n E dX3_makes_22 rfl 1 rfl ?_
      obtain ⟨h3, h⟩ := h
      obtain ⟨h4, h⟩ := h
      refine hv_aald (t2 := (11, a1.toNatClampNeg)) E dX3_makes_23 rfl (by decide) rfl rfl h3 (fun _ => h4) ?_
      refine hv_astore_n (lv' := [(0, aR (0, 0)), (1, aI a1), (2, aI a2)]) E dX3_makes_24 rfl (by decide) rfl ?_
      refine hv_aload_n E dX3_makes_25 rfl 1 rfl ?_
      refine hv_getR (k := 2) (t2 := (3, 0)) E dX3_makes_26 rfl rfl hiX3 (by decide) wd_96 rfl rfl (hs _ _ _ rfl) ?_
      refine hv_iload_n E dX3_makes_29 rfl 3 rfl ?_
      obtain ⟨h5, h⟩ := h
      refine hv_iald E dX3_makes_30 rfl (by decide) rfl h5 ?_
      refine hv_iconst (v := (-1 : Int32)) E dX3_makes_31 (by decide) ?_
      refine hv_icmp_ne (tgt := 52) E dX3_makes_32 (by decide) (fun c6 => ?_) (fun c6 => ?_)
      · have h := h.1 c6
        refine hv_iconst (v := nI 0) E dX3_makes_52 (by decide) ?_
        exact hv_zret E hret dX3_makes_53 (by decide) (Nat.le_of_ble_eq_true rfl) (Nat.le_of_ble_eq_true rfl) ⟨_, rfl, hs, h⟩
      · have h := h.2 c6
        refine hv_aload_n E dX3_makes_35 rfl 0 rfl ?_
        refine hv_getI (k := 5) E dX3_makes_36 rfl rfl hiX2 (by decide) wd_150 rfl rfl ?_
        refine hv_iconst (v := nI 4) E dX3_makes_39 (by decide) ?_
        refine hv_icmp_ge (tgt := 52) E dX3_makes_40 (by decide) (fun c7 => ?_) (fun c7 => ?_)
        · have h := h.1 c7
          refine hv_iconst (v := nI 0) E dX3_makes_52 (by decide) ?_
          exact hv_zret E hret dX3_makes_53 (by decide) (Nat.le_of_ble_eq_true rfl) (Nat.le_of_ble_eq_true rfl) ⟨_, rfl, hs, h⟩
        · have h := h.2 c7
          refine hv_aload_n E dX3_makes_43 rfl 1 rfl ?_
          refine hv_iload_n E dX3_makes_44 rfl 3 rfl ?_
          refine hv_iload_n E dX3_makes_45 rfl 2 rfl ?_
          refine hv_VI E [aI a2, aI a1] (c_X3_hasUserAtOrAbove l _ a2 a1 x10 hs h) (hp_cwV 2 E wd_218 wd_220 wd_4 wd_39 wd_221 rfl rfl (by decide +kernel) ⟨(Nat.le_of_ble_eq_true rfl), (Nat.le_of_ble_eq_true rfl)⟩) rfl rfl rfl rfl (Nat.le_of_ble_eq_true rfl) dX3_makes_46 ⟨(Nat.le_of_ble_eq_true rfl), (Nat.le_of_ble_eq_true rfl)⟩ (fun r46 x46 hs h => ?_)
          refine hv_if_eq (tgt := 54) E dX3_makes_49 (by decide) (fun c8 => ?_) (fun c8 => ?_)
          · have h := h.1 c8
            refine hv_iconst (v := nI 0) E dX3_makes_54 (by decide) ?_
            refine hv_istore (lv' := [(3, aR (11, a1.toNatClampNeg)), (0, aR (0, 0)), (1, aI a1), (2, aI a2)]) E dX3_makes_55 (by decide) rfl ?_
            obtain ⟨n14, h⟩ := h
            refine hv_lv [2, 3, 4, 1, 0] rfl ?_
            exact w_X3_makes_57 E hret a1 a2 a1.toNatClampNeg n14 x46 (nI 0) hs h
          · have h := h.2 c8
            refine hv_iconst (v := nI 0) E dX3_makes_52 (by decide) ?_
            exact hv_zret E hret dX3_makes_53 (by decide) (Nat.le_of_ble_eq_true rfl) (Nat.le_of_ble_eq_true rfl) ⟨_, rfl, hs, h⟩
    · have h := h.2 c2
      refine hv_iconst (v := nI 0) E dX3_makes_16 (by decide) ?_
      exact hv_zret E hret dX3_makes_17 (by decide) (Nat.le_of_ble_eq_true rfl) (Nat.le_of_ble_eq_true rfl) ⟨_, rfl, hs, h⟩
-- VersionJoins.session()I
def k_X3_session (P : Int32 → hp_S → Prop)  (x : hp_S) : Prop := ((x.2.1 (0, 0) 9) < (nI 40) → (x.1 (15, (x.2.1 (0, 0) 9).toNatClampNeg) = false ∧ (k_X1_init (fun x23 => vp_in (x.2.1 (0, 0) 9) 40 ∧ (hp_sh (hp_uI (hp_uR x23 (5, 0) ((x.2.1 (0, 0) 9).toNatClampNeg) (some (15, (x.2.1 (0, 0) 9).toNatClampNeg))) (0, 0) 9 (((hp_uR x23 (5, 0) ((x.2.1 (0, 0) 9).toNatClampNeg) (some (15, (x.2.1 (0, 0) 9).toNatClampNeg))).2.1 (0, 0) 9) + (nI 1))) ∧ (P (((hp_uI (hp_uR x23 (5, 0) ((x.2.1 (0, 0) 9).toNatClampNeg) (some (15, (x.2.1 (0, 0) 9).toNatClampNeg))) (0, 0) 9 (((hp_uR x23 (5, 0) ((x.2.1 (0, 0) 9).toNatClampNeg) (some (15, (x.2.1 (0, 0) 9).toNatClampNeg))).2.1 (0, 0) 9) + (nI 1))).2.1 (0, 0) 9) - (nI 1)) (hp_uI (hp_uR x23 (5, 0) ((x.2.1 (0, 0) 9).toNatClampNeg) (some (15, (x.2.1 (0, 0) 9).toNatClampNeg))) (0, 0) 9 (((hp_uR x23 (5, 0) ((x.2.1 (0, 0) 9).toNatClampNeg) (some (15, (x.2.1 (0, 0) 9).toNatClampNeg))).2.1 (0, 0) 9) + (nI 1)))))) ((x.2.1 (0, 0) 9).toNatClampNeg) (hp_nw x (15, (x.2.1 (0, 0) 9).toNatClampNeg))))) ∧ (¬ (x.2.1 (0, 0) 9) < (nI 40) → (P (-1 : Int32) x))
abbrev rm_X3_session : Room := ({ frames := 2, cells := 5, slots := 101, locals := 40 } : Room)
set_option maxRecDepth 100000 in
set_option maxHeartbeats 4000000 in
theorem c_X3_session (l : Launch) (P : Int32 → hp_S → Prop)  (x : hp_S) (hs : hp_sh x) (h : k_X3_session P  x) : hp_C l yX3_session (Cond.code yX3_session cX3_session 1 (Option.some Jvm.ClassFile.FieldType.int) :: hp_ws) rm_X3_session [aR (0, 0)] x (hp_pI P) 5 101 := by
  refine hp_ofV (own := "VersionJoins") (lv := [(0, aR (0, 0))]) (by decide) rfl (Nat.le_of_ble_eq_true rfl) rfl ?_
  intro p e s m args below meth c D cA B0 ad0 E hret hnm
  unfold k_X3_session at h
  refine hv_aload_n E dX3_session_0 rfl 0 rfl ?_
  refine hv_getI (k := 9) E dX3_session_1 rfl rfl hiX3 (by decide) wd_103 rfl rfl ?_
  refine hv_bipush (v := nI 40) E dX3_session_4 (by decide) ?_
  refine hv_icmp_lt (tgt := 11) E dX3_session_6 (by decide) (fun c1 => ?_) (fun c1 => ?_)
  · have h := h.1 c1
    refine hv_aload_n E dX3_session_11 rfl 0 rfl ?_
    refine hv_getR (k := 4) (t2 := (5, 0)) E dX3_session_12 rfl rfl hiX3 (by decide) wd_98 rfl rfl (hs _ _ _ rfl) ?_
    refine hv_aload_n E dX3_session_15 rfl 0 rfl ?_
    refine hv_getI (k := 9) E dX3_session_16 rfl rfl hiX3 (by decide) wd_103 rfl rfl ?_
    obtain ⟨h2, h⟩ := h
    refine hv_new E (15, (x.2.1 (0, 0) 9).toNatClampNeg) tyX1 okX1 dX3_session_19 rfl rfl hiX1 wd_58 wd_230 wd_43 nwX1 h2 (Nat.le_of_ble_eq_true rfl) (Nat.le_of_ble_eq_true rfl) ?_
    refine hv_dup E dX3_session_22 rfl ?_
    refine hv_N0 E [] (c_X1_init l _ ((x.2.1 (0, 0) 9).toNatClampNeg) (hp_nw x (15, (x.2.1 (0, 0) 9).toNatClampNeg)) h) (hp_cwN 0 E E.2.1.2.2.2.2.2 wd_232 wd_43 wd_233 rfl rfl rfl (by decide +kernel) ⟨(Nat.le_of_ble_eq_true rfl), (Nat.le_of_ble_eq_true rfl)⟩) rfl rfl (Nat.le_of_ble_eq_true rfl) dX3_session_23 ⟨(Nat.le_of_ble_eq_true rfl), (Nat.le_of_ble_eq_true rfl)⟩ (fun x23 h => ?_)
    obtain ⟨h3, h⟩ := h
    refine hv_aast (q := ("VersionJoins$Session", TX1, 5)) E dX3_session_26 rfl (by decide) rfl rfl rfl h3 ?_
    refine hv_aload_n E dX3_session_27 rfl 0 rfl ?_
    refine hv_dup E dX3_session_28 rfl ?_
    refine hv_getI (k := 9) E dX3_session_29 rfl rfl hiX3 (by decide) wd_103 rfl rfl ?_
    refine hv_iconst (v := nI 1) E dX3_session_32 (by decide) ?_
    refine hv_iadd (v := ((hp_uR x23 (5, 0) ((x.2.1 (0, 0) 9).toNatClampNeg) (some (15, (x.2.1 (0, 0) 9).toNatClampNeg))).2.1 (0, 0) 9) + (nI 1)) E dX3_session_33 rfl ?_
    refine hv_putI (ty := .int) (k := 9) E tyX3 okX3 nmX3 dX3_session_34 rfl rfl hiX3 (by decide) wd_103 rfl rfl (Or.inl rfl) (by decide +kernel) rfl rfl ?_
    refine hv_aload_n E dX3_session_37 rfl 0 rfl ?_
    refine hv_getI (k := 9) E dX3_session_38 rfl rfl hiX3 (by decide) wd_103 rfl rfl ?_
    refine hv_iconst (v := nI 1) E dX3_session_41 (by decide) ?_
    refine hv_isub (v := ((hp_uI (hp_uR x23 (5, 0) ((x.2.1 (0, 0) 9).toNatClampNeg) (some (15, (x.2.1 (0, 0) 9).toNatClampNeg))) (0, 0) 9 (((hp_uR x23 (5, 0) ((x.2.1 (0, 0) 9).toNatClampNeg) (some (15, (x.2.1 (0, 0) 9).toNatClampNeg))).2.1 (0, 0) 9) + (nI 1))).2.1 (0, 0) 9) - (nI 1)) E dX3_session_42 rfl ?_
    obtain ⟨hs, h⟩ := h
    exact hv_iret E hret dX3_session_43 (Nat.le_of_ble_eq_true rfl) (Nat.le_of_ble_eq_true rfl) ⟨_, rfl, hs, h⟩
  · have h := h.2 c1
    refine hv_iconst (v := (-1 : Int32)) E dX3_session_9 (by decide) ?_
    exact hv_iret E hret dX3_session_10 (Nat.le_of_ble_eq_true rfl) (Nat.le_of_ble_eq_true rfl) ⟨_, rfl, hs, h⟩
-- VersionJoins.isOpen(I)Z
def k_X3_isOpen (P : Int32 → hp_S → Prop) (a1 : Int32) (x : hp_S) : Prop := (a1 < 0 → (P (nI 0) x)) ∧ (¬ a1 < 0 → (((x.2.1 (0, 0) 9) ≤ a1 → (P (nI 0) x)) ∧ (¬ (x.2.1 (0, 0) 9) ≤ a1 → (vp_in a1 40 ∧ (x.2.2.2 (5, 0) a1.toNatClampNeg = some (15, a1.toNatClampNeg) ∧ (((x.2.1 (15, a1.toNatClampNeg) 4) = 0 → (P (nI 0) x)) ∧ (¬ (x.2.1 (15, a1.toNatClampNeg) 4) = 0 → (P (nI 1) x))))))))
abbrev rm_X3_isOpen : Room := ({ frames := 0, cells := 0, slots := 0, locals := 0 } : Room)
set_option maxRecDepth 100000 in
set_option maxHeartbeats 4000000 in
theorem c_X3_isOpen (l : Launch) (P : Int32 → hp_S → Prop) (a1 : Int32) (x : hp_S) (hs : hp_sh x) (h : k_X3_isOpen P a1 x) : hp_C l yX3_isOpen (Cond.code yX3_isOpen cX3_isOpen 2 (Option.some Jvm.ClassFile.FieldType.boolean) :: hp_ws) rm_X3_isOpen [aR (0, 0), aI a1] x (hp_pI P) 0 0 := by
  refine hp_ofV (own := "VersionJoins") (lv := [(0, aR (0, 0)), (1, aI a1)]) (by decide) rfl (Nat.le_of_ble_eq_true rfl) rfl ?_
  intro p e s m args below meth c D cA B0 ad0 E hret hnm
  unfold k_X3_isOpen at h
  refine hv_iload_n E dX3_isOpen_0 rfl 1 rfl ?_
  refine hv_if_lt (tgt := 28) E dX3_isOpen_1 (by decide) (fun c1 => ?_) (fun c1 => ?_)
  · have h := h.1 c1
    refine hv_iconst (v := nI 0) E dX3_isOpen_28 (by decide) ?_
    exact hv_zret E hret dX3_isOpen_29 (by decide) (Nat.le_of_ble_eq_true rfl) (Nat.le_of_ble_eq_true rfl) ⟨_, rfl, hs, h⟩
  · have h := h.2 c1
    refine hv_iload_n E dX3_isOpen_4 rfl 1 rfl ?_
    refine hv_aload_n E dX3_isOpen_5 rfl 0 rfl ?_
    refine hv_getI (k := 9) E dX3_isOpen_6 rfl rfl hiX3 (by decide) wd_103 rfl rfl ?_
    refine hv_icmp_ge (tgt := 28) E dX3_isOpen_9 (by decide) (fun c2 => ?_) (fun c2 => ?_)
    · have h := h.1 c2
      refine hv_iconst (v := nI 0) E dX3_isOpen_28 (by decide) ?_
      exact hv_zret E hret dX3_isOpen_29 (by decide) (Nat.le_of_ble_eq_true rfl) (Nat.le_of_ble_eq_true rfl) ⟨_, rfl, hs, h⟩
    · have h := h.2 c2
      refine hv_aload_n E dX3_isOpen_12 rfl 0 rfl ?_
      refine hv_getR (k := 4) (t2 := (5, 0)) E dX3_isOpen_13 rfl rfl hiX3 (by decide) wd_98 rfl rfl (hs _ _ _ rfl) ?_
      refine hv_iload_n E dX3_isOpen_16 rfl 1 rfl ?_
      obtain ⟨h3, h⟩ := h
      obtain ⟨h4, h⟩ := h
      refine hv_aald (t2 := (15, a1.toNatClampNeg)) E dX3_isOpen_17 rfl (by decide) rfl rfl h3 (fun _ => h4) ?_
      refine hv_getI (k := 4) E dX3_isOpen_18 rfl rfl hiX1 (by decide) wd_242 rfl rfl ?_
      refine hv_if_eq (tgt := 28) E dX3_isOpen_21 (by decide) (fun c5 => ?_) (fun c5 => ?_)
      · have h := h.1 c5
        refine hv_iconst (v := nI 0) E dX3_isOpen_28 (by decide) ?_
        exact hv_zret E hret dX3_isOpen_29 (by decide) (Nat.le_of_ble_eq_true rfl) (Nat.le_of_ble_eq_true rfl) ⟨_, rfl, hs, h⟩
      · have h := h.2 c5
        refine hv_iconst (v := nI 1) E dX3_isOpen_24 (by decide) ?_
        refine hv_goto (tgt := 29) E dX3_isOpen_25 (by decide) ?_
        exact hv_zret E hret dX3_isOpen_29 (by decide) (Nat.le_of_ble_eq_true rfl) (Nat.le_of_ble_eq_true rfl) ⟨_, rfl, hs, h⟩
-- VersionJoins.read(II)J
def k_X3_read (P : Int64 → hp_S → Prop) (a1 : Int32) (a2 : Int32) (x : hp_S) : Prop := k_X3_isOpen (fun r2 x2 => (r2 = 0 → (P 0 x2)) ∧ (¬ r2 = 0 → (k_X3_isThing (fun r10 x10 => (¬ r10 = 0 → (vp_in a1 40 ∧ (x10.2.2.2 (5, 0) a1.toNatClampNeg = some (15, a1.toNatClampNeg) ∧ (vp_in a2 24 ∧ (k_X1_touch (fun x33 => k_X1_view (fun r38 x38 => P r38 x38) a1.toNatClampNeg a2 x33) a1.toNatClampNeg a2 (x10.2.2.1 (2, 0) a2.toNatClampNeg) x10))))) ∧ (r10 = 0 → (P 0 x10))) a2 x2))) a1 x
abbrev rm_X3_read : Room := ({ frames := 1, cells := 0, slots := 0, locals := 23 } : Room)
set_option maxRecDepth 100000 in
set_option maxHeartbeats 4000000 in
theorem c_X3_read (l : Launch) (P : Int64 → hp_S → Prop) (a1 : Int32) (a2 : Int32) (x : hp_S) (hs : hp_sh x) (h : k_X3_read P a1 a2 x) : hp_C l yX3_read (Cond.code yX3_read cX3_read 4 (Option.some Jvm.ClassFile.FieldType.long) :: hp_ws) rm_X3_read [aR (0, 0), aI a1, aI a2] x (hp_pL P) 0 0 := by
  refine hp_ofV (own := "VersionJoins") (lv := [(0, aR (0, 0)), (1, aI a1), (2, aI a2)]) (by decide) rfl (Nat.le_of_ble_eq_true rfl) rfl ?_
  intro p e s m args below meth c D cA B0 ad0 E hret hnm
  unfold k_X3_read at h
  refine hv_aload_n E dX3_read_0 rfl 0 rfl ?_
  refine hv_iload_n E dX3_read_1 rfl 1 rfl ?_
  refine hv_VI E [aI a1] (c_X3_isOpen l _ a1 x hs h) (hp_cwV 1 E wd_258 wd_260 wd_5 wd_39 wd_261 rfl rfl (by decide +kernel) ⟨(Nat.le_of_ble_eq_true rfl), (Nat.le_of_ble_eq_true rfl)⟩) rfl rfl rfl rfl (Nat.le_of_ble_eq_true rfl) dX3_read_2 ⟨(Nat.le_of_ble_eq_true rfl), (Nat.le_of_ble_eq_true rfl)⟩ (fun r2 x2 hs h => ?_)
  refine hv_if_eq (tgt := 16) E dX3_read_5 (by decide) (fun c1 => ?_) (fun c1 => ?_)
  · have h := h.1 c1
    refine hv_lconst (v := 0) E dX3_read_16 (by decide) ?_
    exact hv_lret E hret dX3_read_17 (Nat.le_of_ble_eq_true rfl) (Nat.le_of_ble_eq_true rfl) ⟨_, rfl, hs, h⟩
  · have h := h.2 c1
    refine hv_aload_n E dX3_read_8 rfl 0 rfl ?_
    refine hv_iload_n E dX3_read_9 rfl 2 rfl ?_
    refine hv_VI E [aI a2] (c_X3_isThing l _ a2 x2 hs h) (hp_cwV 1 E wd_190 wd_192 wd_1 wd_39 wd_193 rfl rfl (by decide +kernel) ⟨(Nat.le_of_ble_eq_true rfl), (Nat.le_of_ble_eq_true rfl)⟩) rfl rfl rfl rfl (Nat.le_of_ble_eq_true rfl) dX3_read_10 ⟨(Nat.le_of_ble_eq_true rfl), (Nat.le_of_ble_eq_true rfl)⟩ (fun r10 x10 hs h => ?_)
    refine hv_if_ne (tgt := 18) E dX3_read_13 (by decide) (fun c2 => ?_) (fun c2 => ?_)
    · have h := h.1 c2
      refine hv_aload_n E dX3_read_18 rfl 0 rfl ?_
      refine hv_getR (k := 4) (t2 := (5, 0)) E dX3_read_19 rfl rfl hiX3 (by decide) wd_98 rfl rfl (hs _ _ _ rfl) ?_
      refine hv_iload_n E dX3_read_22 rfl 1 rfl ?_
      obtain ⟨h3, h⟩ := h
      obtain ⟨h4, h⟩ := h
      refine hv_aald (t2 := (15, a1.toNatClampNeg)) E dX3_read_23 rfl (by decide) rfl rfl h3 (fun _ => h4) ?_
      refine hv_astore_n (lv' := [(0, aR (0, 0)), (1, aI a1), (2, aI a2)]) E dX3_read_24 rfl (by decide) rfl ?_
      refine hv_aload_n E dX3_read_25 rfl 0 rfl ?_
      refine hv_iload_n E dX3_read_26 rfl 3 rfl ?_
      refine hv_aload_n E dX3_read_27 rfl 1 rfl ?_
      refine hv_getR (k := 1) (t2 := (2, 0)) E dX3_read_28 rfl rfl hiX3 (by decide) wd_95 rfl rfl (hs _ _ _ rfl) ?_
      refine hv_iload_n E dX3_read_31 rfl 3 rfl ?_
      obtain ⟨h5, h⟩ := h
      refine hv_lald E dX3_read_32 rfl (by decide) rfl h5 ?_
      refine hv_VV E [aI a2, aL (x10.2.2.1 (2, 0) a2.toNatClampNeg)] (c_X1_touch l _ a1.toNatClampNeg a2 (x10.2.2.1 (2, 0) a2.toNatClampNeg) x10 hs h) (hp_cwV 2 E wd_262 wd_263 wd_264 wd_43 wd_265 rfl rfl (by decide +kernel) ⟨(Nat.le_of_ble_eq_true rfl), (Nat.le_of_ble_eq_true rfl)⟩) rfl rfl rfl rfl (Nat.le_of_ble_eq_true rfl) dX3_read_33 ⟨(Nat.le_of_ble_eq_true rfl), (Nat.le_of_ble_eq_true rfl)⟩ (fun x33 hs h => ?_)
      refine hv_aload_n E dX3_read_36 rfl 0 rfl ?_
      refine hv_iload_n E dX3_read_37 rfl 3 rfl ?_
      refine hv_VL E [aI a2] (c_X1_view l _ a1.toNatClampNeg a2 x33 hs h) (hp_cwV 1 E wd_266 wd_267 wd_268 wd_43 wd_269 rfl rfl (by decide +kernel) ⟨(Nat.le_of_ble_eq_true rfl), (Nat.le_of_ble_eq_true rfl)⟩) rfl rfl rfl rfl (Nat.le_of_ble_eq_true rfl) dX3_read_38 ⟨(Nat.le_of_ble_eq_true rfl), (Nat.le_of_ble_eq_true rfl)⟩ (fun r38 x38 hs h => ?_)
      exact hv_lret E hret dX3_read_41 (Nat.le_of_ble_eq_true rfl) (Nat.le_of_ble_eq_true rfl) ⟨_, rfl, hs, h⟩
    · have h := h.2 c2
      refine hv_lconst (v := 0) E dX3_read_16 (by decide) ?_
      exact hv_lret E hret dX3_read_17 (Nat.le_of_ble_eq_true rfl) (Nat.le_of_ble_eq_true rfl) ⟨_, rfl, hs, h⟩
-- VersionJoins.write(IIJ)Z
def k_X3_write (P : Int32 → hp_S → Prop) (a1 : Int32) (a2 : Int32) (a3 : Int64) (x : hp_S) : Prop := k_X3_isOpen (fun r2 x2 => (r2 = 0 → (P (nI 0) x2)) ∧ (¬ r2 = 0 → (k_X3_isThing (fun r10 x10 => (¬ r10 = 0 → (vp_in a1 40 ∧ (x10.2.2.2 (5, 0) a1.toNatClampNeg = some (15, a1.toNatClampNeg) ∧ (vp_in a2 24 ∧ (k_X1_touch (fun x35 => k_X1_keepWritten (fun x42 => P (nI 1) x42) a1.toNatClampNeg a2 a3 x35) a1.toNatClampNeg a2 (x10.2.2.1 (2, 0) a2.toNatClampNeg) x10))))) ∧ (r10 = 0 → (P (nI 0) x10))) a2 x2))) a1 x
abbrev rm_X3_write : Room := ({ frames := 1, cells := 0, slots := 0, locals := 23 } : Room)
set_option maxRecDepth 100000 in
set_option maxHeartbeats 4000000 in
theorem c_X3_write (l : Launch) (P : Int32 → hp_S → Prop) (a1 : Int32) (a2 : Int32) (a3 : Int64) (x : hp_S) (hs : hp_sh x) (h : k_X3_write P a1 a2 a3 x) : hp_C l yX3_write (Cond.code yX3_write cX3_write 6 (Option.some Jvm.ClassFile.FieldType.boolean) :: hp_ws) rm_X3_write [aR (0, 0), aI a1, aI a2, aL a3] x (hp_pI P) 0 0 := by
  refine hp_ofV (own := "VersionJoins") (lv := [(0, aR (0, 0)), (1, aI a1), (2, aI a2), (3, aL a3)]) (by decide) rfl (Nat.le_of_ble_eq_true rfl) rfl ?_
  intro p e s m args below meth c D cA B0 ad0 E hret hnm
  unfold k_X3_write at h
  refine hv_aload_n E dX3_write_0 rfl 0 rfl ?_
  refine hv_iload_n E dX3_write_1 rfl 1 rfl ?_
  refine hv_VI E [aI a1] (c_X3_isOpen l _ a1 x hs h) (hp_cwV 1 E wd_258 wd_260 wd_5 wd_39 wd_261 rfl rfl (by decide +kernel) ⟨(Nat.le_of_ble_eq_true rfl), (Nat.le_of_ble_eq_true rfl)⟩) rfl rfl rfl rfl (Nat.le_of_ble_eq_true rfl) dX3_write_2 ⟨(Nat.le_of_ble_eq_true rfl), (Nat.le_of_ble_eq_true rfl)⟩ (fun r2 x2 hs h => ?_)
  refine hv_if_eq (tgt := 16) E dX3_write_5 (by decide) (fun c1 => ?_) (fun c1 => ?_)
  · have h := h.1 c1
    refine hv_iconst (v := nI 0) E dX3_write_16 (by decide) ?_
    exact hv_zret E hret dX3_write_17 (by decide) (Nat.le_of_ble_eq_true rfl) (Nat.le_of_ble_eq_true rfl) ⟨_, rfl, hs, h⟩
  · have h := h.2 c1
    refine hv_aload_n E dX3_write_8 rfl 0 rfl ?_
    refine hv_iload_n E dX3_write_9 rfl 2 rfl ?_
    refine hv_VI E [aI a2] (c_X3_isThing l _ a2 x2 hs h) (hp_cwV 1 E wd_190 wd_192 wd_1 wd_39 wd_193 rfl rfl (by decide +kernel) ⟨(Nat.le_of_ble_eq_true rfl), (Nat.le_of_ble_eq_true rfl)⟩) rfl rfl rfl rfl (Nat.le_of_ble_eq_true rfl) dX3_write_10 ⟨(Nat.le_of_ble_eq_true rfl), (Nat.le_of_ble_eq_true rfl)⟩ (fun r10 x10 hs h => ?_)
    refine hv_if_ne (tgt := 18) E dX3_write_13 (by decide) (fun c2 => ?_) (fun c2 => ?_)
    · have h := h.1 c2
      refine hv_aload_n E dX3_write_18 rfl 0 rfl ?_
      refine hv_getR (k := 4) (t2 := (5, 0)) E dX3_write_19 rfl rfl hiX3 (by decide) wd_98 rfl rfl (hs _ _ _ rfl) ?_
      refine hv_iload_n E dX3_write_22 rfl 1 rfl ?_
      obtain ⟨h3, h⟩ := h
      obtain ⟨h4, h⟩ := h
      refine hv_aald (t2 := (15, a1.toNatClampNeg)) E dX3_write_23 rfl (by decide) rfl rfl h3 (fun _ => h4) ?_
      refine hv_astore (lv' := [(0, aR (0, 0)), (1, aI a1), (2, aI a2), (3, aL a3)]) E dX3_write_24 (by decide) rfl ?_
      refine hv_aload E dX3_write_26 0 rfl ?_
      refine hv_iload_n E dX3_write_28 rfl 3 rfl ?_
      refine hv_aload_n E dX3_write_29 rfl 1 rfl ?_
      refine hv_getR (k := 1) (t2 := (2, 0)) E dX3_write_30 rfl rfl hiX3 (by decide) wd_95 rfl rfl (hs _ _ _ rfl) ?_
      refine hv_iload_n E dX3_write_33 rfl 3 rfl ?_
      obtain ⟨h5, h⟩ := h
      refine hv_lald E dX3_write_34 rfl (by decide) rfl h5 ?_
      refine hv_VV E [aI a2, aL (x10.2.2.1 (2, 0) a2.toNatClampNeg)] (c_X1_touch l _ a1.toNatClampNeg a2 (x10.2.2.1 (2, 0) a2.toNatClampNeg) x10 hs h) (hp_cwV 2 E wd_262 wd_263 wd_264 wd_43 wd_265 rfl rfl (by decide +kernel) ⟨(Nat.le_of_ble_eq_true rfl), (Nat.le_of_ble_eq_true rfl)⟩) rfl rfl rfl rfl (Nat.le_of_ble_eq_true rfl) dX3_write_35 ⟨(Nat.le_of_ble_eq_true rfl), (Nat.le_of_ble_eq_true rfl)⟩ (fun x35 hs h => ?_)
      refine hv_aload E dX3_write_38 0 rfl ?_
      refine hv_iload_n E dX3_write_40 rfl 3 rfl ?_
      refine hv_lload_n E dX3_write_41 rfl 4 rfl ?_
      refine hv_VV E [aI a2, aL a3] (c_X1_keepWritten l _ a1.toNatClampNeg a2 a3 x35 hs h) (hp_cwV 2 E wd_274 wd_275 wd_276 wd_43 wd_277 rfl rfl (by decide +kernel) ⟨(Nat.le_of_ble_eq_true rfl), (Nat.le_of_ble_eq_true rfl)⟩) rfl rfl rfl rfl (Nat.le_of_ble_eq_true rfl) dX3_write_42 ⟨(Nat.le_of_ble_eq_true rfl), (Nat.le_of_ble_eq_true rfl)⟩ (fun x42 hs h => ?_)
      refine hv_iconst (v := nI 1) E dX3_write_45 (by decide) ?_
      exact hv_zret E hret dX3_write_46 (by decide) (Nat.le_of_ble_eq_true rfl) (Nat.le_of_ble_eq_true rfl) ⟨_, rfl, hs, h⟩
    · have h := h.2 c2
      refine hv_iconst (v := nI 0) E dX3_write_16 (by decide) ?_
      exact hv_zret E hret dX3_write_17 (by decide) (Nat.le_of_ble_eq_true rfl) (Nat.le_of_ble_eq_true rfl) ⟨_, rfl, hs, h⟩
-- VersionJoins.collectConflicts(LVersionJoins$Session;)I
def k_X3_collectConflicts_4 (P : Int32 → hp_S → Prop) (j1 : Nat) : Nat → hp_S → Int32 → Int32 → Prop
  | 0, _, _, _ => False
  | n + 1, x, l2, l3 => ((x.2.1 (0, 0) 6) ≤ l3 → ((l2 ≤ 0 → (P l2 x)) ∧ (¬ l2 ≤ 0 → (P l2 (hp_uI (hp_uR x (6, 0) 4 (some (15, j1))) (6, 0) 5 l2))))) ∧ (¬ (x.2.1 (0, 0) 6) ≤ l3 → (vp_in l3 24 ∧ (k_X1_isConflict (fun r20 x20 => (r20 = 0 → (k_X3_collectConflicts_4 P j1 n x20 l2 (l3 + nI 1))) ∧ (¬ r20 = 0 → (k_X1_view (fun r34 x34 => vp_in l3 24 ∧ (k_X0_put (fun x43 => k_X3_collectConflicts_4 P j1 n x43 (l2 + nI 1) (l3 + nI 1)) l2 l3 r34 (x34.2.2.1 (2, 0) l3.toNatClampNeg) x34)) j1 l3 x20))) j1 l3 (x.2.2.1 (2, 0) l3.toNatClampNeg) x)))
def k_X3_collectConflicts (P : Int32 → hp_S → Prop) (j1 : Nat) (x : hp_S) : Prop := ∃ q, k_X3_collectConflicts_4 P j1 q x (nI 0) (nI 0)
abbrev rm_X3_collectConflicts : Room := ({ frames := 1, cells := 0, slots := 0, locals := 26 } : Room)
set_option maxRecDepth 100000 in
set_option maxHeartbeats 4000000 in
theorem w_X3_collectConflicts_4 {p : Program} {l : Launch} {e : Env} {s : State} {m : MethodId} {args : Array Value} {below : List Frame} {meth : Method} {c : Code} {D : va_G} {cA : Nat → ClassId} {B0 : Nat} {ad0 : hp_T → Nat} {x0 : hp_S} (E : hp_E p s m args meth c cX3_collectConflicts 4 "VersionJoins" hp_ws D cA B0) (hret : meth.sig.returnType = (Option.some Jvm.ClassFile.FieldType.int)) {P : Int32 → hp_S → Prop} (j1 : Nat) : ∀ (n : Nat) (x : hp_S) (l2 : Int32) (l3 : Int32), hp_sh x → k_X3_collectConflicts_4 P j1 n x l2 l3 → hp_V p l e rm_X3_collectConflicts s m args below meth c (fun ad0 => MQ below (hp_Q D cA B0 ad0 x0 (hp_pI P)) args s 0 0 (fun q => B0 ≤ q)) D cA B0 4 ad0 x0 0 0 x 4 [(0, aR (0, 0)), (1, aR (15, j1)), (2, aI l2), (3, aI l3)] [] := by
  intro n
  induction n with
  | zero => intro x l2 l3 hs h; exact absurd h id
  | succ n ih =>
    intro x l2 l3 hs h
    unfold k_X3_collectConflicts_4 at h
    refine hv_iload_n E dX3_collectConflicts_4 rfl 3 rfl ?_
    refine hv_aload_n E dX3_collectConflicts_5 rfl 0 rfl ?_
    refine hv_getI (k := 6) E dX3_collectConflicts_6 rfl rfl hiX3 (by decide) wd_100 rfl rfl ?_
    refine hv_icmp_ge (tgt := 55) E dX3_collectConflicts_9 (by decide) (fun c1 => ?_) (fun c1 => ?_)
    · have h := h.1 c1
      refine hv_iload_n E dX3_collectConflicts_55 rfl 2 rfl ?_
      refine hv_if_le (tgt := 75) E dX3_collectConflicts_56 (by decide) (fun c2 => ?_) (fun c2 => ?_)
      · have h := h.1 c2
        refine hv_iload_n E dX3_collectConflicts_75 rfl 2 rfl ?_
        exact hv_iret E hret dX3_collectConflicts_76 (Nat.le_of_ble_eq_true rfl) (Nat.le_of_ble_eq_true rfl) ⟨_, rfl, hs, h⟩
      · have h := h.2 c2
        refine hv_aload_n E dX3_collectConflicts_59 rfl 0 rfl ?_
        refine hv_getR (k := 5) (t2 := (6, 0)) E dX3_collectConflicts_60 rfl rfl hiX3 (by decide) wd_99 rfl rfl (hs _ _ _ rfl) ?_
        refine hv_aload_n E dX3_collectConflicts_63 rfl 1 rfl ?_
        refine hv_putR (ty := .object "VersionJoins$Session") (k := 4) E tyX0 okX0 nmX0 dX3_collectConflicts_64 rfl rfl hiX0 (by decide) wd_75 rfl rfl (Or.inl rfl) (by decide +kernel) (fun _ => rfl) (fun _ => rfl) ?_
        refine hv_aload_n E dX3_collectConflicts_67 rfl 0 rfl ?_
        refine hv_getR (k := 5) (t2 := (6, 0)) E dX3_collectConflicts_68 rfl rfl hiX3 (by decide) wd_99 rfl rfl ((hp_sh_uR rfl hs) _ _ _ rfl) ?_
        refine hv_iload_n E dX3_collectConflicts_71 rfl 2 rfl ?_
        refine hv_putI (ty := .int) (k := 5) E tyX0 okX0 nmX0 dX3_collectConflicts_72 rfl rfl hiX0 (by decide) wd_77 rfl rfl (Or.inl rfl) (by decide +kernel) rfl rfl ?_
        refine hv_iload_n E dX3_collectConflicts_75 rfl 2 rfl ?_
        exact hv_iret E hret dX3_collectConflicts_76 (Nat.le_of_ble_eq_true rfl) (Nat.le_of_ble_eq_true rfl) ⟨_, rfl, (hp_sh_uR rfl hs), h⟩
    · have h := h.2 c1
      refine hv_aload_n E dX3_collectConflicts_12 rfl 1 rfl ?_
      refine hv_iload_n E dX3_collectConflicts_13 rfl 3 rfl ?_
      refine hv_aload_n E dX3_collectConflicts_14 rfl 0 rfl ?_
      refine hv_getR (k := 1) (t2 := (2, 0)) E dX3_collectConflicts_15 rfl rfl hiX3 (by decide) wd_95 rfl rfl (hs _ _ _ rfl) ?_
      refine hv_iload_n E dX3_collectConflicts_18 rfl 3 rfl ?_
      obtain ⟨h3, h⟩ := h
      refine hv_lald E dX3_collectConflicts_19 rfl (by decide) rfl h3 ?_
      refine hv_VI E [aI l3, aL (x.2.2.1 (2, 0) l3.toNatClampNeg)] (c_X1_isConflict l _ j1 l3 (x.2.2.1 (2, 0) l3.toNatClampNeg) x hs h) (hp_cwV 2 E wd_286 wd_287 wd_288 wd_43 wd_289 rfl rfl (by decide +kernel) ⟨(Nat.le_of_ble_eq_true rfl), (Nat.le_of_ble_eq_true rfl)⟩) rfl rfl rfl rfl (Nat.le_of_ble_eq_true rfl) dX3_collectConflicts_20 ⟨(Nat.le_of_ble_eq_true rfl), (Nat.le_of_ble_eq_true rfl)⟩ (fun r20 x20 hs h => ?_)
      refine hv_if_eq (tgt := 49) E dX3_collectConflicts_23 (by decide) (fun c4 => ?_) (fun c4 => ?_)
      · have h := h.1 c4
        refine hv_iinc (v := l3 + nI 1) (lv' := [(0, aR (0, 0)), (1, aR (15, j1)), (2, aI l2)]) E 3 dX3_collectConflicts_49 rfl (hx_i1 _) (by decide) rfl ?_
        refine hv_goto (tgt := 4) E dX3_collectConflicts_52 (by decide) ?_
        refine hv_lv [1, 2, 3, 0] rfl ?_
        exact ih x20 l2 (l3 + nI 1) hs h
      · have h := h.2 c4
        refine hv_aload_n E dX3_collectConflicts_26 rfl 0 rfl ?_
        refine hv_getR (k := 5) (t2 := (6, 0)) E dX3_collectConflicts_27 rfl rfl hiX3 (by decide) wd_99 rfl rfl (hs _ _ _ rfl) ?_
        refine hv_iload_n E dX3_collectConflicts_30 rfl 2 rfl ?_
        refine hv_iload_n E dX3_collectConflicts_31 rfl 3 rfl ?_
        refine hv_aload_n E dX3_collectConflicts_32 rfl 1 rfl ?_
        refine hv_iload_n E dX3_collectConflicts_33 rfl 3 rfl ?_
        refine hv_VL E [aI l3] (c_X1_view l _ j1 l3 x20 hs h) (hp_cwV 1 E wd_266 wd_267 wd_268 wd_43 wd_269 rfl rfl (by decide +kernel) ⟨(Nat.le_of_ble_eq_true rfl), (Nat.le_of_ble_eq_true rfl)⟩) rfl rfl rfl rfl (Nat.le_of_ble_eq_true rfl) dX3_collectConflicts_34 ⟨(Nat.le_of_ble_eq_true rfl), (Nat.le_of_ble_eq_true rfl)⟩ (fun r34 x34 hs h => ?_)
        refine hv_aload_n E dX3_collectConflicts_37 rfl 0 rfl ?_
        refine hv_getR (k := 1) (t2 := (2, 0)) E dX3_collectConflicts_38 rfl rfl hiX3 (by decide) wd_95 rfl rfl (hs _ _ _ rfl) ?_
        refine hv_iload_n E dX3_collectConflicts_41 rfl 3 rfl ?_
        obtain ⟨h5, h⟩ := h
        refine hv_lald E dX3_collectConflicts_42 rfl (by decide) rfl h5 ?_
        refine hv_VV E [aI l2, aI l3, aL r34, aL (x34.2.2.1 (2, 0) l3.toNatClampNeg)] (c_X0_put l _ l2 l3 r34 (x34.2.2.1 (2, 0) l3.toNatClampNeg) x34 hs h) (hp_cwV 4 E wd_290 wd_291 wd_292 wd_40 wd_293 rfl rfl (by decide +kernel) ⟨(Nat.le_of_ble_eq_true rfl), (Nat.le_of_ble_eq_true rfl)⟩) rfl rfl rfl rfl (Nat.le_of_ble_eq_true rfl) dX3_collectConflicts_43 ⟨(Nat.le_of_ble_eq_true rfl), (Nat.le_of_ble_eq_true rfl)⟩ (fun x43 hs h => ?_)
        refine hv_iinc (v := l2 + nI 1) (lv' := [(0, aR (0, 0)), (1, aR (15, j1)), (3, aI l3)]) E 2 dX3_collectConflicts_46 rfl (hx_i1 _) (by decide) rfl ?_
        refine hv_iinc (v := l3 + nI 1) (lv' := [(2, aI (l2 + nI 1)), (0, aR (0, 0)), (1, aR (15, j1))]) E 3 dX3_collectConflicts_49 rfl (hx_i1 _) (by decide) rfl ?_
        refine hv_goto (tgt := 4) E dX3_collectConflicts_52 (by decide) ?_
        refine hv_lv [2, 3, 1, 0] rfl ?_
        exact ih x43 (l2 + nI 1) (l3 + nI 1) hs h
set_option maxRecDepth 100000 in
set_option maxHeartbeats 4000000 in
theorem c_X3_collectConflicts (l : Launch) (P : Int32 → hp_S → Prop) (j1 : Nat) (x : hp_S) (hs : hp_sh x) (h : k_X3_collectConflicts P j1 x) : hp_C l yX3_collectConflicts (Cond.code yX3_collectConflicts cX3_collectConflicts 4 (Option.some Jvm.ClassFile.FieldType.int) :: hp_ws) rm_X3_collectConflicts [aR (0, 0), aR (15, j1)] x (hp_pI P) 0 0 := by
  refine hp_ofV (own := "VersionJoins") (lv := [(0, aR (0, 0)), (1, aR (15, j1))]) (by decide) rfl (Nat.le_of_ble_eq_true rfl) rfl ?_
  intro p e s m args below meth c D cA B0 ad0 E hret hnm
  unfold k_X3_collectConflicts at h
  refine hv_iconst (v := nI 0) E dX3_collectConflicts_0 (by decide) ?_
  refine hv_istore_n (lv' := [(0, aR (0, 0)), (1, aR (15, j1))]) E dX3_collectConflicts_1 rfl (by decide) rfl ?_
  refine hv_iconst (v := nI 0) E dX3_collectConflicts_2 (by decide) ?_
  refine hv_istore_n (lv' := [(2, aI (nI 0)), (0, aR (0, 0)), (1, aR (15, j1))]) E dX3_collectConflicts_3 rfl (by decide) rfl ?_
  obtain ⟨n6, h⟩ := h
  refine hv_lv [2, 3, 1, 0] rfl ?_
  exact w_X3_collectConflicts_4 E hret j1 n6 x (nI 0) (nI 0) hs h
-- VersionJoins.give(IJ)V
def k_X3_give (P : hp_S → Prop) (a1 : Int32) (a2 : Int64) (x : hp_S) : Prop := vp_in a1 24 ∧ (((lg_cmp (x.2.2.1 (2, 0) a1.toNatClampNeg) a2) = 0 → (P x)) ∧ (¬ (lg_cmp (x.2.2.1 (2, 0) a1.toNatClampNeg) a2) = 0 → (vp_in a1 24 ∧ (P (hp_uI (hp_uL x (2, 0) a1.toNatClampNeg a2) (0, 0) 10 (((hp_uL x (2, 0) a1.toNatClampNeg a2).2.1 (0, 0) 10) + (nI 1)))))))
abbrev rm_X3_give : Room := ({ frames := 0, cells := 0, slots := 0, locals := 0 } : Room)
set_option maxRecDepth 100000 in
set_option maxHeartbeats 4000000 in
theorem c_X3_give (l : Launch) (P : hp_S → Prop) (a1 : Int32) (a2 : Int64) (x : hp_S) (hs : hp_sh x) (h : k_X3_give P a1 a2 x) : hp_C l yX3_give (Cond.code yX3_give cX3_give 4 (Option.none : Option Jvm.ClassFile.FieldType) :: hp_ws) rm_X3_give [aR (0, 0), aI a1, aL a2] x (hp_pV P) 0 0 := by
  refine hp_ofV (own := "VersionJoins") (lv := [(0, aR (0, 0)), (1, aI a1), (2, aL a2)]) (by decide) rfl (Nat.le_of_ble_eq_true rfl) rfl ?_
  intro p e s m args below meth c D cA B0 ad0 E hret hnm
  unfold k_X3_give at h
  refine hv_aload_n E dX3_give_0 rfl 0 rfl ?_
  refine hv_getR (k := 1) (t2 := (2, 0)) E dX3_give_1 rfl rfl hiX3 (by decide) wd_95 rfl rfl (hs _ _ _ rfl) ?_
  refine hv_iload_n E dX3_give_4 rfl 1 rfl ?_
  obtain ⟨h1, h⟩ := h
  refine hv_lald E dX3_give_5 rfl (by decide) rfl h1 ?_
  refine hv_lload_n E dX3_give_6 rfl 2 rfl ?_
  refine hv_lcmp E dX3_give_7 ?_
  refine hv_if_eq (tgt := 28) E dX3_give_8 (by decide) (fun c2 => ?_) (fun c2 => ?_)
  · have h := h.1 c2
    exact hv_vret E hret dX3_give_28 (Nat.le_of_ble_eq_true rfl) (Nat.le_of_ble_eq_true rfl) ⟨rfl, hs, h⟩
  · have h := h.2 c2
    refine hv_aload_n E dX3_give_11 rfl 0 rfl ?_
    refine hv_getR (k := 1) (t2 := (2, 0)) E dX3_give_12 rfl rfl hiX3 (by decide) wd_95 rfl rfl (hs _ _ _ rfl) ?_
    refine hv_iload_n E dX3_give_15 rfl 1 rfl ?_
    refine hv_lload_n E dX3_give_16 rfl 2 rfl ?_
    obtain ⟨h3, h⟩ := h
    refine hv_last E dX3_give_17 rfl (by decide) rfl h3 ?_
    refine hv_aload_n E dX3_give_18 rfl 0 rfl ?_
    refine hv_dup E dX3_give_19 rfl ?_
    refine hv_getI (k := 10) E dX3_give_20 rfl rfl hiX3 (by decide) wd_104 rfl rfl ?_
    refine hv_iconst (v := nI 1) E dX3_give_23 (by decide) ?_
    refine hv_iadd (v := ((hp_uL x (2, 0) a1.toNatClampNeg a2).2.1 (0, 0) 10) + (nI 1)) E dX3_give_24 rfl ?_
    refine hv_putI (ty := .int) (k := 10) E tyX3 okX3 nmX3 dX3_give_25 rfl rfl hiX3 (by decide) wd_104 rfl rfl (Or.inl rfl) (by decide +kernel) rfl rfl ?_
    exact hv_vret E hret dX3_give_28 (Nat.le_of_ble_eq_true rfl) (Nat.le_of_ble_eq_true rfl) ⟨rfl, hs, h⟩
-- VersionJoins.giveWritten(LVersionJoins$Session;)V
def k_X3_giveWritten_2 (P : hp_S → Prop) (j1 : Nat) : Nat → hp_S → Int32 → Prop
  | 0, _, _ => False
  | n + 1, x, l2 => ((x.2.1 (0, 0) 6) ≤ l2 → (P x)) ∧ (¬ (x.2.1 (0, 0) 6) ≤ l2 → (vp_in l2 24 ∧ (((x.2.1 (18, j1) l2.toNatClampNeg) = 0 → (k_X3_giveWritten_2 P j1 n x (l2 + nI 1))) ∧ (¬ (x.2.1 (18, j1) l2.toNatClampNeg) = 0 → (vp_in l2 24 ∧ (k_X3_give (fun x27 => k_X3_giveWritten_2 P j1 n x27 (l2 + nI 1)) l2 (x.2.2.1 (19, j1) l2.toNatClampNeg) x))))))
def k_X3_giveWritten (P : hp_S → Prop) (j1 : Nat) (x : hp_S) : Prop := ∃ q, k_X3_giveWritten_2 P j1 q x (nI 0)
abbrev rm_X3_giveWritten : Room := ({ frames := 1, cells := 0, slots := 0, locals := 23 } : Room)
set_option maxRecDepth 100000 in
set_option maxHeartbeats 4000000 in
theorem w_X3_giveWritten_2 {p : Program} {l : Launch} {e : Env} {s : State} {m : MethodId} {args : Array Value} {below : List Frame} {meth : Method} {c : Code} {D : va_G} {cA : Nat → ClassId} {B0 : Nat} {ad0 : hp_T → Nat} {x0 : hp_S} (E : hp_E p s m args meth c cX3_giveWritten 3 "VersionJoins" hp_ws D cA B0) (hret : meth.sig.returnType = (Option.none : Option Jvm.ClassFile.FieldType)) {P : hp_S → Prop} (j1 : Nat) : ∀ (n : Nat) (x : hp_S) (l2 : Int32), hp_sh x → k_X3_giveWritten_2 P j1 n x l2 → hp_V p l e rm_X3_giveWritten s m args below meth c (fun ad0 => MQ below (hp_Q D cA B0 ad0 x0 (hp_pV P)) args s 0 0 (fun q => B0 ≤ q)) D cA B0 3 ad0 x0 0 0 x 2 [(0, aR (0, 0)), (1, aR (15, j1)), (2, aI l2)] [] := by
  intro n
  induction n with
  | zero => intro x l2 hs h; exact absurd h id
  | succ n ih =>
    intro x l2 hs h
    unfold k_X3_giveWritten_2 at h
    refine hv_iload_n E dX3_giveWritten_2 rfl 2 rfl ?_
    refine hv_aload_n E dX3_giveWritten_3 rfl 0 rfl ?_
    refine hv_getI (k := 6) E dX3_giveWritten_4 rfl rfl hiX3 (by decide) wd_100 rfl rfl ?_
    refine hv_icmp_ge (tgt := 36) E dX3_giveWritten_7 (by decide) (fun c1 => ?_) (fun c1 => ?_)
    · have h := h.1 c1
      exact hv_vret E hret dX3_giveWritten_36 (Nat.le_of_ble_eq_true rfl) (Nat.le_of_ble_eq_true rfl) ⟨rfl, hs, h⟩
    · have h := h.2 c1
      refine hv_aload_n E dX3_giveWritten_10 rfl 1 rfl ?_
      refine hv_getR (k := 2) (t2 := (18, j1)) E dX3_giveWritten_11 rfl rfl hiX1 (by decide) wd_238 rfl rfl (hs _ _ _ rfl) ?_
      refine hv_iload_n E dX3_giveWritten_14 rfl 2 rfl ?_
      obtain ⟨h2, h⟩ := h
      refine hv_zald E dX3_giveWritten_15 rfl (by decide) rfl h2 ?_
      refine hv_if_eq (tgt := 30) E dX3_giveWritten_16 (by decide) (fun c3 => ?_) (fun c3 => ?_)
      · have h := h.1 c3
        refine hv_iinc (v := l2 + nI 1) (lv' := [(0, aR (0, 0)), (1, aR (15, j1))]) E 2 dX3_giveWritten_30 rfl (hx_i1 _) (by decide) rfl ?_
        refine hv_goto (tgt := 2) E dX3_giveWritten_33 (by decide) ?_
        refine hv_lv [1, 2, 0] rfl ?_
        exact ih x (l2 + nI 1) hs h
      · have h := h.2 c3
        refine hv_aload_n E dX3_giveWritten_19 rfl 0 rfl ?_
        refine hv_iload_n E dX3_giveWritten_20 rfl 2 rfl ?_
        refine hv_aload_n E dX3_giveWritten_21 rfl 1 rfl ?_
        refine hv_getR (k := 3) (t2 := (19, j1)) E dX3_giveWritten_22 rfl rfl hiX1 (by decide) wd_240 rfl rfl (hs _ _ _ rfl) ?_
        refine hv_iload_n E dX3_giveWritten_25 rfl 2 rfl ?_
        obtain ⟨h4, h⟩ := h
        refine hv_lald E dX3_giveWritten_26 rfl (by decide) rfl h4 ?_
        refine hv_VV E [aI l2, aL (x.2.2.1 (19, j1) l2.toNatClampNeg)] (c_X3_give l _ l2 (x.2.2.1 (19, j1) l2.toNatClampNeg) x hs h) (hp_cwV 2 E wd_304 wd_306 wd_8 wd_39 wd_307 rfl rfl (by decide +kernel) ⟨(Nat.le_of_ble_eq_true rfl), (Nat.le_of_ble_eq_true rfl)⟩) rfl rfl rfl rfl (Nat.le_of_ble_eq_true rfl) dX3_giveWritten_27 ⟨(Nat.le_of_ble_eq_true rfl), (Nat.le_of_ble_eq_true rfl)⟩ (fun x27 hs h => ?_)
        refine hv_iinc (v := l2 + nI 1) (lv' := [(0, aR (0, 0)), (1, aR (15, j1))]) E 2 dX3_giveWritten_30 rfl (hx_i1 _) (by decide) rfl ?_
        refine hv_goto (tgt := 2) E dX3_giveWritten_33 (by decide) ?_
        refine hv_lv [1, 2, 0] rfl ?_
        exact ih x27 (l2 + nI 1) hs h
set_option maxRecDepth 100000 in
set_option maxHeartbeats 4000000 in
theorem c_X3_giveWritten (l : Launch) (P : hp_S → Prop) (j1 : Nat) (x : hp_S) (hs : hp_sh x) (h : k_X3_giveWritten P j1 x) : hp_C l yX3_giveWritten (Cond.code yX3_giveWritten cX3_giveWritten 3 (Option.none : Option Jvm.ClassFile.FieldType) :: hp_ws) rm_X3_giveWritten [aR (0, 0), aR (15, j1)] x (hp_pV P) 0 0 := by
  refine hp_ofV (own := "VersionJoins") (lv := [(0, aR (0, 0)), (1, aR (15, j1))]) (by decide) rfl (Nat.le_of_ble_eq_true rfl) rfl ?_
  intro p e s m args below meth c D cA B0 ad0 E hret hnm
  unfold k_X3_giveWritten at h
  refine hv_iconst (v := nI 0) E dX3_giveWritten_0 (by decide) ?_
  refine hv_istore_n (lv' := [(0, aR (0, 0)), (1, aR (15, j1))]) E dX3_giveWritten_1 rfl (by decide) rfl ?_
  obtain ⟨n5, h⟩ := h
  refine hv_lv [1, 2, 0] rfl ?_
  exact w_X3_giveWritten_2 E hret j1 n5 x (nI 0) hs h
-- VersionJoins.join(IZ)I
def k_X3_join (P : Int32 → hp_S → Prop) (a1 : Int32) (a2 : Int32) (x : hp_S) : Prop := k_X3_isOpen (fun r2 x2 => (¬ r2 = 0 → (vp_in a1 40 ∧ (x2.2.2.2 (5, 0) a1.toNatClampNeg = some (15, a1.toNatClampNeg) ∧ (k_X3_collectConflicts (fun r20 x20 => (r20 ≤ 0 → ((¬ a2 = 0 → (P (-1 : Int32) x20)) ∧ (a2 = 0 → (k_X1_isWithinBounds (fun r38 x38 => (¬ r38 = 0 → (k_X3_giveWritten (fun x48 => P (nI 0) (hp_uI x48 (15, a1.toNatClampNeg) 4 (nI 0))) a1.toNatClampNeg x38)) ∧ (r38 = 0 → (P (-1 : Int32) x38))) a1.toNatClampNeg x20)))) ∧ (¬ r20 ≤ 0 → (P r20 x20))) a1.toNatClampNeg x2)))) ∧ (r2 = 0 → (P (-2 : Int32) x2))) a1 x
abbrev rm_X3_join : Room := ({ frames := 2, cells := 0, slots := 0, locals := 49 } : Room)
set_option maxRecDepth 100000 in
set_option maxHeartbeats 4000000 in
theorem c_X3_join (l : Launch) (P : Int32 → hp_S → Prop) (a1 : Int32) (a2 : Int32) (x : hp_S) (hs : hp_sh x) (h : k_X3_join P a1 a2 x) : hp_C l yX3_join (Cond.code yX3_join cX3_join 5 (Option.some Jvm.ClassFile.FieldType.int) :: hp_ws) rm_X3_join [aR (0, 0), aI a1, aI a2] x (hp_pI P) 0 0 := by
  refine hp_ofV (own := "VersionJoins") (lv := [(0, aR (0, 0)), (1, aI a1), (2, aI a2)]) (by decide) rfl (Nat.le_of_ble_eq_true rfl) rfl ?_
  intro p e s m args below meth c D cA B0 ad0 E hret hnm
  unfold k_X3_join at h
  refine hv_aload_n E dX3_join_0 rfl 0 rfl ?_
  refine hv_iload_n E dX3_join_1 rfl 1 rfl ?_
  refine hv_VI E [aI a1] (c_X3_isOpen l _ a1 x hs h) (hp_cwV 1 E wd_258 wd_260 wd_5 wd_39 wd_261 rfl rfl (by decide +kernel) ⟨(Nat.le_of_ble_eq_true rfl), (Nat.le_of_ble_eq_true rfl)⟩) rfl rfl rfl rfl (Nat.le_of_ble_eq_true rfl) dX3_join_2 ⟨(Nat.le_of_ble_eq_true rfl), (Nat.le_of_ble_eq_true rfl)⟩ (fun r2 x2 hs h => ?_)
  refine hv_if_ne (tgt := 11) E dX3_join_5 (by decide) (fun c1 => ?_) (fun c1 => ?_)
  · have h := h.1 c1
    refine hv_aload_n E dX3_join_11 rfl 0 rfl ?_
    refine hv_getR (k := 4) (t2 := (5, 0)) E dX3_join_12 rfl rfl hiX3 (by decide) wd_98 rfl rfl (hs _ _ _ rfl) ?_
    refine hv_iload_n E dX3_join_15 rfl 1 rfl ?_
    obtain ⟨h2, h⟩ := h
    obtain ⟨h3, h⟩ := h
    refine hv_aald (t2 := (15, a1.toNatClampNeg)) E dX3_join_16 rfl (by decide) rfl rfl h2 (fun _ => h3) ?_
    refine hv_astore_n (lv' := [(0, aR (0, 0)), (1, aI a1), (2, aI a2)]) E dX3_join_17 rfl (by decide) rfl ?_
    refine hv_aload_n E dX3_join_18 rfl 1 rfl ?_
    refine hv_aload_n E dX3_join_19 rfl 0 rfl ?_
    refine hv_VI E [aR (15, a1.toNatClampNeg)] (c_X3_collectConflicts l _ a1.toNatClampNeg x2 hs h) (hp_cwV 1 E wd_282 wd_284 wd_6 wd_39 wd_285 rfl rfl (by decide +kernel) ⟨(Nat.le_of_ble_eq_true rfl), (Nat.le_of_ble_eq_true rfl)⟩) rfl rfl rfl rfl (Nat.le_of_ble_eq_true rfl) dX3_join_20 ⟨(Nat.le_of_ble_eq_true rfl), (Nat.le_of_ble_eq_true rfl)⟩ (fun r20 x20 hs h => ?_)
    refine hv_istore (lv' := [(3, aR (15, a1.toNatClampNeg)), (0, aR (0, 0)), (1, aI a1), (2, aI a2)]) E dX3_join_23 (by decide) rfl ?_
    refine hv_iload E dX3_join_25 0 rfl ?_
    refine hv_if_le (tgt := 33) E dX3_join_27 (by decide) (fun c4 => ?_) (fun c4 => ?_)
    · have h := h.1 c4
      refine hv_iload_n E dX3_join_33 rfl 4 rfl ?_
      refine hv_if_ne (tgt := 44) E dX3_join_34 (by decide) (fun c5 => ?_) (fun c5 => ?_)
      · have h := h.1 c5
        refine hv_iconst (v := (-1 : Int32)) E dX3_join_44 (by decide) ?_
        exact hv_iret E hret dX3_join_45 (Nat.le_of_ble_eq_true rfl) (Nat.le_of_ble_eq_true rfl) ⟨_, rfl, hs, h⟩
      · have h := h.2 c5
        refine hv_aload_n E dX3_join_37 rfl 1 rfl ?_
        refine hv_VI E [] (c_X1_isWithinBounds l _ a1.toNatClampNeg x20 hs h) (hp_cwV 0 E wd_294 wd_295 wd_296 wd_43 wd_297 rfl rfl (by decide +kernel) ⟨(Nat.le_of_ble_eq_true rfl), (Nat.le_of_ble_eq_true rfl)⟩) rfl rfl rfl rfl (Nat.le_of_ble_eq_true rfl) dX3_join_38 ⟨(Nat.le_of_ble_eq_true rfl), (Nat.le_of_ble_eq_true rfl)⟩ (fun r38 x38 hs h => ?_)
        refine hv_if_ne (tgt := 46) E dX3_join_41 (by decide) (fun c6 => ?_) (fun c6 => ?_)
        · have h := h.1 c6
          refine hv_aload_n E dX3_join_46 rfl 2 rfl ?_
          refine hv_aload_n E dX3_join_47 rfl 1 rfl ?_
          refine hv_VV E [aR (15, a1.toNatClampNeg)] (c_X3_giveWritten l _ a1.toNatClampNeg x38 hs h) (hp_cwV 1 E wd_300 wd_302 wd_7 wd_39 wd_303 rfl rfl (by decide +kernel) ⟨(Nat.le_of_ble_eq_true rfl), (Nat.le_of_ble_eq_true rfl)⟩) rfl rfl rfl rfl (Nat.le_of_ble_eq_true rfl) dX3_join_48 ⟨(Nat.le_of_ble_eq_true rfl), (Nat.le_of_ble_eq_true rfl)⟩ (fun x48 hs h => ?_)
          refine hv_aload_n E dX3_join_51 rfl 1 rfl ?_
          refine hv_iconst (v := nI 0) E dX3_join_52 (by decide) ?_
          refine hv_putI (ty := .boolean) (k := 4) E tyX1 okX1 nmX1 dX3_join_53 rfl rfl hiX1 (by decide) wd_242 rfl rfl (Or.inl rfl) (by decide +kernel) (by decide) rfl ?_
          refine hv_iconst (v := nI 0) E dX3_join_56 (by decide) ?_
          exact hv_iret E hret dX3_join_57 (Nat.le_of_ble_eq_true rfl) (Nat.le_of_ble_eq_true rfl) ⟨_, rfl, hs, h⟩
        · have h := h.2 c6
          refine hv_iconst (v := (-1 : Int32)) E dX3_join_44 (by decide) ?_
          exact hv_iret E hret dX3_join_45 (Nat.le_of_ble_eq_true rfl) (Nat.le_of_ble_eq_true rfl) ⟨_, rfl, hs, h⟩
    · have h := h.2 c4
      refine hv_iload E dX3_join_30 0 rfl ?_
      exact hv_iret E hret dX3_join_32 (Nat.le_of_ble_eq_true rfl) (Nat.le_of_ble_eq_true rfl) ⟨_, rfl, hs, h⟩
  · have h := h.2 c1
    refine hv_bipush (v := (-2 : Int32)) E dX3_join_8 (by decide) ?_
    exact hv_iret E hret dX3_join_10 (Nat.le_of_ble_eq_true rfl) (Nat.le_of_ble_eq_true rfl) ⟨_, rfl, hs, h⟩
-- VersionJoins.conflict(II)J
def k_X3_conflict (P : Int64 → hp_S → Prop) (a1 : Int32) (a2 : Int32) (x : hp_S) : Prop := k_X0_has (fun r5 x5 => (¬ r5 = 0 → (((a2 = nI 0 → (vp_in a1 24 ∧ (P ((x5.2.1 (7, 0) a1.toNatClampNeg).toInt64) x5))) ∧ (a2 = nI 1 → (vp_in a1 24 ∧ (P (x5.2.2.1 (8, 0) a1.toNatClampNeg) x5))) ∧ (a2 = nI 2 → (vp_in a1 24 ∧ (P (x5.2.2.1 (9, 0) a1.toNatClampNeg) x5)))) ∧ (¬ a2 = nI 0 → ¬ a2 = nI 1 → ¬ a2 = nI 2 → (P (-2) x5)))) ∧ (r5 = 0 → (P (-1) x5))) a1 x
abbrev rm_X3_conflict : Room := ({ frames := 1, cells := 0, slots := 0, locals := 21 } : Room)
set_option maxRecDepth 100000 in
set_option maxHeartbeats 4000000 in
theorem c_X3_conflict (l : Launch) (P : Int64 → hp_S → Prop) (a1 : Int32) (a2 : Int32) (x : hp_S) (hs : hp_sh x) (h : k_X3_conflict P a1 a2 x) : hp_C l yX3_conflict (Cond.code yX3_conflict cX3_conflict 3 (Option.some Jvm.ClassFile.FieldType.long) :: hp_ws) rm_X3_conflict [aR (0, 0), aI a1, aI a2] x (hp_pL P) 0 0 := by
  refine hp_ofV (own := "VersionJoins") (lv := [(0, aR (0, 0)), (1, aI a1), (2, aI a2)]) (by decide) rfl (Nat.le_of_ble_eq_true rfl) rfl ?_
  intro p e s m args below meth c D cA B0 ad0 E hret hnm
  unfold k_X3_conflict at h
  refine hv_aload_n E dX3_conflict_0 rfl 0 rfl ?_
  refine hv_getR (k := 5) (t2 := (6, 0)) E dX3_conflict_1 rfl rfl hiX3 (by decide) wd_99 rfl rfl (hs _ _ _ rfl) ?_
  refine hv_iload_n E dX3_conflict_4 rfl 1 rfl ?_
  refine hv_VI E [aI a1] (c_X0_has l _ a1 x hs h) (hp_cwV 1 E wd_312 wd_313 wd_314 wd_40 wd_315 rfl rfl (by decide +kernel) ⟨(Nat.le_of_ble_eq_true rfl), (Nat.le_of_ble_eq_true rfl)⟩) rfl rfl rfl rfl (Nat.le_of_ble_eq_true rfl) dX3_conflict_5 ⟨(Nat.le_of_ble_eq_true rfl), (Nat.le_of_ble_eq_true rfl)⟩ (fun r5 x5 hs h => ?_)
  refine hv_if_ne (tgt := 15) E dX3_conflict_8 (by decide) (fun c1 => ?_) (fun c1 => ?_)
  · have h := h.1 c1
    refine hv_iload_n E dX3_conflict_15 rfl 2 rfl ?_
    obtain ⟨hsw, hdf⟩ := h
    by_cases e20 : a2 = nI 0
    · have h := hsw.1 e20
      refine hv_tableIn (off := 28) (tgt := 44) E dX3_conflict_16 (by rw [e20]; decide) (by rw [e20]; decide) (by rw [e20]; decide) (by decide) ?_
      refine hv_aload_n E dX3_conflict_44 rfl 0 rfl ?_
      refine hv_getR (k := 5) (t2 := (6, 0)) E dX3_conflict_45 rfl rfl hiX3 (by decide) wd_99 rfl rfl (hs _ _ _ rfl) ?_
      refine hv_getR (k := 0) (t2 := (7, 0)) E dX3_conflict_48 rfl rfl hiX0 (by decide) wd_67 rfl rfl (hs _ _ _ rfl) ?_
      refine hv_iload_n E dX3_conflict_51 rfl 1 rfl ?_
      obtain ⟨h3, h⟩ := h
      refine hv_iald E dX3_conflict_52 rfl (by decide) rfl h3 ?_
      refine hv_i2l (v := (x5.2.1 (7, 0) a1.toNatClampNeg).toInt64) E dX3_conflict_53 rfl ?_
      exact hv_lret E hret dX3_conflict_54 (Nat.le_of_ble_eq_true rfl) (Nat.le_of_ble_eq_true rfl) ⟨_, rfl, hs, h⟩
    by_cases e21 : a2 = nI 1
    · have h := hsw.2.1 e21
      refine hv_tableIn (off := 39) (tgt := 55) E dX3_conflict_16 (by rw [e21]; decide) (by rw [e21]; decide) (by rw [e21]; decide) (by decide) ?_
      refine hv_aload_n E dX3_conflict_55 rfl 0 rfl ?_
      refine hv_getR (k := 5) (t2 := (6, 0)) E dX3_conflict_56 rfl rfl hiX3 (by decide) wd_99 rfl rfl (hs _ _ _ rfl) ?_
      refine hv_getR (k := 1) (t2 := (8, 0)) E dX3_conflict_59 rfl rfl hiX0 (by decide) wd_69 rfl rfl (hs _ _ _ rfl) ?_
      refine hv_iload_n E dX3_conflict_62 rfl 1 rfl ?_
      obtain ⟨h4, h⟩ := h
      refine hv_lald E dX3_conflict_63 rfl (by decide) rfl h4 ?_
      exact hv_lret E hret dX3_conflict_64 (Nat.le_of_ble_eq_true rfl) (Nat.le_of_ble_eq_true rfl) ⟨_, rfl, hs, h⟩
    by_cases e22 : a2 = nI 2
    · have h := hsw.2.2 e22
      refine hv_tableIn (off := 49) (tgt := 65) E dX3_conflict_16 (by rw [e22]; decide) (by rw [e22]; decide) (by rw [e22]; decide) (by decide) ?_
      refine hv_aload_n E dX3_conflict_65 rfl 0 rfl ?_
      refine hv_getR (k := 5) (t2 := (6, 0)) E dX3_conflict_66 rfl rfl hiX3 (by decide) wd_99 rfl rfl (hs _ _ _ rfl) ?_
      refine hv_getR (k := 2) (t2 := (9, 0)) E dX3_conflict_69 rfl rfl hiX0 (by decide) wd_71 rfl rfl (hs _ _ _ rfl) ?_
      refine hv_iload_n E dX3_conflict_72 rfl 1 rfl ?_
      obtain ⟨h5, h⟩ := h
      refine hv_lald E dX3_conflict_73 rfl (by decide) rfl h5 ?_
      exact hv_lret E hret dX3_conflict_74 (Nat.le_of_ble_eq_true rfl) (Nat.le_of_ble_eq_true rfl) ⟨_, rfl, hs, h⟩
    have h := hdf e20 e21 e22
    refine hv_tableOut (tgt := 75) E dX3_conflict_16 (hx_out3 e20 e21 e22) (by decide) ?_
    refine hv_ldc2 (v := (-2)) E wd_317 dX3_conflict_75 ?_
    exact hv_lret E hret dX3_conflict_78 (Nat.le_of_ble_eq_true rfl) (Nat.le_of_ble_eq_true rfl) ⟨_, rfl, hs, h⟩
  · have h := h.2 c1
    refine hv_ldc2 (v := (-1)) E wd_316 dX3_conflict_11 ?_
    exact hv_lret E hret dX3_conflict_14 (Nat.le_of_ble_eq_true rfl) (Nat.le_of_ble_eq_true rfl) ⟨_, rfl, hs, h⟩
-- VersionJoins.settle(II)Z
def k_X3_settle (P : Int32 → hp_S → Prop) (a1 : Int32) (a2 : Int32) (x : hp_S) : Prop := k_X0_has (fun r5 x5 => (r5 = 0 → (P (nI 0) x5)) ∧ (¬ r5 = 0 → ((a2 < 0 → (P (nI 0) x5)) ∧ (¬ a2 < 0 → ((a2 ≤ (nI 1) → ((x5.2.2.2 (6, 0) 4 = none → (P (nI 0) x5)) ∧ (∀ j, x5.2.2.2 (6, 0) 4 = some (15, j) → (((x5.2.1 (15, j) 4) = 0 → (P (nI 0) x5)) ∧ (¬ (x5.2.1 (15, j) 4) = 0 → (vp_in a1 24 ∧ (((x5.2.1 (10, 0) a1.toNatClampNeg) = 0 → (vp_in a1 24 ∧ (vp_in a1 24 ∧ (vp_in a1 24 ∧ (k_X1_rebase (fun x88 => (¬ a2 = (nI 1) → (P (nI 1) x88)) ∧ (a2 = (nI 1) → (k_X1_dropWritten (fun x99 => P (nI 1) x99) j ((hp_uI x5 (10, 0) a1.toNatClampNeg (nI 1)).2.1 (7, 0) a1.toNatClampNeg) x88))) j ((hp_uI x5 (10, 0) a1.toNatClampNeg (nI 1)).2.1 (7, 0) a1.toNatClampNeg) ((hp_uI x5 (10, 0) a1.toNatClampNeg (nI 1)).2.2.1 (9, 0) a1.toNatClampNeg) (hp_uI x5 (10, 0) a1.toNatClampNeg (nI 1))))))) ∧ (¬ (x5.2.1 (10, 0) a1.toNatClampNeg) = 0 → (P (nI 0) x5))))))) ∧ (x5.2.2.2 (6, 0) 4 = none ∨ ∃ j, x5.2.2.2 (6, 0) 4 = some (15, j)))) ∧ (¬ a2 ≤ (nI 1) → (P (nI 0) x5))))))) a1 x
abbrev rm_X3_settle : Room := ({ frames := 1, cells := 0, slots := 0, locals := 23 } : Room)
set_option maxRecDepth 100000 in
set_option maxHeartbeats 4000000 in
theorem c_X3_settle (l : Launch) (P : Int32 → hp_S → Prop) (a1 : Int32) (a2 : Int32) (x : hp_S) (hs : hp_sh x) (h : k_X3_settle P a1 a2 x) : hp_C l yX3_settle (Cond.code yX3_settle cX3_settle 5 (Option.some Jvm.ClassFile.FieldType.boolean) :: hp_ws) rm_X3_settle [aR (0, 0), aI a1, aI a2] x (hp_pI P) 0 0 := by
  refine hp_ofV (own := "VersionJoins") (lv := [(0, aR (0, 0)), (1, aI a1), (2, aI a2)]) (by decide) rfl (Nat.le_of_ble_eq_true rfl) rfl ?_
  intro p e s m args below meth c D cA B0 ad0 E hret hnm
  unfold k_X3_settle at h
  refine hv_aload_n E dX3_settle_0 rfl 0 rfl ?_
  refine hv_getR (k := 5) (t2 := (6, 0)) E dX3_settle_1 rfl rfl hiX3 (by decide) wd_99 rfl rfl (hs _ _ _ rfl) ?_
  refine hv_iload_n E dX3_settle_4 rfl 1 rfl ?_
  refine hv_VI E [aI a1] (c_X0_has l _ a1 x hs h) (hp_cwV 1 E wd_312 wd_313 wd_314 wd_40 wd_315 rfl rfl (by decide +kernel) ⟨(Nat.le_of_ble_eq_true rfl), (Nat.le_of_ble_eq_true rfl)⟩) rfl rfl rfl rfl (Nat.le_of_ble_eq_true rfl) dX3_settle_5 ⟨(Nat.le_of_ble_eq_true rfl), (Nat.le_of_ble_eq_true rfl)⟩ (fun r5 x5 hs h => ?_)
  refine hv_if_eq (tgt := 20) E dX3_settle_8 (by decide) (fun c1 => ?_) (fun c1 => ?_)
  · have h := h.1 c1
    refine hv_iconst (v := nI 0) E dX3_settle_20 (by decide) ?_
    exact hv_zret E hret dX3_settle_21 (by decide) (Nat.le_of_ble_eq_true rfl) (Nat.le_of_ble_eq_true rfl) ⟨_, rfl, hs, h⟩
  · have h := h.2 c1
    refine hv_iload_n E dX3_settle_11 rfl 2 rfl ?_
    refine hv_if_lt (tgt := 20) E dX3_settle_12 (by decide) (fun c2 => ?_) (fun c2 => ?_)
    · have h := h.1 c2
      refine hv_iconst (v := nI 0) E dX3_settle_20 (by decide) ?_
      exact hv_zret E hret dX3_settle_21 (by decide) (Nat.le_of_ble_eq_true rfl) (Nat.le_of_ble_eq_true rfl) ⟨_, rfl, hs, h⟩
    · have h := h.2 c2
      refine hv_iload_n E dX3_settle_15 rfl 2 rfl ?_
      refine hv_iconst (v := nI 1) E dX3_settle_16 (by decide) ?_
      refine hv_icmp_le (tgt := 22) E dX3_settle_17 (by decide) (fun c3 => ?_) (fun c3 => ?_)
      · have h := h.1 c3
        refine hv_aload_n E dX3_settle_22 rfl 0 rfl ?_
        refine hv_getR (k := 5) (t2 := (6, 0)) E dX3_settle_23 rfl rfl hiX3 (by decide) wd_99 rfl rfl (hs _ _ _ rfl) ?_
        obtain ⟨hnn, hsm, hcv⟩ := h
        rcases hcv with h4 | ⟨j, h4⟩
        · have h := hnn h4
          refine hv_getN (k := 4) E dX3_settle_26 rfl rfl hiX0 (by decide) wd_75 rfl rfl h4 ?_
          refine hv_astore_nN (lv' := [(0, aR (0, 0)), (1, aI a1), (2, aI a2)]) E dX3_settle_29 rfl (by decide) rfl ?_
          refine hv_aload_nN E dX3_settle_30 rfl 0 rfl ?_
          refine hv_ifnullN (tgt := 53) E dX3_settle_31 (by decide) ?_
          refine hv_iconst (v := nI 0) E dX3_settle_53 (by decide) ?_
          exact hv_zret E hret dX3_settle_54 (by decide) (Nat.le_of_ble_eq_true rfl) (Nat.le_of_ble_eq_true rfl) ⟨_, rfl, hs, h⟩
        · have h := hsm j h4
          refine hv_getR (k := 4) (t2 := (15, j)) E dX3_settle_26 rfl rfl hiX0 (by decide) wd_75 rfl rfl (fun _ => h4) ?_
          refine hv_astore_n (lv' := [(0, aR (0, 0)), (1, aI a1), (2, aI a2)]) E dX3_settle_29 rfl (by decide) rfl ?_
          refine hv_aload_n E dX3_settle_30 rfl 0 rfl ?_
          refine hv_ifnull E dX3_settle_31 ?_
          refine hv_aload_n E dX3_settle_34 rfl 0 rfl ?_
          refine hv_getI (k := 4) E dX3_settle_35 rfl rfl hiX1 (by decide) wd_242 rfl rfl ?_
          refine hv_if_eq (tgt := 53) E dX3_settle_38 (by decide) (fun c5 => ?_) (fun c5 => ?_)
          · have h := h.1 c5
            refine hv_iconst (v := nI 0) E dX3_settle_53 (by decide) ?_
            exact hv_zret E hret dX3_settle_54 (by decide) (Nat.le_of_ble_eq_true rfl) (Nat.le_of_ble_eq_true rfl) ⟨_, rfl, hs, h⟩
          · have h := h.2 c5
            refine hv_aload_n E dX3_settle_41 rfl 1 rfl ?_
            refine hv_getR (k := 5) (t2 := (6, 0)) E dX3_settle_42 rfl rfl hiX3 (by decide) wd_99 rfl rfl (hs _ _ _ rfl) ?_
            refine hv_getR (k := 3) (t2 := (10, 0)) E dX3_settle_45 rfl rfl hiX0 (by decide) wd_73 rfl rfl (hs _ _ _ rfl) ?_
            refine hv_iload_n E dX3_settle_48 rfl 2 rfl ?_
            obtain ⟨h6, h⟩ := h
            refine hv_zald E dX3_settle_49 rfl (by decide) rfl h6 ?_
            refine hv_if_eq (tgt := 55) E dX3_settle_50 (by decide) (fun c7 => ?_) (fun c7 => ?_)
            · have h := h.1 c7
              refine hv_aload_n E dX3_settle_55 rfl 1 rfl ?_
              refine hv_getR (k := 5) (t2 := (6, 0)) E dX3_settle_56 rfl rfl hiX3 (by decide) wd_99 rfl rfl (hs _ _ _ rfl) ?_
              refine hv_getR (k := 3) (t2 := (10, 0)) E dX3_settle_59 rfl rfl hiX0 (by decide) wd_73 rfl rfl (hs _ _ _ rfl) ?_
              refine hv_iload_n E dX3_settle_62 rfl 2 rfl ?_
              refine hv_iconst (v := nI 1) E dX3_settle_63 (by decide) ?_
              obtain ⟨h8, h⟩ := h
              refine hv_zast (w := nI 1) E dX3_settle_64 rfl (by decide) rfl h8 (by decide) ?_
              refine hv_aload_n E dX3_settle_65 rfl 1 rfl ?_
              refine hv_getR (k := 5) (t2 := (6, 0)) E dX3_settle_66 rfl rfl hiX3 (by decide) wd_99 rfl rfl (hs _ _ _ rfl) ?_
              refine hv_getR (k := 0) (t2 := (7, 0)) E dX3_settle_69 rfl rfl hiX0 (by decide) wd_67 rfl rfl (hs _ _ _ rfl) ?_
              refine hv_iload_n E dX3_settle_72 rfl 2 rfl ?_
              obtain ⟨h9, h⟩ := h
              refine hv_iald E dX3_settle_73 rfl (by decide) rfl h9 ?_
              refine hv_istore (lv' := [(3, aR (15, j)), (0, aR (0, 0)), (1, aI a1), (2, aI a2)]) E dX3_settle_74 (by decide) rfl ?_
              refine hv_aload_n E dX3_settle_76 rfl 1 rfl ?_
              refine hv_iload E dX3_settle_77 0 rfl ?_
              refine hv_aload_n E dX3_settle_79 rfl 2 rfl ?_
              refine hv_getR (k := 5) (t2 := (6, 0)) E dX3_settle_80 rfl rfl hiX3 (by decide) wd_99 rfl rfl (hs _ _ _ rfl) ?_
              refine hv_getR (k := 2) (t2 := (9, 0)) E dX3_settle_83 rfl rfl hiX0 (by decide) wd_71 rfl rfl (hs _ _ _ rfl) ?_
              refine hv_iload_n E dX3_settle_86 rfl 3 rfl ?_
              obtain ⟨h10, h⟩ := h
              refine hv_lald E dX3_settle_87 rfl (by decide) rfl h10 ?_
              refine hv_VV E [aI ((hp_uI x5 (10, 0) a1.toNatClampNeg (nI 1)).2.1 (7, 0) a1.toNatClampNeg), aL ((hp_uI x5 (10, 0) a1.toNatClampNeg (nI 1)).2.2.1 (9, 0) a1.toNatClampNeg)] (c_X1_rebase l _ j ((hp_uI x5 (10, 0) a1.toNatClampNeg (nI 1)).2.1 (7, 0) a1.toNatClampNeg) ((hp_uI x5 (10, 0) a1.toNatClampNeg (nI 1)).2.2.1 (9, 0) a1.toNatClampNeg) (hp_uI x5 (10, 0) a1.toNatClampNeg (nI 1)) hs h) (hp_cwV 2 E wd_322 wd_323 wd_324 wd_43 wd_325 rfl rfl (by decide +kernel) ⟨(Nat.le_of_ble_eq_true rfl), (Nat.le_of_ble_eq_true rfl)⟩) rfl rfl rfl rfl (Nat.le_of_ble_eq_true rfl) dX3_settle_88 ⟨(Nat.le_of_ble_eq_true rfl), (Nat.le_of_ble_eq_true rfl)⟩ (fun x88 hs h => ?_)
              refine hv_iload_n E dX3_settle_91 rfl 4 rfl ?_
              refine hv_iconst (v := nI 1) E dX3_settle_92 (by decide) ?_
              refine hv_icmp_ne (tgt := 102) E dX3_settle_93 (by decide) (fun c11 => ?_) (fun c11 => ?_)
              · have h := h.1 c11
                refine hv_iconst (v := nI 1) E dX3_settle_102 (by decide) ?_
                exact hv_zret E hret dX3_settle_103 (by decide) (Nat.le_of_ble_eq_true rfl) (Nat.le_of_ble_eq_true rfl) ⟨_, rfl, hs, h⟩
              · have h := h.2 c11
                refine hv_aload_n E dX3_settle_96 rfl 1 rfl ?_
                refine hv_iload E dX3_settle_97 0 rfl ?_
                refine hv_VV E [aI ((hp_uI x5 (10, 0) a1.toNatClampNeg (nI 1)).2.1 (7, 0) a1.toNatClampNeg)] (c_X1_dropWritten l _ j ((hp_uI x5 (10, 0) a1.toNatClampNeg (nI 1)).2.1 (7, 0) a1.toNatClampNeg) x88 hs h) (hp_cwV 1 E wd_326 wd_327 wd_328 wd_43 wd_329 rfl rfl (by decide +kernel) ⟨(Nat.le_of_ble_eq_true rfl), (Nat.le_of_ble_eq_true rfl)⟩) rfl rfl rfl rfl (Nat.le_of_ble_eq_true rfl) dX3_settle_99 ⟨(Nat.le_of_ble_eq_true rfl), (Nat.le_of_ble_eq_true rfl)⟩ (fun x99 hs h => ?_)
                refine hv_iconst (v := nI 1) E dX3_settle_102 (by decide) ?_
                exact hv_zret E hret dX3_settle_103 (by decide) (Nat.le_of_ble_eq_true rfl) (Nat.le_of_ble_eq_true rfl) ⟨_, rfl, hs, h⟩
            · have h := h.2 c7
              refine hv_iconst (v := nI 0) E dX3_settle_53 (by decide) ?_
              exact hv_zret E hret dX3_settle_54 (by decide) (Nat.le_of_ble_eq_true rfl) (Nat.le_of_ble_eq_true rfl) ⟨_, rfl, hs, h⟩
      · have h := h.2 c3
        refine hv_iconst (v := nI 0) E dX3_settle_20 (by decide) ?_
        exact hv_zret E hret dX3_settle_21 (by decide) (Nat.le_of_ble_eq_true rfl) (Nat.le_of_ble_eq_true rfl) ⟨_, rfl, hs, h⟩
-- VersionJoins.isStale(I)Z
def k_X3_isStale_13 (P : Int32 → hp_S → Prop) (a1 : Int32) (f2 : Int32) : Nat → hp_S → Int32 → Prop
  | 0, _, _ => False
  | n + 1, x, l3 => ((x.2.1 (0, 0) 8) ≤ l3 → (P (nI 0) x)) ∧ (¬ (x.2.1 (0, 0) 8) ≤ l3 → ((((hx_iushr f2 l3) &&& (nI 1)) = 0 → (k_X3_isStale_13 P a1 f2 n x (l3 + nI 1))) ∧ (¬ ((hx_iushr f2 l3) &&& (nI 1)) = 0 → (vp_in l3 12 ∧ (x.2.2.2 (4, 0) l3.toNatClampNeg = some (11, l3.toNatClampNeg) ∧ (k_X2_isOutdated (fun r39 x39 => (r39 = 0 → (k_X3_isStale_13 P a1 f2 n x39 (l3 + nI 1))) ∧ (¬ r39 = 0 → (P (nI 1) x39))) l3.toNatClampNeg x))))))
def k_X3_isStale (P : Int32 → hp_S → Prop) (a1 : Int32) (x : hp_S) : Prop := vp_in a1 12 ∧ (x.2.2.2 (4, 0) a1.toNatClampNeg = some (11, a1.toNatClampNeg) ∧ (k_X2_withAbove (fun r7 x7 => ∃ q, k_X3_isStale_13 P a1 r7 q x7 (nI 0)) a1.toNatClampNeg a1 x))
abbrev rm_X3_isStale : Room := ({ frames := 1, cells := 0, slots := 0, locals := 22 } : Room)
set_option maxRecDepth 100000 in
set_option maxHeartbeats 4000000 in
theorem w_X3_isStale_13 {p : Program} {l : Launch} {e : Env} {s : State} {m : MethodId} {args : Array Value} {below : List Frame} {meth : Method} {c : Code} {D : va_G} {cA : Nat → ClassId} {B0 : Nat} {ad0 : hp_T → Nat} {x0 : hp_S} (E : hp_E p s m args meth c cX3_isStale 4 "VersionJoins" hp_ws D cA B0) (hret : meth.sig.returnType = (Option.some Jvm.ClassFile.FieldType.boolean)) {P : Int32 → hp_S → Prop} (a1 : Int32) (f2 : Int32) : ∀ (n : Nat) (x : hp_S) (l3 : Int32), hp_sh x → k_X3_isStale_13 P a1 f2 n x l3 → hp_V p l e rm_X3_isStale s m args below meth c (fun ad0 => MQ below (hp_Q D cA B0 ad0 x0 (hp_pI P)) args s 0 0 (fun q => B0 ≤ q)) D cA B0 4 ad0 x0 0 0 x 13 [(0, aR (0, 0)), (1, aI a1), (2, aI f2), (3, aI l3)] [] := by
  intro n
  induction n with
  | zero => intro x l3 hs h; exact absurd h id
  | succ n ih =>
    intro x l3 hs h
    unfold k_X3_isStale_13 at h
    refine hv_iload_n E dX3_isStale_13 rfl 3 rfl ?_
    refine hv_aload_n E dX3_isStale_14 rfl 0 rfl ?_
    refine hv_getI (k := 8) E dX3_isStale_15 rfl rfl hiX3 (by decide) wd_102 rfl rfl ?_
    refine hv_icmp_ge (tgt := 53) E dX3_isStale_18 (by decide) (fun c3 => ?_) (fun c3 => ?_)
    · have h := h.1 c3
      refine hv_iconst (v := nI 0) E dX3_isStale_53 (by decide) ?_
      exact hv_zret E hret dX3_isStale_54 (by decide) (Nat.le_of_ble_eq_true rfl) (Nat.le_of_ble_eq_true rfl) ⟨_, rfl, hs, h⟩
    · have h := h.2 c3
      refine hv_iload_n E dX3_isStale_21 rfl 2 rfl ?_
      refine hv_iload_n E dX3_isStale_22 rfl 3 rfl ?_
      refine hv_iushr (v := hx_iushr f2 l3) E dX3_isStale_23 rfl ?_
      refine hv_iconst (v := nI 1) E dX3_isStale_24 (by decide) ?_
      refine hv_iand (v := (hx_iushr f2 l3) &&& (nI 1)) E dX3_isStale_25 rfl ?_
      refine hv_if_eq (tgt := 47) E dX3_isStale_26 (by decide) (fun c4 => ?_) (fun c4 => ?_)
      · have h := h.1 c4
        refine hv_iinc (v := l3 + nI 1) (lv' := [(0, aR (0, 0)), (1, aI a1), (2, aI f2)]) E 3 dX3_isStale_47 rfl (hx_i1 _) (by decide) rfl ?_
        refine hv_goto (tgt := 13) E dX3_isStale_50 (by decide) ?_
        refine hv_lv [1, 2, 3, 0] rfl ?_
        exact ih x (l3 + nI 1) hs h
      · have h := h.2 c4
        refine hv_aload_n E dX3_isStale_29 rfl 0 rfl ?_
        refine hv_getR (k := 3) (t2 := (4, 0)) E dX3_isStale_30 rfl rfl hiX3 (by decide) wd_97 rfl rfl (hs _ _ _ rfl) ?_
        refine hv_iload_n E dX3_isStale_33 rfl 3 rfl ?_
        obtain ⟨h5, h⟩ := h
        obtain ⟨h6, h⟩ := h
        refine hv_aald (t2 := (11, l3.toNatClampNeg)) E dX3_isStale_34 rfl (by decide) rfl rfl h5 (fun _ => h6) ?_
        refine hv_aload_n E dX3_isStale_35 rfl 0 rfl ?_
        refine hv_getR (k := 1) (t2 := (2, 0)) E dX3_isStale_36 rfl rfl hiX3 (by decide) wd_95 rfl rfl (hs _ _ _ rfl) ?_
        refine hv_VI E [aR (2, 0)] (c_X2_isOutdated l _ l3.toNatClampNeg x hs h) (hp_cwV 1 E wd_338 wd_339 wd_340 wd_42 wd_341 rfl rfl (by decide +kernel) ⟨(Nat.le_of_ble_eq_true rfl), (Nat.le_of_ble_eq_true rfl)⟩) rfl rfl rfl rfl (Nat.le_of_ble_eq_true rfl) dX3_isStale_39 ⟨(Nat.le_of_ble_eq_true rfl), (Nat.le_of_ble_eq_true rfl)⟩ (fun r39 x39 hs h => ?_)
        refine hv_if_eq (tgt := 47) E dX3_isStale_42 (by decide) (fun c7 => ?_) (fun c7 => ?_)
        · have h := h.1 c7
          refine hv_iinc (v := l3 + nI 1) (lv' := [(0, aR (0, 0)), (1, aI a1), (2, aI f2)]) E 3 dX3_isStale_47 rfl (hx_i1 _) (by decide) rfl ?_
          refine hv_goto (tgt := 13) E dX3_isStale_50 (by decide) ?_
          refine hv_lv [1, 2, 3, 0] rfl ?_
          exact ih x39 (l3 + nI 1) hs h
        · have h := h.2 c7
          refine hv_iconst (v := nI 1) E dX3_isStale_45 (by decide) ?_
          exact hv_zret E hret dX3_isStale_46 (by decide) (Nat.le_of_ble_eq_true rfl) (Nat.le_of_ble_eq_true rfl) ⟨_, rfl, hs, h⟩
set_option maxRecDepth 100000 in
set_option maxHeartbeats 4000000 in
theorem c_X3_isStale (l : Launch) (P : Int32 → hp_S → Prop) (a1 : Int32) (x : hp_S) (hs : hp_sh x) (h : k_X3_isStale P a1 x) : hp_C l yX3_isStale (Cond.code yX3_isStale cX3_isStale 4 (Option.some Jvm.ClassFile.FieldType.boolean) :: hp_ws) rm_X3_isStale [aR (0, 0), aI a1] x (hp_pI P) 0 0 := by
  refine hp_ofV (own := "VersionJoins") (lv := [(0, aR (0, 0)), (1, aI a1)]) (by decide) rfl (Nat.le_of_ble_eq_true rfl) rfl ?_
  intro p e s m args below meth c D cA B0 ad0 E hret hnm
  unfold k_X3_isStale at h
  refine hv_aload_n E dX3_isStale_0 rfl 0 rfl ?_
  refine hv_getR (k := 3) (t2 := (4, 0)) E dX3_isStale_1 rfl rfl hiX3 (by decide) wd_97 rfl rfl (hs _ _ _ rfl) ?_
  refine hv_iload_n E dX3_isStale_4 rfl 1 rfl ?_
  obtain ⟨h1, h⟩ := h
  obtain ⟨h2, h⟩ := h
  refine hv_aald (t2 := (11, a1.toNatClampNeg)) E dX3_isStale_5 rfl (by decide) rfl rfl h1 (fun _ => h2) ?_
  refine hv_iload_n E dX3_isStale_6 rfl 1 rfl ?_
  refine hv_VI E [aI a1] (c_X2_withAbove l _ a1.toNatClampNeg a1 x hs h) (hp_cwV 1 E wd_202 wd_203 wd_204 wd_42 wd_205 rfl rfl (by decide +kernel) ⟨(Nat.le_of_ble_eq_true rfl), (Nat.le_of_ble_eq_true rfl)⟩) rfl rfl rfl rfl (Nat.le_of_ble_eq_true rfl) dX3_isStale_7 ⟨(Nat.le_of_ble_eq_true rfl), (Nat.le_of_ble_eq_true rfl)⟩ (fun r7 x7 hs h => ?_)
  refine hv_istore_n (lv' := [(0, aR (0, 0)), (1, aI a1)]) E dX3_isStale_10 rfl (by decide) rfl ?_
  refine hv_iconst (v := nI 0) E dX3_isStale_11 (by decide) ?_
  refine hv_istore_n (lv' := [(2, aI r7), (0, aR (0, 0)), (1, aI a1)]) E dX3_isStale_12 rfl (by decide) rfl ?_
  obtain ⟨n8, h⟩ := h
  refine hv_lv [2, 3, 1, 0] rfl ?_
  exact w_X3_isStale_13 E hret a1 r7 n8 x7 (nI 0) hs h
-- VersionJoins.stale(I)Z
def k_X3_stale (P : Int32 → hp_S → Prop) (a1 : Int32) (x : hp_S) : Prop := k_X3_isStep (fun r2 x2 => (r2 = 0 → (P (nI 0) x2)) ∧ (¬ r2 = 0 → (k_X3_isStale (fun r10 x10 => (r10 = 0 → (P (nI 0) x10)) ∧ (¬ r10 = 0 → (P (nI 1) x10))) a1 x2))) a1 x
abbrev rm_X3_stale : Room := ({ frames := 2, cells := 0, slots := 0, locals := 45 } : Room)
set_option maxRecDepth 100000 in
set_option maxHeartbeats 4000000 in
theorem c_X3_stale (l : Launch) (P : Int32 → hp_S → Prop) (a1 : Int32) (x : hp_S) (hs : hp_sh x) (h : k_X3_stale P a1 x) : hp_C l yX3_stale (Cond.code yX3_stale cX3_stale 2 (Option.some Jvm.ClassFile.FieldType.boolean) :: hp_ws) rm_X3_stale [aR (0, 0), aI a1] x (hp_pI P) 0 0 := by
  refine hp_ofV (own := "VersionJoins") (lv := [(0, aR (0, 0)), (1, aI a1)]) (by decide) rfl (Nat.le_of_ble_eq_true rfl) rfl ?_
  intro p e s m args below meth c D cA B0 ad0 E hret hnm
  unfold k_X3_stale at h
  refine hv_aload_n E dX3_stale_0 rfl 0 rfl ?_
  refine hv_iload_n E dX3_stale_1 rfl 1 rfl ?_
  refine hv_VI E [aI a1] (c_X3_isStep l _ a1 x hs h) (hp_cwV 1 E wd_186 wd_188 wd_0 wd_39 wd_189 rfl rfl (by decide +kernel) ⟨(Nat.le_of_ble_eq_true rfl), (Nat.le_of_ble_eq_true rfl)⟩) rfl rfl rfl rfl (Nat.le_of_ble_eq_true rfl) dX3_stale_2 ⟨(Nat.le_of_ble_eq_true rfl), (Nat.le_of_ble_eq_true rfl)⟩ (fun r2 x2 hs h => ?_)
  refine hv_if_eq (tgt := 20) E dX3_stale_5 (by decide) (fun c1 => ?_) (fun c1 => ?_)
  · have h := h.1 c1
    refine hv_iconst (v := nI 0) E dX3_stale_20 (by decide) ?_
    exact hv_zret E hret dX3_stale_21 (by decide) (Nat.le_of_ble_eq_true rfl) (Nat.le_of_ble_eq_true rfl) ⟨_, rfl, hs, h⟩
  · have h := h.2 c1
    refine hv_aload_n E dX3_stale_8 rfl 0 rfl ?_
    refine hv_iload_n E dX3_stale_9 rfl 1 rfl ?_
    refine hv_VI E [aI a1] (c_X3_isStale l _ a1 x2 hs h) (hp_cwV 1 E wd_334 wd_336 wd_9 wd_39 wd_337 rfl rfl (by decide +kernel) ⟨(Nat.le_of_ble_eq_true rfl), (Nat.le_of_ble_eq_true rfl)⟩) rfl rfl rfl rfl (Nat.le_of_ble_eq_true rfl) dX3_stale_10 ⟨(Nat.le_of_ble_eq_true rfl), (Nat.le_of_ble_eq_true rfl)⟩ (fun r10 x10 hs h => ?_)
    refine hv_if_eq (tgt := 20) E dX3_stale_13 (by decide) (fun c2 => ?_) (fun c2 => ?_)
    · have h := h.1 c2
      refine hv_iconst (v := nI 0) E dX3_stale_20 (by decide) ?_
      exact hv_zret E hret dX3_stale_21 (by decide) (Nat.le_of_ble_eq_true rfl) (Nat.le_of_ble_eq_true rfl) ⟨_, rfl, hs, h⟩
    · have h := h.2 c2
      refine hv_iconst (v := nI 1) E dX3_stale_16 (by decide) ?_
      refine hv_goto (tgt := 21) E dX3_stale_17 (by decide) ?_
      exact hv_zret E hret dX3_stale_21 (by decide) (Nat.le_of_ble_eq_true rfl) (Nat.le_of_ble_eq_true rfl) ⟨_, rfl, hs, h⟩
-- VersionJoins.branch()I
def k_X3_branch (P : Int32 → hp_S → Prop)  (x : hp_S) : Prop := ((x.2.1 (0, 0) 7) < (nI 6) → (vp_in (x.2.1 (0, 0) 7) 6 ∧ (P (((hp_uI (hp_wL x (2, (x.2.1 (0, 0) 7).toNatClampNeg) (va_cpy (x.2.2.1 (2, 0)) (x.2.2.1 (2, (x.2.1 (0, 0) 7).toNatClampNeg)) 0 0 24)) (0, 0) 7 (((hp_wL x (2, (x.2.1 (0, 0) 7).toNatClampNeg) (va_cpy (x.2.2.1 (2, 0)) (x.2.2.1 (2, (x.2.1 (0, 0) 7).toNatClampNeg)) 0 0 24)).2.1 (0, 0) 7) + (nI 1))).2.1 (0, 0) 7) - (nI 1)) (hp_uI (hp_wL x (2, (x.2.1 (0, 0) 7).toNatClampNeg) (va_cpy (x.2.2.1 (2, 0)) (x.2.2.1 (2, (x.2.1 (0, 0) 7).toNatClampNeg)) 0 0 24)) (0, 0) 7 (((hp_wL x (2, (x.2.1 (0, 0) 7).toNatClampNeg) (va_cpy (x.2.2.1 (2, 0)) (x.2.2.1 (2, (x.2.1 (0, 0) 7).toNatClampNeg)) 0 0 24)).2.1 (0, 0) 7) + (nI 1)))))) ∧ (¬ (x.2.1 (0, 0) 7) < (nI 6) → (P (-1 : Int32) x))
abbrev rm_X3_branch : Room := ({ frames := 1, cells := 0, slots := 0, locals := 60 } : Room)
set_option maxRecDepth 100000 in
set_option maxHeartbeats 4000000 in
theorem c_X3_branch (l : Launch) (P : Int32 → hp_S → Prop)  (x : hp_S) (hs : hp_sh x) (h : k_X3_branch P  x) : hp_C l yX3_branch (Cond.code yX3_branch cX3_branch 1 (Option.some Jvm.ClassFile.FieldType.int) :: hp_ws) rm_X3_branch [aR (0, 0)] x (hp_pI P) 0 0 := by
  refine hp_ofV (own := "VersionJoins") (lv := [(0, aR (0, 0))]) (by decide) rfl (Nat.le_of_ble_eq_true rfl) rfl ?_
  intro p e s m args below meth c D cA B0 ad0 E hret hnm
  unfold k_X3_branch at h
  refine hv_aload_n E dX3_branch_0 rfl 0 rfl ?_
  refine hv_getI (k := 7) E dX3_branch_1 rfl rfl hiX3 (by decide) wd_101 rfl rfl ?_
  refine hv_bipush (v := nI 6) E dX3_branch_4 (by decide) ?_
  refine hv_icmp_lt (tgt := 11) E dX3_branch_6 (by decide) (fun c1 => ?_) (fun c1 => ?_)
  · have h := h.1 c1
    refine hv_aload_n E dX3_branch_11 rfl 0 rfl ?_
    refine hv_getR (k := 1) (t2 := (2, 0)) E dX3_branch_12 rfl rfl hiX3 (by decide) wd_95 rfl rfl (hs _ _ _ rfl) ?_
    refine hv_iconst (v := nI 0) E dX3_branch_15 (by decide) ?_
    refine hv_aload_n E dX3_branch_16 rfl 0 rfl ?_
    refine hv_getR (k := 0) (t2 := (1, 0)) E dX3_branch_17 rfl rfl hiX3 (by decide) wd_94 rfl rfl (hs _ _ _ rfl) ?_
    refine hv_aload_n E dX3_branch_20 rfl 0 rfl ?_
    refine hv_getI (k := 7) E dX3_branch_21 rfl rfl hiX3 (by decide) wd_101 rfl rfl ?_
    obtain ⟨h2, h⟩ := h
    refine hv_aald (t2 := (2, (x.2.1 (0, 0) 7).toNatClampNeg)) E dX3_branch_24 rfl (by decide) rfl rfl h2 (hs _ _ _ (hp_ex_row h2)) ?_
    refine hv_iconst (v := nI 0) E dX3_branch_25 (by decide) ?_
    refine hv_bipush (v := nI 24) E dX3_branch_26 (by decide) ?_
    refine hv_copyl E dX3_branch_28 wd_346 wd_348 wd_347 wd_44 rfl rfl (by decide) rfl (by decide) (by decide) (Nat.le_of_ble_eq_true rfl) (by decide +kernel) ?_
    refine hv_aload_n E dX3_branch_31 rfl 0 rfl ?_
    refine hv_dup E dX3_branch_32 rfl ?_
    refine hv_getI (k := 7) E dX3_branch_33 rfl rfl hiX3 (by decide) wd_101 rfl rfl ?_
    refine hv_iconst (v := nI 1) E dX3_branch_36 (by decide) ?_
    refine hv_iadd (v := ((hp_wL x (2, (x.2.1 (0, 0) 7).toNatClampNeg) (va_cpy (x.2.2.1 (2, 0)) (x.2.2.1 (2, (x.2.1 (0, 0) 7).toNatClampNeg)) 0 0 24)).2.1 (0, 0) 7) + (nI 1)) E dX3_branch_37 rfl ?_
    refine hv_putI (ty := .int) (k := 7) E tyX3 okX3 nmX3 dX3_branch_38 rfl rfl hiX3 (by decide) wd_101 rfl rfl (Or.inl rfl) (by decide +kernel) rfl rfl ?_
    refine hv_aload_n E dX3_branch_41 rfl 0 rfl ?_
    refine hv_getI (k := 7) E dX3_branch_42 rfl rfl hiX3 (by decide) wd_101 rfl rfl ?_
    refine hv_iconst (v := nI 1) E dX3_branch_45 (by decide) ?_
    refine hv_isub (v := ((hp_uI (hp_wL x (2, (x.2.1 (0, 0) 7).toNatClampNeg) (va_cpy (x.2.2.1 (2, 0)) (x.2.2.1 (2, (x.2.1 (0, 0) 7).toNatClampNeg)) 0 0 24)) (0, 0) 7 (((hp_wL x (2, (x.2.1 (0, 0) 7).toNatClampNeg) (va_cpy (x.2.2.1 (2, 0)) (x.2.2.1 (2, (x.2.1 (0, 0) 7).toNatClampNeg)) 0 0 24)).2.1 (0, 0) 7) + (nI 1))).2.1 (0, 0) 7) - (nI 1)) E dX3_branch_46 rfl ?_
    exact hv_iret E hret dX3_branch_47 (Nat.le_of_ble_eq_true rfl) (Nat.le_of_ble_eq_true rfl) ⟨_, rfl, hs, h⟩
  · have h := h.2 c1
    refine hv_iconst (v := (-1 : Int32)) E dX3_branch_9 (by decide) ?_
    exact hv_iret E hret dX3_branch_10 (Nat.le_of_ble_eq_true rfl) (Nat.le_of_ble_eq_true rfl) ⟨_, rfl, hs, h⟩
-- VersionJoins.from(II)I
def k_X3_from (P : Int32 → hp_S → Prop) (a1 : Int32) (a2 : Int32) (x : hp_S) : Prop := k_X3_isThing (fun r2 x2 => (r2 = 0 → (P (-1 : Int32) x2)) ∧ (¬ r2 = 0 → (vp_in a1 24 ∧ ((¬ (x2.2.1 (3, 0) a1.toNatClampNeg) = (-1 : Int32) → (vp_in a1 24 ∧ (vp_in (x2.2.1 (3, 0) a1.toNatClampNeg) 12 ∧ (x2.2.2.2 (4, 0) ((x2.2.1 (3, 0) a1.toNatClampNeg).toNatClampNeg) = some (11, (x2.2.1 (3, 0) a1.toNatClampNeg).toNatClampNeg) ∧ (k_X2_hasMade (fun r34 x34 => (r34 = 0 → (P (-1 : Int32) x34)) ∧ (¬ r34 = 0 → (vp_in a1 24 ∧ ((¬ (lg_cmp (x34.2.2.1 (2, 0) a1.toNatClampNeg) (x34.2.2.1 (11, (x2.2.1 (3, 0) a1.toNatClampNeg).toNatClampNeg) 10)) = 0 → (P (-1 : Int32) x34)) ∧ ((lg_cmp (x34.2.2.1 (2, 0) a1.toNatClampNeg) (x34.2.2.1 (11, (x2.2.1 (3, 0) a1.toNatClampNeg).toNatClampNeg) 10)) = 0 → ((a2 < 0 → (P (-1 : Int32) x34)) ∧ (¬ a2 < 0 → ((a2 < (x34.2.1 (11, (x2.2.1 (3, 0) a1.toNatClampNeg).toNatClampNeg) 8) → (vp_in a2 8 ∧ (P (x34.2.1 (12, (x2.2.1 (3, 0) a1.toNatClampNeg).toNatClampNeg) a2.toNatClampNeg) x34))) ∧ (¬ a2 < (x34.2.1 (11, (x2.2.1 (3, 0) a1.toNatClampNeg).toNatClampNeg) 8) → (P (-1 : Int32) x34)))))))))) ((x2.2.1 (3, 0) a1.toNatClampNeg).toNatClampNeg) a1 x2))))) ∧ ((x2.2.1 (3, 0) a1.toNatClampNeg) = (-1 : Int32) → (P (-1 : Int32) x2)))))) a1 x
abbrev rm_X3_from : Room := ({ frames := 1, cells := 0, slots := 0, locals := 22 } : Room)
set_option maxRecDepth 100000 in
set_option maxHeartbeats 4000000 in
theorem c_X3_from (l : Launch) (P : Int32 → hp_S → Prop) (a1 : Int32) (a2 : Int32) (x : hp_S) (hs : hp_sh x) (h : k_X3_from P a1 a2 x) : hp_C l yX3_from (Cond.code yX3_from cX3_from 4 (Option.some Jvm.ClassFile.FieldType.int) :: hp_ws) rm_X3_from [aR (0, 0), aI a1, aI a2] x (hp_pI P) 0 0 := by
  refine hp_ofV (own := "VersionJoins") (lv := [(0, aR (0, 0)), (1, aI a1), (2, aI a2)]) (by decide) rfl (Nat.le_of_ble_eq_true rfl) rfl ?_
  intro p e s m args below meth c D cA B0 ad0 E hret hnm
  unfold k_X3_from at h
  refine hv_aload_n E dX3_from_0 rfl 0 rfl ?_
  refine hv_iload_n E dX3_from_1 rfl 1 rfl ?_
  refine hv_VI E [aI a1] (c_X3_isThing l _ a1 x hs h) (hp_cwV 1 E wd_190 wd_192 wd_1 wd_39 wd_193 rfl rfl (by decide +kernel) ⟨(Nat.le_of_ble_eq_true rfl), (Nat.le_of_ble_eq_true rfl)⟩) rfl rfl rfl rfl (Nat.le_of_ble_eq_true rfl) dX3_from_2 ⟨(Nat.le_of_ble_eq_true rfl), (Nat.le_of_ble_eq_true rfl)⟩ (fun r2 x2 hs h => ?_)
  refine hv_if_eq (tgt := 18) E dX3_from_5 (by decide) (fun c1 => ?_) (fun c1 => ?_)
  · have h := h.1 c1
    refine hv_iconst (v := (-1 : Int32)) E dX3_from_18 (by decide) ?_
    exact hv_iret E hret dX3_from_19 (Nat.le_of_ble_eq_true rfl) (Nat.le_of_ble_eq_true rfl) ⟨_, rfl, hs, h⟩
  · have h := h.2 c1
    refine hv_aload_n E dX3_from_8 rfl 0 rfl ?_
    refine hv_getR (k := 2) (t2 := (3, 0)) E dX3_from_9 rfl rfl hiX3 (by decide) wd_96 rfl rfl (hs _ _ _ rfl) ?_
    refine hv_iload_n E dX3_from_12 rfl 1 rfl ?_
    obtain ⟨h2, h⟩ := h
    refine hv_iald E dX3_from_13 rfl (by decide) rfl h2 ?_
    refine hv_iconst (v := (-1 : Int32)) E dX3_from_14 (by decide) ?_
    refine hv_icmp_ne (tgt := 20) E dX3_from_15 (by decide) (fun c3 => ?_) (fun c3 => ?_)
    · have h := h.1 c3
      refine hv_aload_n E dX3_from_20 rfl 0 rfl ?_
      refine hv_getR (k := 3) (t2 := (4, 0)) E dX3_from_21 rfl rfl hiX3 (by decide) wd_97 rfl rfl (hs _ _ _ rfl) ?_
      refine hv_aload_n E dX3_from_24 rfl 0 rfl ?_
      refine hv_getR (k := 2) (t2 := (3, 0)) E dX3_from_25 rfl rfl hiX3 (by decide) wd_96 rfl rfl (hs _ _ _ rfl) ?_
      refine hv_iload_n E dX3_from_28 rfl 1 rfl ?_
      obtain ⟨h4, h⟩ := h
      refine hv_iald E dX3_from_29 rfl (by decide) rfl h4 ?_
      obtain ⟨h5, h⟩ := h
      obtain ⟨h6, h⟩ := h
      refine hv_aald (t2 := (11, (x2.2.1 (3, 0) a1.toNatClampNeg).toNatClampNeg)) E dX3_from_30 rfl (by decide) rfl rfl h5 (fun _ => h6) ?_
      refine hv_astore_n (lv' := [(0, aR (0, 0)), (1, aI a1), (2, aI a2)]) E dX3_from_31 rfl (by decide) rfl ?_
      refine hv_aload_n E dX3_from_32 rfl 0 rfl ?_
      refine hv_iload_n E dX3_from_33 rfl 2 rfl ?_
      refine hv_VI E [aI a1] (c_X2_hasMade l _ ((x2.2.1 (3, 0) a1.toNatClampNeg).toNatClampNeg) a1 x2 hs h) (hp_cwV 1 E wd_353 wd_354 wd_355 wd_42 wd_356 rfl rfl (by decide +kernel) ⟨(Nat.le_of_ble_eq_true rfl), (Nat.le_of_ble_eq_true rfl)⟩) rfl rfl rfl rfl (Nat.le_of_ble_eq_true rfl) dX3_from_34 ⟨(Nat.le_of_ble_eq_true rfl), (Nat.le_of_ble_eq_true rfl)⟩ (fun r34 x34 hs h => ?_)
      refine hv_if_eq (tgt := 66) E dX3_from_37 (by decide) (fun c7 => ?_) (fun c7 => ?_)
      · have h := h.1 c7
        refine hv_iconst (v := (-1 : Int32)) E dX3_from_66 (by decide) ?_
        exact hv_iret E hret dX3_from_67 (Nat.le_of_ble_eq_true rfl) (Nat.le_of_ble_eq_true rfl) ⟨_, rfl, hs, h⟩
      · have h := h.2 c7
        refine hv_aload_n E dX3_from_40 rfl 1 rfl ?_
        refine hv_getR (k := 1) (t2 := (2, 0)) E dX3_from_41 rfl rfl hiX3 (by decide) wd_95 rfl rfl (hs _ _ _ rfl) ?_
        refine hv_iload_n E dX3_from_44 rfl 2 rfl ?_
        obtain ⟨h8, h⟩ := h
        refine hv_lald E dX3_from_45 rfl (by decide) rfl h8 ?_
        refine hv_aload_n E dX3_from_46 rfl 0 rfl ?_
        refine hv_getL (k := 10) E dX3_from_47 rfl rfl hiX2 (by decide) wd_158 rfl rfl ?_
        refine hv_lcmp E dX3_from_50 ?_
        refine hv_if_ne (tgt := 66) E dX3_from_51 (by decide) (fun c9 => ?_) (fun c9 => ?_)
        · have h := h.1 c9
          refine hv_iconst (v := (-1 : Int32)) E dX3_from_66 (by decide) ?_
          exact hv_iret E hret dX3_from_67 (Nat.le_of_ble_eq_true rfl) (Nat.le_of_ble_eq_true rfl) ⟨_, rfl, hs, h⟩
        · have h := h.2 c9
          refine hv_iload_n E dX3_from_54 rfl 3 rfl ?_
          refine hv_if_lt (tgt := 66) E dX3_from_55 (by decide) (fun c10 => ?_) (fun c10 => ?_)
          · have h := h.1 c10
            refine hv_iconst (v := (-1 : Int32)) E dX3_from_66 (by decide) ?_
            exact hv_iret E hret dX3_from_67 (Nat.le_of_ble_eq_true rfl) (Nat.le_of_ble_eq_true rfl) ⟨_, rfl, hs, h⟩
          · have h := h.2 c10
            refine hv_iload_n E dX3_from_58 rfl 3 rfl ?_
            refine hv_aload_n E dX3_from_59 rfl 0 rfl ?_
            refine hv_getI (k := 8) E dX3_from_60 rfl rfl hiX2 (by decide) wd_155 rfl rfl ?_
            refine hv_icmp_lt (tgt := 68) E dX3_from_63 (by decide) (fun c11 => ?_) (fun c11 => ?_)
            · have h := h.1 c11
              refine hv_aload_n E dX3_from_68 rfl 0 rfl ?_
              refine hv_getR (k := 1) (t2 := (12, (x2.2.1 (3, 0) a1.toNatClampNeg).toNatClampNeg)) E dX3_from_69 rfl rfl hiX2 (by decide) wd_143 rfl rfl (hs _ _ _ rfl) ?_
              refine hv_iload_n E dX3_from_72 rfl 3 rfl ?_
              obtain ⟨h12, h⟩ := h
              refine hv_iald E dX3_from_73 rfl (by decide) rfl h12 ?_
              exact hv_iret E hret dX3_from_74 (Nat.le_of_ble_eq_true rfl) (Nat.le_of_ble_eq_true rfl) ⟨_, rfl, hs, h⟩
            · have h := h.2 c11
              refine hv_iconst (v := (-1 : Int32)) E dX3_from_66 (by decide) ?_
              exact hv_iret E hret dX3_from_67 (Nat.le_of_ble_eq_true rfl) (Nat.le_of_ble_eq_true rfl) ⟨_, rfl, hs, h⟩
    · have h := h.2 c3
      refine hv_iconst (v := (-1 : Int32)) E dX3_from_18 (by decide) ?_
      exact hv_iret E hret dX3_from_19 (Nat.le_of_ble_eq_true rfl) (Nat.le_of_ble_eq_true rfl) ⟨_, rfl, hs, h⟩
-- VersionJoins.refresh(II)Z
def k_X3_refresh_92 (kr : (Int32 → hp_S → Prop) → Int32 → Int32 → hp_S → Prop) (P : Int32 → hp_S → Prop) (a1 : Int32) (a2 : Int32) (g3 : Nat) (K : hp_S → Int32 → Prop) : Nat → hp_S → Int32 → Prop
  | 0, _, _ => False
  | n + 1, x, l4 => ((x.2.1 (11, g3) 5) ≤ l4 → (K x l4)) ∧ (¬ (x.2.1 (11, g3) 5) ≤ l4 → (vp_in l4 4 ∧ (k_X3_give (fun x113 => k_X3_refresh_92 kr P a1 a2 g3 K n x113 (l4 + nI 1)) (x.2.1 (13, g3) l4.toNatClampNeg) (x.2.2.1 (11, g3) 10) x)))
def k_X3_refresh_26 (kr : (Int32 → hp_S → Prop) → Int32 → Int32 → hp_S → Prop) (P : Int32 → hp_S → Prop) (a1 : Int32) (a2 : Int32) (g3 : Nat) : Nat → hp_S → Int32 → Prop
  | 0, _, _ => False
  | n + 1, x, l4 => ((x.2.1 (11, g3) 4) ≤ l4 → (k_X3_isStale (fun r73 x73 => (¬ r73 = 0 → (k_X2_work (fun x86 => ∃ q, k_X3_refresh_92 kr P a1 a2 g3 (fun x_92 l4_92 => P (nI 1) x_92) q x86 (nI 0)) g3 x73)) ∧ (r73 = 0 → (P (nI 0) x73))) a1 x)) ∧ (¬ (x.2.1 (11, g3) 4) ≤ l4 → (vp_in l4 8 ∧ (vp_in (x.2.1 (12, g3) l4.toNatClampNeg) 24 ∧ (((x.2.1 (3, 0) (x.2.1 (12, g3) l4.toNatClampNeg).toNatClampNeg) = (-1 : Int32) → (k_X3_refresh_26 kr P a1 a2 g3 n x (l4 + nI 1))) ∧ (¬ (x.2.1 (3, 0) (x.2.1 (12, g3) l4.toNatClampNeg).toNatClampNeg) = (-1 : Int32) → (kr (fun r61 x61 => k_X3_refresh_26 kr P a1 a2 g3 n x61 (l4 + nI 1)) (x.2.1 (3, 0) (x.2.1 (12, g3) l4.toNatClampNeg).toNatClampNeg) (a2 + (nI 1)) x))))))
def k_X3_refresh : Nat → (Int32 → hp_S → Prop) → Int32 → Int32 → hp_S → Prop
  | 0 => fun _ _ _ _ => False
  | d + 1 => fun P a1 a2 x => ((nI 12) ≤ a2 → (P (nI 0) x)) ∧ (¬ (nI 12) ≤ a2 → (k_X3_isStale (fun r8 x8 => (¬ r8 = 0 → (vp_in a1 12 ∧ (x8.2.2.2 (4, 0) a1.toNatClampNeg = some (11, a1.toNatClampNeg) ∧ (∃ q, k_X3_refresh_26 (k_X3_refresh d) P a1 a2 a1.toNatClampNeg q x8 (nI 0))))) ∧ (r8 = 0 → (P (nI 0) x8))) a1 x))
abbrev rm_X3_refresh (d : Nat) : Room := { frames := 4 + d, cells := 0, slots := 0, locals := 95 + d * 25 }
set_option maxRecDepth 100000 in
set_option maxHeartbeats 4000000 in
theorem w_X3_refresh_92 {p : Program} {l : Launch} {e : Env} {s : State} {m : MethodId} {args : Array Value} {below : List Frame} {meth : Method} {c : Code} {D : va_G} {cA : Nat → ClassId} {B0 : Nat} {ad0 : hp_T → Nat} {x0 : hp_S} (E : hp_E p s m args meth c cX3_refresh 6 "VersionJoins" hp_ws D cA B0) (hret : meth.sig.returnType = (Option.some Jvm.ClassFile.FieldType.boolean)) {d : Nat} {kr : (Int32 → hp_S → Prop) → Int32 → Int32 → hp_S → Prop} (hkr : ∀ (P : Int32 → hp_S → Prop) (a1 a2 : Int32) (x : hp_S), hp_sh x → kr P a1 a2 x → hp_C l yX3_refresh (Cond.code yX3_refresh cX3_refresh 6 (Option.some Jvm.ClassFile.FieldType.boolean) :: hp_ws) (rm_X3_refresh d) [aR (0, 0), aI a1, aI a2] x (hp_pI P) 0 0) {P : Int32 → hp_S → Prop} (a1 : Int32) (a2 : Int32) (g3 : Nat) {K : hp_S → Int32 → Prop} (hK : ∀ (x : hp_S) (l4 : Int32), hp_sh x → K x l4 → hp_V p l e (rm_X3_refresh (d + 1)) s m args below meth c (fun ad0 => MQ below (hp_Q D cA B0 ad0 x0 (hp_pI P)) args s 0 0 (fun q => B0 ≤ q)) D cA B0 6 ad0 x0 0 0 x 122 [(0, aR (0, 0)), (1, aI a1), (2, aI a2), (3, aR (11, g3)), (4, aI l4)] []) : ∀ (n : Nat) (x : hp_S) (l4 : Int32), hp_sh x → k_X3_refresh_92 kr P a1 a2 g3 K n x l4 → hp_V p l e (rm_X3_refresh (d + 1)) s m args below meth c (fun ad0 => MQ below (hp_Q D cA B0 ad0 x0 (hp_pI P)) args s 0 0 (fun q => B0 ≤ q)) D cA B0 6 ad0 x0 0 0 x 92 [(0, aR (0, 0)), (1, aI a1), (2, aI a2), (3, aR (11, g3)), (4, aI l4)] [] := by
  intro n
  induction n with
  | zero => intro x l4 hs h; exact absurd h id
  | succ n ih =>
    intro x l4 hs h
    unfold k_X3_refresh_92 at h
    refine hv_iload E dX3_refresh_92 4 rfl ?_
    refine hv_aload_n E dX3_refresh_94 rfl 3 rfl ?_
    refine hv_getI (k := 5) E dX3_refresh_95 rfl rfl hiX2 (by decide) wd_150 rfl rfl ?_
    refine hv_icmp_ge (tgt := 122) E dX3_refresh_98 (by decide) (fun c7 => ?_) (fun c7 => ?_)
    · have h := h.1 c7
      refine hv_lv [0, 1, 2, 3, 4] rfl ?_
      exact hK x l4 hs h
    · have h := h.2 c7
      refine hv_aload_n E dX3_refresh_101 rfl 0 rfl ?_
      refine hv_aload_n E dX3_refresh_102 rfl 3 rfl ?_
      refine hv_getR (k := 2) (t2 := (13, g3)) E dX3_refresh_103 rfl rfl hiX2 (by decide) wd_145 rfl rfl (hs _ _ _ rfl) ?_
      refine hv_iload E dX3_refresh_106 4 rfl ?_
      obtain ⟨h8, h⟩ := h
      refine hv_iald E dX3_refresh_108 rfl (by decide) rfl h8 ?_
      refine hv_aload_n E dX3_refresh_109 rfl 3 rfl ?_
      refine hv_getL (k := 10) E dX3_refresh_110 rfl rfl hiX2 (by decide) wd_158 rfl rfl ?_
      refine hv_VV E [aI (x.2.1 (13, g3) l4.toNatClampNeg), aL (x.2.2.1 (11, g3) 10)] (c_X3_give l _ (x.2.1 (13, g3) l4.toNatClampNeg) (x.2.2.1 (11, g3) 10) x hs h) (hp_cwV 2 E wd_304 wd_306 wd_8 wd_39 wd_307 rfl rfl (by decide +kernel) ⟨(show 0 + 1 ≤ 4 + (d + 1) by omega), (show 8 + (4 + 11) + 0 ≤ 95 + (d + 1) * 25 by omega)⟩) rfl rfl rfl rfl (Nat.le_of_ble_eq_true rfl) dX3_refresh_113 ⟨(Nat.le_of_ble_eq_true rfl), (Nat.le_of_ble_eq_true rfl)⟩ (fun x113 hs h => ?_)
      refine hv_iinc (v := l4 + nI 1) (lv' := [(0, aR (0, 0)), (1, aI a1), (2, aI a2), (3, aR (11, g3))]) E 4 dX3_refresh_116 rfl (hx_i1 _) (by decide) rfl ?_
      refine hv_goto (tgt := 92) E dX3_refresh_119 (by decide) ?_
      refine hv_lv [1, 2, 3, 4, 0] rfl ?_
      exact ih x113 (l4 + nI 1) hs h
set_option maxRecDepth 100000 in
set_option maxHeartbeats 4000000 in
theorem w_X3_refresh_26 {p : Program} {l : Launch} {e : Env} {s : State} {m : MethodId} {args : Array Value} {below : List Frame} {meth : Method} {c : Code} {D : va_G} {cA : Nat → ClassId} {B0 : Nat} {ad0 : hp_T → Nat} {x0 : hp_S} (E : hp_E p s m args meth c cX3_refresh 6 "VersionJoins" hp_ws D cA B0) (hret : meth.sig.returnType = (Option.some Jvm.ClassFile.FieldType.boolean)) {d : Nat} {kr : (Int32 → hp_S → Prop) → Int32 → Int32 → hp_S → Prop} (hkr : ∀ (P : Int32 → hp_S → Prop) (a1 a2 : Int32) (x : hp_S), hp_sh x → kr P a1 a2 x → hp_C l yX3_refresh (Cond.code yX3_refresh cX3_refresh 6 (Option.some Jvm.ClassFile.FieldType.boolean) :: hp_ws) (rm_X3_refresh d) [aR (0, 0), aI a1, aI a2] x (hp_pI P) 0 0) {P : Int32 → hp_S → Prop} (a1 : Int32) (a2 : Int32) (g3 : Nat)  : ∀ (n : Nat) (x : hp_S) (l4 : Int32), hp_sh x → k_X3_refresh_26 kr P a1 a2 g3 n x l4 → hp_V p l e (rm_X3_refresh (d + 1)) s m args below meth c (fun ad0 => MQ below (hp_Q D cA B0 ad0 x0 (hp_pI P)) args s 0 0 (fun q => B0 ≤ q)) D cA B0 6 ad0 x0 0 0 x 26 [(0, aR (0, 0)), (1, aI a1), (2, aI a2), (3, aR (11, g3)), (4, aI l4)] [] := by
  intro n
  induction n with
  | zero => intro x l4 hs h; exact absurd h id
  | succ n ih =>
    intro x l4 hs h
    unfold k_X3_refresh_26 at h
    refine hv_iload E dX3_refresh_26 4 rfl ?_
    refine hv_aload_n E dX3_refresh_28 rfl 3 rfl ?_
    refine hv_getI (k := 4) E dX3_refresh_29 rfl rfl hiX2 (by decide) wd_148 rfl rfl ?_
    refine hv_icmp_ge (tgt := 71) E dX3_refresh_32 (by decide) (fun c5 => ?_) (fun c5 => ?_)
    · have h := h.1 c5
      refine hv_aload_n E dX3_refresh_71 rfl 0 rfl ?_
      refine hv_iload_n E dX3_refresh_72 rfl 1 rfl ?_
      refine hv_VI E [aI a1] (c_X3_isStale l _ a1 x hs h) (hp_cwV 1 E wd_334 wd_336 wd_9 wd_39 wd_337 rfl rfl (by decide +kernel) ⟨(show 1 + 1 ≤ 4 + (d + 1) by omega), (show 8 + (4 + 11) + 22 ≤ 95 + (d + 1) * 25 by omega)⟩) rfl rfl rfl rfl (Nat.le_of_ble_eq_true rfl) dX3_refresh_73 ⟨(Nat.le_of_ble_eq_true rfl), (Nat.le_of_ble_eq_true rfl)⟩ (fun r73 x73 hs h => ?_)
      refine hv_if_ne (tgt := 81) E dX3_refresh_76 (by decide) (fun c6 => ?_) (fun c6 => ?_)
      · have h := h.1 c6
        refine hv_aload_n E dX3_refresh_81 rfl 3 rfl ?_
        refine hv_aload_n E dX3_refresh_82 rfl 0 rfl ?_
        refine hv_getR (k := 1) (t2 := (2, 0)) E dX3_refresh_83 rfl rfl hiX3 (by decide) wd_95 rfl rfl (hs _ _ _ rfl) ?_
        refine hv_VV E [aR (2, 0)] (c_X2_work l _ g3 x73 hs h) (hp_cwV 1 E wd_365 wd_366 wd_367 wd_42 wd_368 rfl rfl (by decide +kernel) ⟨(show 3 + 1 ≤ 4 + (d + 1) by omega), (show 8 + (3 + 11) + 73 ≤ 95 + (d + 1) * 25 by omega)⟩) rfl rfl rfl rfl (Nat.le_of_ble_eq_true rfl) dX3_refresh_86 ⟨(Nat.le_of_ble_eq_true rfl), (Nat.le_of_ble_eq_true rfl)⟩ (fun x86 hs h => ?_)
        refine hv_iconst (v := nI 0) E dX3_refresh_89 (by decide) ?_
        refine hv_istore (lv' := [(0, aR (0, 0)), (1, aI a1), (2, aI a2), (3, aR (11, g3))]) E dX3_refresh_90 (by decide) rfl ?_
        obtain ⟨n9, h⟩ := h
        refine hv_lv [1, 2, 3, 4, 0] rfl ?_
        refine w_X3_refresh_92 E hret hkr a1 a2 g3 (K := _) (fun x_92 l4_92 hs h => ?_) n9 x86 (nI 0) hs h
        refine hv_iconst (v := nI 1) E dX3_refresh_122 (by decide) ?_
        exact hv_zret E hret dX3_refresh_123 (by decide) (Nat.le_of_ble_eq_true rfl) (Nat.le_of_ble_eq_true rfl) ⟨_, rfl, hs, h⟩
      · have h := h.2 c6
        refine hv_iconst (v := nI 0) E dX3_refresh_79 (by decide) ?_
        exact hv_zret E hret dX3_refresh_80 (by decide) (Nat.le_of_ble_eq_true rfl) (Nat.le_of_ble_eq_true rfl) ⟨_, rfl, hs, h⟩
    · have h := h.2 c5
      refine hv_aload_n E dX3_refresh_35 rfl 0 rfl ?_
      refine hv_getR (k := 2) (t2 := (3, 0)) E dX3_refresh_36 rfl rfl hiX3 (by decide) wd_96 rfl rfl (hs _ _ _ rfl) ?_
      refine hv_aload_n E dX3_refresh_39 rfl 3 rfl ?_
      refine hv_getR (k := 1) (t2 := (12, g3)) E dX3_refresh_40 rfl rfl hiX2 (by decide) wd_143 rfl rfl (hs _ _ _ rfl) ?_
      refine hv_iload E dX3_refresh_43 4 rfl ?_
      obtain ⟨h10, h⟩ := h
      refine hv_iald E dX3_refresh_45 rfl (by decide) rfl h10 ?_
      obtain ⟨h11, h⟩ := h
      refine hv_iald E dX3_refresh_46 rfl (by decide) rfl h11 ?_
      refine hv_istore (lv' := [(0, aR (0, 0)), (1, aI a1), (2, aI a2), (3, aR (11, g3)), (4, aI l4)]) E dX3_refresh_47 (by decide) rfl ?_
      refine hv_iload E dX3_refresh_49 0 rfl ?_
      refine hv_iconst (v := (-1 : Int32)) E dX3_refresh_51 (by decide) ?_
      refine hv_icmp_eq (tgt := 65) E dX3_refresh_52 (by decide) (fun c12 => ?_) (fun c12 => ?_)
      · have h := h.1 c12
        refine hv_iinc (v := l4 + nI 1) (lv' := [(5, aI (x.2.1 (3, 0) (x.2.1 (12, g3) l4.toNatClampNeg).toNatClampNeg)), (0, aR (0, 0)), (1, aI a1), (2, aI a2), (3, aR (11, g3))]) E 5 dX3_refresh_65 rfl (hx_i1 _) (by decide) rfl ?_
        refine hv_goto (tgt := 26) E dX3_refresh_68 (by decide) ?_
        refine hv_lv [2, 3, 4, 5, 0] rfl ?_
        exact ih x (l4 + nI 1) hs h
      · have h := h.2 c12
        refine hv_aload_n E dX3_refresh_55 rfl 1 rfl ?_
        refine hv_iload E dX3_refresh_56 0 rfl ?_
        refine hv_iload_n E dX3_refresh_58 rfl 3 rfl ?_
        refine hv_iconst (v := nI 1) E dX3_refresh_59 (by decide) ?_
        refine hv_iadd (v := a2 + (nI 1)) E dX3_refresh_60 rfl ?_
        refine hv_VI E [aI (x.2.1 (3, 0) (x.2.1 (12, g3) l4.toNatClampNeg).toNatClampNeg), aI (a2 + (nI 1))] (hkr _ (x.2.1 (3, 0) (x.2.1 (12, g3) l4.toNatClampNeg).toNatClampNeg) (a2 + (nI 1)) x hs h) (hp_cwV 2 E wd_361 wd_363 wd_10 wd_39 wd_364 rfl rfl (by decide +kernel) ⟨(show (4 + d) + 1 ≤ 4 + (d + 1) by omega), (show 8 + (6 + 11) + (95 + d * 25) ≤ 95 + (d + 1) * 25 by omega)⟩) rfl rfl rfl rfl (Nat.le_of_ble_eq_true rfl) dX3_refresh_61 ⟨(Nat.le_of_ble_eq_true rfl), (Nat.le_of_ble_eq_true rfl)⟩ (fun r61 x61 hs h => ?_)
        refine hv_pop E dX3_refresh_64 rfl ?_
        refine hv_iinc (v := l4 + nI 1) (lv' := [(5, aI (x.2.1 (3, 0) (x.2.1 (12, g3) l4.toNatClampNeg).toNatClampNeg)), (0, aR (0, 0)), (1, aI a1), (2, aI a2), (3, aR (11, g3))]) E 5 dX3_refresh_65 rfl (hx_i1 _) (by decide) rfl ?_
        refine hv_goto (tgt := 26) E dX3_refresh_68 (by decide) ?_
        refine hv_lv [2, 3, 4, 5, 0] rfl ?_
        exact ih x61 (l4 + nI 1) hs h
set_option maxRecDepth 100000 in
set_option maxHeartbeats 4000000 in
theorem c_X3_refresh (l : Launch) : ∀ (d : Nat) (P : Int32 → hp_S → Prop) (a1 a2 : Int32) (x : hp_S), hp_sh x → k_X3_refresh d P a1 a2 x → hp_C l yX3_refresh (Cond.code yX3_refresh cX3_refresh 6 (Option.some Jvm.ClassFile.FieldType.boolean) :: hp_ws) (rm_X3_refresh d) [aR (0, 0), aI a1, aI a2] x (hp_pI P) 0 0 := by
  intro d
  induction d with
  | zero => intro P a1 a2 x hs h; exact absurd h id
  | succ d hkr =>
    intro P a1 a2 x hs h
    refine hp_ofV (own := "VersionJoins") (lv := [(0, aR (0, 0)), (1, aI a1), (2, aI a2)]) (by decide) rfl (Nat.le_of_ble_eq_true rfl) rfl ?_
    intro p e s m args below meth c D cA B0 ad0 E hret hnm
    unfold k_X3_refresh at h
    refine hv_iload_n E dX3_refresh_0 rfl 2 rfl ?_
    refine hv_bipush (v := nI 12) E dX3_refresh_1 (by decide) ?_
    refine hv_icmp_ge (tgt := 14) E dX3_refresh_3 (by decide) (fun c1 => ?_) (fun c1 => ?_)
    · have h := h.1 c1
      refine hv_iconst (v := nI 0) E dX3_refresh_14 (by decide) ?_
      exact hv_zret E hret dX3_refresh_15 (by decide) (Nat.le_of_ble_eq_true rfl) (Nat.le_of_ble_eq_true rfl) ⟨_, rfl, hs, h⟩
    · have h := h.2 c1
      refine hv_aload_n E dX3_refresh_6 rfl 0 rfl ?_
      refine hv_iload_n E dX3_refresh_7 rfl 1 rfl ?_
      refine hv_VI E [aI a1] (c_X3_isStale l _ a1 x hs h) (hp_cwV 1 E wd_334 wd_336 wd_9 wd_39 wd_337 rfl rfl (by decide +kernel) ⟨(show 1 + 1 ≤ 4 + (d + 1) by omega), (show 8 + (4 + 11) + 22 ≤ 95 + (d + 1) * 25 by omega)⟩) rfl rfl rfl rfl (Nat.le_of_ble_eq_true rfl) dX3_refresh_8 ⟨(Nat.le_of_ble_eq_true rfl), (Nat.le_of_ble_eq_true rfl)⟩ (fun r8 x8 hs h => ?_)
      refine hv_if_ne (tgt := 16) E dX3_refresh_11 (by decide) (fun c2 => ?_) (fun c2 => ?_)
      · have h := h.1 c2
        refine hv_aload_n E dX3_refresh_16 rfl 0 rfl ?_
        refine hv_getR (k := 3) (t2 := (4, 0)) E dX3_refresh_17 rfl rfl hiX3 (by decide) wd_97 rfl rfl (hs _ _ _ rfl) ?_
        refine hv_iload_n E dX3_refresh_20 rfl 1 rfl ?_
        obtain ⟨h3, h⟩ := h
        obtain ⟨h4, h⟩ := h
        refine hv_aald (t2 := (11, a1.toNatClampNeg)) E dX3_refresh_21 rfl (by decide) rfl rfl h3 (fun _ => h4) ?_
        refine hv_astore_n (lv' := [(0, aR (0, 0)), (1, aI a1), (2, aI a2)]) E dX3_refresh_22 rfl (by decide) rfl ?_
        refine hv_iconst (v := nI 0) E dX3_refresh_23 (by decide) ?_
        refine hv_istore (lv' := [(3, aR (11, a1.toNatClampNeg)), (0, aR (0, 0)), (1, aI a1), (2, aI a2)]) E dX3_refresh_24 (by decide) rfl ?_
        obtain ⟨n13, h⟩ := h
        refine hv_lv [2, 3, 4, 1, 0] rfl ?_
        exact w_X3_refresh_26 E hret hkr a1 a2 a1.toNatClampNeg n13 x8 (nI 0) hs h
      · have h := h.2 c2
        refine hv_iconst (v := nI 0) E dX3_refresh_14 (by decide) ?_
        exact hv_zret E hret dX3_refresh_15 (by decide) (Nat.le_of_ble_eq_true rfl) (Nat.le_of_ble_eq_true rfl) ⟨_, rfl, hs, h⟩
-- VersionJoins.run(I)Z
def k_X3_run (P : Int32 → hp_S → Prop) (a1 : Int32) (x : hp_S) : Prop := k_X3_isStep (fun r2 x2 => (r2 = 0 → (P (nI 0) x2)) ∧ (¬ r2 = 0 → (k_X3_refresh 13 (fun r11 x11 => (r11 = 0 → (P (nI 0) x11)) ∧ (¬ r11 = 0 → (P (nI 1) x11))) a1 (nI 0) x2))) a1 x
abbrev rm_X3_run : Room := ({ frames := 18, cells := 0, slots := 0, locals := 445 } : Room)
set_option maxRecDepth 100000 in
set_option maxHeartbeats 4000000 in
theorem c_X3_run (l : Launch) (P : Int32 → hp_S → Prop) (a1 : Int32) (x : hp_S) (hs : hp_sh x) (h : k_X3_run P a1 x) : hp_C l yX3_run (Cond.code yX3_run cX3_run 2 (Option.some Jvm.ClassFile.FieldType.boolean) :: hp_ws) rm_X3_run [aR (0, 0), aI a1] x (hp_pI P) 0 0 := by
  refine hp_ofV (own := "VersionJoins") (lv := [(0, aR (0, 0)), (1, aI a1)]) (by decide) rfl (Nat.le_of_ble_eq_true rfl) rfl ?_
  intro p e s m args below meth c D cA B0 ad0 E hret hnm
  unfold k_X3_run at h
  refine hv_aload_n E dX3_run_0 rfl 0 rfl ?_
  refine hv_iload_n E dX3_run_1 rfl 1 rfl ?_
  refine hv_VI E [aI a1] (c_X3_isStep l _ a1 x hs h) (hp_cwV 1 E wd_186 wd_188 wd_0 wd_39 wd_189 rfl rfl (by decide +kernel) ⟨(Nat.le_of_ble_eq_true rfl), (Nat.le_of_ble_eq_true rfl)⟩) rfl rfl rfl rfl (Nat.le_of_ble_eq_true rfl) dX3_run_2 ⟨(Nat.le_of_ble_eq_true rfl), (Nat.le_of_ble_eq_true rfl)⟩ (fun r2 x2 hs h => ?_)
  refine hv_if_eq (tgt := 21) E dX3_run_5 (by decide) (fun c1 => ?_) (fun c1 => ?_)
  · have h := h.1 c1
    refine hv_iconst (v := nI 0) E dX3_run_21 (by decide) ?_
    exact hv_zret E hret dX3_run_22 (by decide) (Nat.le_of_ble_eq_true rfl) (Nat.le_of_ble_eq_true rfl) ⟨_, rfl, hs, h⟩
  · have h := h.2 c1
    refine hv_aload_n E dX3_run_8 rfl 0 rfl ?_
    refine hv_iload_n E dX3_run_9 rfl 1 rfl ?_
    refine hv_iconst (v := nI 0) E dX3_run_10 (by decide) ?_
    refine hv_VI E [aI a1, aI (nI 0)] (c_X3_refresh l 13 _ a1 (nI 0) x2 hs h) (hp_cwV 2 E wd_361 wd_363 wd_10 wd_39 wd_364 rfl rfl (by decide +kernel) ⟨(Nat.le_of_ble_eq_true rfl), (Nat.le_of_ble_eq_true rfl)⟩) rfl rfl rfl rfl (Nat.le_of_ble_eq_true rfl) dX3_run_11 ⟨(Nat.le_of_ble_eq_true rfl), (Nat.le_of_ble_eq_true rfl)⟩ (fun r11 x11 hs h => ?_)
    refine hv_if_eq (tgt := 21) E dX3_run_14 (by decide) (fun c2 => ?_) (fun c2 => ?_)
    · have h := h.1 c2
      refine hv_iconst (v := nI 0) E dX3_run_21 (by decide) ?_
      exact hv_zret E hret dX3_run_22 (by decide) (Nat.le_of_ble_eq_true rfl) (Nat.le_of_ble_eq_true rfl) ⟨_, rfl, hs, h⟩
    · have h := h.2 c2
      refine hv_iconst (v := nI 1) E dX3_run_17 (by decide) ?_
      refine hv_goto (tgt := 22) E dX3_run_18 (by decide) ?_
      exact hv_zret E hret dX3_run_22 (by decide) (Nat.le_of_ble_eq_true rfl) (Nat.le_of_ble_eq_true rfl) ⟨_, rfl, hs, h⟩
-- VersionJoins.value(II)J
def k_X3_value (P : Int64 → hp_S → Prop) (a1 : Int32) (a2 : Int32) (x : hp_S) : Prop := (a1 < 0 → (P 0 x)) ∧ (¬ a1 < 0 → (((x.2.1 (0, 0) 7) ≤ a1 → (P 0 x)) ∧ (¬ (x.2.1 (0, 0) 7) ≤ a1 → (k_X3_isThing (fun r14 x14 => (¬ r14 = 0 → (vp_in a1 6 ∧ (vp_in a2 24 ∧ (P (x14.2.2.1 (2, a1.toNatClampNeg) a2.toNatClampNeg) x14)))) ∧ (r14 = 0 → (P 0 x14))) a2 x))))
abbrev rm_X3_value : Room := ({ frames := 1, cells := 0, slots := 0, locals := 21 } : Room)
set_option maxRecDepth 100000 in
set_option maxHeartbeats 4000000 in
theorem c_X3_value (l : Launch) (P : Int64 → hp_S → Prop) (a1 : Int32) (a2 : Int32) (x : hp_S) (hs : hp_sh x) (h : k_X3_value P a1 a2 x) : hp_C l yX3_value (Cond.code yX3_value cX3_value 3 (Option.some Jvm.ClassFile.FieldType.long) :: hp_ws) rm_X3_value [aR (0, 0), aI a1, aI a2] x (hp_pL P) 0 0 := by
  refine hp_ofV (own := "VersionJoins") (lv := [(0, aR (0, 0)), (1, aI a1), (2, aI a2)]) (by decide) rfl (Nat.le_of_ble_eq_true rfl) rfl ?_
  intro p e s m args below meth c D cA B0 ad0 E hret hnm
  unfold k_X3_value at h
  refine hv_iload_n E dX3_value_0 rfl 1 rfl ?_
  refine hv_if_lt (tgt := 20) E dX3_value_1 (by decide) (fun c1 => ?_) (fun c1 => ?_)
  · have h := h.1 c1
    refine hv_lconst (v := 0) E dX3_value_20 (by decide) ?_
    exact hv_lret E hret dX3_value_21 (Nat.le_of_ble_eq_true rfl) (Nat.le_of_ble_eq_true rfl) ⟨_, rfl, hs, h⟩
  · have h := h.2 c1
    refine hv_iload_n E dX3_value_4 rfl 1 rfl ?_
    refine hv_aload_n E dX3_value_5 rfl 0 rfl ?_
    refine hv_getI (k := 7) E dX3_value_6 rfl rfl hiX3 (by decide) wd_101 rfl rfl ?_
    refine hv_icmp_ge (tgt := 20) E dX3_value_9 (by decide) (fun c2 => ?_) (fun c2 => ?_)
    · have h := h.1 c2
      refine hv_lconst (v := 0) E dX3_value_20 (by decide) ?_
      exact hv_lret E hret dX3_value_21 (Nat.le_of_ble_eq_true rfl) (Nat.le_of_ble_eq_true rfl) ⟨_, rfl, hs, h⟩
    · have h := h.2 c2
      refine hv_aload_n E dX3_value_12 rfl 0 rfl ?_
      refine hv_iload_n E dX3_value_13 rfl 2 rfl ?_
      refine hv_VI E [aI a2] (c_X3_isThing l _ a2 x hs h) (hp_cwV 1 E wd_190 wd_192 wd_1 wd_39 wd_193 rfl rfl (by decide +kernel) ⟨(Nat.le_of_ble_eq_true rfl), (Nat.le_of_ble_eq_true rfl)⟩) rfl rfl rfl rfl (Nat.le_of_ble_eq_true rfl) dX3_value_14 ⟨(Nat.le_of_ble_eq_true rfl), (Nat.le_of_ble_eq_true rfl)⟩ (fun r14 x14 hs h => ?_)
      refine hv_if_ne (tgt := 22) E dX3_value_17 (by decide) (fun c3 => ?_) (fun c3 => ?_)
      · have h := h.1 c3
        refine hv_aload_n E dX3_value_22 rfl 0 rfl ?_
        refine hv_getR (k := 0) (t2 := (1, 0)) E dX3_value_23 rfl rfl hiX3 (by decide) wd_94 rfl rfl (hs _ _ _ rfl) ?_
        refine hv_iload_n E dX3_value_26 rfl 1 rfl ?_
        obtain ⟨h4, h⟩ := h
        refine hv_aald (t2 := (2, a1.toNatClampNeg)) E dX3_value_27 rfl (by decide) rfl rfl h4 (hs _ _ _ (hp_ex_row h4)) ?_
        refine hv_iload_n E dX3_value_28 rfl 2 rfl ?_
        obtain ⟨h5, h⟩ := h
        refine hv_lald E dX3_value_29 rfl (by decide) rfl h5 ?_
        exact hv_lret E hret dX3_value_30 (Nat.le_of_ble_eq_true rfl) (Nat.le_of_ble_eq_true rfl) ⟨_, rfl, hs, h⟩
      · have h := h.2 c3
        refine hv_lconst (v := 0) E dX3_value_20 (by decide) ?_
        exact hv_lret E hret dX3_value_21 (Nat.le_of_ble_eq_true rfl) (Nat.le_of_ble_eq_true rfl) ⟨_, rfl, hs, h⟩
-- VersionJoins.refreshAll()V
def k_X3_refreshAll_2 (P : hp_S → Prop) : Nat → hp_S → Int32 → Prop
  | 0, _, _ => False
  | n + 1, x, l1 => ((x.2.1 (0, 0) 8) ≤ l1 → (P x)) ∧ (¬ (x.2.1 (0, 0) 8) ≤ l1 → (k_X3_refresh 13 (fun r13 x13 => k_X3_refreshAll_2 P n x13 (l1 + nI 1)) l1 (nI 0) x))
def k_X3_refreshAll (P : hp_S → Prop)  (x : hp_S) : Prop := ∃ q, k_X3_refreshAll_2 P  q x (nI 0)
abbrev rm_X3_refreshAll : Room := ({ frames := 18, cells := 0, slots := 0, locals := 445 } : Room)
set_option maxRecDepth 100000 in
set_option maxHeartbeats 4000000 in
theorem w_X3_refreshAll_2 {p : Program} {l : Launch} {e : Env} {s : State} {m : MethodId} {args : Array Value} {below : List Frame} {meth : Method} {c : Code} {D : va_G} {cA : Nat → ClassId} {B0 : Nat} {ad0 : hp_T → Nat} {x0 : hp_S} (E : hp_E p s m args meth c cX3_refreshAll 2 "VersionJoins" hp_ws D cA B0) (hret : meth.sig.returnType = (Option.none : Option Jvm.ClassFile.FieldType)) {P : hp_S → Prop} : ∀ (n : Nat) (x : hp_S) (l1 : Int32), hp_sh x → k_X3_refreshAll_2 P n x l1 → hp_V p l e rm_X3_refreshAll s m args below meth c (fun ad0 => MQ below (hp_Q D cA B0 ad0 x0 (hp_pV P)) args s 0 0 (fun q => B0 ≤ q)) D cA B0 2 ad0 x0 0 0 x 2 [(0, aR (0, 0)), (1, aI l1)] [] := by
  intro n
  induction n with
  | zero => intro x l1 hs h; exact absurd h id
  | succ n ih =>
    intro x l1 hs h
    unfold k_X3_refreshAll_2 at h
    refine hv_iload_n E dX3_refreshAll_2 rfl 1 rfl ?_
    refine hv_aload_n E dX3_refreshAll_3 rfl 0 rfl ?_
    refine hv_getI (k := 8) E dX3_refreshAll_4 rfl rfl hiX3 (by decide) wd_102 rfl rfl ?_
    refine hv_icmp_ge (tgt := 23) E dX3_refreshAll_7 (by decide) (fun c1 => ?_) (fun c1 => ?_)
    · have h := h.1 c1
      exact hv_vret E hret dX3_refreshAll_23 (Nat.le_of_ble_eq_true rfl) (Nat.le_of_ble_eq_true rfl) ⟨rfl, hs, h⟩
    · have h := h.2 c1
      refine hv_aload_n E dX3_refreshAll_10 rfl 0 rfl ?_
      refine hv_iload_n E dX3_refreshAll_11 rfl 1 rfl ?_
      refine hv_iconst (v := nI 0) E dX3_refreshAll_12 (by decide) ?_
      refine hv_VI E [aI l1, aI (nI 0)] (c_X3_refresh l 13 _ l1 (nI 0) x hs h) (hp_cwV 2 E wd_361 wd_363 wd_10 wd_39 wd_364 rfl rfl (by decide +kernel) ⟨(Nat.le_of_ble_eq_true rfl), (Nat.le_of_ble_eq_true rfl)⟩) rfl rfl rfl rfl (Nat.le_of_ble_eq_true rfl) dX3_refreshAll_13 ⟨(Nat.le_of_ble_eq_true rfl), (Nat.le_of_ble_eq_true rfl)⟩ (fun r13 x13 hs h => ?_)
      refine hv_pop E dX3_refreshAll_16 rfl ?_
      refine hv_iinc (v := l1 + nI 1) (lv' := [(0, aR (0, 0))]) E 1 dX3_refreshAll_17 rfl (hx_i1 _) (by decide) rfl ?_
      refine hv_goto (tgt := 2) E dX3_refreshAll_20 (by decide) ?_
      refine hv_lv [1, 0] rfl ?_
      exact ih x13 (l1 + nI 1) hs h
set_option maxRecDepth 100000 in
set_option maxHeartbeats 4000000 in
theorem c_X3_refreshAll (l : Launch) (P : hp_S → Prop)  (x : hp_S) (hs : hp_sh x) (h : k_X3_refreshAll P  x) : hp_C l yX3_refreshAll (Cond.code yX3_refreshAll cX3_refreshAll 2 (Option.none : Option Jvm.ClassFile.FieldType) :: hp_ws) rm_X3_refreshAll [aR (0, 0)] x (hp_pV P) 0 0 := by
  refine hp_ofV (own := "VersionJoins") (lv := [(0, aR (0, 0))]) (by decide) rfl (Nat.le_of_ble_eq_true rfl) rfl ?_
  intro p e s m args below meth c D cA B0 ad0 E hret hnm
  unfold k_X3_refreshAll at h
  refine hv_iconst (v := nI 0) E dX3_refreshAll_0 (by decide) ?_
  refine hv_istore_n (lv' := [(0, aR (0, 0))]) E dX3_refreshAll_1 rfl (by decide) rfl ?_
  obtain ⟨n2, h⟩ := h
  refine hv_lv [1, 0] rfl ?_
  exact w_X3_refreshAll_2 E hret  n2 x (nI 0) hs h
-- VersionJoins.play(JI)I
def k_X3_play_31 (P : Int32 → hp_S → Prop) (a1 : Int64) (a2 : Int32) (f4 : Int32) : Nat → hp_S → Int64 → Int32 → Prop
  | 0, _, _, _ => False
  | n + 1, x, l5, l7 => (a2 ≤ l7 → (P ((x.2.1 (0, 0) 10) - f4) x)) ∧ (¬ a2 ≤ l7 → (¬ ((x.2.1 (0, 0) 6).toInt64) = 0 ∧ (k_X3_give (fun x71 => (0 ≤ (lg_cmp ((l5 * 6364136223846793005) + 1442695040888963407) 0) → (k_X3_play_31 P a1 a2 f4 n x71 ((l5 * 6364136223846793005) + 1442695040888963407) (l7 + nI 1))) ∧ (¬ 0 ≤ (lg_cmp ((l5 * 6364136223846793005) + 1442695040888963407) 0) → (k_X3_refreshAll (fun x82 => k_X3_play_31 P a1 a2 f4 n x82 ((l5 * 6364136223846793005) + 1442695040888963407) (l7 + nI 1))  x71))) (((hx_lushr ((l5 * 6364136223846793005) + 1442695040888963407) (nI 33)) - (hx_lushr ((l5 * 6364136223846793005) + 1442695040888963407) (nI 33)) / ((x.2.1 (0, 0) 6).toInt64) * ((x.2.1 (0, 0) 6).toInt64)).toInt32) ((hx_lushr ((l5 * 6364136223846793005) + 1442695040888963407) (nI 20)) &&& 255) x)))
def k_X3_play (P : Int32 → hp_S → Prop) (a1 : Int64) (a2 : Int32) (x : hp_S) : Prop := (a2 < 0 → (P (nI 0) x)) ∧ (¬ a2 < 0 → (((nI 50) < a2 → (P (nI 0) x)) ∧ (¬ (nI 50) < a2 → ((¬ (x.2.1 (0, 0) 6) = 0 → (∃ q, k_X3_play_31 P a1 a2 (x.2.1 (0, 0) 10) q x a1 (nI 0))) ∧ ((x.2.1 (0, 0) 6) = 0 → (P (nI 0) x))))))
abbrev rm_X3_play : Room := ({ frames := 19, cells := 0, slots := 0, locals := 466 } : Room)
set_option maxRecDepth 100000 in
set_option maxHeartbeats 4000000 in
theorem w_X3_play_31 {p : Program} {l : Launch} {e : Env} {s : State} {m : MethodId} {args : Array Value} {below : List Frame} {meth : Method} {c : Code} {D : va_G} {cA : Nat → ClassId} {B0 : Nat} {ad0 : hp_T → Nat} {x0 : hp_S} (E : hp_E p s m args meth c cX3_play 8 "VersionJoins" hp_ws D cA B0) (hret : meth.sig.returnType = (Option.some Jvm.ClassFile.FieldType.int)) {P : Int32 → hp_S → Prop} (a1 : Int64) (a2 : Int32) (f4 : Int32) : ∀ (n : Nat) (x : hp_S) (l5 : Int64) (l7 : Int32), hp_sh x → k_X3_play_31 P a1 a2 f4 n x l5 l7 → hp_V p l e rm_X3_play s m args below meth c (fun ad0 => MQ below (hp_Q D cA B0 ad0 x0 (hp_pI P)) args s 0 0 (fun q => B0 ≤ q)) D cA B0 8 ad0 x0 0 0 x 31 [(0, aR (0, 0)), (1, aL a1), (3, aI a2), (4, aI f4), (5, aL l5), (7, aI l7)] [] := by
  intro n
  induction n with
  | zero => intro x l5 l7 hs h; exact absurd h id
  | succ n ih =>
    intro x l5 l7 hs h
    unfold k_X3_play_31 at h
    refine hv_iload E dX3_play_31 5 rfl ?_
    refine hv_iload_n E dX3_play_33 rfl 2 rfl ?_
    refine hv_icmp_ge (tgt := 91) E dX3_play_34 (by decide) (fun c4 => ?_) (fun c4 => ?_)
    · have h := h.1 c4
      refine hv_aload_n E dX3_play_91 rfl 0 rfl ?_
      refine hv_getI (k := 10) E dX3_play_92 rfl rfl hiX3 (by decide) wd_104 rfl rfl ?_
      refine hv_iload E dX3_play_95 3 rfl ?_
      refine hv_isub (v := (x.2.1 (0, 0) 10) - f4) E dX3_play_97 rfl ?_
      exact hv_iret E hret dX3_play_98 (Nat.le_of_ble_eq_true rfl) (Nat.le_of_ble_eq_true rfl) ⟨_, rfl, hs, h⟩
    · have h := h.2 c4
      refine hv_lload E dX3_play_37 4 rfl ?_
      refine hv_ldc2 (v := 6364136223846793005) E wd_404 dX3_play_39 ?_
      refine hv_lmul (v := l5 * 6364136223846793005) E dX3_play_42 rfl ?_
      refine hv_ldc2 (v := 1442695040888963407) E wd_405 dX3_play_43 ?_
      refine hv_ladd (v := (l5 * 6364136223846793005) + 1442695040888963407) E dX3_play_46 rfl ?_
      refine hv_lstore (lv' := [(0, aR (0, 0)), (1, aL a1), (3, aI a2), (4, aI f4), (7, aI l7)]) E dX3_play_47 (by decide) rfl ?_
      refine hv_aload_n E dX3_play_49 rfl 1 rfl ?_
      refine hv_lload E dX3_play_50 0 rfl ?_
      refine hv_bipush (v := nI 33) E dX3_play_52 (by decide) ?_
      refine hv_lushr (v := hx_lushr ((l5 * 6364136223846793005) + 1442695040888963407) (nI 33)) E dX3_play_54 rfl ?_
      refine hv_aload_n E dX3_play_55 rfl 1 rfl ?_
      refine hv_getI (k := 6) E dX3_play_56 rfl rfl hiX3 (by decide) wd_100 rfl rfl ?_
      refine hv_i2l (v := (x.2.1 (0, 0) 6).toInt64) E dX3_play_59 rfl ?_
      obtain ⟨h5, h⟩ := h
      refine hv_lrem (v := (hx_lushr ((l5 * 6364136223846793005) + 1442695040888963407) (nI 33)) - (hx_lushr ((l5 * 6364136223846793005) + 1442695040888963407) (nI 33)) / ((x.2.1 (0, 0) 6).toInt64) * ((x.2.1 (0, 0) 6).toInt64)) E dX3_play_60 h5 rfl ?_
      refine hv_l2i (v := ((hx_lushr ((l5 * 6364136223846793005) + 1442695040888963407) (nI 33)) - (hx_lushr ((l5 * 6364136223846793005) + 1442695040888963407) (nI 33)) / ((x.2.1 (0, 0) 6).toInt64) * ((x.2.1 (0, 0) 6).toInt64)).toInt32) E dX3_play_61 rfl ?_
      refine hv_lload E dX3_play_62 0 rfl ?_
      refine hv_bipush (v := nI 20) E dX3_play_64 (by decide) ?_
      refine hv_lushr (v := hx_lushr ((l5 * 6364136223846793005) + 1442695040888963407) (nI 20)) E dX3_play_66 rfl ?_
      refine hv_ldc2 (v := 255) E wd_406 dX3_play_67 ?_
      refine hv_land (v := (hx_lushr ((l5 * 6364136223846793005) + 1442695040888963407) (nI 20)) &&& 255) E dX3_play_70 rfl ?_
      refine hv_VV E [aI (((hx_lushr ((l5 * 6364136223846793005) + 1442695040888963407) (nI 33)) - (hx_lushr ((l5 * 6364136223846793005) + 1442695040888963407) (nI 33)) / ((x.2.1 (0, 0) 6).toInt64) * ((x.2.1 (0, 0) 6).toInt64)).toInt32), aL ((hx_lushr ((l5 * 6364136223846793005) + 1442695040888963407) (nI 20)) &&& 255)] (c_X3_give l _ (((hx_lushr ((l5 * 6364136223846793005) + 1442695040888963407) (nI 33)) - (hx_lushr ((l5 * 6364136223846793005) + 1442695040888963407) (nI 33)) / ((x.2.1 (0, 0) 6).toInt64) * ((x.2.1 (0, 0) 6).toInt64)).toInt32) ((hx_lushr ((l5 * 6364136223846793005) + 1442695040888963407) (nI 20)) &&& 255) x hs h) (hp_cwV 2 E wd_304 wd_306 wd_8 wd_39 wd_307 rfl rfl (by decide +kernel) ⟨(Nat.le_of_ble_eq_true rfl), (Nat.le_of_ble_eq_true rfl)⟩) rfl rfl rfl rfl (Nat.le_of_ble_eq_true rfl) dX3_play_71 ⟨(Nat.le_of_ble_eq_true rfl), (Nat.le_of_ble_eq_true rfl)⟩ (fun x71 hs h => ?_)
      refine hv_lload E dX3_play_74 0 rfl ?_
      refine hv_lconst (v := 0) E dX3_play_76 (by decide) ?_
      refine hv_lcmp E dX3_play_77 ?_
      refine hv_if_ge (tgt := 85) E dX3_play_78 (by decide) (fun c6 => ?_) (fun c6 => ?_)
      · have h := h.1 c6
        refine hv_iinc (v := l7 + nI 1) (lv' := [(5, aL ((l5 * 6364136223846793005) + 1442695040888963407)), (0, aR (0, 0)), (1, aL a1), (3, aI a2), (4, aI f4)]) E 5 dX3_play_85 rfl (hx_i1 _) (by decide) rfl ?_
        refine hv_goto (tgt := 31) E dX3_play_88 (by decide) ?_
        refine hv_lv [2, 3, 4, 5, 1, 0] rfl ?_
        exact ih x71 ((l5 * 6364136223846793005) + 1442695040888963407) (l7 + nI 1) hs h
      · have h := h.2 c6
        refine hv_aload_n E dX3_play_81 rfl 1 rfl ?_
        refine hv_VV E [] (c_X3_refreshAll l _  x71 hs h) (hp_cwV 0 E wd_407 wd_409 wd_17 wd_39 wd_410 rfl rfl (by decide +kernel) ⟨(Nat.le_of_ble_eq_true rfl), (Nat.le_of_ble_eq_true rfl)⟩) rfl rfl rfl rfl (Nat.le_of_ble_eq_true rfl) dX3_play_82 ⟨(Nat.le_of_ble_eq_true rfl), (Nat.le_of_ble_eq_true rfl)⟩ (fun x82 hs h => ?_)
        refine hv_iinc (v := l7 + nI 1) (lv' := [(5, aL ((l5 * 6364136223846793005) + 1442695040888963407)), (0, aR (0, 0)), (1, aL a1), (3, aI a2), (4, aI f4)]) E 5 dX3_play_85 rfl (hx_i1 _) (by decide) rfl ?_
        refine hv_goto (tgt := 31) E dX3_play_88 (by decide) ?_
        refine hv_lv [2, 3, 4, 5, 1, 0] rfl ?_
        exact ih x82 ((l5 * 6364136223846793005) + 1442695040888963407) (l7 + nI 1) hs h
set_option maxRecDepth 100000 in
set_option maxHeartbeats 4000000 in
theorem c_X3_play (l : Launch) (P : Int32 → hp_S → Prop) (a1 : Int64) (a2 : Int32) (x : hp_S) (hs : hp_sh x) (h : k_X3_play P a1 a2 x) : hp_C l yX3_play (Cond.code yX3_play cX3_play 8 (Option.some Jvm.ClassFile.FieldType.int) :: hp_ws) rm_X3_play [aR (0, 0), aL a1, aI a2] x (hp_pI P) 0 0 := by
  refine hp_ofV (own := "VersionJoins") (lv := [(0, aR (0, 0)), (1, aL a1), (3, aI a2)]) (by decide) rfl (Nat.le_of_ble_eq_true rfl) rfl ?_
  intro p e s m args below meth c D cA B0 ad0 E hret hnm
  unfold k_X3_play at h
  refine hv_iload_n E dX3_play_0 rfl 2 rfl ?_
  refine hv_if_lt (tgt := 17) E dX3_play_1 (by decide) (fun c1 => ?_) (fun c1 => ?_)
  · have h := h.1 c1
    refine hv_iconst (v := nI 0) E dX3_play_17 (by decide) ?_
    exact hv_iret E hret dX3_play_18 (Nat.le_of_ble_eq_true rfl) (Nat.le_of_ble_eq_true rfl) ⟨_, rfl, hs, h⟩
  · have h := h.2 c1
    refine hv_iload_n E dX3_play_4 rfl 2 rfl ?_
    refine hv_bipush (v := nI 50) E dX3_play_5 (by decide) ?_
    refine hv_icmp_gt (tgt := 17) E dX3_play_7 (by decide) (fun c2 => ?_) (fun c2 => ?_)
    · have h := h.1 c2
      refine hv_iconst (v := nI 0) E dX3_play_17 (by decide) ?_
      exact hv_iret E hret dX3_play_18 (Nat.le_of_ble_eq_true rfl) (Nat.le_of_ble_eq_true rfl) ⟨_, rfl, hs, h⟩
    · have h := h.2 c2
      refine hv_aload_n E dX3_play_10 rfl 0 rfl ?_
      refine hv_getI (k := 6) E dX3_play_11 rfl rfl hiX3 (by decide) wd_100 rfl rfl ?_
      refine hv_if_ne (tgt := 19) E dX3_play_14 (by decide) (fun c3 => ?_) (fun c3 => ?_)
      · have h := h.1 c3
        refine hv_aload_n E dX3_play_19 rfl 0 rfl ?_
        refine hv_getI (k := 10) E dX3_play_20 rfl rfl hiX3 (by decide) wd_104 rfl rfl ?_
        refine hv_istore (lv' := [(0, aR (0, 0)), (1, aL a1), (3, aI a2)]) E dX3_play_23 (by decide) rfl ?_
        refine hv_lload_n E dX3_play_25 rfl 2 rfl ?_
        refine hv_lstore (lv' := [(4, aI (x.2.1 (0, 0) 10)), (0, aR (0, 0)), (1, aL a1), (3, aI a2)]) E dX3_play_26 (by decide) rfl ?_
        refine hv_iconst (v := nI 0) E dX3_play_28 (by decide) ?_
        refine hv_istore (lv' := [(5, aL a1), (4, aI (x.2.1 (0, 0) 10)), (0, aR (0, 0)), (1, aL a1), (3, aI a2)]) E dX3_play_29 (by decide) rfl ?_
        obtain ⟨n7, h⟩ := h
        refine hv_lv [3, 4, 5, 2, 1, 0] rfl ?_
        exact w_X3_play_31 E hret a1 a2 (x.2.1 (0, 0) 10) n7 x a1 (nI 0) hs h
      · have h := h.2 c3
        refine hv_iconst (v := nI 0) E dX3_play_17 (by decide) ?_
        exact hv_iret E hret dX3_play_18 (Nat.le_of_ble_eq_true rfl) (Nat.le_of_ble_eq_true rfl) ⟨_, rfl, hs, h⟩
