-- VersionJoins$Step.<init>(I)V
def k_X2_init (P : hp_S → Prop) (i : Nat) (a1 : Int32) (x : hp_S) : Prop := x.1 (12, i) = false ∧ ((hp_uR (hp_nw x (12, i)) (11, i) 1 (some (12, i))).1 (13, i) = false ∧ ((hp_uR (hp_nw (hp_uR (hp_nw x (12, i)) (11, i) 1 (some (12, i))) (13, i)) (11, i) 2 (some (13, i))).1 (14, i) = false ∧ (P (hp_uI (hp_uL (hp_uI (hp_uI (hp_uI (hp_uI (hp_uI (hp_uI (hp_uR (hp_nw (hp_uR (hp_nw (hp_uR (hp_nw x (12, i)) (11, i) 1 (some (12, i))) (13, i)) (11, i) 2 (some (13, i))) (14, i)) (11, i) 3 (some (14, i))) (11, i) 4 (nI 0)) (11, i) 5 (nI 0)) (11, i) 6 (nI 0)) (11, i) 7 (nI 0)) (11, i) 8 (nI 0)) (11, i) 9 (nI 0)) (11, i) 10 0) (11, i) 0 a1))))
abbrev rm_X2_init : Room := ({ frames := 1, cells := 3, slots := 20, locals := 20 } : Room)
set_option maxRecDepth 100000 in
set_option maxHeartbeats 4000000 in
theorem c_X2_init (l : Launch) (P : hp_S → Prop) (i : Nat) (a1 : Int32) (x : hp_S) (h : k_X2_init P i a1 x) : hp_C l yX2_init (Cond.code yX2_init cX2_init 2 (Option.none : Option Jvm.ClassFile.FieldType) :: hp_ws) rm_X2_init [aR (11, i), aI a1] x (hp_p0 P) 3 20 := by
  refine hp_ofV (own := "VersionJoins$Step") (lv := [(0, aR (11, i)), (1, aI a1)]) (by decide) rfl (Nat.le_of_ble_eq_true rfl) rfl ?_
  intro p e s m args below meth c D cA B0 ad0 E hret hnm
  unfold k_X2_init at h
  refine hv_aload_n E dX2_init_0 rfl 0 rfl ?_
  refine hv_objInit E dX2_init_1 wd_140 wd_52 wd_53 (Nat.le_of_ble_eq_true rfl) (Nat.le_of_ble_eq_true rfl) ?_
  refine hv_aload_n E dX2_init_4 rfl 0 rfl ?_
  refine hv_bipush (v := nI 8) E dX2_init_5 (by decide) ?_
  obtain ⟨h1, h⟩ := h
  refine hv_newa (i := nI 8) E (12, i) dX2_init_7 wd_92 rfl (by decide) rfl ⟨by simp, by simp⟩ (by decide) (by decide) (by decide) h1 (Nat.le_of_ble_eq_true rfl) (Nat.le_of_ble_eq_true rfl) ?_
  refine hv_putR (ty := .array .int) (k := 1) E tyX2 okX2 nmX2 dX2_init_9 rfl rfl hiX2 (by decide) wd_142 rfl rfl (Or.inr ⟨rfl, hnm, rfl⟩) (by decide +kernel) (fun _ => rfl) (fun _ => rfl) ?_
  refine hv_aload_n E dX2_init_12 rfl 0 rfl ?_
  refine hv_iconst (v := nI 4) E dX2_init_13 (by decide) ?_
  obtain ⟨h2, h⟩ := h
  refine hv_newa (i := nI 4) E (13, i) dX2_init_14 wd_92 rfl (by decide) rfl ⟨by simp, by simp⟩ (by decide) (by decide) (by decide) h2 (Nat.le_of_ble_eq_true rfl) (Nat.le_of_ble_eq_true rfl) ?_
  refine hv_putR (ty := .array .int) (k := 2) E tyX2 okX2 nmX2 dX2_init_16 rfl rfl hiX2 (by decide) wd_144 rfl rfl (Or.inr ⟨rfl, hnm, rfl⟩) (by decide +kernel) (fun _ => rfl) (fun _ => rfl) ?_
  refine hv_aload_n E dX2_init_19 rfl 0 rfl ?_
  refine hv_bipush (v := nI 8) E dX2_init_20 (by decide) ?_
  obtain ⟨h3, h⟩ := h
  refine hv_newa (i := nI 8) E (14, i) dX2_init_22 wd_91 rfl (by decide) rfl ⟨by simp, by simp⟩ (by decide) (by decide) (by decide) h3 (Nat.le_of_ble_eq_true rfl) (Nat.le_of_ble_eq_true rfl) ?_
  refine hv_putR (ty := .array .long) (k := 3) E tyX2 okX2 nmX2 dX2_init_24 rfl rfl hiX2 (by decide) wd_146 rfl rfl (Or.inr ⟨rfl, hnm, rfl⟩) (by decide +kernel) (fun _ => rfl) (fun _ => rfl) ?_
  refine hv_aload_n E dX2_init_27 rfl 0 rfl ?_
  refine hv_iconst (v := nI 0) E dX2_init_28 (by decide) ?_
  refine hv_putI (ty := .int) (k := 4) E tyX2 okX2 nmX2 dX2_init_29 rfl rfl hiX2 (by decide) wd_147 rfl rfl (Or.inl rfl) (by decide +kernel) rfl rfl ?_
  refine hv_aload_n E dX2_init_32 rfl 0 rfl ?_
  refine hv_iconst (v := nI 0) E dX2_init_33 (by decide) ?_
  refine hv_putI (ty := .int) (k := 5) E tyX2 okX2 nmX2 dX2_init_34 rfl rfl hiX2 (by decide) wd_149 rfl rfl (Or.inl rfl) (by decide +kernel) rfl rfl ?_
  refine hv_aload_n E dX2_init_37 rfl 0 rfl ?_
  refine hv_iconst (v := nI 0) E dX2_init_38 (by decide) ?_
  refine hv_putI (ty := .int) (k := 6) E tyX2 okX2 nmX2 dX2_init_39 rfl rfl hiX2 (by decide) wd_151 rfl rfl (Or.inl rfl) (by decide +kernel) rfl rfl ?_
  refine hv_aload_n E dX2_init_42 rfl 0 rfl ?_
  refine hv_iconst (v := nI 0) E dX2_init_43 (by decide) ?_
  refine hv_putI (ty := .boolean) (k := 7) E tyX2 okX2 nmX2 dX2_init_44 rfl rfl hiX2 (by decide) wd_153 rfl rfl (Or.inl rfl) (by decide +kernel) (by decide) rfl ?_
  refine hv_aload_n E dX2_init_47 rfl 0 rfl ?_
  refine hv_iconst (v := nI 0) E dX2_init_48 (by decide) ?_
  refine hv_putI (ty := .int) (k := 8) E tyX2 okX2 nmX2 dX2_init_49 rfl rfl hiX2 (by decide) wd_154 rfl rfl (Or.inl rfl) (by decide +kernel) rfl rfl ?_
  refine hv_aload_n E dX2_init_52 rfl 0 rfl ?_
  refine hv_iconst (v := nI 0) E dX2_init_53 (by decide) ?_
  refine hv_putI (ty := .int) (k := 9) E tyX2 okX2 nmX2 dX2_init_54 rfl rfl hiX2 (by decide) wd_156 rfl rfl (Or.inl rfl) (by decide +kernel) rfl rfl ?_
  refine hv_aload_n E dX2_init_57 rfl 0 rfl ?_
  refine hv_lconst (v := 0) E dX2_init_58 (by decide) ?_
  refine hv_putL (ty := .long) (k := 10) E tyX2 okX2 nmX2 dX2_init_59 rfl rfl hiX2 (by decide) wd_157 rfl rfl (Or.inl rfl) (by decide +kernel) rfl rfl ?_
  refine hv_aload_n E dX2_init_62 rfl 0 rfl ?_
  refine hv_iload_n E dX2_init_63 rfl 1 rfl ?_
  refine hv_putI (ty := .int) (k := 0) E tyX2 okX2 nmX2 dX2_init_64 rfl rfl hiX2 (by decide) wd_141 rfl rfl (Or.inr ⟨rfl, hnm, rfl⟩) (by decide +kernel) rfl rfl ?_
  exact hv_vret E hret dX2_init_67 (Nat.le_of_ble_eq_true rfl) (Nat.le_of_ble_eq_true rfl) ⟨rfl, h⟩
-- VersionJoins$Step.withAbove(I)I
def k_X2_withAbove (P : Int32 → hp_S → Prop) (i : Nat) (a1 : Int32) (x : hp_S) : Prop := P ((x.2.1 (11, i) 6) ||| ((nI 1) <<< (a1 &&& 31))) x
abbrev rm_X2_withAbove : Room := ({ frames := 0, cells := 0, slots := 0, locals := 0 } : Room)
set_option maxRecDepth 100000 in
set_option maxHeartbeats 4000000 in
theorem c_X2_withAbove (l : Launch) (P : Int32 → hp_S → Prop) (i : Nat) (a1 : Int32) (x : hp_S) (hs : hp_sh x) (h : k_X2_withAbove P i a1 x) : hp_C l yX2_withAbove (Cond.code yX2_withAbove cX2_withAbove 2 (Option.some Jvm.ClassFile.FieldType.int) :: hp_ws) rm_X2_withAbove [aR (11, i), aI a1] x (hp_pI P) 0 0 := by
  refine hp_ofV (own := "VersionJoins$Step") (lv := [(0, aR (11, i)), (1, aI a1)]) (by decide) rfl (Nat.le_of_ble_eq_true rfl) rfl ?_
  intro p e s m args below meth c D cA B0 ad0 E hret hnm
  unfold k_X2_withAbove at h
  refine hv_aload_n E dX2_withAbove_0 rfl 0 rfl ?_
  refine hv_getI (k := 6) E dX2_withAbove_1 rfl rfl hiX2 (by decide) wd_151 rfl rfl ?_
  refine hv_iconst (v := nI 1) E dX2_withAbove_4 (by decide) ?_
  refine hv_iload_n E dX2_withAbove_5 rfl 1 rfl ?_
  refine hv_ishl (v := (nI 1) <<< (a1 &&& 31)) E dX2_withAbove_6 rfl ?_
  refine hv_ior (v := (x.2.1 (11, i) 6) ||| ((nI 1) <<< (a1 &&& 31))) E dX2_withAbove_7 rfl ?_
  exact hv_iret E hret dX2_withAbove_8 (Nat.le_of_ble_eq_true rfl) (Nat.le_of_ble_eq_true rfl) ⟨_, rfl, hs, h⟩
-- VersionJoins$Step.isUsing(I)Z
def k_X2_isUsing_2 (P : Int32 → hp_S → Prop) (i : Nat) (a1 : Int32) : Nat → hp_S → Int32 → Prop
  | 0, _, _ => False
  | n + 1, x, l2 => ((x.2.1 (11, i) 4) ≤ l2 → (P (nI 0) x)) ∧ (¬ (x.2.1 (11, i) 4) ≤ l2 → (vp_in l2 8 ∧ ((¬ (x.2.1 (12, i) l2.toNatClampNeg) = a1 → (k_X2_isUsing_2 P i a1 n x (l2 + nI 1))) ∧ ((x.2.1 (12, i) l2.toNatClampNeg) = a1 → (P (nI 1) x)))))
def k_X2_isUsing (P : Int32 → hp_S → Prop) (i : Nat) (a1 : Int32) (x : hp_S) : Prop := ∃ q, k_X2_isUsing_2 P i a1 q x (nI 0)
abbrev rm_X2_isUsing : Room := ({ frames := 0, cells := 0, slots := 0, locals := 0 } : Room)
set_option maxRecDepth 100000 in
set_option maxHeartbeats 4000000 in
theorem w_X2_isUsing_2 {p : Program} {l : Launch} {e : Env} {s : State} {m : MethodId} {args : Array Value} {below : List Frame} {meth : Method} {c : Code} {D : va_G} {cA : Nat → ClassId} {B0 : Nat} {ad0 : hp_T → Nat} {x0 : hp_S} (E : hp_E p s m args meth c cX2_isUsing 3 "VersionJoins$Step" hp_ws D cA B0) (hret : meth.sig.returnType = (Option.some Jvm.ClassFile.FieldType.boolean)) {P : Int32 → hp_S → Prop} (i : Nat) (a1 : Int32) : ∀ (n : Nat) (x : hp_S) (l2 : Int32), hp_sh x → k_X2_isUsing_2 P i a1 n x l2 → hp_V p l e rm_X2_isUsing s m args below meth c (fun ad0 => MQ below (hp_Q D cA B0 ad0 x0 (hp_pI P)) args s 0 0 (fun q => B0 ≤ q)) D cA B0 3 ad0 x0 0 0 x 2 [(0, aR (11, i)), (1, aI a1), (2, aI l2)] [] := by
  intro n
  induction n with
  | zero => intro x l2 hs h; exact absurd h id
  | succ n ih =>
    intro x l2 hs h
    unfold k_X2_isUsing_2 at h
    refine hv_iload_n E dX2_isUsing_2 rfl 2 rfl ?_
    refine hv_aload_n E dX2_isUsing_3 rfl 0 rfl ?_
    refine hv_getI (k := 4) E dX2_isUsing_4 rfl rfl hiX2 (by decide) wd_147 rfl rfl ?_
    refine hv_icmp_ge (tgt := 28) E dX2_isUsing_7 (by decide) (fun c1 => ?_) (fun c1 => ?_)
    · have h := h.1 c1
      refine hv_iconst (v := nI 0) E dX2_isUsing_28 (by decide) ?_
      exact hv_zret E hret dX2_isUsing_29 (by decide) (Nat.le_of_ble_eq_true rfl) (Nat.le_of_ble_eq_true rfl) ⟨_, rfl, hs, h⟩
    · have h := h.2 c1
      refine hv_aload_n E dX2_isUsing_10 rfl 0 rfl ?_
      refine hv_getR (k := 1) (t2 := (12, i)) E dX2_isUsing_11 rfl rfl hiX2 (by decide) wd_142 rfl rfl (hs _ _ _ rfl) ?_
      refine hv_iload_n E dX2_isUsing_14 rfl 2 rfl ?_
      obtain ⟨h2, h⟩ := h
      refine hv_iald E dX2_isUsing_15 rfl (by decide) rfl h2 ?_
      refine hv_iload_n E dX2_isUsing_16 rfl 1 rfl ?_
      refine hv_icmp_ne (tgt := 22) E dX2_isUsing_17 (by decide) (fun c3 => ?_) (fun c3 => ?_)
      · have h := h.1 c3
        refine hv_iinc (v := l2 + nI 1) (lv' := [(0, aR (11, i)), (1, aI a1)]) E 2 dX2_isUsing_22 rfl (hx_i1 _) (by decide) rfl ?_
        refine hv_goto (tgt := 2) E dX2_isUsing_25 (by decide) ?_
        refine hv_lv [1, 2, 0] rfl ?_
        exact ih x (l2 + nI 1) hs h
      · have h := h.2 c3
        refine hv_iconst (v := nI 1) E dX2_isUsing_20 (by decide) ?_
        exact hv_zret E hret dX2_isUsing_21 (by decide) (Nat.le_of_ble_eq_true rfl) (Nat.le_of_ble_eq_true rfl) ⟨_, rfl, hs, h⟩
set_option maxRecDepth 100000 in
set_option maxHeartbeats 4000000 in
theorem c_X2_isUsing (l : Launch) (P : Int32 → hp_S → Prop) (i : Nat) (a1 : Int32) (x : hp_S) (hs : hp_sh x) (h : k_X2_isUsing P i a1 x) : hp_C l yX2_isUsing (Cond.code yX2_isUsing cX2_isUsing 3 (Option.some Jvm.ClassFile.FieldType.boolean) :: hp_ws) rm_X2_isUsing [aR (11, i), aI a1] x (hp_pI P) 0 0 := by
  refine hp_ofV (own := "VersionJoins$Step") (lv := [(0, aR (11, i)), (1, aI a1)]) (by decide) rfl (Nat.le_of_ble_eq_true rfl) rfl ?_
  intro p e s m args below meth c D cA B0 ad0 E hret hnm
  unfold k_X2_isUsing at h
  refine hv_iconst (v := nI 0) E dX2_isUsing_0 (by decide) ?_
  refine hv_istore_n (lv' := [(0, aR (11, i)), (1, aI a1)]) E dX2_isUsing_1 rfl (by decide) rfl ?_
  obtain ⟨n4, h⟩ := h
  refine hv_lv [1, 2, 0] rfl ?_
  exact w_X2_isUsing_2 E hret i a1 n4 x (nI 0) hs h
-- VersionJoins$Step.hasMade(I)Z
def k_X2_hasMade_2 (P : Int32 → hp_S → Prop) (i : Nat) (a1 : Int32) : Nat → hp_S → Int32 → Prop
  | 0, _, _ => False
  | n + 1, x, l2 => ((x.2.1 (11, i) 9) ≤ l2 → (P (nI 0) x)) ∧ (¬ (x.2.1 (11, i) 9) ≤ l2 → (vp_in l2 4 ∧ ((¬ (x.2.1 (13, i) l2.toNatClampNeg) = a1 → (k_X2_hasMade_2 P i a1 n x (l2 + nI 1))) ∧ ((x.2.1 (13, i) l2.toNatClampNeg) = a1 → (P (nI 1) x)))))
def k_X2_hasMade (P : Int32 → hp_S → Prop) (i : Nat) (a1 : Int32) (x : hp_S) : Prop := ∃ q, k_X2_hasMade_2 P i a1 q x (nI 0)
abbrev rm_X2_hasMade : Room := ({ frames := 0, cells := 0, slots := 0, locals := 0 } : Room)
set_option maxRecDepth 100000 in
set_option maxHeartbeats 4000000 in
theorem w_X2_hasMade_2 {p : Program} {l : Launch} {e : Env} {s : State} {m : MethodId} {args : Array Value} {below : List Frame} {meth : Method} {c : Code} {D : va_G} {cA : Nat → ClassId} {B0 : Nat} {ad0 : hp_T → Nat} {x0 : hp_S} (E : hp_E p s m args meth c cX2_hasMade 3 "VersionJoins$Step" hp_ws D cA B0) (hret : meth.sig.returnType = (Option.some Jvm.ClassFile.FieldType.boolean)) {P : Int32 → hp_S → Prop} (i : Nat) (a1 : Int32) : ∀ (n : Nat) (x : hp_S) (l2 : Int32), hp_sh x → k_X2_hasMade_2 P i a1 n x l2 → hp_V p l e rm_X2_hasMade s m args below meth c (fun ad0 => MQ below (hp_Q D cA B0 ad0 x0 (hp_pI P)) args s 0 0 (fun q => B0 ≤ q)) D cA B0 3 ad0 x0 0 0 x 2 [(0, aR (11, i)), (1, aI a1), (2, aI l2)] [] := by
  intro n
  induction n with
  | zero => intro x l2 hs h; exact absurd h id
  | succ n ih =>
    intro x l2 hs h
    unfold k_X2_hasMade_2 at h
    refine hv_iload_n E dX2_hasMade_2 rfl 2 rfl ?_
    refine hv_aload_n E dX2_hasMade_3 rfl 0 rfl ?_
    refine hv_getI (k := 9) E dX2_hasMade_4 rfl rfl hiX2 (by decide) wd_156 rfl rfl ?_
    refine hv_icmp_ge (tgt := 28) E dX2_hasMade_7 (by decide) (fun c1 => ?_) (fun c1 => ?_)
    · have h := h.1 c1
      refine hv_iconst (v := nI 0) E dX2_hasMade_28 (by decide) ?_
      exact hv_zret E hret dX2_hasMade_29 (by decide) (Nat.le_of_ble_eq_true rfl) (Nat.le_of_ble_eq_true rfl) ⟨_, rfl, hs, h⟩
    · have h := h.2 c1
      refine hv_aload_n E dX2_hasMade_10 rfl 0 rfl ?_
      refine hv_getR (k := 2) (t2 := (13, i)) E dX2_hasMade_11 rfl rfl hiX2 (by decide) wd_144 rfl rfl (hs _ _ _ rfl) ?_
      refine hv_iload_n E dX2_hasMade_14 rfl 2 rfl ?_
      obtain ⟨h2, h⟩ := h
      refine hv_iald E dX2_hasMade_15 rfl (by decide) rfl h2 ?_
      refine hv_iload_n E dX2_hasMade_16 rfl 1 rfl ?_
      refine hv_icmp_ne (tgt := 22) E dX2_hasMade_17 (by decide) (fun c3 => ?_) (fun c3 => ?_)
      · have h := h.1 c3
        refine hv_iinc (v := l2 + nI 1) (lv' := [(0, aR (11, i)), (1, aI a1)]) E 2 dX2_hasMade_22 rfl (hx_i1 _) (by decide) rfl ?_
        refine hv_goto (tgt := 2) E dX2_hasMade_25 (by decide) ?_
        refine hv_lv [1, 2, 0] rfl ?_
        exact ih x (l2 + nI 1) hs h
      · have h := h.2 c3
        refine hv_iconst (v := nI 1) E dX2_hasMade_20 (by decide) ?_
        exact hv_zret E hret dX2_hasMade_21 (by decide) (Nat.le_of_ble_eq_true rfl) (Nat.le_of_ble_eq_true rfl) ⟨_, rfl, hs, h⟩
set_option maxRecDepth 100000 in
set_option maxHeartbeats 4000000 in
theorem c_X2_hasMade (l : Launch) (P : Int32 → hp_S → Prop) (i : Nat) (a1 : Int32) (x : hp_S) (hs : hp_sh x) (h : k_X2_hasMade P i a1 x) : hp_C l yX2_hasMade (Cond.code yX2_hasMade cX2_hasMade 3 (Option.some Jvm.ClassFile.FieldType.boolean) :: hp_ws) rm_X2_hasMade [aR (11, i), aI a1] x (hp_pI P) 0 0 := by
  refine hp_ofV (own := "VersionJoins$Step") (lv := [(0, aR (11, i)), (1, aI a1)]) (by decide) rfl (Nat.le_of_ble_eq_true rfl) rfl ?_
  intro p e s m args below meth c D cA B0 ad0 E hret hnm
  unfold k_X2_hasMade at h
  refine hv_iconst (v := nI 0) E dX2_hasMade_0 (by decide) ?_
  refine hv_istore_n (lv' := [(0, aR (11, i)), (1, aI a1)]) E dX2_hasMade_1 rfl (by decide) rfl ?_
  obtain ⟨n4, h⟩ := h
  refine hv_lv [1, 2, 0] rfl ?_
  exact w_X2_hasMade_2 E hret i a1 n4 x (nI 0) hs h
-- VersionJoins$Step.addUsed(I)V
def k_X2_addUsed (P : hp_S → Prop) (i : Nat) (a1 : Int32) (x : hp_S) : Prop := vp_in (x.2.1 (11, i) 4) 8 ∧ (P (hp_uI (hp_uI x (12, i) ((x.2.1 (11, i) 4).toNatClampNeg) a1) (11, i) 4 (((hp_uI x (12, i) ((x.2.1 (11, i) 4).toNatClampNeg) a1).2.1 (11, i) 4) + (nI 1))))
abbrev rm_X2_addUsed : Room := ({ frames := 0, cells := 0, slots := 0, locals := 0 } : Room)
set_option maxRecDepth 100000 in
set_option maxHeartbeats 4000000 in
theorem c_X2_addUsed (l : Launch) (P : hp_S → Prop) (i : Nat) (a1 : Int32) (x : hp_S) (hs : hp_sh x) (h : k_X2_addUsed P i a1 x) : hp_C l yX2_addUsed (Cond.code yX2_addUsed cX2_addUsed 2 (Option.none : Option Jvm.ClassFile.FieldType) :: hp_ws) rm_X2_addUsed [aR (11, i), aI a1] x (hp_pV P) 0 0 := by
  refine hp_ofV (own := "VersionJoins$Step") (lv := [(0, aR (11, i)), (1, aI a1)]) (by decide) rfl (Nat.le_of_ble_eq_true rfl) rfl ?_
  intro p e s m args below meth c D cA B0 ad0 E hret hnm
  unfold k_X2_addUsed at h
  refine hv_aload_n E dX2_addUsed_0 rfl 0 rfl ?_
  refine hv_getR (k := 1) (t2 := (12, i)) E dX2_addUsed_1 rfl rfl hiX2 (by decide) wd_142 rfl rfl (hs _ _ _ rfl) ?_
  refine hv_aload_n E dX2_addUsed_4 rfl 0 rfl ?_
  refine hv_getI (k := 4) E dX2_addUsed_5 rfl rfl hiX2 (by decide) wd_147 rfl rfl ?_
  refine hv_iload_n E dX2_addUsed_8 rfl 1 rfl ?_
  obtain ⟨h1, h⟩ := h
  refine hv_iast E dX2_addUsed_9 rfl (by decide) rfl h1 ?_
  refine hv_aload_n E dX2_addUsed_10 rfl 0 rfl ?_
  refine hv_dup E dX2_addUsed_11 rfl ?_
  refine hv_getI (k := 4) E dX2_addUsed_12 rfl rfl hiX2 (by decide) wd_147 rfl rfl ?_
  refine hv_iconst (v := nI 1) E dX2_addUsed_15 (by decide) ?_
  refine hv_iadd (v := ((hp_uI x (12, i) ((x.2.1 (11, i) 4).toNatClampNeg) a1).2.1 (11, i) 4) + (nI 1)) E dX2_addUsed_16 rfl ?_
  refine hv_putI (ty := .int) (k := 4) E tyX2 okX2 nmX2 dX2_addUsed_17 rfl rfl hiX2 (by decide) wd_147 rfl rfl (Or.inl rfl) (by decide +kernel) rfl rfl ?_
  exact hv_vret E hret dX2_addUsed_20 (Nat.le_of_ble_eq_true rfl) (Nat.le_of_ble_eq_true rfl) ⟨rfl, hs, h⟩
-- VersionJoins$Step.addMade(I)V
def k_X2_addMade (P : hp_S → Prop) (i : Nat) (a1 : Int32) (x : hp_S) : Prop := vp_in (x.2.1 (11, i) 5) 4 ∧ (P (hp_uI (hp_uI x (13, i) ((x.2.1 (11, i) 5).toNatClampNeg) a1) (11, i) 5 (((hp_uI x (13, i) ((x.2.1 (11, i) 5).toNatClampNeg) a1).2.1 (11, i) 5) + (nI 1))))
abbrev rm_X2_addMade : Room := ({ frames := 0, cells := 0, slots := 0, locals := 0 } : Room)
set_option maxRecDepth 100000 in
set_option maxHeartbeats 4000000 in
theorem c_X2_addMade (l : Launch) (P : hp_S → Prop) (i : Nat) (a1 : Int32) (x : hp_S) (hs : hp_sh x) (h : k_X2_addMade P i a1 x) : hp_C l yX2_addMade (Cond.code yX2_addMade cX2_addMade 2 (Option.none : Option Jvm.ClassFile.FieldType) :: hp_ws) rm_X2_addMade [aR (11, i), aI a1] x (hp_pV P) 0 0 := by
  refine hp_ofV (own := "VersionJoins$Step") (lv := [(0, aR (11, i)), (1, aI a1)]) (by decide) rfl (Nat.le_of_ble_eq_true rfl) rfl ?_
  intro p e s m args below meth c D cA B0 ad0 E hret hnm
  unfold k_X2_addMade at h
  refine hv_aload_n E dX2_addMade_0 rfl 0 rfl ?_
  refine hv_getR (k := 2) (t2 := (13, i)) E dX2_addMade_1 rfl rfl hiX2 (by decide) wd_144 rfl rfl (hs _ _ _ rfl) ?_
  refine hv_aload_n E dX2_addMade_4 rfl 0 rfl ?_
  refine hv_getI (k := 5) E dX2_addMade_5 rfl rfl hiX2 (by decide) wd_149 rfl rfl ?_
  refine hv_iload_n E dX2_addMade_8 rfl 1 rfl ?_
  obtain ⟨h1, h⟩ := h
  refine hv_iast E dX2_addMade_9 rfl (by decide) rfl h1 ?_
  refine hv_aload_n E dX2_addMade_10 rfl 0 rfl ?_
  refine hv_dup E dX2_addMade_11 rfl ?_
  refine hv_getI (k := 5) E dX2_addMade_12 rfl rfl hiX2 (by decide) wd_149 rfl rfl ?_
  refine hv_iconst (v := nI 1) E dX2_addMade_15 (by decide) ?_
  refine hv_iadd (v := ((hp_uI x (13, i) ((x.2.1 (11, i) 5).toNatClampNeg) a1).2.1 (11, i) 5) + (nI 1)) E dX2_addMade_16 rfl ?_
  refine hv_putI (ty := .int) (k := 5) E tyX2 okX2 nmX2 dX2_addMade_17 rfl rfl hiX2 (by decide) wd_149 rfl rfl (Or.inl rfl) (by decide +kernel) rfl rfl ?_
  exact hv_vret E hret dX2_addMade_20 (Nat.le_of_ble_eq_true rfl) (Nat.le_of_ble_eq_true rfl) ⟨rfl, hs, h⟩
-- VersionJoins$Step.isOutdated([J)Z
def k_X2_isOutdated_69 (P : Int32 → hp_S → Prop) (i : Nat) (K : hp_S → Int32 → Prop) : Nat → hp_S → Int32 → Prop
  | 0, _, _ => False
  | n + 1, x, l2 => ((x.2.1 (11, i) 5) ≤ l2 → (K x l2)) ∧ (¬ (x.2.1 (11, i) 5) ≤ l2 → (vp_in l2 4 ∧ (vp_in (x.2.1 (13, i) l2.toNatClampNeg) 24 ∧ (((lg_cmp (x.2.2.1 (2, 0) (x.2.1 (13, i) l2.toNatClampNeg).toNatClampNeg) (x.2.2.1 (11, i) 10)) = 0 → (k_X2_isOutdated_69 P i K n x (l2 + nI 1))) ∧ (¬ (lg_cmp (x.2.2.1 (2, 0) (x.2.1 (13, i) l2.toNatClampNeg).toNatClampNeg) (x.2.2.1 (11, i) 10)) = 0 → (P (nI 1) x))))))
def k_X2_isOutdated_33 (P : Int32 → hp_S → Prop) (i : Nat) : Nat → hp_S → Int32 → Prop
  | 0, _, _ => False
  | n + 1, x, l2 => ((x.2.1 (11, i) 4) ≤ l2 → (∃ q, k_X2_isOutdated_69 P i (fun x_69 l2_69 => P (nI 0) x_69) q x (nI 0))) ∧ (¬ (x.2.1 (11, i) 4) ≤ l2 → (vp_in l2 8 ∧ (vp_in (x.2.1 (12, i) l2.toNatClampNeg) 24 ∧ (vp_in l2 8 ∧ (((lg_cmp (x.2.2.1 (2, 0) (x.2.1 (12, i) l2.toNatClampNeg).toNatClampNeg) (x.2.2.1 (14, i) l2.toNatClampNeg)) = 0 → (k_X2_isOutdated_33 P i n x (l2 + nI 1))) ∧ (¬ (lg_cmp (x.2.2.1 (2, 0) (x.2.1 (12, i) l2.toNatClampNeg).toNatClampNeg) (x.2.2.1 (14, i) l2.toNatClampNeg)) = 0 → (P (nI 1) x)))))))
def k_X2_isOutdated (P : Int32 → hp_S → Prop) (i : Nat) (x : hp_S) : Prop := ((x.2.1 (11, i) 7) = 0 → (P (nI 1) x)) ∧ (¬ (x.2.1 (11, i) 7) = 0 → ((¬ (x.2.1 (11, i) 4) = (x.2.1 (11, i) 8) → (P (nI 1) x)) ∧ ((x.2.1 (11, i) 4) = (x.2.1 (11, i) 8) → (((x.2.1 (11, i) 5) = (x.2.1 (11, i) 9) → (∃ q, k_X2_isOutdated_33 P i q x (nI 0))) ∧ (¬ (x.2.1 (11, i) 5) = (x.2.1 (11, i) 9) → (P (nI 1) x))))))
abbrev rm_X2_isOutdated : Room := ({ frames := 0, cells := 0, slots := 0, locals := 0 } : Room)
set_option maxRecDepth 100000 in
set_option maxHeartbeats 4000000 in
theorem w_X2_isOutdated_69 {p : Program} {l : Launch} {e : Env} {s : State} {m : MethodId} {args : Array Value} {below : List Frame} {meth : Method} {c : Code} {D : va_G} {cA : Nat → ClassId} {B0 : Nat} {ad0 : hp_T → Nat} {x0 : hp_S} (E : hp_E p s m args meth c cX2_isOutdated 3 "VersionJoins$Step" hp_ws D cA B0) (hret : meth.sig.returnType = (Option.some Jvm.ClassFile.FieldType.boolean)) {P : Int32 → hp_S → Prop} (i : Nat) {K : hp_S → Int32 → Prop} (hK : ∀ (x : hp_S) (l2 : Int32), hp_sh x → K x l2 → hp_V p l e rm_X2_isOutdated s m args below meth c (fun ad0 => MQ below (hp_Q D cA B0 ad0 x0 (hp_pI P)) args s 0 0 (fun q => B0 ≤ q)) D cA B0 3 ad0 x0 0 0 x 101 [(0, aR (11, i)), (1, aR (2, 0)), (2, aI l2)] []) : ∀ (n : Nat) (x : hp_S) (l2 : Int32), hp_sh x → k_X2_isOutdated_69 P i K n x l2 → hp_V p l e rm_X2_isOutdated s m args below meth c (fun ad0 => MQ below (hp_Q D cA B0 ad0 x0 (hp_pI P)) args s 0 0 (fun q => B0 ≤ q)) D cA B0 3 ad0 x0 0 0 x 69 [(0, aR (11, i)), (1, aR (2, 0)), (2, aI l2)] [] := by
  intro n
  induction n with
  | zero => intro x l2 hs h; exact absurd h id
  | succ n ih =>
    intro x l2 hs h
    unfold k_X2_isOutdated_69 at h
    refine hv_iload_n E dX2_isOutdated_69 rfl 2 rfl ?_
    refine hv_aload_n E dX2_isOutdated_70 rfl 0 rfl ?_
    refine hv_getI (k := 5) E dX2_isOutdated_71 rfl rfl hiX2 (by decide) wd_149 rfl rfl ?_
    refine hv_icmp_ge (tgt := 101) E dX2_isOutdated_74 (by decide) (fun c5 => ?_) (fun c5 => ?_)
    · have h := h.1 c5
      refine hv_lv [0, 1, 2] rfl ?_
      exact hK x l2 hs h
    · have h := h.2 c5
      refine hv_aload_n E dX2_isOutdated_77 rfl 1 rfl ?_
      refine hv_aload_n E dX2_isOutdated_78 rfl 0 rfl ?_
      refine hv_getR (k := 2) (t2 := (13, i)) E dX2_isOutdated_79 rfl rfl hiX2 (by decide) wd_144 rfl rfl (hs _ _ _ rfl) ?_
      refine hv_iload_n E dX2_isOutdated_82 rfl 2 rfl ?_
      obtain ⟨h6, h⟩ := h
      refine hv_iald E dX2_isOutdated_83 rfl (by decide) rfl h6 ?_
      obtain ⟨h7, h⟩ := h
      refine hv_lald E dX2_isOutdated_84 rfl (by decide) rfl h7 ?_
      refine hv_aload_n E dX2_isOutdated_85 rfl 0 rfl ?_
      refine hv_getL (k := 10) E dX2_isOutdated_86 rfl rfl hiX2 (by decide) wd_157 rfl rfl ?_
      refine hv_lcmp E dX2_isOutdated_89 ?_
      refine hv_if_eq (tgt := 95) E dX2_isOutdated_90 (by decide) (fun c8 => ?_) (fun c8 => ?_)
      · have h := h.1 c8
        refine hv_iinc (v := l2 + nI 1) (lv' := [(0, aR (11, i)), (1, aR (2, 0))]) E 2 dX2_isOutdated_95 rfl (hx_i1 _) (by decide) rfl ?_
        refine hv_goto (tgt := 69) E dX2_isOutdated_98 (by decide) ?_
        refine hv_lv [1, 2, 0] rfl ?_
        exact ih x (l2 + nI 1) hs h
      · have h := h.2 c8
        refine hv_iconst (v := nI 1) E dX2_isOutdated_93 (by decide) ?_
        exact hv_zret E hret dX2_isOutdated_94 (by decide) (Nat.le_of_ble_eq_true rfl) (Nat.le_of_ble_eq_true rfl) ⟨_, rfl, hs, h⟩
set_option maxRecDepth 100000 in
set_option maxHeartbeats 4000000 in
theorem w_X2_isOutdated_33 {p : Program} {l : Launch} {e : Env} {s : State} {m : MethodId} {args : Array Value} {below : List Frame} {meth : Method} {c : Code} {D : va_G} {cA : Nat → ClassId} {B0 : Nat} {ad0 : hp_T → Nat} {x0 : hp_S} (E : hp_E p s m args meth c cX2_isOutdated 3 "VersionJoins$Step" hp_ws D cA B0) (hret : meth.sig.returnType = (Option.some Jvm.ClassFile.FieldType.boolean)) {P : Int32 → hp_S → Prop} (i : Nat) : ∀ (n : Nat) (x : hp_S) (l2 : Int32), hp_sh x → k_X2_isOutdated_33 P i n x l2 → hp_V p l e rm_X2_isOutdated s m args below meth c (fun ad0 => MQ below (hp_Q D cA B0 ad0 x0 (hp_pI P)) args s 0 0 (fun q => B0 ≤ q)) D cA B0 3 ad0 x0 0 0 x 33 [(0, aR (11, i)), (1, aR (2, 0)), (2, aI l2)] [] := by
  intro n
  induction n with
  | zero => intro x l2 hs h; exact absurd h id
  | succ n ih =>
    intro x l2 hs h
    unfold k_X2_isOutdated_33 at h
    refine hv_iload_n E dX2_isOutdated_33 rfl 2 rfl ?_
    refine hv_aload_n E dX2_isOutdated_34 rfl 0 rfl ?_
    refine hv_getI (k := 4) E dX2_isOutdated_35 rfl rfl hiX2 (by decide) wd_147 rfl rfl ?_
    refine hv_icmp_ge (tgt := 67) E dX2_isOutdated_38 (by decide) (fun c4 => ?_) (fun c4 => ?_)
    · have h := h.1 c4
      refine hv_iconst (v := nI 0) E dX2_isOutdated_67 (by decide) ?_
      refine hv_istore_n (lv' := [(0, aR (11, i)), (1, aR (2, 0))]) E dX2_isOutdated_68 rfl (by decide) rfl ?_
      obtain ⟨n9, h⟩ := h
      refine hv_lv [1, 2, 0] rfl ?_
      refine w_X2_isOutdated_69 E hret i (K := _) (fun x_69 l2_69 hs h => ?_) n9 x (nI 0) hs h
      refine hv_iconst (v := nI 0) E dX2_isOutdated_101 (by decide) ?_
      exact hv_zret E hret dX2_isOutdated_102 (by decide) (Nat.le_of_ble_eq_true rfl) (Nat.le_of_ble_eq_true rfl) ⟨_, rfl, hs, h⟩
    · have h := h.2 c4
      refine hv_aload_n E dX2_isOutdated_41 rfl 1 rfl ?_
      refine hv_aload_n E dX2_isOutdated_42 rfl 0 rfl ?_
      refine hv_getR (k := 1) (t2 := (12, i)) E dX2_isOutdated_43 rfl rfl hiX2 (by decide) wd_142 rfl rfl (hs _ _ _ rfl) ?_
      refine hv_iload_n E dX2_isOutdated_46 rfl 2 rfl ?_
      obtain ⟨h10, h⟩ := h
      refine hv_iald E dX2_isOutdated_47 rfl (by decide) rfl h10 ?_
      obtain ⟨h11, h⟩ := h
      refine hv_lald E dX2_isOutdated_48 rfl (by decide) rfl h11 ?_
      refine hv_aload_n E dX2_isOutdated_49 rfl 0 rfl ?_
      refine hv_getR (k := 3) (t2 := (14, i)) E dX2_isOutdated_50 rfl rfl hiX2 (by decide) wd_146 rfl rfl (hs _ _ _ rfl) ?_
      refine hv_iload_n E dX2_isOutdated_53 rfl 2 rfl ?_
      obtain ⟨h12, h⟩ := h
      refine hv_lald E dX2_isOutdated_54 rfl (by decide) rfl h12 ?_
      refine hv_lcmp E dX2_isOutdated_55 ?_
      refine hv_if_eq (tgt := 61) E dX2_isOutdated_56 (by decide) (fun c13 => ?_) (fun c13 => ?_)
      · have h := h.1 c13
        refine hv_iinc (v := l2 + nI 1) (lv' := [(0, aR (11, i)), (1, aR (2, 0))]) E 2 dX2_isOutdated_61 rfl (hx_i1 _) (by decide) rfl ?_
        refine hv_goto (tgt := 33) E dX2_isOutdated_64 (by decide) ?_
        refine hv_lv [1, 2, 0] rfl ?_
        exact ih x (l2 + nI 1) hs h
      · have h := h.2 c13
        refine hv_iconst (v := nI 1) E dX2_isOutdated_59 (by decide) ?_
        exact hv_zret E hret dX2_isOutdated_60 (by decide) (Nat.le_of_ble_eq_true rfl) (Nat.le_of_ble_eq_true rfl) ⟨_, rfl, hs, h⟩
set_option maxRecDepth 100000 in
set_option maxHeartbeats 4000000 in
theorem c_X2_isOutdated (l : Launch) (P : Int32 → hp_S → Prop) (i : Nat) (x : hp_S) (hs : hp_sh x) (h : k_X2_isOutdated P i x) : hp_C l yX2_isOutdated (Cond.code yX2_isOutdated cX2_isOutdated 3 (Option.some Jvm.ClassFile.FieldType.boolean) :: hp_ws) rm_X2_isOutdated [aR (11, i), aR (2, 0)] x (hp_pI P) 0 0 := by
  refine hp_ofV (own := "VersionJoins$Step") (lv := [(0, aR (11, i)), (1, aR (2, 0))]) (by decide) rfl (Nat.le_of_ble_eq_true rfl) rfl ?_
  intro p e s m args below meth c D cA B0 ad0 E hret hnm
  unfold k_X2_isOutdated at h
  refine hv_aload_n E dX2_isOutdated_0 rfl 0 rfl ?_
  refine hv_getI (k := 7) E dX2_isOutdated_1 rfl rfl hiX2 (by decide) wd_153 rfl rfl ?_
  refine hv_if_eq (tgt := 29) E dX2_isOutdated_4 (by decide) (fun c1 => ?_) (fun c1 => ?_)
  · have h := h.1 c1
    refine hv_iconst (v := nI 1) E dX2_isOutdated_29 (by decide) ?_
    exact hv_zret E hret dX2_isOutdated_30 (by decide) (Nat.le_of_ble_eq_true rfl) (Nat.le_of_ble_eq_true rfl) ⟨_, rfl, hs, h⟩
  · have h := h.2 c1
    refine hv_aload_n E dX2_isOutdated_7 rfl 0 rfl ?_
    refine hv_getI (k := 4) E dX2_isOutdated_8 rfl rfl hiX2 (by decide) wd_147 rfl rfl ?_
    refine hv_aload_n E dX2_isOutdated_11 rfl 0 rfl ?_
    refine hv_getI (k := 8) E dX2_isOutdated_12 rfl rfl hiX2 (by decide) wd_154 rfl rfl ?_
    refine hv_icmp_ne (tgt := 29) E dX2_isOutdated_15 (by decide) (fun c2 => ?_) (fun c2 => ?_)
    · have h := h.1 c2
      refine hv_iconst (v := nI 1) E dX2_isOutdated_29 (by decide) ?_
      exact hv_zret E hret dX2_isOutdated_30 (by decide) (Nat.le_of_ble_eq_true rfl) (Nat.le_of_ble_eq_true rfl) ⟨_, rfl, hs, h⟩
    · have h := h.2 c2
      refine hv_aload_n E dX2_isOutdated_18 rfl 0 rfl ?_
      refine hv_getI (k := 5) E dX2_isOutdated_19 rfl rfl hiX2 (by decide) wd_149 rfl rfl ?_
      refine hv_aload_n E dX2_isOutdated_22 rfl 0 rfl ?_
      refine hv_getI (k := 9) E dX2_isOutdated_23 rfl rfl hiX2 (by decide) wd_156 rfl rfl ?_
      refine hv_icmp_eq (tgt := 31) E dX2_isOutdated_26 (by decide) (fun c3 => ?_) (fun c3 => ?_)
      · have h := h.1 c3
        refine hv_iconst (v := nI 0) E dX2_isOutdated_31 (by decide) ?_
        refine hv_istore_n (lv' := [(0, aR (11, i)), (1, aR (2, 0))]) E dX2_isOutdated_32 rfl (by decide) rfl ?_
        obtain ⟨n14, h⟩ := h
        refine hv_lv [1, 2, 0] rfl ?_
        exact w_X2_isOutdated_33 E hret i n14 x (nI 0) hs h
      · have h := h.2 c3
        refine hv_iconst (v := nI 1) E dX2_isOutdated_29 (by decide) ?_
        exact hv_zret E hret dX2_isOutdated_30 (by decide) (Nat.le_of_ble_eq_true rfl) (Nat.le_of_ble_eq_true rfl) ⟨_, rfl, hs, h⟩
-- VersionJoins$Step.sum()J
def k_X2_sum_4 (P : Int64 → hp_S → Prop) (i : Nat) : Nat → hp_S → Int64 → Int32 → Prop
  | 0, _, _, _ => False
  | n + 1, x, l1, l3 => ((x.2.1 (11, i) 8) ≤ l3 → (P l1 x)) ∧ (¬ (x.2.1 (11, i) 8) ≤ l3 → (vp_in l3 8 ∧ (k_X2_sum_4 P i n x (l1 + (x.2.2.1 (14, i) l3.toNatClampNeg)) (l3 + nI 1))))
def k_X2_sum (P : Int64 → hp_S → Prop) (i : Nat) (x : hp_S) : Prop := ∃ q, k_X2_sum_4 P i q x 0 (nI 0)
abbrev rm_X2_sum : Room := ({ frames := 0, cells := 0, slots := 0, locals := 0 } : Room)
set_option maxRecDepth 100000 in
set_option maxHeartbeats 4000000 in
theorem w_X2_sum_4 {p : Program} {l : Launch} {e : Env} {s : State} {m : MethodId} {args : Array Value} {below : List Frame} {meth : Method} {c : Code} {D : va_G} {cA : Nat → ClassId} {B0 : Nat} {ad0 : hp_T → Nat} {x0 : hp_S} (E : hp_E p s m args meth c cX2_sum 4 "VersionJoins$Step" hp_ws D cA B0) (hret : meth.sig.returnType = (Option.some Jvm.ClassFile.FieldType.long)) {P : Int64 → hp_S → Prop} (i : Nat) : ∀ (n : Nat) (x : hp_S) (l1 : Int64) (l3 : Int32), hp_sh x → k_X2_sum_4 P i n x l1 l3 → hp_V p l e rm_X2_sum s m args below meth c (fun ad0 => MQ below (hp_Q D cA B0 ad0 x0 (hp_pL P)) args s 0 0 (fun q => B0 ≤ q)) D cA B0 4 ad0 x0 0 0 x 4 [(0, aR (11, i)), (1, aL l1), (3, aI l3)] [] := by
  intro n
  induction n with
  | zero => intro x l1 l3 hs h; exact absurd h id
  | succ n ih =>
    intro x l1 l3 hs h
    unfold k_X2_sum_4 at h
    refine hv_iload_n E dX2_sum_4 rfl 2 rfl ?_
    refine hv_aload_n E dX2_sum_5 rfl 0 rfl ?_
    refine hv_getI (k := 8) E dX2_sum_6 rfl rfl hiX2 (by decide) wd_154 rfl rfl ?_
    refine hv_icmp_ge (tgt := 27) E dX2_sum_9 (by decide) (fun c1 => ?_) (fun c1 => ?_)
    · have h := h.1 c1
      refine hv_lload_n E dX2_sum_27 rfl 1 rfl ?_
      exact hv_lret E hret dX2_sum_28 (Nat.le_of_ble_eq_true rfl) (Nat.le_of_ble_eq_true rfl) ⟨_, rfl, hs, h⟩
    · have h := h.2 c1
      refine hv_lload_n E dX2_sum_12 rfl 1 rfl ?_
      refine hv_aload_n E dX2_sum_13 rfl 0 rfl ?_
      refine hv_getR (k := 3) (t2 := (14, i)) E dX2_sum_14 rfl rfl hiX2 (by decide) wd_146 rfl rfl (hs _ _ _ rfl) ?_
      refine hv_iload_n E dX2_sum_17 rfl 2 rfl ?_
      obtain ⟨h2, h⟩ := h
      refine hv_lald E dX2_sum_18 rfl (by decide) rfl h2 ?_
      refine hv_ladd (v := l1 + (x.2.2.1 (14, i) l3.toNatClampNeg)) E dX2_sum_19 rfl ?_
      refine hv_lstore_n (lv' := [(0, aR (11, i)), (3, aI l3)]) E dX2_sum_20 rfl (by decide) rfl ?_
      refine hv_iinc (v := l3 + nI 1) (lv' := [(1, aL (l1 + (x.2.2.1 (14, i) l3.toNatClampNeg))), (0, aR (11, i))]) E 2 dX2_sum_21 rfl (hx_i1 _) (by decide) rfl ?_
      refine hv_goto (tgt := 4) E dX2_sum_24 (by decide) ?_
      refine hv_lv [2, 1, 0] rfl ?_
      exact ih x (l1 + (x.2.2.1 (14, i) l3.toNatClampNeg)) (l3 + nI 1) hs h
set_option maxRecDepth 100000 in
set_option maxHeartbeats 4000000 in
theorem c_X2_sum (l : Launch) (P : Int64 → hp_S → Prop) (i : Nat) (x : hp_S) (hs : hp_sh x) (h : k_X2_sum P i x) : hp_C l yX2_sum (Cond.code yX2_sum cX2_sum 4 (Option.some Jvm.ClassFile.FieldType.long) :: hp_ws) rm_X2_sum [aR (11, i)] x (hp_pL P) 0 0 := by
  refine hp_ofV (own := "VersionJoins$Step") (lv := [(0, aR (11, i))]) (by decide) rfl (Nat.le_of_ble_eq_true rfl) rfl ?_
  intro p e s m args below meth c D cA B0 ad0 E hret hnm
  unfold k_X2_sum at h
  refine hv_lconst (v := 0) E dX2_sum_0 (by decide) ?_
  refine hv_lstore_n (lv' := [(0, aR (11, i))]) E dX2_sum_1 rfl (by decide) rfl ?_
  refine hv_iconst (v := nI 0) E dX2_sum_2 (by decide) ?_
  refine hv_istore_n (lv' := [(1, aL 0), (0, aR (11, i))]) E dX2_sum_3 rfl (by decide) rfl ?_
  obtain ⟨n3, h⟩ := h
  refine hv_lv [2, 1, 0] rfl ?_
  exact w_X2_sum_4 E hret i n3 x 0 (nI 0) hs h
-- VersionJoins$Step.greatest()J
def k_X2_greatest_20 (P : Int64 → hp_S → Prop) (i : Nat) : Nat → hp_S → Int64 → Int32 → Prop
  | 0, _, _, _ => False
  | n + 1, x, l1, l3 => ((x.2.1 (11, i) 8) ≤ l3 → (P l1 x)) ∧ (¬ (x.2.1 (11, i) 8) ≤ l3 → (vp_in l3 8 ∧ (k_X2_greatest_20 P i n x (if (x.2.2.1 (14, i) l3.toNatClampNeg) < l1 then l1 else (x.2.2.1 (14, i) l3.toNatClampNeg)) (l3 + nI 1))))
def k_X2_greatest (P : Int64 → hp_S → Prop) (i : Nat) (x : hp_S) : Prop := ((x.2.1 (11, i) 8) ≤ 0 → (∃ q, k_X2_greatest_20 P i q x 0 (nI 1))) ∧ (¬ (x.2.1 (11, i) 8) ≤ 0 → (vp_in (nI 0) 8 ∧ (∃ q, k_X2_greatest_20 P i q x (x.2.2.1 (14, i) (nI 0).toNatClampNeg) (nI 1))))
abbrev rm_X2_greatest : Room := ({ frames := 1, cells := 0, slots := 0, locals := 30 } : Room)
set_option maxRecDepth 100000 in
set_option maxHeartbeats 4000000 in
theorem w_X2_greatest_20 {p : Program} {l : Launch} {e : Env} {s : State} {m : MethodId} {args : Array Value} {below : List Frame} {meth : Method} {c : Code} {D : va_G} {cA : Nat → ClassId} {B0 : Nat} {ad0 : hp_T → Nat} {x0 : hp_S} (E : hp_E p s m args meth c cX2_greatest 4 "VersionJoins$Step" hp_ws D cA B0) (hret : meth.sig.returnType = (Option.some Jvm.ClassFile.FieldType.long)) {P : Int64 → hp_S → Prop} (i : Nat) : ∀ (n : Nat) (x : hp_S) (l1 : Int64) (l3 : Int32), hp_sh x → k_X2_greatest_20 P i n x l1 l3 → hp_V p l e rm_X2_greatest s m args below meth c (fun ad0 => MQ below (hp_Q D cA B0 ad0 x0 (hp_pL P)) args s 0 0 (fun q => B0 ≤ q)) D cA B0 4 ad0 x0 0 0 x 20 [(0, aR (11, i)), (1, aL l1), (3, aI l3)] [] := by
  intro n
  induction n with
  | zero => intro x l1 l3 hs h; exact absurd h id
  | succ n ih =>
    intro x l1 l3 hs h
    unfold k_X2_greatest_20 at h
    refine hv_iload_n E dX2_greatest_20 rfl 2 rfl ?_
    refine hv_aload_n E dX2_greatest_21 rfl 0 rfl ?_
    refine hv_getI (k := 8) E dX2_greatest_22 rfl rfl hiX2 (by decide) wd_154 rfl rfl ?_
    refine hv_icmp_ge (tgt := 45) E dX2_greatest_25 (by decide) (fun c2 => ?_) (fun c2 => ?_)
    · have h := h.1 c2
      refine hv_lload_n E dX2_greatest_45 rfl 1 rfl ?_
      exact hv_lret E hret dX2_greatest_46 (Nat.le_of_ble_eq_true rfl) (Nat.le_of_ble_eq_true rfl) ⟨_, rfl, hs, h⟩
    · have h := h.2 c2
      refine hv_lload_n E dX2_greatest_28 rfl 1 rfl ?_
      refine hv_aload_n E dX2_greatest_29 rfl 0 rfl ?_
      refine hv_getR (k := 3) (t2 := (14, i)) E dX2_greatest_30 rfl rfl hiX2 (by decide) wd_146 rfl rfl (hs _ _ _ rfl) ?_
      refine hv_iload_n E dX2_greatest_33 rfl 2 rfl ?_
      obtain ⟨h3, h⟩ := h
      refine hv_lald E dX2_greatest_34 rfl (by decide) rfl h3 ?_
      refine hv_maxl E dX2_greatest_35 wd_381 wd_382 wd_45 wd_383 (Nat.le_of_ble_eq_true rfl) (Nat.le_of_ble_eq_true rfl) (Nat.le_of_ble_eq_true rfl) (Nat.le_of_ble_eq_true rfl) ?_
      refine hv_lstore_n (lv' := [(0, aR (11, i)), (3, aI l3)]) E dX2_greatest_38 rfl (by decide) rfl ?_
      refine hv_iinc (v := l3 + nI 1) (lv' := [(1, aL (if (x.2.2.1 (14, i) l3.toNatClampNeg) < l1 then l1 else (x.2.2.1 (14, i) l3.toNatClampNeg))), (0, aR (11, i))]) E 2 dX2_greatest_39 rfl (hx_i1 _) (by decide) rfl ?_
      refine hv_goto (tgt := 20) E dX2_greatest_42 (by decide) ?_
      refine hv_lv [2, 1, 0] rfl ?_
      exact ih x (if (x.2.2.1 (14, i) l3.toNatClampNeg) < l1 then l1 else (x.2.2.1 (14, i) l3.toNatClampNeg)) (l3 + nI 1) hs h
set_option maxRecDepth 100000 in
set_option maxHeartbeats 4000000 in
theorem c_X2_greatest (l : Launch) (P : Int64 → hp_S → Prop) (i : Nat) (x : hp_S) (hs : hp_sh x) (h : k_X2_greatest P i x) : hp_C l yX2_greatest (Cond.code yX2_greatest cX2_greatest 4 (Option.some Jvm.ClassFile.FieldType.long) :: hp_ws) rm_X2_greatest [aR (11, i)] x (hp_pL P) 0 0 := by
  refine hp_ofV (own := "VersionJoins$Step") (lv := [(0, aR (11, i))]) (by decide) rfl (Nat.le_of_ble_eq_true rfl) rfl ?_
  intro p e s m args below meth c D cA B0 ad0 E hret hnm
  unfold k_X2_greatest at h
  refine hv_aload_n E dX2_greatest_0 rfl 0 rfl ?_
  refine hv_getI (k := 8) E dX2_greatest_1 rfl rfl hiX2 (by decide) wd_154 rfl rfl ?_
  refine hv_if_le (tgt := 16) E dX2_greatest_4 (by decide) (fun c1 => ?_) (fun c1 => ?_)
  · have h := h.1 c1
    refine hv_lconst (v := 0) E dX2_greatest_16 (by decide) ?_
    refine hv_lstore_n (lv' := [(0, aR (11, i))]) E dX2_greatest_17 rfl (by decide) rfl ?_
    refine hv_iconst (v := nI 1) E dX2_greatest_18 (by decide) ?_
    refine hv_istore_n (lv' := [(1, aL 0), (0, aR (11, i))]) E dX2_greatest_19 rfl (by decide) rfl ?_
    obtain ⟨n4, h⟩ := h
    refine hv_lv [2, 1, 0] rfl ?_
    exact w_X2_greatest_20 E hret i n4 x 0 (nI 1) hs h
  · have h := h.2 c1
    refine hv_aload_n E dX2_greatest_7 rfl 0 rfl ?_
    refine hv_getR (k := 3) (t2 := (14, i)) E dX2_greatest_8 rfl rfl hiX2 (by decide) wd_146 rfl rfl (hs _ _ _ rfl) ?_
    refine hv_iconst (v := nI 0) E dX2_greatest_11 (by decide) ?_
    obtain ⟨h5, h⟩ := h
    refine hv_lald E dX2_greatest_12 rfl (by decide) rfl h5 ?_
    refine hv_goto (tgt := 17) E dX2_greatest_13 (by decide) ?_
    refine hv_lstore_n (lv' := [(0, aR (11, i))]) E dX2_greatest_17 rfl (by decide) rfl ?_
    refine hv_iconst (v := nI 1) E dX2_greatest_18 (by decide) ?_
    refine hv_istore_n (lv' := [(1, aL (x.2.2.1 (14, i) (nI 0).toNatClampNeg)), (0, aR (11, i))]) E dX2_greatest_19 rfl (by decide) rfl ?_
    obtain ⟨n6, h⟩ := h
    refine hv_lv [2, 1, 0] rfl ?_
    exact w_X2_greatest_20 E hret i n6 x (x.2.2.1 (14, i) (nI 0).toNatClampNeg) (nI 1) hs h
-- VersionJoins$Step.exclusiveOr()J
def k_X2_exclusiveOr_4 (P : Int64 → hp_S → Prop) (i : Nat) : Nat → hp_S → Int64 → Int32 → Prop
  | 0, _, _, _ => False
  | n + 1, x, l1, l3 => ((x.2.1 (11, i) 8) ≤ l3 → (P l1 x)) ∧ (¬ (x.2.1 (11, i) 8) ≤ l3 → (vp_in l3 8 ∧ (k_X2_exclusiveOr_4 P i n x (l1 ^^^ (x.2.2.1 (14, i) l3.toNatClampNeg)) (l3 + nI 1))))
def k_X2_exclusiveOr (P : Int64 → hp_S → Prop) (i : Nat) (x : hp_S) : Prop := ∃ q, k_X2_exclusiveOr_4 P i q x 0 (nI 0)
abbrev rm_X2_exclusiveOr : Room := ({ frames := 0, cells := 0, slots := 0, locals := 0 } : Room)
set_option maxRecDepth 100000 in
set_option maxHeartbeats 4000000 in
theorem w_X2_exclusiveOr_4 {p : Program} {l : Launch} {e : Env} {s : State} {m : MethodId} {args : Array Value} {below : List Frame} {meth : Method} {c : Code} {D : va_G} {cA : Nat → ClassId} {B0 : Nat} {ad0 : hp_T → Nat} {x0 : hp_S} (E : hp_E p s m args meth c cX2_exclusiveOr 4 "VersionJoins$Step" hp_ws D cA B0) (hret : meth.sig.returnType = (Option.some Jvm.ClassFile.FieldType.long)) {P : Int64 → hp_S → Prop} (i : Nat) : ∀ (n : Nat) (x : hp_S) (l1 : Int64) (l3 : Int32), hp_sh x → k_X2_exclusiveOr_4 P i n x l1 l3 → hp_V p l e rm_X2_exclusiveOr s m args below meth c (fun ad0 => MQ below (hp_Q D cA B0 ad0 x0 (hp_pL P)) args s 0 0 (fun q => B0 ≤ q)) D cA B0 4 ad0 x0 0 0 x 4 [(0, aR (11, i)), (1, aL l1), (3, aI l3)] [] := by
  intro n
  induction n with
  | zero => intro x l1 l3 hs h; exact absurd h id
  | succ n ih =>
    intro x l1 l3 hs h
    unfold k_X2_exclusiveOr_4 at h
    refine hv_iload_n E dX2_exclusiveOr_4 rfl 2 rfl ?_
    refine hv_aload_n E dX2_exclusiveOr_5 rfl 0 rfl ?_
    refine hv_getI (k := 8) E dX2_exclusiveOr_6 rfl rfl hiX2 (by decide) wd_154 rfl rfl ?_
    refine hv_icmp_ge (tgt := 27) E dX2_exclusiveOr_9 (by decide) (fun c1 => ?_) (fun c1 => ?_)
    · have h := h.1 c1
      refine hv_lload_n E dX2_exclusiveOr_27 rfl 1 rfl ?_
      exact hv_lret E hret dX2_exclusiveOr_28 (Nat.le_of_ble_eq_true rfl) (Nat.le_of_ble_eq_true rfl) ⟨_, rfl, hs, h⟩
    · have h := h.2 c1
      refine hv_lload_n E dX2_exclusiveOr_12 rfl 1 rfl ?_
      refine hv_aload_n E dX2_exclusiveOr_13 rfl 0 rfl ?_
      refine hv_getR (k := 3) (t2 := (14, i)) E dX2_exclusiveOr_14 rfl rfl hiX2 (by decide) wd_146 rfl rfl (hs _ _ _ rfl) ?_
      refine hv_iload_n E dX2_exclusiveOr_17 rfl 2 rfl ?_
      obtain ⟨h2, h⟩ := h
      refine hv_lald E dX2_exclusiveOr_18 rfl (by decide) rfl h2 ?_
      refine hv_lxor (v := l1 ^^^ (x.2.2.1 (14, i) l3.toNatClampNeg)) E dX2_exclusiveOr_19 rfl ?_
      refine hv_lstore_n (lv' := [(0, aR (11, i)), (3, aI l3)]) E dX2_exclusiveOr_20 rfl (by decide) rfl ?_
      refine hv_iinc (v := l3 + nI 1) (lv' := [(1, aL (l1 ^^^ (x.2.2.1 (14, i) l3.toNatClampNeg))), (0, aR (11, i))]) E 2 dX2_exclusiveOr_21 rfl (hx_i1 _) (by decide) rfl ?_
      refine hv_goto (tgt := 4) E dX2_exclusiveOr_24 (by decide) ?_
      refine hv_lv [2, 1, 0] rfl ?_
      exact ih x (l1 ^^^ (x.2.2.1 (14, i) l3.toNatClampNeg)) (l3 + nI 1) hs h
set_option maxRecDepth 100000 in
set_option maxHeartbeats 4000000 in
theorem c_X2_exclusiveOr (l : Launch) (P : Int64 → hp_S → Prop) (i : Nat) (x : hp_S) (hs : hp_sh x) (h : k_X2_exclusiveOr P i x) : hp_C l yX2_exclusiveOr (Cond.code yX2_exclusiveOr cX2_exclusiveOr 4 (Option.some Jvm.ClassFile.FieldType.long) :: hp_ws) rm_X2_exclusiveOr [aR (11, i)] x (hp_pL P) 0 0 := by
  refine hp_ofV (own := "VersionJoins$Step") (lv := [(0, aR (11, i))]) (by decide) rfl (Nat.le_of_ble_eq_true rfl) rfl ?_
  intro p e s m args below meth c D cA B0 ad0 E hret hnm
  unfold k_X2_exclusiveOr at h
  refine hv_lconst (v := 0) E dX2_exclusiveOr_0 (by decide) ?_
  refine hv_lstore_n (lv' := [(0, aR (11, i))]) E dX2_exclusiveOr_1 rfl (by decide) rfl ?_
  refine hv_iconst (v := nI 0) E dX2_exclusiveOr_2 (by decide) ?_
  refine hv_istore_n (lv' := [(1, aL 0), (0, aR (11, i))]) E dX2_exclusiveOr_3 rfl (by decide) rfl ?_
  obtain ⟨n3, h⟩ := h
  refine hv_lv [2, 1, 0] rfl ?_
  exact w_X2_exclusiveOr_4 E hret i n3 x 0 (nI 0) hs h
-- VersionJoins$Step.isFirstOfItsValue(I)Z
def k_X2_isFirstOfItsValue_2 (P : Int32 → hp_S → Prop) (i : Nat) (a1 : Int32) : Nat → hp_S → Int32 → Prop
  | 0, _, _ => False
  | n + 1, x, l2 => (a1 ≤ l2 → (P (nI 1) x)) ∧ (¬ a1 ≤ l2 → (vp_in l2 8 ∧ (vp_in a1 8 ∧ ((¬ (lg_cmp (x.2.2.1 (14, i) l2.toNatClampNeg) (x.2.2.1 (14, i) a1.toNatClampNeg)) = 0 → (k_X2_isFirstOfItsValue_2 P i a1 n x (l2 + nI 1))) ∧ ((lg_cmp (x.2.2.1 (14, i) l2.toNatClampNeg) (x.2.2.1 (14, i) a1.toNatClampNeg)) = 0 → (P (nI 0) x))))))
def k_X2_isFirstOfItsValue (P : Int32 → hp_S → Prop) (i : Nat) (a1 : Int32) (x : hp_S) : Prop := ∃ q, k_X2_isFirstOfItsValue_2 P i a1 q x (nI 0)
abbrev rm_X2_isFirstOfItsValue : Room := ({ frames := 0, cells := 0, slots := 0, locals := 0 } : Room)
set_option maxRecDepth 100000 in
set_option maxHeartbeats 4000000 in
theorem w_X2_isFirstOfItsValue_2 {p : Program} {l : Launch} {e : Env} {s : State} {m : MethodId} {args : Array Value} {below : List Frame} {meth : Method} {c : Code} {D : va_G} {cA : Nat → ClassId} {B0 : Nat} {ad0 : hp_T → Nat} {x0 : hp_S} (E : hp_E p s m args meth c cX2_isFirstOfItsValue 3 "VersionJoins$Step" hp_ws D cA B0) (hret : meth.sig.returnType = (Option.some Jvm.ClassFile.FieldType.boolean)) {P : Int32 → hp_S → Prop} (i : Nat) (a1 : Int32) : ∀ (n : Nat) (x : hp_S) (l2 : Int32), hp_sh x → k_X2_isFirstOfItsValue_2 P i a1 n x l2 → hp_V p l e rm_X2_isFirstOfItsValue s m args below meth c (fun ad0 => MQ below (hp_Q D cA B0 ad0 x0 (hp_pI P)) args s 0 0 (fun q => B0 ≤ q)) D cA B0 3 ad0 x0 0 0 x 2 [(0, aR (11, i)), (1, aI a1), (2, aI l2)] [] := by
  intro n
  induction n with
  | zero => intro x l2 hs h; exact absurd h id
  | succ n ih =>
    intro x l2 hs h
    unfold k_X2_isFirstOfItsValue_2 at h
    refine hv_iload_n E dX2_isFirstOfItsValue_2 rfl 2 rfl ?_
    refine hv_iload_n E dX2_isFirstOfItsValue_3 rfl 1 rfl ?_
    refine hv_icmp_ge (tgt := 31) E dX2_isFirstOfItsValue_4 (by decide) (fun c1 => ?_) (fun c1 => ?_)
    · have h := h.1 c1
      refine hv_iconst (v := nI 1) E dX2_isFirstOfItsValue_31 (by decide) ?_
      exact hv_zret E hret dX2_isFirstOfItsValue_32 (by decide) (Nat.le_of_ble_eq_true rfl) (Nat.le_of_ble_eq_true rfl) ⟨_, rfl, hs, h⟩
    · have h := h.2 c1
      refine hv_aload_n E dX2_isFirstOfItsValue_7 rfl 0 rfl ?_
      refine hv_getR (k := 3) (t2 := (14, i)) E dX2_isFirstOfItsValue_8 rfl rfl hiX2 (by decide) wd_146 rfl rfl (hs _ _ _ rfl) ?_
      refine hv_iload_n E dX2_isFirstOfItsValue_11 rfl 2 rfl ?_
      obtain ⟨h2, h⟩ := h
      refine hv_lald E dX2_isFirstOfItsValue_12 rfl (by decide) rfl h2 ?_
      refine hv_aload_n E dX2_isFirstOfItsValue_13 rfl 0 rfl ?_
      refine hv_getR (k := 3) (t2 := (14, i)) E dX2_isFirstOfItsValue_14 rfl rfl hiX2 (by decide) wd_146 rfl rfl (hs _ _ _ rfl) ?_
      refine hv_iload_n E dX2_isFirstOfItsValue_17 rfl 1 rfl ?_
      obtain ⟨h3, h⟩ := h
      refine hv_lald E dX2_isFirstOfItsValue_18 rfl (by decide) rfl h3 ?_
      refine hv_lcmp E dX2_isFirstOfItsValue_19 ?_
      refine hv_if_ne (tgt := 25) E dX2_isFirstOfItsValue_20 (by decide) (fun c4 => ?_) (fun c4 => ?_)
      · have h := h.1 c4
        refine hv_iinc (v := l2 + nI 1) (lv' := [(0, aR (11, i)), (1, aI a1)]) E 2 dX2_isFirstOfItsValue_25 rfl (hx_i1 _) (by decide) rfl ?_
        refine hv_goto (tgt := 2) E dX2_isFirstOfItsValue_28 (by decide) ?_
        refine hv_lv [1, 2, 0] rfl ?_
        exact ih x (l2 + nI 1) hs h
      · have h := h.2 c4
        refine hv_iconst (v := nI 0) E dX2_isFirstOfItsValue_23 (by decide) ?_
        exact hv_zret E hret dX2_isFirstOfItsValue_24 (by decide) (Nat.le_of_ble_eq_true rfl) (Nat.le_of_ble_eq_true rfl) ⟨_, rfl, hs, h⟩
set_option maxRecDepth 100000 in
set_option maxHeartbeats 4000000 in
theorem c_X2_isFirstOfItsValue (l : Launch) (P : Int32 → hp_S → Prop) (i : Nat) (a1 : Int32) (x : hp_S) (hs : hp_sh x) (h : k_X2_isFirstOfItsValue P i a1 x) : hp_C l yX2_isFirstOfItsValue (Cond.code yX2_isFirstOfItsValue cX2_isFirstOfItsValue 3 (Option.some Jvm.ClassFile.FieldType.boolean) :: hp_ws) rm_X2_isFirstOfItsValue [aR (11, i), aI a1] x (hp_pI P) 0 0 := by
  refine hp_ofV (own := "VersionJoins$Step") (lv := [(0, aR (11, i)), (1, aI a1)]) (by decide) rfl (Nat.le_of_ble_eq_true rfl) rfl ?_
  intro p e s m args below meth c D cA B0 ad0 E hret hnm
  unfold k_X2_isFirstOfItsValue at h
  refine hv_iconst (v := nI 0) E dX2_isFirstOfItsValue_0 (by decide) ?_
  refine hv_istore_n (lv' := [(0, aR (11, i)), (1, aI a1)]) E dX2_isFirstOfItsValue_1 rfl (by decide) rfl ?_
  obtain ⟨n5, h⟩ := h
  refine hv_lv [1, 2, 0] rfl ?_
  exact w_X2_isFirstOfItsValue_2 E hret i a1 n5 x (nI 0) hs h
-- VersionJoins$Step.differentOnes()J
def k_X2_differentOnes_4 (P : Int64 → hp_S → Prop) (i : Nat) : Nat → hp_S → Int64 → Int32 → Prop
  | 0, _, _, _ => False
  | n + 1, x, l1, l3 => ((x.2.1 (11, i) 8) ≤ l3 → (P l1 x)) ∧ (¬ (x.2.1 (11, i) 8) ≤ l3 → (k_X2_isFirstOfItsValue (fun r14 x14 => (r14 = 0 → (k_X2_differentOnes_4 P i n x14 l1 (l3 + nI 1))) ∧ (¬ r14 = 0 → (k_X2_differentOnes_4 P i n x14 (l1 + 1) (l3 + nI 1)))) i l3 x))
def k_X2_differentOnes (P : Int64 → hp_S → Prop) (i : Nat) (x : hp_S) : Prop := ∃ q, k_X2_differentOnes_4 P i q x 0 (nI 0)
abbrev rm_X2_differentOnes : Room := ({ frames := 1, cells := 0, slots := 0, locals := 22 } : Room)
set_option maxRecDepth 100000 in
set_option maxHeartbeats 4000000 in
theorem w_X2_differentOnes_4 {p : Program} {l : Launch} {e : Env} {s : State} {m : MethodId} {args : Array Value} {below : List Frame} {meth : Method} {c : Code} {D : va_G} {cA : Nat → ClassId} {B0 : Nat} {ad0 : hp_T → Nat} {x0 : hp_S} (E : hp_E p s m args meth c cX2_differentOnes 4 "VersionJoins$Step" hp_ws D cA B0) (hret : meth.sig.returnType = (Option.some Jvm.ClassFile.FieldType.long)) {P : Int64 → hp_S → Prop} (i : Nat) : ∀ (n : Nat) (x : hp_S) (l1 : Int64) (l3 : Int32), hp_sh x → k_X2_differentOnes_4 P i n x l1 l3 → hp_V p l e rm_X2_differentOnes s m args below meth c (fun ad0 => MQ below (hp_Q D cA B0 ad0 x0 (hp_pL P)) args s 0 0 (fun q => B0 ≤ q)) D cA B0 4 ad0 x0 0 0 x 4 [(0, aR (11, i)), (1, aL l1), (3, aI l3)] [] := by
  intro n
  induction n with
  | zero => intro x l1 l3 hs h; exact absurd h id
  | succ n ih =>
    intro x l1 l3 hs h
    unfold k_X2_differentOnes_4 at h
    refine hv_iload_n E dX2_differentOnes_4 rfl 2 rfl ?_
    refine hv_aload_n E dX2_differentOnes_5 rfl 0 rfl ?_
    refine hv_getI (k := 8) E dX2_differentOnes_6 rfl rfl hiX2 (by decide) wd_154 rfl rfl ?_
    refine hv_icmp_ge (tgt := 30) E dX2_differentOnes_9 (by decide) (fun c1 => ?_) (fun c1 => ?_)
    · have h := h.1 c1
      refine hv_lload_n E dX2_differentOnes_30 rfl 1 rfl ?_
      exact hv_lret E hret dX2_differentOnes_31 (Nat.le_of_ble_eq_true rfl) (Nat.le_of_ble_eq_true rfl) ⟨_, rfl, hs, h⟩
    · have h := h.2 c1
      refine hv_aload_n E dX2_differentOnes_12 rfl 0 rfl ?_
      refine hv_iload_n E dX2_differentOnes_13 rfl 2 rfl ?_
      refine hv_VI E [aI l3] (c_X2_isFirstOfItsValue l _ i l3 x hs h) (hp_cwV 1 E wd_392 wd_394 wd_16 wd_42 wd_395 rfl rfl (by decide +kernel) ⟨(Nat.le_of_ble_eq_true rfl), (Nat.le_of_ble_eq_true rfl)⟩) rfl rfl rfl rfl (Nat.le_of_ble_eq_true rfl) dX2_differentOnes_14 ⟨(Nat.le_of_ble_eq_true rfl), (Nat.le_of_ble_eq_true rfl)⟩ (fun r14 x14 hs h => ?_)
      refine hv_if_eq (tgt := 24) E dX2_differentOnes_17 (by decide) (fun c2 => ?_) (fun c2 => ?_)
      · have h := h.1 c2
        refine hv_iinc (v := l3 + nI 1) (lv' := [(0, aR (11, i)), (1, aL l1)]) E 2 dX2_differentOnes_24 rfl (hx_i1 _) (by decide) rfl ?_
        refine hv_goto (tgt := 4) E dX2_differentOnes_27 (by decide) ?_
        refine hv_lv [1, 2, 0] rfl ?_
        exact ih x14 l1 (l3 + nI 1) hs h
      · have h := h.2 c2
        refine hv_lload_n E dX2_differentOnes_20 rfl 1 rfl ?_
        refine hv_lconst (v := 1) E dX2_differentOnes_21 (by decide) ?_
        refine hv_ladd (v := l1 + 1) E dX2_differentOnes_22 rfl ?_
        refine hv_lstore_n (lv' := [(0, aR (11, i)), (3, aI l3)]) E dX2_differentOnes_23 rfl (by decide) rfl ?_
        refine hv_iinc (v := l3 + nI 1) (lv' := [(1, aL (l1 + 1)), (0, aR (11, i))]) E 2 dX2_differentOnes_24 rfl (hx_i1 _) (by decide) rfl ?_
        refine hv_goto (tgt := 4) E dX2_differentOnes_27 (by decide) ?_
        refine hv_lv [2, 1, 0] rfl ?_
        exact ih x14 (l1 + 1) (l3 + nI 1) hs h
set_option maxRecDepth 100000 in
set_option maxHeartbeats 4000000 in
theorem c_X2_differentOnes (l : Launch) (P : Int64 → hp_S → Prop) (i : Nat) (x : hp_S) (hs : hp_sh x) (h : k_X2_differentOnes P i x) : hp_C l yX2_differentOnes (Cond.code yX2_differentOnes cX2_differentOnes 4 (Option.some Jvm.ClassFile.FieldType.long) :: hp_ws) rm_X2_differentOnes [aR (11, i)] x (hp_pL P) 0 0 := by
  refine hp_ofV (own := "VersionJoins$Step") (lv := [(0, aR (11, i))]) (by decide) rfl (Nat.le_of_ble_eq_true rfl) rfl ?_
  intro p e s m args below meth c D cA B0 ad0 E hret hnm
  unfold k_X2_differentOnes at h
  refine hv_lconst (v := 0) E dX2_differentOnes_0 (by decide) ?_
  refine hv_lstore_n (lv' := [(0, aR (11, i))]) E dX2_differentOnes_1 rfl (by decide) rfl ?_
  refine hv_iconst (v := nI 0) E dX2_differentOnes_2 (by decide) ?_
  refine hv_istore_n (lv' := [(1, aL 0), (0, aR (11, i))]) E dX2_differentOnes_3 rfl (by decide) rfl ?_
  obtain ⟨n3, h⟩ := h
  refine hv_lv [2, 1, 0] rfl ?_
  exact w_X2_differentOnes_4 E hret i n3 x 0 (nI 0) hs h
-- VersionJoins$Step.resultOfKind()J
def k_X2_resultOfKind (P : Int64 → hp_S → Prop) (i : Nat) (x : hp_S) : Prop := (((x.2.1 (11, i) 0) = nI 0 → (k_X2_sum (fun r33 x33 => P r33 x33) i x)) ∧ ((x.2.1 (11, i) 0) = nI 1 → (k_X2_greatest (fun r38 x38 => P r38 x38) i x)) ∧ ((x.2.1 (11, i) 0) = nI 2 → (k_X2_exclusiveOr (fun r43 x43 => P r43 x43) i x))) ∧ (¬ (x.2.1 (11, i) 0) = nI 0 → ¬ (x.2.1 (11, i) 0) = nI 1 → ¬ (x.2.1 (11, i) 0) = nI 2 → (k_X2_differentOnes (fun r48 x48 => P r48 x48) i x))
abbrev rm_X2_resultOfKind : Room := ({ frames := 2, cells := 0, slots := 0, locals := 53 } : Room)
set_option maxRecDepth 100000 in
set_option maxHeartbeats 4000000 in
theorem c_X2_resultOfKind (l : Launch) (P : Int64 → hp_S → Prop) (i : Nat) (x : hp_S) (hs : hp_sh x) (h : k_X2_resultOfKind P i x) : hp_C l yX2_resultOfKind (Cond.code yX2_resultOfKind cX2_resultOfKind 1 (Option.some Jvm.ClassFile.FieldType.long) :: hp_ws) rm_X2_resultOfKind [aR (11, i)] x (hp_pL P) 0 0 := by
  refine hp_ofV (own := "VersionJoins$Step") (lv := [(0, aR (11, i))]) (by decide) rfl (Nat.le_of_ble_eq_true rfl) rfl ?_
  intro p e s m args below meth c D cA B0 ad0 E hret hnm
  unfold k_X2_resultOfKind at h
  refine hv_aload_n E dX2_resultOfKind_0 rfl 0 rfl ?_
  refine hv_getI (k := 0) E dX2_resultOfKind_1 rfl rfl hiX2 (by decide) wd_141 rfl rfl ?_
  obtain ⟨hsw, hdf⟩ := h
  by_cases e10 : (x.2.1 (11, i) 0) = nI 0
  · have h := hsw.1 e10
    refine hv_tableIn (off := 28) (tgt := 32) E dX2_resultOfKind_4 (by rw [e10]; decide) (by rw [e10]; decide) (by rw [e10]; decide) (by decide) ?_
    refine hv_aload_n E dX2_resultOfKind_32 rfl 0 rfl ?_
    refine hv_VL E [] (c_X2_sum l _ i x hs h) (hp_cwV 0 E wd_373 wd_375 wd_12 wd_42 wd_376 rfl rfl (by decide +kernel) ⟨(Nat.le_of_ble_eq_true rfl), (Nat.le_of_ble_eq_true rfl)⟩) rfl rfl rfl rfl (Nat.le_of_ble_eq_true rfl) dX2_resultOfKind_33 ⟨(Nat.le_of_ble_eq_true rfl), (Nat.le_of_ble_eq_true rfl)⟩ (fun r33 x33 hs h => ?_)
    exact hv_lret E hret dX2_resultOfKind_36 (Nat.le_of_ble_eq_true rfl) (Nat.le_of_ble_eq_true rfl) ⟨_, rfl, hs, h⟩
  by_cases e11 : (x.2.1 (11, i) 0) = nI 1
  · have h := hsw.2.1 e11
    refine hv_tableIn (off := 33) (tgt := 37) E dX2_resultOfKind_4 (by rw [e11]; decide) (by rw [e11]; decide) (by rw [e11]; decide) (by decide) ?_
    refine hv_aload_n E dX2_resultOfKind_37 rfl 0 rfl ?_
    refine hv_VL E [] (c_X2_greatest l _ i x hs h) (hp_cwV 0 E wd_377 wd_379 wd_13 wd_42 wd_380 rfl rfl (by decide +kernel) ⟨(Nat.le_of_ble_eq_true rfl), (Nat.le_of_ble_eq_true rfl)⟩) rfl rfl rfl rfl (Nat.le_of_ble_eq_true rfl) dX2_resultOfKind_38 ⟨(Nat.le_of_ble_eq_true rfl), (Nat.le_of_ble_eq_true rfl)⟩ (fun r38 x38 hs h => ?_)
    exact hv_lret E hret dX2_resultOfKind_41 (Nat.le_of_ble_eq_true rfl) (Nat.le_of_ble_eq_true rfl) ⟨_, rfl, hs, h⟩
  by_cases e12 : (x.2.1 (11, i) 0) = nI 2
  · have h := hsw.2.2 e12
    refine hv_tableIn (off := 38) (tgt := 42) E dX2_resultOfKind_4 (by rw [e12]; decide) (by rw [e12]; decide) (by rw [e12]; decide) (by decide) ?_
    refine hv_aload_n E dX2_resultOfKind_42 rfl 0 rfl ?_
    refine hv_VL E [] (c_X2_exclusiveOr l _ i x hs h) (hp_cwV 0 E wd_384 wd_386 wd_14 wd_42 wd_387 rfl rfl (by decide +kernel) ⟨(Nat.le_of_ble_eq_true rfl), (Nat.le_of_ble_eq_true rfl)⟩) rfl rfl rfl rfl (Nat.le_of_ble_eq_true rfl) dX2_resultOfKind_43 ⟨(Nat.le_of_ble_eq_true rfl), (Nat.le_of_ble_eq_true rfl)⟩ (fun r43 x43 hs h => ?_)
    exact hv_lret E hret dX2_resultOfKind_46 (Nat.le_of_ble_eq_true rfl) (Nat.le_of_ble_eq_true rfl) ⟨_, rfl, hs, h⟩
  have h := hdf e10 e11 e12
  refine hv_tableOut (tgt := 47) E dX2_resultOfKind_4 (hx_out3 e10 e11 e12) (by decide) ?_
  refine hv_aload_n E dX2_resultOfKind_47 rfl 0 rfl ?_
  refine hv_VL E [] (c_X2_differentOnes l _ i x hs h) (hp_cwV 0 E wd_388 wd_390 wd_15 wd_42 wd_391 rfl rfl (by decide +kernel) ⟨(Nat.le_of_ble_eq_true rfl), (Nat.le_of_ble_eq_true rfl)⟩) rfl rfl rfl rfl (Nat.le_of_ble_eq_true rfl) dX2_resultOfKind_48 ⟨(Nat.le_of_ble_eq_true rfl), (Nat.le_of_ble_eq_true rfl)⟩ (fun r48 x48 hs h => ?_)
  exact hv_lret E hret dX2_resultOfKind_51 (Nat.le_of_ble_eq_true rfl) (Nat.le_of_ble_eq_true rfl) ⟨_, rfl, hs, h⟩
-- VersionJoins$Step.work([J)V
def k_X2_work_2 (P : hp_S → Prop) (i : Nat) : Nat → hp_S → Int32 → Prop
  | 0, _, _ => False
  | n + 1, x, l2 => ((x.2.1 (11, i) 4) ≤ l2 → (k_X2_resultOfKind (fun r53 x53 => P (hp_uL x53 (11, i) 10 r53)) i (hp_uI (hp_uI (hp_uI x (11, i) 7 (nI 1)) (11, i) 8 ((hp_uI x (11, i) 7 (nI 1)).2.1 (11, i) 4)) (11, i) 9 ((hp_uI (hp_uI x (11, i) 7 (nI 1)) (11, i) 8 ((hp_uI x (11, i) 7 (nI 1)).2.1 (11, i) 4)).2.1 (11, i) 5)))) ∧ (¬ (x.2.1 (11, i) 4) ≤ l2 → (vp_in l2 8 ∧ (vp_in (x.2.1 (12, i) l2.toNatClampNeg) 24 ∧ (vp_in l2 8 ∧ (k_X2_work_2 P i n (hp_uL x (14, i) l2.toNatClampNeg (x.2.2.1 (2, 0) (x.2.1 (12, i) l2.toNatClampNeg).toNatClampNeg)) (l2 + nI 1))))))
def k_X2_work (P : hp_S → Prop) (i : Nat) (x : hp_S) : Prop := ∃ q, k_X2_work_2 P i q x (nI 0)
abbrev rm_X2_work : Room := ({ frames := 3, cells := 0, slots := 0, locals := 73 } : Room)
set_option maxRecDepth 100000 in
set_option maxHeartbeats 4000000 in
theorem w_X2_work_2 {p : Program} {l : Launch} {e : Env} {s : State} {m : MethodId} {args : Array Value} {below : List Frame} {meth : Method} {c : Code} {D : va_G} {cA : Nat → ClassId} {B0 : Nat} {ad0 : hp_T → Nat} {x0 : hp_S} (E : hp_E p s m args meth c cX2_work 3 "VersionJoins$Step" hp_ws D cA B0) (hret : meth.sig.returnType = (Option.none : Option Jvm.ClassFile.FieldType)) {P : hp_S → Prop} (i : Nat) : ∀ (n : Nat) (x : hp_S) (l2 : Int32), hp_sh x → k_X2_work_2 P i n x l2 → hp_V p l e rm_X2_work s m args below meth c (fun ad0 => MQ below (hp_Q D cA B0 ad0 x0 (hp_pV P)) args s 0 0 (fun q => B0 ≤ q)) D cA B0 3 ad0 x0 0 0 x 2 [(0, aR (11, i)), (1, aR (2, 0)), (2, aI l2)] [] := by
  intro n
  induction n with
  | zero => intro x l2 hs h; exact absurd h id
  | succ n ih =>
    intro x l2 hs h
    unfold k_X2_work_2 at h
    refine hv_iload_n E dX2_work_2 rfl 2 rfl ?_
    refine hv_aload_n E dX2_work_3 rfl 0 rfl ?_
    refine hv_getI (k := 4) E dX2_work_4 rfl rfl hiX2 (by decide) wd_147 rfl rfl ?_
    refine hv_icmp_ge (tgt := 30) E dX2_work_7 (by decide) (fun c1 => ?_) (fun c1 => ?_)
    · have h := h.1 c1
      refine hv_aload_n E dX2_work_30 rfl 0 rfl ?_
      refine hv_iconst (v := nI 1) E dX2_work_31 (by decide) ?_
      refine hv_putI (ty := .boolean) (k := 7) E tyX2 okX2 nmX2 dX2_work_32 rfl rfl hiX2 (by decide) wd_153 rfl rfl (Or.inl rfl) (by decide +kernel) (by decide) rfl ?_
      refine hv_aload_n E dX2_work_35 rfl 0 rfl ?_
      refine hv_aload_n E dX2_work_36 rfl 0 rfl ?_
      refine hv_getI (k := 4) E dX2_work_37 rfl rfl hiX2 (by decide) wd_147 rfl rfl ?_
      refine hv_putI (ty := .int) (k := 8) E tyX2 okX2 nmX2 dX2_work_40 rfl rfl hiX2 (by decide) wd_154 rfl rfl (Or.inl rfl) (by decide +kernel) rfl rfl ?_
      refine hv_aload_n E dX2_work_43 rfl 0 rfl ?_
      refine hv_aload_n E dX2_work_44 rfl 0 rfl ?_
      refine hv_getI (k := 5) E dX2_work_45 rfl rfl hiX2 (by decide) wd_149 rfl rfl ?_
      refine hv_putI (ty := .int) (k := 9) E tyX2 okX2 nmX2 dX2_work_48 rfl rfl hiX2 (by decide) wd_156 rfl rfl (Or.inl rfl) (by decide +kernel) rfl rfl ?_
      refine hv_aload_n E dX2_work_51 rfl 0 rfl ?_
      refine hv_aload_n E dX2_work_52 rfl 0 rfl ?_
      refine hv_VL E [] (c_X2_resultOfKind l _ i (hp_uI (hp_uI (hp_uI x (11, i) 7 (nI 1)) (11, i) 8 ((hp_uI x (11, i) 7 (nI 1)).2.1 (11, i) 4)) (11, i) 9 ((hp_uI (hp_uI x (11, i) 7 (nI 1)) (11, i) 8 ((hp_uI x (11, i) 7 (nI 1)).2.1 (11, i) 4)).2.1 (11, i) 5)) hs h) (hp_cwV 0 E wd_369 wd_371 wd_11 wd_42 wd_372 rfl rfl (by decide +kernel) ⟨(Nat.le_of_ble_eq_true rfl), (Nat.le_of_ble_eq_true rfl)⟩) rfl rfl rfl rfl (Nat.le_of_ble_eq_true rfl) dX2_work_53 ⟨(Nat.le_of_ble_eq_true rfl), (Nat.le_of_ble_eq_true rfl)⟩ (fun r53 x53 hs h => ?_)
      refine hv_putL (ty := .long) (k := 10) E tyX2 okX2 nmX2 dX2_work_56 rfl rfl hiX2 (by decide) wd_157 rfl rfl (Or.inl rfl) (by decide +kernel) rfl rfl ?_
      exact hv_vret E hret dX2_work_59 (Nat.le_of_ble_eq_true rfl) (Nat.le_of_ble_eq_true rfl) ⟨rfl, hs, h⟩
    · have h := h.2 c1
      refine hv_aload_n E dX2_work_10 rfl 0 rfl ?_
      refine hv_getR (k := 3) (t2 := (14, i)) E dX2_work_11 rfl rfl hiX2 (by decide) wd_146 rfl rfl (hs _ _ _ rfl) ?_
      refine hv_iload_n E dX2_work_14 rfl 2 rfl ?_
      refine hv_aload_n E dX2_work_15 rfl 1 rfl ?_
      refine hv_aload_n E dX2_work_16 rfl 0 rfl ?_
      refine hv_getR (k := 1) (t2 := (12, i)) E dX2_work_17 rfl rfl hiX2 (by decide) wd_142 rfl rfl (hs _ _ _ rfl) ?_
      refine hv_iload_n E dX2_work_20 rfl 2 rfl ?_
      obtain ⟨h2, h⟩ := h
      refine hv_iald E dX2_work_21 rfl (by decide) rfl h2 ?_
      obtain ⟨h3, h⟩ := h
      refine hv_lald E dX2_work_22 rfl (by decide) rfl h3 ?_
      obtain ⟨h4, h⟩ := h
      refine hv_last E dX2_work_23 rfl (by decide) rfl h4 ?_
      refine hv_iinc (v := l2 + nI 1) (lv' := [(0, aR (11, i)), (1, aR (2, 0))]) E 2 dX2_work_24 rfl (hx_i1 _) (by decide) rfl ?_
      refine hv_goto (tgt := 2) E dX2_work_27 (by decide) ?_
      refine hv_lv [1, 2, 0] rfl ?_
      exact ih (hp_uL x (14, i) l2.toNatClampNeg (x.2.2.1 (2, 0) (x.2.1 (12, i) l2.toNatClampNeg).toNatClampNeg)) (l2 + nI 1) hs h
set_option maxRecDepth 100000 in
set_option maxHeartbeats 4000000 in
theorem c_X2_work (l : Launch) (P : hp_S → Prop) (i : Nat) (x : hp_S) (hs : hp_sh x) (h : k_X2_work P i x) : hp_C l yX2_work (Cond.code yX2_work cX2_work 3 (Option.none : Option Jvm.ClassFile.FieldType) :: hp_ws) rm_X2_work [aR (11, i), aR (2, 0)] x (hp_pV P) 0 0 := by
  refine hp_ofV (own := "VersionJoins$Step") (lv := [(0, aR (11, i)), (1, aR (2, 0))]) (by decide) rfl (Nat.le_of_ble_eq_true rfl) rfl ?_
  intro p e s m args below meth c D cA B0 ad0 E hret hnm
  unfold k_X2_work at h
  refine hv_iconst (v := nI 0) E dX2_work_0 (by decide) ?_
  refine hv_istore_n (lv' := [(0, aR (11, i)), (1, aR (2, 0))]) E dX2_work_1 rfl (by decide) rfl ?_
  obtain ⟨n5, h⟩ := h
  refine hv_lv [1, 2, 0] rfl ?_
  exact w_X2_work_2 E hret i n5 x (nI 0) hs h
