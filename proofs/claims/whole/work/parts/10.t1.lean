theorem hx_i1 (u : Int32) : u + Int32.ofInt 1 = u + nI 1 := by
  rw [show Int32.ofInt 1 = nI 1 by decide]
-- VersionJoins$Step.withAbove(I)I
def k_X2_withAbove (P : Int32 → hp_S → Prop) (i : Nat) (a1 : Int32) (x : hp_S) : Prop := P ((x.2.1 (11, i) 6) ||| ((nI 1) <<< (a1 &&& 31))) x
abbrev rm_X2_withAbove : Room := ({ frames := 0, cells := 0, slots := 0, locals := 0 } : Room)
set_option maxRecDepth 100000 in
set_option maxHeartbeats 4000000 in
theorem c_X2_withAbove (l : Launch) (P : Int32 → hp_S → Prop) (i : Nat) (a1 : Int32) (x : hp_S) (hs : hp_sh x) (h : k_X2_withAbove P i a1 x) : hp_C l yX2_withAbove (Cond.code yX2_withAbove cX2_withAbove 2 (Option.some Jvm.ClassFile.FieldType.int) :: hp_ws) rm_X2_withAbove [aR (11, i), aI a1] x (hp_pI P) 0 0 := by
  refine hp_ofV (own := "VersionJoins$Step") (lv := [(0, aR (11, i)), (1, aI a1)]) (by decide) rfl (Nat.le_of_ble_eq_true rfl) rfl ?_
  intro p e s m args below meth c D cA B0 ad0 E hret hnm
  unfold k_X2_withAbove at h
  refine hv_aload_n E dX2_withAbove_0 rfl 0 rfl ?_
  refine hv_getI (k := 6) E dX2_withAbove_1 rfl rfl hiX2 (by decide) wd_151 rfl rfl ?_
  refine hv_iconst (v := nI 1) E dX2_withAbove_4 (by decide) ?_
  refine hv_iload_n E dX2_withAbove_5 rfl 1 rfl ?_
  refine hv_ishl (v := (nI 1) <<< (a1 &&& 31)) E dX2_withAbove_6 rfl ?_
  refine hv_ior (v := (x.2.1 (11, i) 6) ||| ((nI 1) <<< (a1 &&& 31))) E dX2_withAbove_7 rfl ?_
  exact hv_iret E hret dX2_withAbove_8 (Nat.le_of_ble_eq_true rfl) (Nat.le_of_ble_eq_true rfl) ⟨_, rfl, hs, h⟩
-- VersionJoins$Step.isUsing(I)Z
def k_X2_isUsing_2 (P : Int32 → hp_S → Prop) (i : Nat) (a1 : Int32) : Nat → hp_S → Int32 → Prop
  | 0, _, _ => False
  | n + 1, x, l2 => ((x.2.1 (11, i) 4) ≤ l2 → (P (nI 0) x)) ∧ (¬ (x.2.1 (11, i) 4) ≤ l2 → (vp_in l2 8 ∧ ((¬ (x.2.1 (12, i) l2.toNatClampNeg) = a1 → (k_X2_isUsing_2 P i a1 n x (l2 + nI 1))) ∧ ((x.2.1 (12, i) l2.toNatClampNeg) = a1 → (P (nI 1) x)))))
def k_X2_isUsing (P : Int32 → hp_S → Prop) (i : Nat) (a1 : Int32) (x : hp_S) : Prop := ∃ n, k_X2_isUsing_2 P i a1 n x (nI 0)
abbrev rm_X2_isUsing : Room := ({ frames := 0, cells := 0, slots := 0, locals := 0 } : Room)
set_option maxRecDepth 100000 in
set_option maxHeartbeats 4000000 in
theorem w_X2_isUsing_2 {p : Program} {l : Launch} {e : Env} {s : State} {m : MethodId} {args : Array Value} {below : List Frame} {meth : Method} {c : Code} {D : va_G} {cA : Nat → ClassId} {B0 : Nat} {ad0 : hp_T → Nat} {x0 : hp_S} (E : hp_E p s m args meth c cX2_isUsing 3 "VersionJoins$Step" hp_ws D cA B0) (hret : meth.sig.returnType = (Option.some Jvm.ClassFile.FieldType.boolean)) {P : Int32 → hp_S → Prop} (i : Nat) (a1 : Int32) : ∀ (n : Nat) (x : hp_S) (l2 : Int32), hp_sh x → k_X2_isUsing_2 P i a1 n x l2 → hp_V p l e rm_X2_isUsing s m args below meth c (fun ad0 => MQ below (hp_Q D cA B0 ad0 x0 (hp_pI P)) args s 0 0 (fun q => B0 ≤ q)) D cA B0 3 ad0 x0 0 0 x 2 [(0, aR (11, i)), (1, aI a1), (2, aI l2)] [] := by
  intro n
  induction n with
  | zero => intro x l2 hs h; exact absurd h id
  | succ n ih =>
    intro x l2 hs h
    unfold k_X2_isUsing_2 at h
    refine hv_iload_n E dX2_isUsing_2 rfl 2 rfl ?_
    refine hv_aload_n E dX2_isUsing_3 rfl 0 rfl ?_
    refine hv_getI (k := 4) E dX2_isUsing_4 rfl rfl hiX2 (by decide) wd_147 rfl rfl ?_
    refine hv_icmp_ge (tgt := 28) E dX2_isUsing_7 (by decide) (fun c1 => ?_) (fun c1 => ?_)
    · have h := h.1 c1
      refine hv_iconst (v := nI 0) E dX2_isUsing_28 (by decide) ?_
      exact hv_zret E hret dX2_isUsing_29 (by decide) (Nat.le_of_ble_eq_true rfl) (Nat.le_of_ble_eq_true rfl) ⟨_, rfl, hs, h⟩
    · have h := h.2 c1
      refine hv_aload_n E dX2_isUsing_10 rfl 0 rfl ?_
      refine hv_getR (k := 1) (t2 := (12, i)) E dX2_isUsing_11 rfl rfl hiX2 (by decide) wd_142 rfl rfl (hs _ _ _ rfl) ?_
      refine hv_iload_n E dX2_isUsing_14 rfl 2 rfl ?_
      obtain ⟨h2, h⟩ := h
      refine hv_iald E dX2_isUsing_15 rfl (by decide) rfl h2 ?_
      refine hv_iload_n E dX2_isUsing_16 rfl 1 rfl ?_
      refine hv_icmp_ne (tgt := 22) E dX2_isUsing_17 (by decide) (fun c3 => ?_) (fun c3 => ?_)
      · have h := h.1 c3
        refine hv_iinc (v := l2 + nI 1) (lv' := [(0, aR (11, i)), (1, aI a1)]) E 2 dX2_isUsing_22 rfl (hx_i1 _) (by decide) rfl ?_
        refine hv_goto (tgt := 2) E dX2_isUsing_25 (by decide) ?_
        refine hv_lv [1, 2, 0] rfl ?_
        exact ih x (l2 + nI 1) hs h
      · have h := h.2 c3
        refine hv_iconst (v := nI 1) E dX2_isUsing_20 (by decide) ?_
        exact hv_zret E hret dX2_isUsing_21 (by decide) (Nat.le_of_ble_eq_true rfl) (Nat.le_of_ble_eq_true rfl) ⟨_, rfl, hs, h⟩
set_option maxRecDepth 100000 in
set_option maxHeartbeats 4000000 in
theorem c_X2_isUsing (l : Launch) (P : Int32 → hp_S → Prop) (i : Nat) (a1 : Int32) (x : hp_S) (hs : hp_sh x) (h : k_X2_isUsing P i a1 x) : hp_C l yX2_isUsing (Cond.code yX2_isUsing cX2_isUsing 3 (Option.some Jvm.ClassFile.FieldType.boolean) :: hp_ws) rm_X2_isUsing [aR (11, i), aI a1] x (hp_pI P) 0 0 := by
  refine hp_ofV (own := "VersionJoins$Step") (lv := [(0, aR (11, i)), (1, aI a1)]) (by decide) rfl (Nat.le_of_ble_eq_true rfl) rfl ?_
  intro p e s m args below meth c D cA B0 ad0 E hret hnm
  unfold k_X2_isUsing at h
  refine hv_iconst (v := nI 0) E dX2_isUsing_0 (by decide) ?_
  refine hv_istore_n (lv' := [(0, aR (11, i)), (1, aI a1)]) E dX2_isUsing_1 rfl (by decide) rfl ?_
  obtain ⟨n5, h⟩ := h
  refine hv_lv [1, 2, 0] rfl ?_
  exact w_X2_isUsing_2 E hret i a1 n5 x (nI 0) hs h
-- VersionJoins$Session.touch(IJ)V
def k_X1_touch (P : hp_S → Prop) (i : Nat) (a1 : Int32) (a2 : Int64) (x : hp_S) : Prop := vp_in a1 24 ∧ ((¬ (x.2.1 (16, i) a1.toNatClampNeg) = 0 → (P x)) ∧ ((x.2.1 (16, i) a1.toNatClampNeg) = 0 → (vp_in a1 24 ∧ (vp_in a1 24 ∧ (P (hp_uL (hp_uI x (16, i) a1.toNatClampNeg (nI 1)) (17, i) a1.toNatClampNeg a2))))))
abbrev rm_X1_touch : Room := ({ frames := 0, cells := 0, slots := 0, locals := 0 } : Room)
set_option maxRecDepth 100000 in
set_option maxHeartbeats 4000000 in
theorem c_X1_touch (l : Launch) (P : hp_S → Prop) (i : Nat) (a1 : Int32) (a2 : Int64) (x : hp_S) (hs : hp_sh x) (h : k_X1_touch P i a1 a2 x) : hp_C l yX1_touch (Cond.code yX1_touch cX1_touch 4 (Option.none : Option Jvm.ClassFile.FieldType) :: hp_ws) rm_X1_touch [aR (15, i), aI a1, aL a2] x (hp_pV P) 0 0 := by
  refine hp_ofV (own := "VersionJoins$Session") (lv := [(0, aR (15, i)), (1, aI a1), (2, aL a2)]) (by decide) rfl (Nat.le_of_ble_eq_true rfl) rfl ?_
  intro p e s m args below meth c D cA B0 ad0 E hret hnm
  unfold k_X1_touch at h
  refine hv_aload_n E dX1_touch_0 rfl 0 rfl ?_
  refine hv_getR (k := 0) (t2 := (16, i)) E dX1_touch_1 rfl rfl hiX1 (by decide) wd_235 rfl rfl (hs _ _ _ rfl) ?_
  refine hv_iload_n E dX1_touch_4 rfl 1 rfl ?_
  obtain ⟨h1, h⟩ := h
  refine hv_zald E dX1_touch_5 rfl (by decide) rfl h1 ?_
  refine hv_if_ne (tgt := 23) E dX1_touch_6 (by decide) (fun c2 => ?_) (fun c2 => ?_)
  · have h := h.1 c2
    exact hv_vret E hret dX1_touch_23 (Nat.le_of_ble_eq_true rfl) (Nat.le_of_ble_eq_true rfl) ⟨rfl, hs, h⟩
  · have h := h.2 c2
    refine hv_aload_n E dX1_touch_9 rfl 0 rfl ?_
    refine hv_getR (k := 0) (t2 := (16, i)) E dX1_touch_10 rfl rfl hiX1 (by decide) wd_235 rfl rfl (hs _ _ _ rfl) ?_
    refine hv_iload_n E dX1_touch_13 rfl 1 rfl ?_
    refine hv_iconst (v := nI 1) E dX1_touch_14 (by decide) ?_
    obtain ⟨h3, h⟩ := h
    refine hv_zast (w := nI 1) E dX1_touch_15 rfl (by decide) rfl h3 (by decide) ?_
    refine hv_aload_n E dX1_touch_16 rfl 0 rfl ?_
    refine hv_getR (k := 1) (t2 := (17, i)) E dX1_touch_17 rfl rfl hiX1 (by decide) wd_236 rfl rfl (hs _ _ _ rfl) ?_
    refine hv_iload_n E dX1_touch_20 rfl 1 rfl ?_
    refine hv_lload_n E dX1_touch_21 rfl 2 rfl ?_
    obtain ⟨h4, h⟩ := h
    refine hv_last E dX1_touch_22 rfl (by decide) rfl h4 ?_
    exact hv_vret E hret dX1_touch_23 (Nat.le_of_ble_eq_true rfl) (Nat.le_of_ble_eq_true rfl) ⟨rfl, hs, h⟩
-- VersionJoins.isThing(I)Z
def k_X3_isThing (P : Int32 → hp_S → Prop) (a1 : Int32) (x : hp_S) : Prop := (a1 < 0 → (P (nI 0) x)) ∧ (¬ a1 < 0 → (((x.2.1 (0, 0) 6) ≤ a1 → (P (nI 0) x)) ∧ (¬ (x.2.1 (0, 0) 6) ≤ a1 → (P (nI 1) x))))
abbrev rm_X3_isThing : Room := ({ frames := 0, cells := 0, slots := 0, locals := 0 } : Room)
set_option maxRecDepth 100000 in
set_option maxHeartbeats 4000000 in
theorem c_X3_isThing (l : Launch) (P : Int32 → hp_S → Prop) (a1 : Int32) (x : hp_S) (hs : hp_sh x) (h : k_X3_isThing P a1 x) : hp_C l yX3_isThing (Cond.code yX3_isThing cX3_isThing 2 (Option.some Jvm.ClassFile.FieldType.boolean) :: hp_ws) rm_X3_isThing [aR (0, 0), aI a1] x (hp_pI P) 0 0 := by
  refine hp_ofV (own := "VersionJoins") (lv := [(0, aR (0, 0)), (1, aI a1)]) (by decide) rfl (Nat.le_of_ble_eq_true rfl) rfl ?_
  intro p e s m args below meth c D cA B0 ad0 E hret hnm
  unfold k_X3_isThing at h
  refine hv_iload_n E dX3_isThing_0 rfl 1 rfl ?_
  refine hv_if_lt (tgt := 16) E dX3_isThing_1 (by decide) (fun c1 => ?_) (fun c1 => ?_)
  · have h := h.1 c1
    refine hv_iconst (v := nI 0) E dX3_isThing_16 (by decide) ?_
    exact hv_zret E hret dX3_isThing_17 (by decide) (Nat.le_of_ble_eq_true rfl) (Nat.le_of_ble_eq_true rfl) ⟨_, rfl, hs, h⟩
  · have h := h.2 c1
    refine hv_iload_n E dX3_isThing_4 rfl 1 rfl ?_
    refine hv_aload_n E dX3_isThing_5 rfl 0 rfl ?_
    refine hv_getI (k := 6) E dX3_isThing_6 rfl rfl hiX3 (by decide) wd_100 rfl rfl ?_
    refine hv_icmp_ge (tgt := 16) E dX3_isThing_9 (by decide) (fun c2 => ?_) (fun c2 => ?_)
    · have h := h.1 c2
      refine hv_iconst (v := nI 0) E dX3_isThing_16 (by decide) ?_
      exact hv_zret E hret dX3_isThing_17 (by decide) (Nat.le_of_ble_eq_true rfl) (Nat.le_of_ble_eq_true rfl) ⟨_, rfl, hs, h⟩
    · have h := h.2 c2
      refine hv_iconst (v := nI 1) E dX3_isThing_12 (by decide) ?_
      refine hv_goto (tgt := 17) E dX3_isThing_13 (by decide) ?_
      exact hv_zret E hret dX3_isThing_17 (by decide) (Nat.le_of_ble_eq_true rfl) (Nat.le_of_ble_eq_true rfl) ⟨_, rfl, hs, h⟩
-- VersionJoins.isSameOrAbove(II)Z
def k_X3_isSameOrAbove (P : Int32 → hp_S → Prop) (a1 : Int32) (a2 : Int32) (x : hp_S) : Prop := vp_in a2 12 ∧ (x.2.2.2 (4, 0) a2.toNatClampNeg = some (11, a2.toNatClampNeg) ∧ (k_X2_withAbove (fun r7 x7 => (((hx_iushr r7 a1) &&& (nI 1)) = 0 → (P (nI 0) x7)) ∧ (¬ ((hx_iushr r7 a1) &&& (nI 1)) = 0 → (P (nI 1) x7))) a2.toNatClampNeg a2 x))
abbrev rm_X3_isSameOrAbove : Room := ({ frames := 1, cells := 0, slots := 0, locals := 21 } : Room)
set_option maxRecDepth 100000 in
set_option maxHeartbeats 4000000 in
theorem c_X3_isSameOrAbove (l : Launch) (P : Int32 → hp_S → Prop) (a1 : Int32) (a2 : Int32) (x : hp_S) (hs : hp_sh x) (h : k_X3_isSameOrAbove P a1 a2 x) : hp_C l yX3_isSameOrAbove (Cond.code yX3_isSameOrAbove cX3_isSameOrAbove 3 (Option.some Jvm.ClassFile.FieldType.boolean) :: hp_ws) rm_X3_isSameOrAbove [aR (0, 0), aI a1, aI a2] x (hp_pI P) 0 0 := by
  refine hp_ofV (own := "VersionJoins") (lv := [(0, aR (0, 0)), (1, aI a1), (2, aI a2)]) (by decide) rfl (Nat.le_of_ble_eq_true rfl) rfl ?_
  intro p e s m args below meth c D cA B0 ad0 E hret hnm
  unfold k_X3_isSameOrAbove at h
  refine hv_aload_n E dX3_isSameOrAbove_0 rfl 0 rfl ?_
  refine hv_getR (k := 3) (t2 := (4, 0)) E dX3_isSameOrAbove_1 rfl rfl hiX3 (by decide) wd_97 rfl rfl (hs _ _ _ rfl) ?_
  refine hv_iload_n E dX3_isSameOrAbove_4 rfl 2 rfl ?_
  obtain ⟨h1, h⟩ := h
  obtain ⟨h2, h⟩ := h
  refine hv_aald (t2 := (11, a2.toNatClampNeg)) E dX3_isSameOrAbove_5 rfl (by decide) rfl rfl h1 (fun _ => h2) ?_
  refine hv_iload_n E dX3_isSameOrAbove_6 rfl 2 rfl ?_
  refine hv_VI E [aI a2] (c_X2_withAbove l _ a2.toNatClampNeg a2 x hs h) (hp_cwV 1 E wd_202 wd_203 wd_204 wd_42 wd_205 rfl rfl (by decide +kernel) ⟨(Nat.le_of_ble_eq_true rfl), (Nat.le_of_ble_eq_true rfl)⟩) rfl rfl rfl rfl (Nat.le_of_ble_eq_true rfl) dX3_isSameOrAbove_7 ⟨(Nat.le_of_ble_eq_true rfl), (Nat.le_of_ble_eq_true rfl)⟩ (fun r7 x7 hs h => ?_)
  refine hv_iload_n E dX3_isSameOrAbove_10 rfl 1 rfl ?_
  refine hv_iushr (v := hx_iushr r7 a1) E dX3_isSameOrAbove_11 rfl ?_
  refine hv_iconst (v := nI 1) E dX3_isSameOrAbove_12 (by decide) ?_
  refine hv_iand (v := (hx_iushr r7 a1) &&& (nI 1)) E dX3_isSameOrAbove_13 rfl ?_
  refine hv_if_eq (tgt := 21) E dX3_isSameOrAbove_14 (by decide) (fun c3 => ?_) (fun c3 => ?_)
  · have h := h.1 c3
    refine hv_iconst (v := nI 0) E dX3_isSameOrAbove_21 (by decide) ?_
    exact hv_zret E hret dX3_isSameOrAbove_22 (by decide) (Nat.le_of_ble_eq_true rfl) (Nat.le_of_ble_eq_true rfl) ⟨_, rfl, hs, h⟩
  · have h := h.2 c3
    refine hv_iconst (v := nI 1) E dX3_isSameOrAbove_17 (by decide) ?_
    refine hv_goto (tgt := 22) E dX3_isSameOrAbove_18 (by decide) ?_
    exact hv_zret E hret dX3_isSameOrAbove_22 (by decide) (Nat.le_of_ble_eq_true rfl) (Nat.le_of_ble_eq_true rfl) ⟨_, rfl, hs, h⟩
