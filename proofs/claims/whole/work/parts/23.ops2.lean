/-! PURE ROWS: sessions, branches, what conflicts tell -/
theorem nI_inj {a b : Nat} (ha : a < 2 ^ 31) (hb : b < 2 ^ 31) (h : nI a = nI b) : a = b := (nI_eq ha hb).mp h
theorem sN_self {s : sg} {f i k v : Nat} (h : s.1 f i k = v) : sN s f i k v = s := by
  refine Prod.ext ?_ rfl
  funext f' i' k'
  rw [sN_N]
  split
  · rename_i e
    rw [e.1, e.2.1, e.2.2, h]
  · rfl
theorem sL_self {s : sg} {f i k : Nat} {v : Int64} (h : s.2 f i k = v) : sL s f i k v = s := by
  refine Prod.ext rfl ?_
  funext f' i' k'
  rw [sL_L]
  split
  · rename_i e
    rw [e.1, e.2.1, e.2.2, h]
  · rfl
/-- the class's arrays of steps and sessions -/
def SX (x : hp_S) (s : sg) : Prop := (∀ j, j < nS s → x.2.2.2 (4, 0) j = some (11, j)) ∧ ∀ j, j < nZ s → x.2.2.2 (5, 0) j = some (15, j)
theorem SX.kept {x y : hp_S} {s t : sg} (h : SX x s) (hg : GX x y) (h1 : nS t = nS s) (h2 : nZ t = nZ s) : SX y t := ⟨fun j hj => by rw [hg.2.1]; exact h.1 j (by omega), fun j hj => by rw [hg.2.1]; exact h.2 j (by omega)⟩
def sTouch (s : sg) (j t : Nat) (v : Int64) : sg := if s.1 5 j t = 0 then sL (sN s 5 j t 1) 3 j t v else s
def sView (s : sg) (j t : Nat) : Int64 := if s.1 6 j t = 0 then s.2 3 j t else s.2 4 j t
def sWrite (s : sg) (j t : Nat) (v : Int64) : sg := sL (sN s 6 j t 1) 4 j t v
section OPS2
variable {x : hp_S} {s : sg} {C : Nat → Nat → Int32}
theorem p_X3_isOpen {P : Int32 → hp_S → Prop} {a : Int32} (hr : RX x s C) (hx : SX x s) (hZ : nZ s ≤ 40) (ho : ∀ j, s.1 4 j 0 ≤ 1) (h1 : ∀ j, j < nZ s → a = nI j → s.1 4 j 0 = 1 → P (nI 1) x) (h0 : (∀ j, j < nZ s → a = nI j → s.1 4 j 0 ≠ 1) → P (nI 0) x) : k_X3_isOpen P a x := by
  refine rc hr.nZ (by omega) (fun h => h0 (fun j hj e => absurd e (h j hj))) (fun j hj e => ?_)
  subst e
  have := ho j
  refine ⟨vp_in_nI (by omega) (by decide), ?_⟩
  rw [cl _ (by omega)]
  refine ⟨hx.2 j hj, bz (hr.opn j) (by omega) (fun e => h0 (fun j' hj' e' => ?_)) (fun e => h1 j hj rfl (by omega))⟩
  rw [← nI_inj (by omega) (by omega) e', e]
  decide
theorem p_X4_goes {P : Int32 → hp_S → Prop} {a a2 : Int32} (hr : RM x s C) (hT : nT s ≤ 24) (hZ : nZ s ≤ 40) (ho : ∀ j, s.1 4 j 0 ≤ 1) (h1 : ∀ j t, j < nZ s → t < nT s → a = nI j → a2 = nI t → s.1 4 j 0 = 1 → P (nI 1) x) (h0 : (∀ j t, j < nZ s → t < nT s → a = nI j → a2 = nI t → s.1 4 j 0 ≠ 1) → P (nI 0) x) : k_X4_goes P a a2 x := by
  refine rc hr.nZ (by omega) (fun h => h0 (fun j t hj _ e => absurd e (h j hj))) (fun j hj e => ?_)
  subst e
  have := ho j
  refine ⟨vp_in_nI (by omega) (by decide), ?_⟩
  rw [cl _ (by omega)]
  refine bz (hr.opn j) (by omega) (fun e => h0 (fun j' t hj' _ e' _ => ?_)) (fun e => ?_)
  · rw [← nI_inj (by omega) (by omega) e', e]
    decide
  · exact p_X4_isThing hr hT (fun t ht e2 => b1 (h1 j t hj ht rfl e2 (by omega))) (fun h => b0 (h0 (fun j' t hj' ht e' e2 => absurd e2 (h t ht))))
theorem p_X1_touch {P : hp_S → Prop} {j t : Nat} {v : Int64} (hr : RX x s C) (ht : t < 24) (hb : s.1 5 j t ≤ 1) (h : ∀ x', RX x' (sTouch s j t v) C → GX x x' → P x') : k_X1_touch P j (nI t) v x := by
  unfold k_X1_touch
  have hi : vp_in (nI t) 24 := vp_in_nI ht (by decide)
  rw [cl _ (by omega)]
  refine ⟨hi, bz' (hr.tou j t ht) (by omega) (fun e => ⟨hi, hi, ?_⟩) (fun e => ?_)⟩
  · refine h _ ?_ (((GX.rf x).uI (by decide : 16 < 20)).uL (by decide : 17 < 20))
    unfold sTouch
    rw [if_pos e]
    exact (hr.uN 5 j t 1 (Or.inr (Or.inr (Or.inr (Or.inr (Or.inr (Or.inl ⟨rfl, ht⟩)))))) rfl rfl).uL 3 j t (Or.inr (Or.inr (Or.inr (Or.inl ⟨rfl, ht⟩)))) rfl
  · refine h x ?_ (GX.rf x)
    unfold sTouch
    rw [if_neg e]
    exact hr
theorem p_X4_touch {P : hp_S → Prop} {j t : Nat} (hr : RM x s C) (hj : j < 40) (ht : t < 24) (hb : s.1 5 j t ≤ 1) (h : ∀ x', RM x' (sTouch s j t (s.2 0 0 t)) C → GM x x' → P x') : k_X4_touch P (nI (24 * j + t)) (nI t) x := by
  unfold k_X4_touch
  have hi : vp_in (nI (24 * j + t)) 960 := vp_in_nI (by omega) (by decide)
  have hi2 : vp_in (nI t) 144 := vp_in_nI (by omega) (by decide)
  rw [cl _ (by omega), cl _ (by omega)]
  have ev : x.2.2.1 (21, 0) t = s.2 0 0 t := by
    have := hr.val 0 t ht
    rw [Nat.mul_zero, Nat.zero_add] at this
    exact this
  rw [ev, hr.bas j t ht]
  have key : ∀ v, RM (hp_uI (hp_uL x (25, 0) (24 * j + t) v) (23, 0) (24 * j + t) (nI 1)) (sL (sN s 5 j t 1) 3 j t v) C := fun v => (hr.uL 3 j t (Or.inr (Or.inr (Or.inr (Or.inl ⟨rfl, ht⟩)))) rfl).uN 5 j t 1 (Or.inr (Or.inr (Or.inr (Or.inr (Or.inr (Or.inl ⟨rfl, ht⟩)))))) rfl rfl
  refine ⟨hi, bz (hr.tou j t ht) (by omega) (fun e => ⟨hi2, hi, hi, ?_⟩) (fun e => ⟨hi, hi, hi, ?_⟩)⟩
  · refine h _ ?_ (((GM.rf x).uL (by decide : 20 ≤ 25)).uI (by decide : 20 ≤ 23))
    unfold sTouch
    rw [if_pos e]
    exact key _
  · refine h _ ?_ (((GM.rf x).uL (by decide : 20 ≤ 25)).uI (by decide : 20 ≤ 23))
    unfold sTouch
    rw [if_neg e]
    have k := key (s.2 3 j t)
    rw [sN_self (by omega : s.1 5 j t = 1), sL_self rfl] at k
    exact k
theorem p_X1_view {P : Int64 → hp_S → Prop} {j t : Nat} (hr : RX x s C) (ht : t < 24) (hb : s.1 6 j t ≤ 1) (h : P (sView s j t) x) : k_X1_view P j (nI t) x := by
  unfold k_X1_view
  have hi : vp_in (nI t) 24 := vp_in_nI ht (by decide)
  rw [cl _ (by omega), hr.bas j t ht, hr.wri j t ht]
  unfold sView at h
  refine ⟨hi, bz (hr.wro j t ht) (by omega) (fun e => ⟨hi, ?_⟩) (fun e => ⟨hi, ?_⟩)⟩
  · rw [if_pos e] at h
    exact h
  · rw [if_neg e] at h
    exact h
theorem p_X4_own {P : Int64 → hp_S → Prop} {j t : Nat} (hr : RM x s C) (hj : j < 40) (ht : t < 24) (hb : s.1 6 j t ≤ 1) (h : P (sView s j t) x) : k_X4_own P (nI (24 * j + t)) x := by
  unfold k_X4_own
  have hi : vp_in (nI (24 * j + t)) 960 := vp_in_nI (by omega) (by decide)
  rw [cl _ (by omega), hr.bas j t ht, hr.wri j t ht]
  unfold sView at h
  refine ⟨hi, bz (hr.wro j t ht) (by omega) (fun e => ⟨hi, ?_⟩) (fun e => ⟨hi, ?_⟩)⟩
  · rw [if_pos e] at h
    exact h
  · rw [if_neg e] at h
    exact h
theorem sTouch_N {s : sg} {j t f i k : Nat} {v : Int64} (h : f ≠ 5) : (sTouch s j t v).1 f i k = s.1 f i k := by
  unfold sTouch
  split
  · rw [sL_N, sN_N, if_neg (fun q => h q.1)]
  · rfl
/-! read, write -/
theorem p_X3_read {P : Int64 → hp_S → Prop} {a1 a2 : Int32} (hr : RX x s C) (hx : SX x s) (hT : nT s ≤ 24) (hZ : nZ s ≤ 40) (ho : ∀ j, s.1 4 j 0 ≤ 1) (ht : ∀ j t, s.1 5 j t ≤ 1) (hw : ∀ j t, s.1 6 j t ≤ 1) (h1 : ∀ j t, j < nZ s → t < nT s → a1 = nI j → a2 = nI t → s.1 4 j 0 = 1 → ∀ x', RX x' (sTouch s j t (s.2 0 0 t)) C → GX x x' → P (sView (sTouch s j t (s.2 0 0 t)) j t) x') (h0 : (∀ j t, j < nZ s → t < nT s → a1 = nI j → a2 = nI t → s.1 4 j 0 ≠ 1) → P 0 x) : k_X3_read P a1 a2 x := by
  refine p_X3_isOpen hr hx hZ ho (fun j hj e eo => b1 ?_) (fun h => b0 (h0 (fun j t hj _ e _ => h j hj e)))
  refine p_X3_isThing hr hT (fun t htt e2 => b1' ?_) (fun h => b0' (h0 (fun j' t _ htt _ e2 => absurd e2 (h t htt))))
  subst e; subst e2
  refine ⟨vp_in_nI (by omega) (by decide), ?_⟩
  rw [cl j (by omega)]
  refine ⟨hx.2 j hj, vp_in_nI (by omega) (by decide), ?_⟩
  rw [cl t (by omega), hr.val 0 t (by omega)]
  refine p_X1_touch hr (by omega) (ht j t) (fun x' hr' hg => p_X1_view hr' (by omega) (by rw [sTouch_N (by decide)]; exact hw j t) ?_)
  exact h1 j t hj htt rfl rfl eo x' hr' hg
theorem p_X4_read {P : Int64 → hp_S → Prop} {a1 a2 : Int32} (hr : RM x s C) (hT : nT s ≤ 24) (hZ : nZ s ≤ 40) (ho : ∀ j, s.1 4 j 0 ≤ 1) (ht : ∀ j t, s.1 5 j t ≤ 1) (hw : ∀ j t, s.1 6 j t ≤ 1) (h1 : ∀ j t, j < nZ s → t < nT s → a1 = nI j → a2 = nI t → s.1 4 j 0 = 1 → ∀ x', RM x' (sTouch s j t (s.2 0 0 t)) C → GM x x' → P (sView (sTouch s j t (s.2 0 0 t)) j t) x') (h0 : (∀ j t, j < nZ s → t < nT s → a1 = nI j → a2 = nI t → s.1 4 j 0 ≠ 1) → P 0 x) : k_X4_read P a1 a2 x := by
  refine p_X4_goes hr hT hZ ho (fun j t hj htt e e2 eo => b1' ?_) (fun h => b0' (h0 h))
  subst e; subst e2
  rw [pk_mul, nI_add]
  refine p_X4_touch hr (by omega) (by omega) (ht j t) (fun x' hr' hg => p_X4_own hr' (by omega) (by omega) (by rw [sTouch_N (by decide)]; exact hw j t) ?_)
  exact h1 j t hj htt rfl rfl eo x' hr' hg
theorem p_X3_write {P : Int32 → hp_S → Prop} {a1 a2 : Int32} {v : Int64} (hr : RX x s C) (hx : SX x s) (hT : nT s ≤ 24) (hZ : nZ s ≤ 40) (ho : ∀ j, s.1 4 j 0 ≤ 1) (ht : ∀ j t, s.1 5 j t ≤ 1) (h1 : ∀ j t, j < nZ s → t < nT s → a1 = nI j → a2 = nI t → s.1 4 j 0 = 1 → ∀ x', RX x' (sWrite (sTouch s j t (s.2 0 0 t)) j t v) C → GX x x' → P (nI 1) x') (h0 : (∀ j t, j < nZ s → t < nT s → a1 = nI j → a2 = nI t → s.1 4 j 0 ≠ 1) → P (nI 0) x) : k_X3_write P a1 a2 v x := by
  refine p_X3_isOpen hr hx hZ ho (fun j hj e eo => b1 ?_) (fun h => b0 (h0 (fun j t hj _ e _ => h j hj e)))
  refine p_X3_isThing hr hT (fun t htt e2 => b1' ?_) (fun h => b0' (h0 (fun j' t _ htt _ e2 => absurd e2 (h t htt))))
  subst e; subst e2
  have hi : vp_in (nI t) 24 := vp_in_nI (by omega) (by decide)
  refine ⟨vp_in_nI (by omega) (by decide), ?_⟩
  rw [cl j (by omega)]
  refine ⟨hx.2 j hj, hi, ?_⟩
  rw [cl t (by omega), hr.val 0 t (by omega)]
  refine p_X1_touch hr (by omega) (ht j t) (fun x' hr' hg => ?_)
  unfold k_X1_keepWritten
  rw [cl t (by omega)]
  refine ⟨hi, hi, h1 j t hj htt rfl rfl eo _ ?_ ((hg.uI (by decide : 18 < 20)).uL (by decide : 19 < 20))⟩
  exact (hr'.uN 6 j t 1 (Or.inr (Or.inr (Or.inr (Or.inr (Or.inr (Or.inr (Or.inl ⟨rfl, by omega⟩))))))) rfl rfl).uL 4 j t (Or.inr (Or.inr (Or.inr (Or.inr (Or.inl ⟨rfl, by omega⟩))))) rfl
theorem p_X4_write {P : Int32 → hp_S → Prop} {a1 a2 : Int32} {v : Int64} (hr : RM x s C) (hT : nT s ≤ 24) (hZ : nZ s ≤ 40) (ho : ∀ j, s.1 4 j 0 ≤ 1) (ht : ∀ j t, s.1 5 j t ≤ 1) (h1 : ∀ j t, j < nZ s → t < nT s → a1 = nI j → a2 = nI t → s.1 4 j 0 = 1 → ∀ x', RM x' (sWrite (sTouch s j t (s.2 0 0 t)) j t v) C → GM x x' → P (nI 1) x') (h0 : (∀ j t, j < nZ s → t < nT s → a1 = nI j → a2 = nI t → s.1 4 j 0 ≠ 1) → P (nI 0) x) : k_X4_write P a1 a2 v x := by
  refine p_X4_goes hr hT hZ ho (fun j t hj htt e e2 eo => b1' ?_) (fun h => b0' (h0 h))
  subst e; subst e2
  rw [pk_mul, nI_add]
  have hi : vp_in (nI (24 * j + t)) 960 := vp_in_nI (by omega) (by decide)
  refine p_X4_touch hr (by omega) (by omega) (ht j t) (fun x' hr' hg => ⟨hi, hi, ?_⟩)
  rw [cl _ (by omega)]
  refine h1 j t hj htt rfl rfl eo _ ?_ ((hg.uI (by decide : 20 ≤ 24)).uL (by decide : 20 ≤ 26))
  exact (hr'.uN 6 j t 1 (Or.inr (Or.inr (Or.inr (Or.inr (Or.inr (Or.inr (Or.inl ⟨rfl, by omega⟩))))))) rfl rfl).uL 4 j t (Or.inr (Or.inr (Or.inr (Or.inr (Or.inl ⟨rfl, by omega⟩))))) rfl
/-! conflict -/
def sTell (s : sg) (k : Nat) (w : Int32) : Int64 := if w = nI 0 then (nI (s.1 7 k 0)).toInt64 else if w = nI 1 then s.2 5 k 0 else if w = nI 2 then s.2 6 k 0 else -2
theorem p_X3_conflict {P : Int64 → hp_S → Prop} {a1 a2 : Int32} (hr : RX x s C) (hC : nC s ≤ 24) (h1 : ∀ k, k < nC s → a1 = nI k → P (sTell s k a2) x) (h0 : (∀ k, k < nC s → a1 ≠ nI k) → P (-1) x) : k_X3_conflict P a1 a2 x := by
  refine p_X0_has hr hC (fun k hk e => b1' ?_) (fun h => b0' (h0 h))
  subst e
  have hi : vp_in (nI k) 24 := vp_in_nI (by omega) (by decide)
  have h := h1 k hk rfl
  rw [cl _ (by omega), hr.ct k, hr.co k, hr.ch k]
  unfold sTell at h
  refine ⟨⟨fun e => ⟨hi, ?_⟩, fun e => ⟨hi, ?_⟩, fun e => ⟨hi, ?_⟩⟩, fun e0 e1 e2 => ?_⟩
  · rw [if_pos e] at h
    exact h
  · rw [if_neg (by rw [e]; decide), if_pos e] at h
    exact h
  · rw [if_neg (by rw [e]; decide), if_neg (by rw [e]; decide), if_pos e] at h
    exact h
  · rw [if_neg e0, if_neg e1, if_neg e2] at h
    exact h
theorem p_X4_conflict {P : Int64 → hp_S → Prop} {a1 a2 : Int32} (hr : RM x s C) (hC : nC s ≤ 24) (h1 : ∀ k, k < nC s → a1 = nI k → P (sTell s k a2) x) (h0 : (∀ k, k < nC s → a1 ≠ nI k) → P (-1) x) : k_X4_conflict P a1 a2 x := by
  unfold k_X4_conflict
  have key := rc (a := a1) (A := P (-1) x) (B := ∃ k, k < nC s ∧ a1 = nI k) hr.nC (by omega) h0 (fun k hk e => ⟨k, hk, e⟩)
  refine ⟨key.1, fun c => ⟨fun c2 => ?_, fun c2 => (key.2 c).1 (Int32.not_lt.mp c2)⟩⟩
  obtain ⟨k, hk, e⟩ := (key.2 c).2 (Int32.not_le.mpr c2)
  subst e
  have hi : vp_in (nI k) 24 := vp_in_nI (by omega) (by decide)
  have h := h1 k hk rfl
  rw [cl _ (by omega), hr.ct k, hr.co k, hr.ch k]
  unfold sTell at h
  refine ⟨fun e0 => ⟨fun e1 => ⟨fun e2 => ?_, fun e2 => ⟨hi, ?_⟩⟩, fun e1 => ⟨hi, ?_⟩⟩, fun e0 => ⟨hi, ?_⟩⟩
  · rw [if_neg (by rw [nI_0]; exact e0), if_neg e1, if_neg e2] at h
    exact h
  · rw [if_neg (by rw [nI_0]; exact e0), if_neg e1, if_pos e2] at h
    exact h
  · rw [if_neg (by rw [nI_0]; exact e0), if_pos e1] at h
    exact h
  · rw [if_pos (by rw [nI_0]; exact e0)] at h
    exact h
end OPS2
