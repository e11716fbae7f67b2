/-! PURE ROWS: class and reference, method by method, over the common state -/
section OPS1
variable {x : hp_S} {s : sg} {C : Nat → Nat → Int32}
/-! arguments -/
theorem p_X3_isThing {P : Int32 → hp_S → Prop} {a : Int32} (hr : RX x s C) (hT : nT s ≤ 24) (h1 : ∀ t, t < nT s → a = nI t → P (nI 1) x) (h0 : (∀ t, t < nT s → a ≠ nI t) → P (nI 0) x) : k_X3_isThing P a x := rc hr.nT (by omega) h0 h1
theorem p_X4_isThing {P : Int32 → hp_S → Prop} {a : Int32} (hr : RM x s C) (hT : nT s ≤ 24) (h1 : ∀ t, t < nT s → a = nI t → P (nI 1) x) (h0 : (∀ t, t < nT s → a ≠ nI t) → P (nI 0) x) : k_X4_isThing P a x := rc hr.nT (by omega) h0 h1
theorem p_X3_isStep {P : Int32 → hp_S → Prop} {a : Int32} (hr : RX x s C) (hT : nS s ≤ 12) (h1 : ∀ t, t < nS s → a = nI t → P (nI 1) x) (h0 : (∀ t, t < nS s → a ≠ nI t) → P (nI 0) x) : k_X3_isStep P a x := rc hr.nS (by omega) h0 h1
theorem p_X4_isStep {P : Int32 → hp_S → Prop} {a : Int32} (hr : RM x s C) (hT : nS s ≤ 12) (h1 : ∀ t, t < nS s → a = nI t → P (nI 1) x) (h0 : (∀ t, t < nS s → a ≠ nI t) → P (nI 0) x) : k_X4_isStep P a x := rc hr.nS (by omega) h0 h1
theorem p_X0_has {P : Int32 → hp_S → Prop} {a : Int32} (hr : RX x s C) (hT : nC s ≤ 24) (h1 : ∀ t, t < nC s → a = nI t → P (nI 1) x) (h0 : (∀ t, t < nC s → a ≠ nI t) → P (nI 0) x) : k_X0_has P a x := rc hr.nC (by omega) h0 h1
/-! thing -/
def sVals (s : sg) (v : Int64) : Nat → sg
  | 0 => s
  | m + 1 => sL (sVals s v m) 0 m (nT s) v
theorem sVals_N (s : sg) (v : Int64) : ∀ m, (sVals s v m).1 = s.1
  | 0 => rfl
  | m + 1 => sVals_N s v m
theorem sVals_nT (s : sg) (v : Int64) (m : Nat) : nT (sVals s v m) = nT s := by
  show (sVals s v m).1 0 0 0 = s.1 0 0 0
  rw [sVals_N]
def sThing (s : sg) (v : Int64) : sg := sN (sVals s v 6) 0 0 0 (nT s + 1)
theorem p_X3_thing {P : Int32 → hp_S → Prop} {v : Int64} (hr : RX x s C) (hT : nT s ≤ 24) (h1 : nT s = 24 → P (-1) x) (h2 : nT s < 24 → ∀ x', RX x' (sThing s v) (cU C 0 (nT s) (-1)) → GX x x' → P (nI (nT s)) x') : k_X3_thing P v x := by
  unfold k_X3_thing
  rw [hr.nT]
  refine ⟨fun c => ?_, fun c => h1 ?_⟩
  · have hlt : nT s < 24 := (nI_ltI (by omega) (by decide)).mp c
    refine up (n := 6) (k_X3_thing_13 P v) (fun j y => RX y (sVals s v j) C ∧ GX x y) ?_ ?_ 0 x (by omega) ⟨hr, GX.rf x⟩
    · rintro y ⟨hy, hg⟩
      have hn : y.2.1 (0, 0) 6 = nI (nT s) := by rw [hy.nT, sVals_nT]
      refine ⟨1, ?_⟩
      unfold k_X3_thing_13
      refine ⟨fun _ => ⟨by rw [hn]; exact vp_in_nI hlt (by decide), ?_⟩, fun c => absurd (nI_le (Nat.le_refl 6) (by decide)) c⟩
      rw [hn, cl _ (by omega)]
      have e1 : (hp_uI y (3, 0) (nT s) (-1)).2.1 (0, 0) 6 = nI (nT s) := by rw [hp_uI_at, if_neg (by simp)]; exact hn
      rw [e1, nI_add, hp_uI_at, if_pos ⟨rfl, rfl⟩, pk_sub (by omega), Nat.add_sub_cancel]
      refine h2 hlt _ ?_ ((hg.uI (by decide)).uI (by decide))
      exact (hy.uC 0 (nT s) (Or.inl rfl) rfl).uN 0 0 0 (nT s + 1) (Or.inl ⟨rfl, by decide, rfl⟩) rfl rfl
    · rintro j y hj ⟨hy, hg⟩ ih
      have hn : y.2.1 (0, 0) 6 = nI (nT s) := by rw [hy.nT, sVals_nT]
      obtain ⟨q, hq⟩ := ih (hp_uL y (2, j) (nT s) v) ⟨hy.uL 0 j (nT s) (Or.inl ⟨rfl, hlt⟩) rfl, hg.uL (by decide : 2 < 20)⟩
      refine ⟨q + 1, ?_⟩
      unfold k_X3_thing_13
      refine ⟨fun c => absurd c (nI_ge hj (by decide)), fun _ => ⟨vp_in_nI hj (by decide), by rw [hn]; exact vp_in_nI hlt (by decide), ?_⟩⟩
      rw [hn, cl _ (by omega), cl _ (by omega), nI_add]
      exact hq
  · rcases Nat.lt_or_ge (nT s) 24 with q | q
    · exact absurd (nI_lt q (by decide)) c
    · omega
theorem p_X4_thing {P : Int32 → hp_S → Prop} {v : Int64} (hr : RM x s C) (hT : nT s ≤ 24) (h1 : nT s = 24 → P (-1) x) (h2 : nT s < 24 → ∀ x', RM x' (sThing s v) C → GM x x' → P (nI (nT s)) x') : k_X4_thing P v x := by
  unfold k_X4_thing
  rw [hr.nT]
  refine ⟨fun c => ?_, fun c => h1 ((nI_eq (by omega) (by decide)).mp c)⟩
  have hlt : nT s < 24 := Nat.lt_of_le_of_ne hT (fun q => c (by rw [q]))
  refine up (n := 6) (k_X4_thing_13 P v) (fun j y => RM y (sVals s v j) C ∧ GM x y) ?_ ?_ 0 x (by omega) ⟨hr, GM.rf x⟩
  · rintro y ⟨hy, hg⟩
    have hn : y.2.1 (20, 0) 0 = nI (nT s) := by rw [hy.nT, sVals_nT]
    refine ⟨1, ?_⟩
    unfold k_X4_thing_13
    refine ⟨fun _ => ?_, fun c => absurd (nI_le (Nat.le_refl 6) (by decide)) c⟩
    rw [hn, nI_add, hp_uI_at, if_pos ⟨rfl, rfl⟩, pk_sub (by omega), Nat.add_sub_cancel]
    exact h2 hlt _ (hy.uN 0 0 0 (nT s + 1) (Or.inl ⟨rfl, by decide, rfl⟩) rfl rfl) (hg.uI (by decide))
  · rintro j y hj ⟨hy, hg⟩ ih
    have hn : y.2.1 (20, 0) 0 = nI (nT s) := by rw [hy.nT, sVals_nT]
    obtain ⟨q, hq⟩ := ih (hp_uL y (21, 0) (24 * j + nT s) v) ⟨hy.uL 0 j (nT s) (Or.inl ⟨rfl, hlt⟩) rfl, hg.uL (by decide : 20 ≤ 21)⟩
    refine ⟨q + 1, ?_⟩
    unfold k_X4_thing_13
    rw [hn, pk_mul 24 j, nI_add (24 * j) (nT s)]
    refine ⟨fun c => absurd c (nI_ge hj (by decide)), fun _ => ⟨vp_in_nI (by omega) (by decide), ?_⟩⟩
    rw [cl _ (by omega), nI_add]
    exact hq
/-! value -/
theorem p_X3_value {P : Int64 → hp_S → Prop} {a1 a2 : Int32} (hr : RX x s C) (hT : nT s ≤ 24) (hB : nB s ≤ 6) (h1 : ∀ b t, b < nB s → t < nT s → a1 = nI b → a2 = nI t → P (s.2 0 b t) x) (h0 : ((∀ b, b < nB s → a1 ≠ nI b) ∨ ∀ t, t < nT s → a2 ≠ nI t) → P 0 x) : k_X3_value P a1 a2 x := by
  refine rc hr.nB (by omega) (fun h => h0 (Or.inl h)) (fun b hb e => ?_)
  refine p_X3_isThing hr hT (fun t ht e2 => b1' ?_) (fun h => b0' (h0 (Or.inr h)))
  subst e; subst e2
  rw [cl _ (by omega), cl _ (by omega), hr.val b t (by omega)]
  exact ⟨vp_in_nI (by omega) (by decide), vp_in_nI (by omega) (by decide), h1 b t hb ht rfl rfl⟩
theorem p_X4_value {P : Int64 → hp_S → Prop} {a1 a2 : Int32} (hr : RM x s C) (hT : nT s ≤ 24) (hB : nB s ≤ 6) (h1 : ∀ b t, b < nB s → t < nT s → a1 = nI b → a2 = nI t → P (s.2 0 b t) x) (h0 : ((∀ b, b < nB s → a1 ≠ nI b) ∨ ∀ t, t < nT s → a2 ≠ nI t) → P 0 x) : k_X4_value P a1 a2 x := by
  refine rc hr.nB (by omega) (fun h => h0 (Or.inl h)) (fun b hb e => ?_)
  refine p_X4_isThing hr hT (fun t ht e2 => b1 ?_) (fun h => b0 (h0 (Or.inr h)))
  subst e; subst e2
  rw [pk_mul, nI_add, cl _ (by omega), hr.val b t (by omega)]
  exact ⟨vp_in_nI (by omega) (by decide), h1 b t hb ht rfl rfl⟩
end OPS1
