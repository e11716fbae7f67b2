/-! THE START: both are made, all is zero, one branch -/
def ZI (x : hp_S) (a b : Int32) : Prop := (∀ t p, x.2.1 t p = if t = (0, 0) ∧ p = 7 then a else if t = (20, 0) ∧ p = 1 then b else 0) ∧ ∀ t p, x.2.2.1 t p = 0
def hp_shA (x : hp_S) (A : hp_T → Prop) : Prop := ∀ t k t2, ¬ A t → hp_ex t k = some t2 → x.1 t = true → x.2.2.2 t k = some t2
section INIT
variable {x : hp_S} {a b : Int32} {A : hp_T → Prop}
theorem ZI.nw (h : ZI x a b) (t : hp_T) (h1 : t = (0, 0) → a = 0) (h2 : t = (20, 0) → b = 0) : ZI (hp_nw x t) a b := by
  refine ⟨fun t' p => ?_, fun t' p => ?_⟩
  · simp only [hp_nw]
    by_cases e : t' = t
    · rw [if_pos e]
      by_cases q : t' = (0, 0) ∧ p = 7
      · rw [if_pos q, h1 (by rw [← e]; exact q.1)]
      · rw [if_neg q]
        by_cases q2 : t' = (20, 0) ∧ p = 1
        · rw [if_pos q2, h2 (by rw [← e]; exact q2.1)]
        · rw [if_neg q2]
    · rw [if_neg e]
      exact h.1 t' p
  · simp only [hp_nw]
    split
    · rfl
    · exact h.2 t' p
theorem ZI.nwG (h : ZI x a b) : ZI (hp_nwG x) a b := by
  refine ⟨fun t' p => ?_, fun t' p => ?_⟩
  · simp only [hp_nwG]
    by_cases e : t' = (1, 0) ∨ (t'.1 = 2 ∧ t'.2 < 6)
    · rw [if_pos e, if_neg, if_neg]
      · rintro ⟨rfl, _⟩
        simp at e
      · rintro ⟨rfl, _⟩
        simp at e
    · rw [if_neg e]
      exact h.1 t' p
  · simp only [hp_nwG]
    split
    · rfl
    · exact h.2 t' p
theorem ZI.uR (h : ZI x a b) {t : hp_T} {k : Nat} {v : Option hp_T} : ZI (hp_uR x t k v) a b := h
theorem ZI.u0 (h : ZI x a b) (t : hp_T) (p : Nat) (h1 : ¬ (t = (0, 0) ∧ p = 7)) (h2 : ¬ (t = (20, 0) ∧ p = 1)) : ZI (hp_uI x t p (nI 0)) a b := by
  refine ⟨fun t' p' => ?_, h.2⟩
  rw [hp_uI_at]
  by_cases e : t' = t ∧ p' = p
  · rw [if_pos e, if_neg (by rw [e.1, e.2]; exact h1), if_neg (by rw [e.1, e.2]; exact h2), nI_0]
  · rw [if_neg e]
    exact h.1 t' p'
theorem ZI.ua (h : ZI x a b) {v : Int32} : ZI (hp_uI x (0, 0) 7 v) v b := by
  refine ⟨fun t' p' => ?_, h.2⟩
  rw [hp_uI_at, h.1 t' p']
  by_cases e : t' = (0, 0) ∧ p' = 7
  · rw [if_pos e, if_pos e]
  · rw [if_neg e, if_neg e, if_neg e]
theorem ZI.ub (h : ZI x a b) {v : Int32} : ZI (hp_uI x (20, 0) 1 v) a v := by
  refine ⟨fun t' p' => ?_, h.2⟩
  rw [hp_uI_at, h.1 t' p']
  by_cases e : t' = (20, 0) ∧ p' = 1
  · rw [if_pos e, if_pos e, if_neg]
    rintro ⟨q, _⟩
    rw [e.1] at q
    simp at q
  · rw [if_neg e, if_neg e, if_neg e]
theorem shA_nw (h : hp_shA x A) (t : hp_T) (ht : A t ∨ ∀ k, hp_ex t k = none) : hp_shA (hp_nw x t) A := fun t' k t2 hn he hl => by
  by_cases e : t' = t
  · subst e
    rcases ht with ht | ht
    · exact absurd ht hn
    · rw [ht k] at he
      cases he
  · simp only [hp_nw, if_neg e] at hl ⊢
    exact h t' k t2 hn he hl
theorem shA_uR (h : hp_shA x A) (t : hp_T) (ht : A t) {k : Nat} {v : Option hp_T} : hp_shA (hp_uR x t k v) A := fun t' k' t2 hn he hl => by
  simp only [hp_uR]
  rw [if_neg (fun q => hn (by rw [q.1]; exact ht))]
  exact h t' k' t2 hn he hl
theorem shA_uI (h : hp_shA x A) {t : hp_T} {k : Nat} {v : Int32} : hp_shA (hp_uI x t k v) A := h
theorem shA_nwG (h : hp_shA x A) : hp_shA (hp_nwG x) A := fun t k t2 hn he hl => by
  by_cases e : t = (1, 0)
  · subst e
    simp [hp_ex] at he
    simp [hp_nwG, he]
  · by_cases e2 : t.1 = 2 ∧ t.2 < 6
    · obtain ⟨t1, t2'⟩ := t
      obtain ⟨e3, _⟩ := e2
      dsimp only at e3
      subst e3
      simp [hp_ex, hp_xl] at he
    · simp only [hp_nwG, if_neg e, if_neg e2] at hl ⊢
      rw [if_neg (by rintro (q | q); exact e q; exact e2 q)] at hl
      exact h t k t2 hn he hl
theorem shA_done (h : hp_shA x A) (h0 : ∀ t, A t → ∀ k t2, hp_ex t k = some t2 → x.2.2.2 t k = some t2) : hp_sh x := fun t k t2 he hl => by
  by_cases e : A t
  · exact h0 t e k t2 he
  · exact h t k t2 e he hl
end INIT
set_option maxHeartbeats 4000000 in
set_option maxRecDepth 10000 in
theorem p_X3_init {P : hp_S → Prop} (h : ∀ x, ZI x (nI 1) 0 → hp_sh x → (∀ t : hp_T, 11 ≤ t.1 → x.1 t = false) → P x) : k_X3_init P (hp_nw hp_x0 (0, 0)) := by
  have z0 : ZI (hp_nw hp_x0 (0, 0)) 0 0 := ZI.nw ⟨fun t p => by simp [hp_x0], fun _ _ => rfl⟩ (0, 0) (fun _ => rfl) (fun _ => rfl)
  have s0 : hp_shA (hp_nw hp_x0 (0, 0)) (fun t => t = (0, 0) ∨ t = (6, 0)) := shA_nw (fun t k t2 _ _ hl => by simp [hp_x0] at hl) (0, 0) (Or.inl (Or.inl rfl))
  unfold k_X3_init k_X0_init
  have c0 : (nI 0).toNatClampNeg = 0 := cl 0 (by decide)
  rw [c0]
  refine ⟨⟨by simp [hp_nw, hp_x0], fun i hi => by simp [hp_nw, hp_x0]⟩, by simp [hp_uR], vp_in_nI (by decide) (by decide), by simp [hp_uR, hp_nwG], by simp [hp_uR, hp_nwG, hp_nw, hp_x0], by simp [hp_uR, hp_nwG, hp_nw, hp_x0], by simp [hp_uR, hp_nwG, hp_nw, hp_x0], by simp [hp_uR, hp_nwG, hp_nw, hp_x0], by simp [hp_uR, hp_nwG, hp_nw, hp_x0], by simp [hp_uR, hp_nwG, hp_nw, hp_x0], by simp [hp_uR, hp_nwG, hp_nw, hp_x0], by simp [hp_uR, hp_nwG, hp_nw, hp_x0], h _ ?_ ?_ ?_⟩
  · have z1 := ((((z0.nwG.uR (t := (0, 0)) (k := 0) (v := some (1, 0))).uR (t := (0, 0)) (k := 1) (v := some (2, 0))).nw (3, 0) (by simp) (by simp)).uR (t := (0, 0)) (k := 2) (v := some (3, 0)))
    have z2 := ((((z1.nw (4, 0) (by simp) (by simp)).uR (t := (0, 0)) (k := 3) (v := some (4, 0))).nw (5, 0) (by simp) (by simp)).uR (t := (0, 0)) (k := 4) (v := some (5, 0)))
    have z3 := ((((z2.nw (6, 0) (by simp) (by simp)).nw (7, 0) (by simp) (by simp)).uR (t := (6, 0)) (k := 0) (v := some (7, 0))).nw (8, 0) (by simp) (by simp)).uR (t := (6, 0)) (k := 1) (v := some (8, 0))
    have z4 := ((((z3.nw (9, 0) (by simp) (by simp)).uR (t := (6, 0)) (k := 2) (v := some (9, 0))).nw (10, 0) (by simp) (by simp)).uR (t := (6, 0)) (k := 3) (v := some (10, 0))).uR (t := (6, 0)) (k := 4) (v := none)
    have z5 := ((z4.u0 (6, 0) 5 (by simp) (by simp)).uR (t := (0, 0)) (k := 5) (v := some (6, 0))).u0 (0, 0) 6 (by simp) (by simp)
    exact (((z5.ua (v := nI 1)).u0 (0, 0) 8 (by simp) (by simp)).u0 (0, 0) 9 (by simp) (by simp)).u0 (0, 0) 10 (by simp) (by simp)
  · have a0 : (fun t : hp_T => t = (0, 0) ∨ t = (6, 0)) (0, 0) := Or.inl rfl
    have a6 : (fun t : hp_T => t = (0, 0) ∨ t = (6, 0)) (6, 0) := Or.inr rfl
    have s1 := shA_uR (shA_nw (shA_uR (shA_uR (shA_nwG s0) (0, 0) a0 (k := 0) (v := some (1, 0))) (0, 0) a0 (k := 1) (v := some (2, 0))) (3, 0) (Or.inr (fun k => by simp [hp_ex, hp_xl]))) (0, 0) a0 (k := 2) (v := some (3, 0))
    have s2 := shA_uR (shA_nw (shA_uR (shA_nw s1 (4, 0) (Or.inr (fun k => by simp [hp_ex, hp_xl]))) (0, 0) a0 (k := 3) (v := some (4, 0))) (5, 0) (Or.inr (fun k => by simp [hp_ex, hp_xl]))) (0, 0) a0 (k := 4) (v := some (5, 0))
    have s3 := shA_uR (shA_nw (shA_uR (shA_nw (shA_nw s2 (6, 0) (Or.inl a6)) (7, 0) (Or.inr (fun k => by simp [hp_ex, hp_xl]))) (6, 0) a6 (k := 0) (v := some (7, 0))) (8, 0) (Or.inr (fun k => by simp [hp_ex, hp_xl]))) (6, 0) a6 (k := 1) (v := some (8, 0))
    have s4 := shA_uR (shA_uR (shA_nw (shA_uR (shA_nw s3 (9, 0) (Or.inr (fun k => by simp [hp_ex, hp_xl]))) (6, 0) a6 (k := 2) (v := some (9, 0))) (10, 0) (Or.inr (fun k => by simp [hp_ex, hp_xl]))) (6, 0) a6 (k := 3) (v := some (10, 0))) (6, 0) a6 (k := 4) (v := none)
    have s5 := shA_uI (shA_uI (shA_uI (shA_uI (shA_uI (shA_uR (shA_uI s4 (t := (6, 0)) (k := 5) (v := nI 0)) (0, 0) a0 (k := 5) (v := some (6, 0))) (t := (0, 0)) (k := 6) (v := nI 0)) (t := (0, 0)) (k := 7) (v := nI 1)) (t := (0, 0)) (k := 8) (v := nI 0)) (t := (0, 0)) (k := 9) (v := nI 0)) (t := (0, 0)) (k := 10) (v := nI 0)
    refine shA_done s5 (fun t ht k t2 he => ?_)
    rcases ht with rfl | rfl
    · match k, he with
      | 0, he => cases he; simp [hp_uI, hp_uR, hp_nw, hp_nwG]
      | 1, he => cases he; simp [hp_uI, hp_uR, hp_nw, hp_nwG]
      | 2, he => cases he; simp [hp_uI, hp_uR, hp_nw, hp_nwG]
      | 3, he => cases he; simp [hp_uI, hp_uR, hp_nw, hp_nwG]
      | 4, he => cases he; simp [hp_uI, hp_uR, hp_nw, hp_nwG]
      | 5, he => cases he; simp [hp_uI, hp_uR, hp_nw, hp_nwG]
      | 6, he => cases he
      | 7, he => cases he
      | 8, he => cases he
      | 9, he => cases he
      | 10, he => cases he
      | k + 11, he => simp [hp_ex, hp_xl] at he
    · match k, he with
      | 0, he => cases he; simp [hp_uI, hp_uR, hp_nw, hp_nwG]
      | 1, he => cases he; simp [hp_uI, hp_uR, hp_nw, hp_nwG]
      | 2, he => cases he; simp [hp_uI, hp_uR, hp_nw, hp_nwG]
      | 3, he => cases he; simp [hp_uI, hp_uR, hp_nw, hp_nwG]
      | 4, he => cases he
      | 5, he => cases he
      | k + 6, he => simp [hp_ex, hp_xl] at he
  · rintro ⟨t1, t2⟩ ht
    dsimp only at ht
    have e : ∀ k, k < 11 → ¬ t1 = k := fun k hk q => by omega
    simp [hp_uI, hp_uR, hp_nw, hp_nwG, hp_x0, e]
