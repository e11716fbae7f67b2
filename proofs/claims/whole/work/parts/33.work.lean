/-! PURE ROWS: what a step makes, and giving it -/
noncomputable def wst (kd : Nat) (v : Nat → Int64) (k : Nat) (a : Int64) : Int64 := if kd = 0 then a + v k else if kd = 1 then (if k = 0 then v 0 else if a < v k then v k else a) else if kd = 2 then a ^^^ v k else @ite _ (∃ j, j < k ∧ v j = v k) (Classical.propDecidable _) a (a + 1)
noncomputable def Wo (kd : Nat) (v : Nat → Int64) : Nat → Int64
  | 0 => 0
  | k + 1 => wst kd v k (Wo kd v k)
theorem Wo_congr {kd : Nat} {v v' : Nat → Int64} : ∀ n, (∀ k, k < n → v k = v' k) → Wo kd v n = Wo kd v' n
  | 0, _ => rfl
  | n + 1, h => by
    unfold Wo
    rw [Wo_congr n (fun k hk => h k (by omega))]
    unfold wst
    have e0 : n = 0 → v 0 = v' 0 := fun q => by subst q; exact h 0 (by omega)
    have e1 : (∃ j, j < n ∧ v j = v n) ↔ ∃ j, j < n ∧ v' j = v' n := by
      constructor
      · rintro ⟨j, hj, e⟩
        exact ⟨j, hj, by rw [← h j (by omega), ← h n (by omega)]; exact e⟩
      · rintro ⟨j, hj, e⟩
        exact ⟨j, hj, by rw [h j (by omega), h n (by omega)]; exact e⟩
    rw [h n (by omega)]
    by_cases q0 : kd = 0
    · rw [if_pos q0, if_pos q0]
    · rw [if_neg q0, if_neg q0]
      by_cases q1 : kd = 1
      · rw [if_pos q1, if_pos q1]
        by_cases q2 : n = 0
        · rw [if_pos q2, if_pos q2, e0 q2]
        · rw [if_neg q2, if_neg q2]
      · rw [if_neg q1, if_neg q1]
        by_cases q2 : kd = 2
        · rw [if_pos q2, if_pos q2]
        · rw [if_neg q2, if_neg q2]
          rw [h n (by omega)] at e1
          by_cases q3 : ∃ j, j < n ∧ v' j = v' n
          · rw [if_pos (e1.mpr q3), if_pos q3]
          · rw [if_neg (fun z => q3 (e1.mp z)), if_neg q3]
theorem wst1k {v : Nat → Int64} {k : Nat} {a : Int64} (h : k ≠ 0) : wst 1 v k a = if a < v k then v k else a := by
  unfold wst
  rw [if_neg (by decide), if_pos rfl, if_neg h]
section WORK
variable {x : hp_S} {s : sg} {C : Nat → Nat → Int32}
theorem p_X2_sum {P : Int64 → hp_S → Prop} {i : Nat} (hr : RX x s C) (h8 : s.1 1 i 4 ≤ 8) (h : P (Wo 0 (s.2 1 i) (s.1 1 i 4)) x) : k_X2_sum P i x := by
  refine upE (n := s.1 1 i 4) (fun q (z : hp_S × Int64) l => k_X2_sum_4 P i q z.1 z.2 l) (fun m z => z.1 = x ∧ z.2 = Wo 0 (s.2 1 i) m) (x, 0) ⟨rfl, rfl⟩ ?_ ?_
  · rintro ⟨y, l⟩ ⟨e, e2⟩ m
    dsimp only at e e2 ⊢
    subst e; subst e2
    unfold k_X2_sum_4
    rw [hr.ut i]
    exact ⟨fun _ => h, fun c => absurd (nI_le (Nat.le_refl _) (by omega)) c⟩
  · rintro k ⟨y, l⟩ m hk ⟨e, e2⟩ ih
    dsimp only at e e2 ⊢
    subst e; subst e2
    unfold k_X2_sum_4
    rw [hr.ut i, cl k (by omega), hr.inp i k (by omega), nI_add k 1]
    refine ⟨fun c => absurd c (nI_ge hk (by omega)), fun _ => ⟨vp_in_nI (by omega) (by decide), ih (y, _) ⟨rfl, ?_⟩⟩⟩
    show _ = wst 0 _ k _
    unfold wst
    rw [if_pos rfl]
theorem p_X2_xor {P : Int64 → hp_S → Prop} {i : Nat} (hr : RX x s C) (h8 : s.1 1 i 4 ≤ 8) (h : P (Wo 2 (s.2 1 i) (s.1 1 i 4)) x) : k_X2_exclusiveOr P i x := by
  refine upE (n := s.1 1 i 4) (fun q (z : hp_S × Int64) l => k_X2_exclusiveOr_4 P i q z.1 z.2 l) (fun m z => z.1 = x ∧ z.2 = Wo 2 (s.2 1 i) m) (x, 0) ⟨rfl, rfl⟩ ?_ ?_
  · rintro ⟨y, l⟩ ⟨e, e2⟩ m
    dsimp only at e e2 ⊢
    subst e; subst e2
    unfold k_X2_exclusiveOr_4
    rw [hr.ut i]
    exact ⟨fun _ => h, fun c => absurd (nI_le (Nat.le_refl _) (by omega)) c⟩
  · rintro k ⟨y, l⟩ m hk ⟨e, e2⟩ ih
    dsimp only at e e2 ⊢
    subst e; subst e2
    unfold k_X2_exclusiveOr_4
    rw [hr.ut i, cl k (by omega), hr.inp i k (by omega), nI_add k 1]
    refine ⟨fun c => absurd c (nI_ge hk (by omega)), fun _ => ⟨vp_in_nI (by omega) (by decide), ih (y, _) ⟨rfl, ?_⟩⟩⟩
    show _ = wst 2 _ k _
    unfold wst
    rw [if_neg (by decide), if_neg (by decide), if_pos rfl]
theorem p_X2_greatest {P : Int64 → hp_S → Prop} {i : Nat} (hr : RX x s C) (h8 : s.1 1 i 4 ≤ 8) (h : P (Wo 1 (s.2 1 i) (s.1 1 i 4)) x) : k_X2_greatest P i x := by
  unfold k_X2_greatest
  rw [hr.ut i, nI_le0 (by omega)]
  refine ⟨fun c => ⟨1, ?_⟩, fun c => ⟨vp_in_nI (by omega) (by decide), ?_⟩⟩
  · unfold k_X2_greatest_20
    rw [hr.ut i, c]
    rw [c] at h
    exact ⟨fun _ => h, fun c => absurd (nI_le (by omega) (by omega)) c⟩
  · rw [cl 0 (by decide), hr.inp i 0 (by omega)]
    refine ⟨_, upF (n := s.1 1 i 4) (fun q (z : hp_S × Int64) l => k_X2_greatest_20 P i q z.1 z.2 l) (fun m z => 1 ≤ m ∧ z.1 = x ∧ z.2 = Wo 1 (s.2 1 i) m) ?_ ?_ 1 (x, s.2 1 i 0) (by omega) ⟨Nat.le_refl _, rfl, ?_⟩⟩
    · rintro ⟨y, l⟩ ⟨_, e, e2⟩ m
      dsimp only at e e2 ⊢
      subst e; subst e2
      unfold k_X2_greatest_20
      rw [hr.ut i]
      exact ⟨fun _ => h, fun c => absurd (nI_le (Nat.le_refl _) (by omega)) c⟩
    · rintro k ⟨y, l⟩ m hk ⟨hk1, e, e2⟩ ih
      dsimp only at e e2 ⊢
      subst e; subst e2
      unfold k_X2_greatest_20
      rw [hr.ut i, cl k (by omega), hr.inp i k (by omega), nI_add k 1]
      refine ⟨fun c => absurd c (nI_ge hk (by omega)), fun _ => ⟨vp_in_nI (by omega) (by decide), ih (y, if s.2 1 i k < Wo 1 (s.2 1 i) k then Wo 1 (s.2 1 i) k else s.2 1 i k) ⟨by omega, rfl, ?_⟩⟩⟩
      show (if s.2 1 i k < Wo 1 (s.2 1 i) k then Wo 1 (s.2 1 i) k else s.2 1 i k) = wst 1 _ k _
      rw [wst1k (by omega)]
      generalize Wo 1 (s.2 1 i) k = a
      generalize s.2 1 i k = b
      by_cases q : b < a
      · rw [if_pos q, if_neg (fun z => Int64.lt_irrefl (Int64.lt_trans z q))]
      · rw [if_neg q]
        by_cases q2 : a < b
        · rw [if_pos q2]
        · rw [if_neg q2]
          exact Int64.le_antisymm (Int64.not_lt.mp q2) (Int64.not_lt.mp q)
    · show _ = wst 1 _ 0 _
      unfold wst
      rw [if_neg (by decide), if_pos rfl, if_pos rfl]
theorem p_X2_isFirst {P : Int32 → hp_S → Prop} {i k : Nat} (hr : RX x s C) (hk : k < 8) (h : ∀ r, fl r (¬ ∃ j, j < k ∧ s.2 1 i j = s.2 1 i k) → P r x) : k_X2_isFirstOfItsValue P i (nI k) x := by
  refine upE (n := k) (k_X2_isFirstOfItsValue_2 P i (nI k)) (fun m y => y = x ∧ ∀ j, j < m → s.2 1 i j ≠ s.2 1 i k) x ⟨rfl, fun j hj => absurd hj (by omega)⟩ ?_ ?_
  · rintro y ⟨rfl, hb⟩ m
    unfold k_X2_isFirstOfItsValue_2
    exact ⟨fun _ => h _ (fl1 (fun ⟨j, z1, z2⟩ => hb j z1 z2)), fun c => absurd (nI_le (Nat.le_refl _) (by omega)) c⟩
  · rintro j y m hj ⟨rfl, hb⟩ ih
    unfold k_X2_isFirstOfItsValue_2
    rw [cl j (by omega), cl k (by omega), hr.inp i j (by omega), hr.inp i k (by omega), nI_add j 1]
    refine ⟨fun c => absurd c (nI_ge hj (by omega)), fun _ => ⟨vp_in_nI (by omega) (by decide), vp_in_nI (by omega) (by decide), (bl _ _ (fun e => h _ (fl0 (fun z => z ⟨j, hj, e⟩))) (fun e => ih y ⟨rfl, fun j' hj' => ?_⟩)).symm⟩⟩
    by_cases q : j' = j
    · rw [q]
      exact e
    · exact hb j' (by omega)
theorem p_X2_different {P : Int64 → hp_S → Prop} {i : Nat} (hr : RX x s C) (h8 : s.1 1 i 4 ≤ 8) (h : P (Wo 3 (s.2 1 i) (s.1 1 i 4)) x) : k_X2_differentOnes P i x := by
  refine upE (n := s.1 1 i 4) (fun q (z : hp_S × Int64) l => k_X2_differentOnes_4 P i q z.1 z.2 l) (fun m z => z.1 = x ∧ z.2 = Wo 3 (s.2 1 i) m) (x, 0) ⟨rfl, rfl⟩ ?_ ?_
  · rintro ⟨y, l⟩ ⟨e, e2⟩ m
    dsimp only at e e2 ⊢
    subst e; subst e2
    unfold k_X2_differentOnes_4
    rw [hr.ut i]
    exact ⟨fun _ => h, fun c => absurd (nI_le (Nat.le_refl _) (by omega)) c⟩
  · rintro k ⟨y, l⟩ m hk ⟨e, e2⟩ ih
    dsimp only at e e2 ⊢
    subst e; subst e2
    unfold k_X2_differentOnes_4
    rw [hr.ut i, nI_add k 1]
    refine ⟨fun c => absurd c (nI_ge hk (by omega)), fun _ => p_X2_isFirst hr (by omega) (fun r hfl => hfl.bb (fun q => ih (y, _) ⟨rfl, ?_⟩) (fun q => ih (y, _) ⟨rfl, ?_⟩))⟩
    · show _ = wst 3 _ k _
      unfold wst
      rw [if_neg (by decide), if_neg (by decide), if_neg (by decide), if_pos (Classical.byContradiction q)]
    · show _ = wst 3 _ k _
      unfold wst
      rw [if_neg (by decide), if_neg (by decide), if_neg (by decide), if_neg q]
theorem p_X2_result {P : Int64 → hp_S → Prop} {i : Nat} (hr : RX x s C) (h8 : s.1 1 i 4 ≤ 8) (hk : s.1 1 i 0 < 4) (h : P (Wo (s.1 1 i 0) (s.2 1 i) (s.1 1 i 4)) x) : k_X2_resultOfKind P i x := by
  unfold k_X2_resultOfKind
  rw [hr.kd i]
  rw [nI_eq (by omega) (by decide), nI_eq (by omega) (by decide), nI_eq (by omega) (by decide)]
  refine ⟨⟨fun e => p_X2_sum hr h8 ?_, fun e => p_X2_greatest hr h8 ?_, fun e => p_X2_xor hr h8 ?_⟩, fun e0 e1 e2 => p_X2_different hr h8 ?_⟩
  · rw [e] at h
    exact h
  · rw [e] at h
    exact h
  · rw [e] at h
    exact h
  · have : s.1 1 i 0 = 3 := by omega
    rw [this] at h
    exact h
end WORK
def sInp (s : sg) (i j : Nat) : sg := (s.1, fun f i' k => if f = 1 ∧ i' = i ∧ k < j then s.2 0 0 (us s i k) else s.2 f i' k)
noncomputable def WV (s : sg) (i : Nat) : Int64 := Wo (s.1 1 i 0) (fun k => s.2 0 0 (us s i k)) (uc s i)
def sRan (s : sg) (i : Nat) (w : Int64) : sg := sL (sN (sN (sN s 1 i 3 1) 1 i 4 (uc s i)) 1 i 5 (mc s i)) 2 i 0 w
noncomputable def sOut (s : sg) (i : Nat) (w : Int64) (j : Nat) : sg := (s.1, fun f i' k => @ite _ (f = 0 ∧ i' = 0 ∧ (∃ m, m < j ∧ md s i m = k)) (Classical.propDecidable _) w (s.2 f i' k))
noncomputable def sGive (s : sg) (i : Nat) : sg := sRan (sOut (sInp s i (uc s i)) i (WV s i) (mc s i)) i (WV s i)
noncomputable def nOut (s : sg) (i : Nat) (w : Int64) (j : Nat) : Nat := cnt (fun t => (∃ m, m < j ∧ md s i m = t) ∧ s.2 0 0 t ≠ w) 24
theorem sInp_0 {s : sg} {i : Nat} : sInp s i 0 = s := by
  refine Prod.ext rfl ?_
  funext f i' k
  simp [sInp]
theorem sInp_L {s : sg} {i j f i' k : Nat} (h : f ≠ 1) : (sInp s i j).2 f i' k = s.2 f i' k := by
  simp only [sInp]
  rw [if_neg (fun q => h q.1)]
theorem sInp_step {s : sg} {i j : Nat} : sL (sInp s i j) 1 i j (s.2 0 0 (us s i j)) = sInp s i (j + 1) := by
  refine Prod.ext rfl ?_
  funext f i' k
  rw [sL_L]
  simp only [sInp]
  by_cases q : f = 1 ∧ i' = i
  · obtain ⟨rfl, rfl⟩ := q
    by_cases q2 : k = j
    · subst q2
      rw [if_pos ⟨rfl, rfl, rfl⟩, if_pos ⟨rfl, rfl, by omega⟩]
    · rw [if_neg (fun z => q2 z.2.2)]
      by_cases q3 : k < j
      · rw [if_pos ⟨rfl, rfl, q3⟩, if_pos ⟨rfl, rfl, by omega⟩]
      · rw [if_neg (fun z => q3 z.2.2), if_neg (fun z => q3 (by omega))]
  · rw [if_neg (fun z => q ⟨z.1, z.2.1⟩), if_neg (fun z => q ⟨z.1, z.2.1⟩), if_neg (fun z => q ⟨z.1, z.2.1⟩)]
theorem sOut_0 {s : sg} {i : Nat} {w : Int64} : sOut s i w 0 = s := by
  refine Prod.ext rfl ?_
  funext f i' k
  simp [sOut]
theorem sOut_L {s : sg} {i j f i' k : Nat} {w : Int64} (h : f ≠ 0) : (sOut s i w j).2 f i' k = s.2 f i' k := by
  simp only [sOut]
  rw [if_neg (fun q => h q.1)]
theorem sOut_val {s : sg} {i j t : Nat} {w : Int64} : ((∃ m, m < j ∧ md s i m = t) → (sOut s i w j).2 0 0 t = w) ∧ ((¬ ∃ m, m < j ∧ md s i m = t) → (sOut s i w j).2 0 0 t = s.2 0 0 t) := by
  unfold sOut
  exact ⟨fun q => if_pos ⟨rfl, rfl, q⟩, fun q => if_neg (fun z => q z.2.2)⟩
theorem sRan_L {s : sg} {i f i' k : Nat} {w : Int64} : (sRan s i w).2 f i' k = if f = 2 ∧ i' = i ∧ k = 0 then w else s.2 f i' k := rfl
theorem sOut_in {s : sg} {i j f i' k : Nat} {w : Int64} (h : f = 0 ∧ i' = 0 ∧ ∃ m, m < j ∧ md s i m = k) : (sOut s i w j).2 f i' k = w := by
  unfold sOut
  exact if_pos h
theorem sOut_no {s : sg} {i j f i' k : Nat} {w : Int64} (h : ¬ (f = 0 ∧ i' = 0 ∧ ∃ m, m < j ∧ md s i m = k)) : (sOut s i w j).2 f i' k = s.2 f i' k := by
  unfold sOut
  exact if_neg h
theorem sOut_step {s : sg} {i j : Nat} {w : Int64} : sL (sOut s i w j) 0 0 (md s i j) w = sOut s i w (j + 1) := by
  refine Prod.ext rfl ?_
  funext f i' k
  rw [sL_L]
  simp only [sOut]
  by_cases q : f = 0 ∧ i' = 0
  · obtain ⟨rfl, rfl⟩ := q
    by_cases q2 : k = md s i j
    · rw [if_pos ⟨rfl, rfl, q2⟩, if_pos ⟨rfl, rfl, j, by omega, q2.symm⟩]
    · rw [if_neg (fun z => q2 z.2.2)]
      by_cases q3 : ∃ m, m < j ∧ md s i m = k
      · obtain ⟨m, h1, h2⟩ := q3
        rw [if_pos ⟨rfl, rfl, m, h1, h2⟩, if_pos ⟨rfl, rfl, m, by omega, h2⟩]
      · rw [if_neg (fun z => q3 z.2.2), if_neg]
        rintro ⟨_, _, m, h1, h2⟩
        by_cases e : m = j
        · subst e
          exact q2 h2.symm
        · exact q3 ⟨m, by omega, h2⟩
  · rw [if_neg (fun z => q ⟨z.1, z.2.1⟩), if_neg (fun z => q ⟨z.1, z.2.1⟩), if_neg (fun z => q ⟨z.1, z.2.1⟩)]
/-- whether the j-th thing that is made becomes another one -/
theorem nOut_same {s : sg} {i j : Nat} {w : Int64} (h : (sOut s i w j).2 0 0 (md s i j) = w) : nOut s i w (j + 1) = nOut s i w j := by
  refine cnt_congr (fun t _ => ?_)
  rw [ex_step]
  constructor
  · rintro ⟨h1 | h1, h2⟩
    · exact ⟨h1, h2⟩
    · by_cases q : ∃ m, m < j ∧ md s i m = t
      · exact ⟨q, h2⟩
      · rw [h1, sOut_val.2 q] at h
        exact absurd h h2
  · rintro ⟨h1, h2⟩
    exact ⟨Or.inl h1, h2⟩
theorem nOut_more {s : sg} {i j : Nat} {w : Int64} (ht : md s i j < 24) (h : (sOut s i w j).2 0 0 (md s i j) ≠ w) : nOut s i w (j + 1) = nOut s i w j + 1 := by
  have q : ¬ ∃ m, m < j ∧ md s i m = md s i j := fun q => h (sOut_val.1 q)
  rw [sOut_val.2 q] at h
  refine cnt_add ht (fun t _ hne => ?_) (fun z => q z.1) ⟨⟨j, by omega, rfl⟩, h⟩
  rw [ex_step]
  exact ⟨fun z => ⟨Or.inl z.1, z.2⟩, fun z => ⟨z.1.elim id (fun e => absurd e.symm hne), z.2⟩⟩
theorem sGive_alt {s : sg} {i : Nat} : sOut (sRan (sInp s i (uc s i)) i (WV s i)) i (WV s i) (mc s i) = sGive s i := by
  unfold sGive
  refine Prod.ext rfl ?_
  funext f i' k
  have e1 : ∀ m, md (sRan (sInp s i (uc s i)) i (WV s i)) i m = md s i m := fun m => by
    show (sRan (sInp s i (uc s i)) i (WV s i)).1 3 i m = s.1 3 i m
    unfold sRan
    rw [sL_N, sN_N, if_neg (by simp), sN_N, if_neg (by simp), sN_N, if_neg (by simp)]
    rfl
  rw [sRan_L]
  by_cases hA : f = 0 ∧ i' = 0 ∧ ∃ m, m < mc s i ∧ md s i m = k
  · obtain ⟨h1, h2, m, h3, h4⟩ := hA
    rw [sOut_in ⟨h1, h2, m, h3, (e1 m).trans h4⟩, if_neg (by omega)]
    exact (sOut_in (s := sInp s i (uc s i)) ⟨h1, h2, m, h3, h4⟩).symm
  · rw [sOut_no (fun ⟨h1, h2, m, h3, h4⟩ => hA ⟨h1, h2, m, h3, (e1 m).symm.trans h4⟩), sRan_L]
    have e2 : (sOut (sInp s i (uc s i)) i (WV s i) (mc s i)).2 f i' k = (sInp s i (uc s i)).2 f i' k := sOut_no (s := sInp s i (uc s i)) hA
    rw [e2]
section WORK
variable {x : hp_S} {s : sg} {C : Nat → Nat → Int32}
theorem p_X2_work {P : hp_S → Prop} {i : Nat} (hr : RX x s C) (w : wf s) (h : ∀ x', RX x' (sRan (sInp s i (uc s i)) i (WV s i)) C → GX x x' → P x') : k_X2_work P i x := by
  have h8 := w.uc i
  have hT := w.T
  refine upE (n := uc s i) (k_X2_work_2 P i) (fun j y => RX y (sInp s i j) C ∧ GX x y) x ⟨by rw [sInp_0]; exact hr, GX.rf x⟩ ?_ ?_
  · rintro y ⟨hy, hg⟩ m
    have e4 : y.2.1 (11, i) 4 = nI (uc s i) := hy.uc i
    have e5 : y.2.1 (11, i) 5 = nI (mc s i) := hy.mc i
    unfold k_X2_work_2
    rw [e4]
    refine ⟨fun _ => ?_, fun c => absurd (nI_le (Nat.le_refl _) (by omega)) c⟩
    have f1 : (hp_uI y (11, i) 7 (nI 1)).2.1 (11, i) 4 = nI (uc s i) := by rw [hp_uI_at, if_neg (by simp)]; exact e4
    rw [f1]
    have f2 : (hp_uI (hp_uI y (11, i) 7 (nI 1)) (11, i) 8 (nI (uc s i))).2.1 (11, i) 5 = nI (mc s i) := by rw [hp_uI_at, if_neg (by simp), hp_uI_at, if_neg (by simp)]; exact e5
    rw [f2]
    have hy2 := ((hy.uN 1 i 3 1 (Or.inr (Or.inl ⟨rfl, by decide⟩)) rfl rfl (t := (11, i)) (p := 7) (w := nI 1)).uN 1 i 4 (uc s i) (Or.inr (Or.inl ⟨rfl, by decide⟩)) rfl rfl (t := (11, i)) (p := 8) (w := nI (uc s i))).uN 1 i 5 (mc s i) (Or.inr (Or.inl ⟨rfl, by decide⟩)) rfl rfl (t := (11, i)) (p := 9) (w := nI (mc s i))
    have hut : (sN (sN (sN (sInp s i (uc s i)) 1 i 3 1) 1 i 4 (uc s i)) 1 i 5 (mc s i)).1 1 i 4 = uc s i := by
      rw [sN_N, if_neg (by simp), sN_N, if_pos (by simp)]
    have hkd : (sN (sN (sN (sInp s i (uc s i)) 1 i 3 1) 1 i 4 (uc s i)) 1 i 5 (mc s i)).1 1 i 0 = s.1 1 i 0 := by
      rw [sN_N, if_neg (by simp), sN_N, if_neg (by simp), sN_N, if_neg (by simp)]
      rfl
    refine p_X2_result hy2 (by rw [hut]; exact h8) (by rw [hkd]; exact w.kd i) ?_
    rw [hut, hkd]
    have ew : Wo (s.1 1 i 0) ((sN (sN (sN (sInp s i (uc s i)) 1 i 3 1) 1 i 4 (uc s i)) 1 i 5 (mc s i)).2 1 i) (uc s i) = WV s i := by
      refine Wo_congr _ (fun k hk => ?_)
      rw [sN_L, sN_L, sN_L]
      unfold sInp
      exact if_pos ⟨rfl, rfl, hk⟩
    rw [ew]
    refine h _ (hy2.uL 2 i 0 (Or.inr (Or.inr (Or.inl ⟨rfl, rfl⟩))) rfl) ((((hg.uI (by decide : 11 < 20)).uI (by decide : 11 < 20)).uI (by decide : 11 < 20)).uL (by decide : 11 < 20))
  · rintro k y m hk ⟨hy, hg⟩ ih
    have hu := w.us i k hk
    have e4 : y.2.1 (11, i) 4 = nI (uc s i) := hy.uc i
    have eu : y.2.1 (12, i) k = nI (us s i k) := hy.us i k (by omega)
    have ev : y.2.2.1 (2, 0) (us s i k) = s.2 0 0 (us s i k) := by rw [hy.val 0 _ (by omega), sInp_L (by decide)]
    unfold k_X2_work_2
    rw [e4, cl k (by omega), eu, cl (us s i k) (by omega), ev, nI_add k 1]
    refine ⟨fun c => absurd c (nI_ge hk (by omega)), fun _ => ⟨vp_in_nI (by omega) (by decide), vp_in_nI (by omega) (by decide), vp_in_nI (by omega) (by decide), ih _ ⟨?_, hg.uL (by decide : 14 < 20)⟩⟩⟩
    rw [← sInp_step]
    exact hy.uL 1 i k (Or.inr (Or.inl ⟨rfl, by omega⟩)) rfl
/-- the made things are given, in the class -/
theorem p_X3_outs {P : Int32 → hp_S → Prop} {kr : (Int32 → hp_S → Prop) → Int32 → Int32 → hp_S → Prop} {a1 a2 : Int32} {i : Nat} {v : Int64} (hr : RX x s C) (hm4 : mc s i ≤ 4) (hmd : ∀ k, k < mc s i → md s i k < 24) (hv : s.2 2 i 0 = v) (h : ∀ x' C', RX x' (sOut s i v (mc s i)) C' → (∀ f k, f ≠ 2 → C' f k = C f k) → C' 2 0 = C 2 0 + nI (nOut s i v (mc s i)) → GX x x' → P (nI 1) x') : ∃ q, k_X3_refresh_92 kr P a1 a2 i (fun x_92 l4_92 => P (nI 1) x_92) q x (nI 0) := by
  refine upE (n := mc s i) (k_X3_refresh_92 kr P a1 a2 i (fun x_92 l4_92 => P (nI 1) x_92)) (fun j y => ∃ C', RX y (sOut s i v j) C' ∧ (∀ f k, f ≠ 2 → C' f k = C f k) ∧ C' 2 0 = C 2 0 + nI (nOut s i v j) ∧ GX x y) x ⟨C, by rw [sOut_0]; exact hr, fun _ _ _ => rfl, ?_, GX.rf x⟩ ?_ ?_
  · have : nOut s i v 0 = 0 := cnt_zero (fun t _ z => by obtain ⟨⟨m, h1, _⟩, _⟩ := z; omega)
    rw [this, nI_0, Int32.add_zero]
  · rintro y ⟨C', hy, h1, h2, hg⟩ m
    have e5 : y.2.1 (11, i) 5 = nI (mc s i) := hy.mc i
    unfold k_X3_refresh_92
    rw [e5]
    exact ⟨fun _ => h y C' hy h1 h2 hg, fun c => absurd (nI_le (Nat.le_refl _) (by omega)) c⟩
  · rintro k y m hk ⟨C', hy, h1, h2, hg⟩ ih
    have hu := hmd k hk
    have e5 : y.2.1 (11, i) 5 = nI (mc s i) := hy.mc i
    have em : y.2.1 (13, i) k = nI (md s i k) := hy.md i k (by omega)
    have er : y.2.2.1 (11, i) 10 = v := by rw [hy.res i, sOut_L (by decide)]; exact hv
    unfold k_X3_refresh_92
    rw [e5, cl k (by omega), em, er, nI_add k 1]
    refine ⟨fun c => absurd c (nI_ge hk (by omega)), fun _ => ⟨vp_in_nI (by omega) (by decide), ?_⟩⟩
    refine p_X3_give hy hu (fun q => ih y ⟨C', ?_, h1, ?_, hg⟩) (fun q x' hr' hg' => ih x' ⟨cU C' 2 0 (C' 2 0 + nI 1), ?_, fun f k' hf => ?_, ?_, hg.tr hg'⟩)
    · rw [← sOut_step, sL_self q]
      exact hy
    · rw [nOut_same q]
      exact h2
    · rw [← sOut_step]
      exact hr'
    · rw [cU_at, if_neg (fun z => hf z.1)]
      exact h1 f k' hf
    · rw [cU_at, if_pos ⟨rfl, rfl⟩, h2, nOut_more hu q, ← nI_add, Int32.add_assoc]
/-! the reference -/
theorem p_X4_isEarlier {P : Int32 → hp_S → Prop} {i k : Nat} (hr : RM x s C) (w : wf s) (hi : i < 12) (hk : k < uc s i) (h : ∀ r, fl r (∃ j, j < k ∧ s.2 0 0 (us s i j) = s.2 0 0 (us s i k)) → P r x) : k_X4_isEarlier P (nI i) (nI k) x := by
  have h8 := w.uc i
  have hT := w.T
  have huk := w.us i k hk
  refine upE (n := k) (fun q (z : hp_S × Int32) l => k_X4_isEarlier_5 P (nI i) (nI k) q z.1 z.2 l) (fun m z => z.1 = x ∧ fl z.2 (∃ j, j < m ∧ s.2 0 0 (us s i j) = s.2 0 0 (us s i k))) (x, nI 0) ⟨rfl, fl0 (fun ⟨k, hk, _⟩ => absurd hk (by omega))⟩ ?_ ?_
  · rintro ⟨y, l⟩ ⟨e, hf⟩ m
    dsimp only at e hf ⊢
    subst e
    unfold k_X4_isEarlier_5
    exact ⟨fun _ => ⟨hf.nar, h _ hf⟩, fun c => absurd (nI_le (Nat.le_refl _) (by omega)) c⟩
  · rintro j ⟨y, l⟩ m hj ⟨e, hf⟩ ih
    dsimp only at e hf ⊢
    subst e
    have huj := w.us i j (by have : uc s i = s.1 1 i 1 := rfl; omega)
    unfold k_X4_isEarlier_5
    rw [pk_mul 8 i, nI_add (8 * i) j, nI_add (8 * i) k, cl (8 * i + j) (by omega), cl (8 * i + k) (by omega), hr.us i j (by omega), hr.us i k (by omega), cl (us s i j) (by omega), cl (us s i k) (by omega), hr.val0 _ (by omega), hr.val0 _ (by omega), nI_add j 1]
    refine ⟨fun c => absurd c (nI_ge hj (by omega)), fun _ => hf.bb' (fun q => ⟨vp_in_nI (by omega) (by decide), vp_in_nI (by omega) (by decide), vp_in_nI (by omega) (by decide), vp_in_nI (by omega) (by decide), (bl _ _ (fun e => ih (y, nI 1) ⟨rfl, fl1 (ex_step.mpr (Or.inr e))⟩) (fun e => ih (y, nI 0) ⟨rfl, fl0 ?_⟩)).symm⟩) (fun q => ih (y, nI 1) ⟨rfl, fl1 (ex_step.mpr (Or.inl q))⟩)⟩
    rw [ex_step]
    rintro (z | z)
    · exact q z
    · exact e z
theorem lgle (a b : Int64) : lg_cmp a b ≤ 0 ↔ ¬ b < a := by
  unfold lg_cmp
  by_cases q : a > b
  · rw [if_pos q]
    exact ⟨fun z => absurd z (by decide), fun z => absurd q z⟩
  · rw [if_neg q]
    by_cases q2 : a = b
    · rw [if_pos q2]
      exact ⟨fun _ => q, fun _ => by decide⟩
    · rw [if_neg q2]
      exact ⟨fun _ => q, fun _ => by decide⟩
theorem p_X4_worth {P : Int64 → hp_S → Prop} {i : Nat} (hr : RM x s C) (w : wf s) (hi : i < 12) (h : P (WV s i) x) : k_X4_worth P (nI i) x := by
  have h8 := w.uc i
  have hT := w.T
  have hkd := w.kd i
  have hv : vp_in (nI i) 12 := vp_in_nI hi (by decide)
  refine upE (n := uc s i) (fun q (z : hp_S × Int64) l => k_X4_worth_5 P (nI i) q z.1 z.2 l) (fun m z => z.1 = x ∧ z.2 = Wo (s.1 1 i 0) (fun k => s.2 0 0 (us s i k)) m) (x, 0) ⟨rfl, rfl⟩ ?_ ?_
  · rintro ⟨y, l⟩ ⟨e, e2⟩ m
    dsimp only at e e2 ⊢
    subst e; subst e2
    unfold k_X4_worth_5
    rw [cl i (by omega), hr.uc i]
    exact ⟨hv, fun _ => h, fun c => absurd (nI_le (Nat.le_refl _) (by omega)) c⟩
  · rintro k ⟨y, l⟩ m hk ⟨e, e2⟩ ih
    dsimp only at e e2 ⊢
    subst e; subst e2
    have hu := w.us i k hk
    have nxt : ∀ v, v = wst (s.1 1 i 0) (fun k => s.2 0 0 (us s i k)) k (Wo (s.1 1 i 0) (fun k => s.2 0 0 (us s i k)) k) → k_X4_worth_5 P (nI i) m y v (nI (k + 1)) := fun v hv => ih (y, v) ⟨rfl, hv⟩
    unfold wst at nxt
    unfold k_X4_worth_5
    rw [cl i (by omega), hr.uc i, hr.kd i, pk_mul 8 i, nI_add (8 * i) k, cl (8 * i + k) (by omega), hr.us i k (by omega), cl (us s i k) (by omega), hr.val0 _ (by omega), nI_add k 1, nI_eq (by omega) (by decide), nI_eq (by omega) (by decide), nI_eq (by omega) (by decide), lgle]
    refine ⟨hv, fun c => absurd c (nI_ge hk (by omega)), fun _ => ⟨vp_in_nI (by omega) (by decide), vp_in_nI (by omega) (by decide), hv, ⟨fun e => nxt _ ?_, fun e => ⟨fun e2 => nxt _ ?_, fun e2 => ⟨fun e3 => nxt _ ?_, fun e3 => nxt _ ?_⟩⟩, fun e => nxt _ ?_⟩, fun e0 e1 e2 => ?_⟩⟩
    · rw [if_pos e]
    · rw [nI_z (by omega)] at e2
      subst e2
      rw [if_neg (by omega), if_pos e, if_pos rfl]
    · rw [nI_z (by omega)] at e2
      rw [if_neg (by omega), if_pos e, if_neg e2, if_neg e3]
    · rw [nI_z (by omega)] at e2
      rw [if_neg (by omega), if_pos e, if_neg e2, if_pos (Classical.byContradiction e3)]
    · rw [if_neg (by omega), if_neg (by omega), if_pos e]
    · refine p_X4_isEarlier hr w hi hk (fun r hfl => hfl.bb (fun q => nxt _ ?_) (fun q => nxt _ ?_))
      · rw [if_neg e0, if_neg e1, if_neg e2, if_neg q]
      · rw [if_neg e0, if_neg e1, if_neg e2, if_pos q]
theorem p_X4_give {P : Int32 → hp_S → Prop} {i : Nat} (hr : RM x s C) (w : wf s) (hi : i < 12) (h : ∀ x', RM x' (sGive s i) C → GM x x' → P (nI (nOut s i (WV s i) (mc s i))) x') : k_X4_give P (nI i) x := by
  have h8 := w.uc i
  have h4 := w.mc i
  have hT := w.T
  have hv : vp_in (nI i) 12 := vp_in_nI hi (by decide)
  refine p_X4_worth hr w hi ?_
  refine upE (n := uc s i) (k_X4_give_12 P (nI i) (WV s i) (nI 0)) (fun j y => RM y (sInp s i j) C ∧ GM x y) x ⟨by rw [sInp_0]; exact hr, GM.rf x⟩ ?_ ?_
  · rintro y ⟨hy, hg⟩ m
    have e4 : y.2.1 (33, 0) i = nI (uc s i) := hy.uc i
    unfold k_X4_give_12
    rw [cl i (by omega), e4]
    refine ⟨hv, fun _ => ?_, fun c => absurd (nI_le (Nat.le_refl _) (by omega)) c⟩
    refine upE (n := mc s i) (fun q (z : hp_S × Int32) l => k_X4_give_61 P (nI i) (WV s i) _ q z.1 z.2 l) (fun j z => RM z.1 (sOut (sInp s i (uc s i)) i (WV s i) j) C ∧ GM x z.1 ∧ z.2 = nI (nOut s i (WV s i) j)) (y, nI 0) ⟨by rw [sOut_0]; exact hy, hg, ?_⟩ ?_ ?_
    · have : nOut s i (WV s i) 0 = 0 := cnt_zero (fun t _ z => by obtain ⟨⟨m, h1, _⟩, _⟩ := z; omega)
      rw [this]
    · rintro ⟨z, l⟩ ⟨hz, hgz, e⟩ m'
      dsimp only at hz hgz e ⊢
      subst e
      have e5 : z.2.1 (35, 0) i = nI (mc s i) := hz.mc i
      have e4z : z.2.1 (33, 0) i = nI (uc s i) := hz.uc i
      unfold k_X4_give_61
      rw [cl i (by omega), e5]
      refine ⟨hv, fun _ => ⟨hv, hv, hv, hv, hv, hv, ?_⟩, fun c => absurd (nI_le (Nat.le_refl _) (by omega)) c⟩
      have f1 : (hp_uI z (36, 0) i (nI 1)).2.1 (33, 0) i = nI (uc s i) := by rw [hp_uI_at, if_neg (by simp)]; exact e4z
      rw [f1]
      have f2 : (hp_uI (hp_uI z (36, 0) i (nI 1)) (37, 0) i (nI (uc s i))).2.1 (35, 0) i = nI (mc s i) := by rw [hp_uI_at, if_neg (by simp), hp_uI_at, if_neg (by simp)]; exact e5
      rw [f2]
      refine h _ ?_ ((((hgz.uI (by decide : 20 ≤ 36)).uI (by decide : 20 ≤ 37)).uI (by decide : 20 ≤ 38)).uL (by decide : 20 ≤ 40))
      exact (((hz.uN 1 i 3 1 (Or.inr (Or.inl ⟨rfl, by decide⟩)) rfl rfl).uN 1 i 4 (uc s i) (Or.inr (Or.inl ⟨rfl, by decide⟩)) rfl rfl).uN 1 i 5 (mc s i) (Or.inr (Or.inl ⟨rfl, by decide⟩)) rfl rfl).uL 2 i 0 (Or.inr (Or.inr (Or.inl ⟨rfl, rfl⟩))) rfl
    · rintro k ⟨z, l⟩ m' hk ⟨hz, hgz, e⟩ ih
      dsimp only at hz hgz e ⊢
      subst e
      have hu := w.md i k hk
      have e5 : z.2.1 (35, 0) i = nI (mc s i) := hz.mc i
      have em : z.2.1 (34, 0) (4 * i + k) = nI (md s i k) := hz.md i k (by omega)
      have ev := hz.val0 (md s i k) (by omega)
      have eq : (sOut (sInp s i (uc s i)) i (WV s i) k).2 0 0 (md s i k) = (sOut s i (WV s i) k).2 0 0 (md s i k) := by
        by_cases q : ∃ m, m < k ∧ md s i m = md s i k
        · exact ((sOut_val (s := sInp s i (uc s i)) (w := WV s i)).1 q).trans ((sOut_val (s := s) (w := WV s i)).1 q).symm
        · exact ((sOut_val (s := sInp s i (uc s i)) (w := WV s i)).2 q).trans ((sInp_L (by decide)).trans ((sOut_val (s := s) (w := WV s i)).2 q).symm)
      have hst : RM (hp_uL z (21, 0) (md s i k) (WV s i)) (sOut (sInp s i (uc s i)) i (WV s i) (k + 1)) C := by
        rw [← sOut_step]
        exact hz.uL 0 0 (md s i k) (Or.inl ⟨rfl, by omega⟩) (by simp [tML, sInp])
      unfold k_X4_give_61
      rw [cl i (by omega), e5, pk_mul 4 i, nI_add (4 * i) k, cl (4 * i + k) (by omega), em, cl (md s i k) (by omega), ev, nI_add k 1]
      have im : vp_in (nI (md s i k)) 144 := vp_in_nI (by omega) (by decide)
      refine ⟨hv, fun c => absurd c (nI_ge hk (by omega)), fun _ => ⟨vp_in_nI (by omega) (by decide), im, bl _ _ (fun q => ⟨im, ih (hp_uL z (21, 0) (md s i k) (WV s i), nI (nOut s i (WV s i) k)) ⟨hst, hgz.uL (by decide : 20 ≤ 21), ?_⟩⟩) (fun q => ⟨im, ih (hp_uL z (21, 0) (md s i k) (WV s i), nI (nOut s i (WV s i) k) + nI 1) ⟨hst, hgz.uL (by decide : 20 ≤ 21), ?_⟩⟩)⟩⟩
      · rw [eq] at q
        show nI _ = nI _
        rw [nOut_same q]
      · rw [eq] at q
        show nI _ + nI 1 = nI _
        rw [nOut_more (by omega) q, nI_add]
  · rintro k y m hk ⟨hy, hg⟩ ih
    have hu := w.us i k hk
    have e4 : y.2.1 (33, 0) i = nI (uc s i) := hy.uc i
    have eu : y.2.1 (32, 0) (8 * i + k) = nI (us s i k) := hy.us i k (by omega)
    have ev : y.2.2.1 (21, 0) (us s i k) = s.2 0 0 (us s i k) := by rw [hy.val0 _ (by omega), sInp_L (by decide)]
    unfold k_X4_give_12
    rw [cl i (by omega), e4, pk_mul 8 i, nI_add (8 * i) k, cl (8 * i + k) (by omega), eu, cl (us s i k) (by omega), ev, nI_add k 1]
    refine ⟨hv, fun c => absurd c (nI_ge hk (by omega)), fun _ => ⟨vp_in_nI (by omega) (by decide), vp_in_nI (by omega) (by decide), vp_in_nI (by omega) (by decide), ih _ ⟨?_, hg.uL (by decide : 20 ≤ 39)⟩⟩⟩
    rw [← sInp_step]
    exact hy.uL 1 i k (Or.inr (Or.inl ⟨rfl, by omega⟩)) rfl
end WORK
