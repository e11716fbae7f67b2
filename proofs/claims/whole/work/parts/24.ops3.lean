/-! PURE ROWS: new sessions, steps and branches -/
theorem FX.nw {x y : hp_S} (h : FX x y) {t : hp_T} (ht : t.1 < 20) : FX x (hp_nw y t) := fun t' ht' => by
  have hne : t' ≠ t := fun e => by rw [e] at ht'; omega
  rw [← (h t' ht').1, ← (h t' ht').2]
  exact ⟨by funext k; simp only [hp_nw, if_neg hne], by funext k; simp only [hp_nw, if_neg hne]⟩
theorem FX.uR {x y : hp_S} (h : FX x y) {t : hp_T} {k : Nat} {v : Option hp_T} : FX x (hp_uR y t k v) := h
theorem RX.nw {x : hp_S} {s : sg} {C : Nat → Nat → Int32} (h : RX x s C) {t : hp_T} (hN : ∀ f i k, okN f i k → (tXN f i k).1 = t → s.1 f i k = 0) (hL : ∀ f i k, okL f i k → (tXL f i k).1 = t → s.2 f i k = 0) (hC : ∀ f i, okC f i → (tXC f i).1 = t → C f i = 0) : RX (hp_nw x t) s C := by
  refine ⟨fun f i k hk => ?_, fun f i k hk => ?_, fun f i hk => ?_⟩
  · simp only [hp_nw]
    split
    · rename_i e
      rw [hN f i k hk e, nI_0]
    · exact h.1 f i k hk
  · simp only [hp_nw]
    split
    · rename_i e
      rw [hL f i k hk e]
    · exact h.2.1 f i k hk
  · simp only [hp_nw]
    split
    · rename_i e
      rw [hC f i hk e]
    · exact h.2.2 f i hk
theorem RX.uR {x : hp_S} {s : sg} {C : Nat → Nat → Int32} (h : RX x s C) {t : hp_T} {k : Nat} {v : Option hp_T} : RX (hp_uR x t k v) s C := h
def hp_shE (x : hp_S) (t0 : hp_T) : Prop := ∀ t k t2, t ≠ t0 → hp_ex t k = some t2 → x.1 t = true → x.2.2.2 t k = some t2
theorem shE_of {x : hp_S} {t0 : hp_T} (hs : hp_sh x) : hp_shE (hp_nw x t0) t0 := fun t k t2 hne he hl => by
  simp only [hp_nw, if_neg hne] at hl ⊢
  exact hs t k t2 he hl
theorem shE_nw {x : hp_S} {t t0 : hp_T} (h : hp_shE x t0) (hex : ∀ k, hp_ex t k = none) : hp_shE (hp_nw x t) t0 := fun t' k t2 hne he hl => by
  by_cases e : t' = t
  · rw [e, hex k] at he
    cases he
  · simp only [hp_nw, if_neg e] at hl ⊢
    exact h t' k t2 hne he hl
theorem shE_uR {x : hp_S} {t0 : hp_T} (h : hp_shE x t0) {k : Nat} {v : Option hp_T} : hp_shE (hp_uR x t0 k v) t0 := fun t' k' t2 hne he hl => by
  simp only [hp_uR]
  rw [if_neg (fun q => hne q.1)]
  exact h t' k' t2 hne he hl
theorem shE_done {x : hp_S} {t0 : hp_T} (h : hp_shE x t0) (h0 : ∀ k t2, hp_ex t0 k = some t2 → x.2.2.2 t0 k = some t2) : hp_sh x := fun t k t2 he hl => by
  by_cases e : t = t0
  · subst e
    exact h0 k t2 he
  · exact h t k t2 e he hl
def YX (x : hp_S) (s : sg) : Prop := SX x s ∧ hp_sh x ∧ (∀ j, nS s ≤ j → x.1 (11, j) = false ∧ x.1 (12, j) = false ∧ x.1 (13, j) = false ∧ x.1 (14, j) = false) ∧ ∀ j, nZ s ≤ j → x.1 (15, j) = false ∧ x.1 (16, j) = false ∧ x.1 (17, j) = false ∧ x.1 (18, j) = false ∧ x.1 (19, j) = false
theorem YX.kept {x y : hp_S} {s t : sg} (h : YX x s) (hg : GX x y) (h1 : nS t = nS s) (h2 : nZ t = nZ s) : YX y t := ⟨h.1.kept hg h1 h2, fun a b c he hl => by rw [hg.1] at hl; rw [hg.2.1]; exact h.2.1 a b c he hl, fun j hj => by rw [hg.1]; exact h.2.2.1 j (by omega), fun j hj => by rw [hg.1]; exact h.2.2.2 j (by omega)⟩
/-- what isn't there yet is zero -/
def ZS (s : sg) : Prop := (∀ i, nS s ≤ i → (∀ k, s.1 1 i k = 0 ∧ s.1 2 i k = 0 ∧ s.1 3 i k = 0 ∧ s.2 1 i k = 0) ∧ s.2 2 i 0 = 0) ∧ ∀ j, nZ s ≤ j → s.1 4 j 0 = 0 ∧ ∀ t, s.1 5 j t = 0 ∧ s.1 6 j t = 0 ∧ s.2 3 j t = 0 ∧ s.2 4 j t = 0
def sSession (s : sg) : sg := sN (sN s 4 (nZ s) 0 1) 0 3 0 (nZ s + 1)
section OPS3
variable {x : hp_S} {s : sg} {C : Nat → Nat → Int32}
theorem kN4 {f i k n : Nat} (h : okN f i k) (e : (tXN f i k).1 = (15, n)) : f = 4 ∧ i = n ∧ k = 0 := by
  rcases h with ⟨rfl, h1, h2⟩ | ⟨rfl, h1⟩ | ⟨rfl, h1⟩ | ⟨rfl, h1⟩ | ⟨rfl, h1⟩ | ⟨rfl, h1⟩ | ⟨rfl, h1⟩ | ⟨rfl, h1⟩ | ⟨rfl, h1⟩ <;> simp only [tXN] at e <;> (try split at e) <;> simp at e <;> omega
theorem kN16 {f i k n : Nat} (h : okN f i k) (e : (tXN f i k).1 = (16, n)) : f = 5 ∧ i = n := by
  rcases h with ⟨rfl, h1, h2⟩ | ⟨rfl, h1⟩ | ⟨rfl, h1⟩ | ⟨rfl, h1⟩ | ⟨rfl, h1⟩ | ⟨rfl, h1⟩ | ⟨rfl, h1⟩ | ⟨rfl, h1⟩ | ⟨rfl, h1⟩ <;> simp only [tXN] at e <;> (try split at e) <;> simp at e <;> omega
theorem kN18 {f i k n : Nat} (h : okN f i k) (e : (tXN f i k).1 = (18, n)) : f = 6 ∧ i = n := by
  rcases h with ⟨rfl, h1, h2⟩ | ⟨rfl, h1⟩ | ⟨rfl, h1⟩ | ⟨rfl, h1⟩ | ⟨rfl, h1⟩ | ⟨rfl, h1⟩ | ⟨rfl, h1⟩ | ⟨rfl, h1⟩ | ⟨rfl, h1⟩ <;> simp only [tXN] at e <;> (try split at e) <;> simp at e <;> omega
theorem kN11 {f i k n : Nat} (h : okN f i k) (e : (tXN f i k).1 = (11, n)) : f = 1 ∧ i = n := by
  rcases h with ⟨rfl, h1, h2⟩ | ⟨rfl, h1⟩ | ⟨rfl, h1⟩ | ⟨rfl, h1⟩ | ⟨rfl, h1⟩ | ⟨rfl, h1⟩ | ⟨rfl, h1⟩ | ⟨rfl, h1⟩ | ⟨rfl, h1⟩ <;> simp only [tXN] at e <;> (try split at e) <;> simp at e <;> omega
theorem kN12 {f i k n : Nat} (h : okN f i k) (e : (tXN f i k).1 = (12, n)) : f = 2 ∧ i = n := by
  rcases h with ⟨rfl, h1, h2⟩ | ⟨rfl, h1⟩ | ⟨rfl, h1⟩ | ⟨rfl, h1⟩ | ⟨rfl, h1⟩ | ⟨rfl, h1⟩ | ⟨rfl, h1⟩ | ⟨rfl, h1⟩ | ⟨rfl, h1⟩ <;> simp only [tXN] at e <;> (try split at e) <;> simp at e <;> omega
theorem kN13 {f i k n : Nat} (h : okN f i k) (e : (tXN f i k).1 = (13, n)) : f = 3 ∧ i = n := by
  rcases h with ⟨rfl, h1, h2⟩ | ⟨rfl, h1⟩ | ⟨rfl, h1⟩ | ⟨rfl, h1⟩ | ⟨rfl, h1⟩ | ⟨rfl, h1⟩ | ⟨rfl, h1⟩ | ⟨rfl, h1⟩ | ⟨rfl, h1⟩ <;> simp only [tXN] at e <;> (try split at e) <;> simp at e <;> omega
theorem kNno {f i k q n : Nat} (h : okN f i k) (e : (tXN f i k).1 = (q, n)) (hq : q = 14 ∨ q = 17 ∨ q = 19) : False := by
  rcases h with ⟨rfl, h1, h2⟩ | ⟨rfl, h1⟩ | ⟨rfl, h1⟩ | ⟨rfl, h1⟩ | ⟨rfl, h1⟩ | ⟨rfl, h1⟩ | ⟨rfl, h1⟩ | ⟨rfl, h1⟩ | ⟨rfl, h1⟩ <;> simp only [tXN] at e <;> (try split at e) <;> simp at e <;> omega
theorem kL {f i k q n : Nat} (h : okL f i k) (e : (tXL f i k).1 = (q, n)) : (q = 11 → f = 2 ∧ i = n ∧ k = 0) ∧ (q = 14 → f = 1 ∧ i = n) ∧ (q = 17 → f = 3 ∧ i = n) ∧ (q = 19 → f = 4 ∧ i = n) ∧ q ≠ 12 ∧ q ≠ 13 ∧ q ≠ 15 ∧ q ≠ 16 ∧ q ≠ 18 := by
  rcases h with ⟨rfl, h1⟩ | ⟨rfl, h1⟩ | ⟨rfl, h1⟩ | ⟨rfl, h1⟩ | ⟨rfl, h1⟩ | ⟨rfl, h1⟩ | ⟨rfl, h1⟩ <;> simp [tXL] at e <;> omega
theorem kC {f i q n : Nat} (h : okC f i) (e : (tXC f i).1 = (q, n)) : (q = 11 → f = 1 ∧ i = n) ∧ q ≠ 12 ∧ q ≠ 13 ∧ q ≠ 14 ∧ q ≠ 15 ∧ q ≠ 16 ∧ q ≠ 17 ∧ q ≠ 18 ∧ q ≠ 19 := by
  rcases h with rfl | rfl | ⟨rfl, rfl⟩ <;> simp [tXC] at e <;> omega
set_option maxHeartbeats 1000000 in
theorem p_X3_session {P : Int32 → hp_S → Prop} (hr : RX x s C) (hy : YX x s) (hz : ZS s) (hZ : nZ s ≤ 40) (h1 : nZ s = 40 → P (-1) x) (h2 : nZ s < 40 → ∀ x', RX x' (sSession s) C → YX x' (sSession s) → FX x x' → x'.2.2.2 (6, 0) 4 = x.2.2.2 (6, 0) 4 → P (nI (nZ s)) x') : k_X3_session P x := by
  unfold k_X3_session
  rw [hr.nZ]
  refine ⟨fun c => ?_, fun c => h1 ?_⟩
  · have hlt : nZ s < 40 := (nI_ltI (by omega) (by decide)).mp c
    rw [cl _ (by omega)]
    obtain ⟨n, hn⟩ : ∃ n, nZ s = n := ⟨_, rfl⟩
    have hlt' : n < 40 := by omega
    have h2' := h2 hlt
    rw [hn] at h2' ⊢
    obtain ⟨f15, f16, f17, f18, f19⟩ := hy.2.2.2 n (by omega)
    obtain ⟨z0, z1⟩ := hz.2 n (by omega)
    refine ⟨f15, ?_⟩
    unfold k_X1_init
    refine ⟨by simp [hp_nw, f16], by simp [hp_nw, hp_uR, f17], by simp [hp_nw, hp_uR, f18], by simp [hp_nw, hp_uR, f19], vp_in_nI hlt' (by decide), ?_⟩
    generalize hX : hp_uI (hp_uR (hp_nw (hp_uR (hp_nw (hp_uR (hp_nw (hp_uR (hp_nw (hp_nw x (15, n)) (16, n)) (15, n) 0 (some (16, n))) (17, n)) (15, n) 1 (some (17, n))) (18, n)) (15, n) 2 (some (18, n))) (19, n)) (15, n) 3 (some (19, n))) (15, n) 4 (nI 1) = y
    have hry : RX y (sN s 4 n 0 1) C := by
      rw [← hX]
      refine RX.uN (RX.uR (RX.nw (RX.uR (RX.nw (RX.uR (RX.nw (RX.uR (RX.nw (RX.nw hr ?_ ?_ ?_) ?_ ?_ ?_)) ?_ ?_ ?_)) ?_ ?_ ?_)) ?_ ?_ ?_)) 4 n 0 1 (Or.inr (Or.inr (Or.inr (Or.inr (Or.inl ⟨rfl, rfl⟩))))) rfl rfl
      · intro f i k hk e; obtain ⟨rfl, rfl, rfl⟩ := kN4 hk e; exact z0
      · intro f i k hk e; exact absurd rfl ((kL hk e).2.2.2.2.2.2.1)
      · intro f i hk e; exact absurd rfl ((kC hk e).2.2.2.2.1)
      · intro f i k hk e; obtain ⟨rfl, rfl⟩ := kN16 hk e; exact (z1 k).1
      · intro f i k hk e; exact absurd rfl ((kL hk e).2.2.2.2.2.2.2.1)
      · intro f i hk e; exact absurd rfl ((kC hk e).2.2.2.2.2.1)
      · intro f i k hk e; exact (kNno hk e (by decide)).elim
      · intro f i k hk e; obtain ⟨rfl, rfl⟩ := (kL hk e).2.2.1 rfl; exact (z1 k).2.2.1
      · intro f i hk e; exact absurd rfl ((kC hk e).2.2.2.2.2.2.1)
      · intro f i k hk e; obtain ⟨rfl, rfl⟩ := kN18 hk e; exact (z1 k).2.1
      · intro f i k hk e; exact absurd rfl ((kL hk e).2.2.2.2.2.2.2.2)
      · intro f i hk e; exact absurd rfl ((kC hk e).2.2.2.2.2.2.2.1)
      · intro f i k hk e; exact (kNno hk e (by decide)).elim
      · intro f i k hk e; obtain ⟨rfl, rfl⟩ := (kL hk e).2.2.2.1 rfl; exact (z1 k).2.2.2
      · intro f i hk e; exact absurd rfl ((kC hk e).2.2.2.2.2.2.2.2)
    have hfy : FX x y := by
      rw [← hX]
      exact (FX.uR (FX.nw (FX.uR (FX.nw (FX.uR (FX.nw (FX.uR (FX.nw (FX.nw (FX.rf x) (by decide : 15 < 20)) (by decide : 16 < 20))) (by decide : 17 < 20))) (by decide : 18 < 20))) (by decide : 19 < 20))).uI (by decide : 15 < 20)
    have hsE : hp_shE y (15, n) := by
      rw [← hX]
      have h := shE_uR (k := 3) (v := some (19, n)) (shE_nw (t := (19, n)) (shE_uR (k := 2) (v := some (18, n)) (shE_nw (t := (18, n)) (shE_uR (k := 1) (v := some (17, n)) (shE_nw (t := (17, n)) (shE_uR (k := 0) (v := some (16, n)) (shE_nw (t := (16, n)) (shE_of (t0 := (15, n)) hy.2.1) (fun k => by simp [hp_ex, hp_xl]))) (fun k => by simp [hp_ex, hp_xl]))) (fun k => by simp [hp_ex, hp_xl]))) (fun k => by simp [hp_ex, hp_xl]))
      exact h
    have hsh : hp_sh y := shE_done hsE (fun k t2 he => by
      rw [← hX]
      match k, he with
      | 0, he => cases he; simp [hp_uI, hp_uR, hp_nw]
      | 1, he => cases he; simp [hp_uI, hp_uR, hp_nw]
      | 2, he => cases he; simp [hp_uI, hp_uR, hp_nw]
      | 3, he => cases he; simp [hp_uI, hp_uR, hp_nw]
      | 4, he => cases he
      | k + 5, he => simp [hp_ex, hp_xl] at he)
    have e9 : (hp_uR y (5, 0) n (some (15, n))).2.1 (0, 0) 9 = nI n := by
      show y.2.1 (0, 0) 9 = nI n
      rw [hry.nZ]
      exact congrArg nI (by show (sN s 4 n 0 1).1 0 3 0 = n; rw [sN_N, if_neg (by simp)]; exact hn)
    have hshF : hp_sh (hp_uR y (5, 0) n (some (15, n))) := hp_sh_uR (by simp [hp_ex, hp_xl]) hsh
    rw [e9, nI_add]
    refine ⟨hshF, ?_⟩
    rw [hp_uI_at, if_pos ⟨rfl, rfl⟩, pk_sub (by omega), Nat.add_sub_cancel]
    have hss : sSession s = sN (sN s 4 n 0 1) 0 3 0 (n + 1) := by unfold sSession; rw [hn]
    refine h2' _ ?_ ⟨⟨fun j hj => ?_, fun j hj => ?_⟩, hshF, fun j hj => ?_, fun j hj => ?_⟩ ((FX.uR hfy).uI (by decide : 0 < 20)) ?_
    · rw [hss]
      exact (RX.uR hry).uN 0 3 0 (n + 1) (Or.inl ⟨rfl, by decide, rfl⟩) rfl rfl
    · have hj' : j < nS s := by
        rw [hss] at hj
        simpa [nS, sN_N] using hj
      rw [← hX]
      have := hy.1.1 j hj'
      simp [hp_uI, hp_uR, hp_nw, this]
    · have hj' : j < n + 1 := by
        rw [hss] at hj
        simpa [nZ, sN_N] using hj
      by_cases e : j = n
      · subst e
        simp [hp_uI, hp_uR]
      · have := hy.1.2 j (by omega)
        rw [← hX]
        simp [hp_uI, hp_uR, hp_nw, e, this]
    · have hj' : nS s ≤ j := by
        rw [hss] at hj
        simpa [nS, sN_N] using hj
      obtain ⟨g1, g2, g3, g4⟩ := hy.2.2.1 j hj'
      rw [← hX]
      simp [hp_uI, hp_uR, hp_nw, g1, g2, g3, g4]
    · have hj' : n + 1 ≤ j := by
        rw [hss] at hj
        simpa [nZ, sN_N] using hj
      obtain ⟨g1, g2, g3, g4, g5⟩ := hy.2.2.2 j (by omega)
      have hne : j ≠ n := by omega
      rw [← hX]
      simp [hp_uI, hp_uR, hp_nw, g1, g2, g3, g4, g5, hne]
    · rw [← hX]
      simp [hp_uI, hp_uR, hp_nw]
  · rcases Nat.lt_or_ge (nZ s) 40 with q | q
    · exact absurd (nI_lt q (by decide)) c
    · omega
theorem p_X4_session {P : Int32 → hp_S → Prop} (hr : RM x s C) (hZ : nZ s ≤ 40) (h1 : nZ s = 40 → P (-1) x) (h2 : nZ s < 40 → ∀ x', RM x' (sSession s) C → GM x x' → P (nI (nZ s)) x') : k_X4_session P x := by
  unfold k_X4_session
  rw [hr.nZ]
  refine ⟨fun c => ?_, fun c => h1 ((nI_eq (by omega) (by decide)).mp c)⟩
  have hlt : nZ s < 40 := Nat.lt_of_le_of_ne hZ (fun q => c (by rw [q]))
  rw [cl _ (by omega)]
  have e1 : (hp_uI x (22, 0) (nZ s) (nI 1)).2.1 (20, 0) 3 = nI (nZ s) := by rw [hp_uI_at, if_neg (by simp)]; exact hr.nZ
  rw [e1, nI_add, hp_uI_at, if_pos ⟨rfl, rfl⟩, pk_sub (by omega), Nat.add_sub_cancel]
  refine ⟨vp_in_nI hlt (by decide), h2 hlt _ ?_ (((GM.rf x).uI (by decide : 20 ≤ 22)).uI (by decide : 20 ≤ 20))⟩
  exact (hr.uN 4 (nZ s) 0 1 (Or.inr (Or.inr (Or.inr (Or.inr (Or.inl ⟨rfl, rfl⟩))))) rfl rfl).uN 0 3 0 (nZ s + 1) (Or.inl ⟨rfl, by decide, rfl⟩) rfl rfl
end OPS3
