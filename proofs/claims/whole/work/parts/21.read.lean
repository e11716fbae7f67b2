abbrev nT (s : sg) : Nat := s.1 0 0 0
abbrev nB (s : sg) : Nat := s.1 0 1 0
abbrev nS (s : sg) : Nat := s.1 0 2 0
abbrev nZ (s : sg) : Nat := s.1 0 3 0
abbrev nC (s : sg) : Nat := s.1 0 4 0
abbrev uc (s : sg) (i : Nat) : Nat := s.1 1 i 1
abbrev mc (s : sg) (i : Nat) : Nat := s.1 1 i 2
abbrev us (s : sg) (i k : Nat) : Nat := s.1 2 i k
abbrev md (s : sg) (i k : Nat) : Nat := s.1 3 i k
theorem RX.nT {x : hp_S} {s : sg} {C : Nat → Nat → Int32} (h : RX x s C) : x.2.1 (0, 0) 6 = nI (nT s) := h.1 0 0 0 (Or.inl ⟨rfl, by decide, rfl⟩)
theorem RX.nB {x : hp_S} {s : sg} {C : Nat → Nat → Int32} (h : RX x s C) : x.2.1 (0, 0) 7 = nI (nB s) := h.1 0 1 0 (Or.inl ⟨rfl, by decide, rfl⟩)
theorem RX.nS {x : hp_S} {s : sg} {C : Nat → Nat → Int32} (h : RX x s C) : x.2.1 (0, 0) 8 = nI (nS s) := h.1 0 2 0 (Or.inl ⟨rfl, by decide, rfl⟩)
theorem RX.nZ {x : hp_S} {s : sg} {C : Nat → Nat → Int32} (h : RX x s C) : x.2.1 (0, 0) 9 = nI (nZ s) := h.1 0 3 0 (Or.inl ⟨rfl, by decide, rfl⟩)
theorem RX.nC {x : hp_S} {s : sg} {C : Nat → Nat → Int32} (h : RX x s C) : x.2.1 (6, 0) 5 = nI (nC s) := h.1 0 4 0 (Or.inl ⟨rfl, by decide, rfl⟩)
theorem RX.kd {x : hp_S} {s : sg} {C : Nat → Nat → Int32} (h : RX x s C) (i : Nat) : x.2.1 (11, i) 0 = nI (s.1 1 i 0) := h.1 1 i 0 (Or.inr (Or.inl ⟨rfl, by decide⟩))
theorem RX.uc {x : hp_S} {s : sg} {C : Nat → Nat → Int32} (h : RX x s C) (i : Nat) : x.2.1 (11, i) 4 = nI (uc s i) := h.1 1 i 1 (Or.inr (Or.inl ⟨rfl, by decide⟩))
theorem RX.mc {x : hp_S} {s : sg} {C : Nat → Nat → Int32} (h : RX x s C) (i : Nat) : x.2.1 (11, i) 5 = nI (mc s i) := h.1 1 i 2 (Or.inr (Or.inl ⟨rfl, by decide⟩))
theorem RX.ran {x : hp_S} {s : sg} {C : Nat → Nat → Int32} (h : RX x s C) (i : Nat) : x.2.1 (11, i) 7 = nI (s.1 1 i 3) := h.1 1 i 3 (Or.inr (Or.inl ⟨rfl, by decide⟩))
theorem RX.ut {x : hp_S} {s : sg} {C : Nat → Nat → Int32} (h : RX x s C) (i : Nat) : x.2.1 (11, i) 8 = nI (s.1 1 i 4) := h.1 1 i 4 (Or.inr (Or.inl ⟨rfl, by decide⟩))
theorem RX.mt {x : hp_S} {s : sg} {C : Nat → Nat → Int32} (h : RX x s C) (i : Nat) : x.2.1 (11, i) 9 = nI (s.1 1 i 5) := h.1 1 i 5 (Or.inr (Or.inl ⟨rfl, by decide⟩))
theorem RX.us {x : hp_S} {s : sg} {C : Nat → Nat → Int32} (h : RX x s C) (i k : Nat) (hk : k < 8) : x.2.1 (12, i) k = nI (us s i k) := h.1 2 i k (Or.inr (Or.inr (Or.inl ⟨rfl, hk⟩)))
theorem RX.md {x : hp_S} {s : sg} {C : Nat → Nat → Int32} (h : RX x s C) (i k : Nat) (hk : k < 4) : x.2.1 (13, i) k = nI (md s i k) := h.1 3 i k (Or.inr (Or.inr (Or.inr (Or.inl ⟨rfl, hk⟩))))
theorem RX.tou {x : hp_S} {s : sg} {C : Nat → Nat → Int32} (h : RX x s C) (i k : Nat) (hk : k < 24) : x.2.1 (16, i) k = nI (s.1 5 i k) := h.1 5 i k (Or.inr (Or.inr (Or.inr (Or.inr (Or.inr (Or.inl ⟨rfl, hk⟩))))))
theorem RX.wro {x : hp_S} {s : sg} {C : Nat → Nat → Int32} (h : RX x s C) (i k : Nat) (hk : k < 24) : x.2.1 (18, i) k = nI (s.1 6 i k) := h.1 6 i k (Or.inr (Or.inr (Or.inr (Or.inr (Or.inr (Or.inr (Or.inl ⟨rfl, hk⟩)))))))
theorem RX.opn {x : hp_S} {s : sg} {C : Nat → Nat → Int32} (h : RX x s C) (i : Nat) : x.2.1 (15, i) 4 = nI (s.1 4 i 0) := h.1 4 i 0 (Or.inr (Or.inr (Or.inr (Or.inr (Or.inl ⟨rfl, rfl⟩)))))
theorem RX.ct {x : hp_S} {s : sg} {C : Nat → Nat → Int32} (h : RX x s C) (i : Nat) : x.2.1 (7, 0) i = nI (s.1 7 i 0) := h.1 7 i 0 (Or.inr (Or.inr (Or.inr (Or.inr (Or.inr (Or.inr (Or.inr (Or.inl ⟨rfl, rfl⟩))))))))
theorem RX.cs {x : hp_S} {s : sg} {C : Nat → Nat → Int32} (h : RX x s C) (i : Nat) : x.2.1 (10, 0) i = nI (s.1 8 i 0) := h.1 8 i 0 (Or.inr (Or.inr (Or.inr (Or.inr (Or.inr (Or.inr (Or.inr (Or.inr (⟨rfl, rfl⟩)))))))))
theorem RX.val {x : hp_S} {s : sg} {C : Nat → Nat → Int32} (h : RX x s C) (i k : Nat) (hk : k < 24) : x.2.2.1 (2, i) k = s.2 0 i k := h.2.1 0 i k (Or.inl ⟨rfl, hk⟩)
theorem RX.inp {x : hp_S} {s : sg} {C : Nat → Nat → Int32} (h : RX x s C) (i k : Nat) (hk : k < 8) : x.2.2.1 (14, i) k = s.2 1 i k := h.2.1 1 i k (Or.inr (Or.inl ⟨rfl, hk⟩))
theorem RX.bas {x : hp_S} {s : sg} {C : Nat → Nat → Int32} (h : RX x s C) (i k : Nat) (hk : k < 24) : x.2.2.1 (17, i) k = s.2 3 i k := h.2.1 3 i k (Or.inr (Or.inr (Or.inr (Or.inl ⟨rfl, hk⟩))))
theorem RX.wri {x : hp_S} {s : sg} {C : Nat → Nat → Int32} (h : RX x s C) (i k : Nat) (hk : k < 24) : x.2.2.1 (19, i) k = s.2 4 i k := h.2.1 4 i k (Or.inr (Or.inr (Or.inr (Or.inr (Or.inl ⟨rfl, hk⟩)))))
theorem RX.res {x : hp_S} {s : sg} {C : Nat → Nat → Int32} (h : RX x s C) (i : Nat) : x.2.2.1 (11, i) 10 = s.2 2 i 0 := h.2.1 2 i 0 (Or.inr (Or.inr (Or.inl ⟨rfl, rfl⟩)))
theorem RX.co {x : hp_S} {s : sg} {C : Nat → Nat → Int32} (h : RX x s C) (i : Nat) : x.2.2.1 (8, 0) i = s.2 5 i 0 := h.2.1 5 i 0 (Or.inr (Or.inr (Or.inr (Or.inr (Or.inr (Or.inl ⟨rfl, rfl⟩))))))
theorem RX.ch {x : hp_S} {s : sg} {C : Nat → Nat → Int32} (h : RX x s C) (i : Nat) : x.2.2.1 (9, 0) i = s.2 6 i 0 := h.2.1 6 i 0 (Or.inr (Or.inr (Or.inr (Or.inr (Or.inr (Or.inr (⟨rfl, rfl⟩)))))))
theorem RM.nT {x : hp_S} {s : sg} {C : Nat → Nat → Int32} (h : RM x s C) : x.2.1 (20, 0) 0 = nI (nT s) := h.1 0 0 0 (Or.inl ⟨rfl, by decide, rfl⟩)
theorem RM.nB {x : hp_S} {s : sg} {C : Nat → Nat → Int32} (h : RM x s C) : x.2.1 (20, 0) 1 = nI (nB s) := h.1 0 1 0 (Or.inl ⟨rfl, by decide, rfl⟩)
theorem RM.nS {x : hp_S} {s : sg} {C : Nat → Nat → Int32} (h : RM x s C) : x.2.1 (20, 0) 15 = nI (nS s) := h.1 0 2 0 (Or.inl ⟨rfl, by decide, rfl⟩)
theorem RM.nZ {x : hp_S} {s : sg} {C : Nat → Nat → Int32} (h : RM x s C) : x.2.1 (20, 0) 3 = nI (nZ s) := h.1 0 3 0 (Or.inl ⟨rfl, by decide, rfl⟩)
theorem RM.nC {x : hp_S} {s : sg} {C : Nat → Nat → Int32} (h : RM x s C) : x.2.1 (20, 0) 9 = nI (nC s) := h.1 0 4 0 (Or.inl ⟨rfl, by decide, rfl⟩)
theorem RM.kd {x : hp_S} {s : sg} {C : Nat → Nat → Int32} (h : RM x s C) (i : Nat) : x.2.1 (31, 0) i = nI (s.1 1 i 0) := h.1 1 i 0 (Or.inr (Or.inl ⟨rfl, by decide⟩))
theorem RM.uc {x : hp_S} {s : sg} {C : Nat → Nat → Int32} (h : RM x s C) (i : Nat) : x.2.1 (33, 0) i = nI (uc s i) := h.1 1 i 1 (Or.inr (Or.inl ⟨rfl, by decide⟩))
theorem RM.mc {x : hp_S} {s : sg} {C : Nat → Nat → Int32} (h : RM x s C) (i : Nat) : x.2.1 (35, 0) i = nI (mc s i) := h.1 1 i 2 (Or.inr (Or.inl ⟨rfl, by decide⟩))
theorem RM.ran {x : hp_S} {s : sg} {C : Nat → Nat → Int32} (h : RM x s C) (i : Nat) : x.2.1 (36, 0) i = nI (s.1 1 i 3) := h.1 1 i 3 (Or.inr (Or.inl ⟨rfl, by decide⟩))
theorem RM.ut {x : hp_S} {s : sg} {C : Nat → Nat → Int32} (h : RM x s C) (i : Nat) : x.2.1 (37, 0) i = nI (s.1 1 i 4) := h.1 1 i 4 (Or.inr (Or.inl ⟨rfl, by decide⟩))
theorem RM.mt {x : hp_S} {s : sg} {C : Nat → Nat → Int32} (h : RM x s C) (i : Nat) : x.2.1 (38, 0) i = nI (s.1 1 i 5) := h.1 1 i 5 (Or.inr (Or.inl ⟨rfl, by decide⟩))
theorem RM.us {x : hp_S} {s : sg} {C : Nat → Nat → Int32} (h : RM x s C) (i k : Nat) (hk : k < 8) : x.2.1 (32, 0) (8 * i + k) = nI (us s i k) := h.1 2 i k (Or.inr (Or.inr (Or.inl ⟨rfl, hk⟩)))
theorem RM.md {x : hp_S} {s : sg} {C : Nat → Nat → Int32} (h : RM x s C) (i k : Nat) (hk : k < 4) : x.2.1 (34, 0) (4 * i + k) = nI (md s i k) := h.1 3 i k (Or.inr (Or.inr (Or.inr (Or.inl ⟨rfl, hk⟩))))
theorem RM.tou {x : hp_S} {s : sg} {C : Nat → Nat → Int32} (h : RM x s C) (i k : Nat) (hk : k < 24) : x.2.1 (23, 0) (24 * i + k) = nI (s.1 5 i k) := h.1 5 i k (Or.inr (Or.inr (Or.inr (Or.inr (Or.inr (Or.inl ⟨rfl, hk⟩))))))
theorem RM.wro {x : hp_S} {s : sg} {C : Nat → Nat → Int32} (h : RM x s C) (i k : Nat) (hk : k < 24) : x.2.1 (24, 0) (24 * i + k) = nI (s.1 6 i k) := h.1 6 i k (Or.inr (Or.inr (Or.inr (Or.inr (Or.inr (Or.inr (Or.inl ⟨rfl, hk⟩)))))))
theorem RM.opn {x : hp_S} {s : sg} {C : Nat → Nat → Int32} (h : RM x s C) (i : Nat) : x.2.1 (22, 0) i = nI (s.1 4 i 0) := h.1 4 i 0 (Or.inr (Or.inr (Or.inr (Or.inr (Or.inl ⟨rfl, rfl⟩)))))
theorem RM.ct {x : hp_S} {s : sg} {C : Nat → Nat → Int32} (h : RM x s C) (i : Nat) : x.2.1 (27, 0) i = nI (s.1 7 i 0) := h.1 7 i 0 (Or.inr (Or.inr (Or.inr (Or.inr (Or.inr (Or.inr (Or.inr (Or.inl ⟨rfl, rfl⟩))))))))
theorem RM.cs {x : hp_S} {s : sg} {C : Nat → Nat → Int32} (h : RM x s C) (i : Nat) : x.2.1 (30, 0) i = nI (s.1 8 i 0) := h.1 8 i 0 (Or.inr (Or.inr (Or.inr (Or.inr (Or.inr (Or.inr (Or.inr (Or.inr (⟨rfl, rfl⟩)))))))))
theorem RM.val {x : hp_S} {s : sg} {C : Nat → Nat → Int32} (h : RM x s C) (i k : Nat) (hk : k < 24) : x.2.2.1 (21, 0) (24 * i + k) = s.2 0 i k := h.2.1 0 i k (Or.inl ⟨rfl, hk⟩)
theorem RM.inp {x : hp_S} {s : sg} {C : Nat → Nat → Int32} (h : RM x s C) (i k : Nat) (hk : k < 8) : x.2.2.1 (39, 0) (8 * i + k) = s.2 1 i k := h.2.1 1 i k (Or.inr (Or.inl ⟨rfl, hk⟩))
theorem RM.bas {x : hp_S} {s : sg} {C : Nat → Nat → Int32} (h : RM x s C) (i k : Nat) (hk : k < 24) : x.2.2.1 (25, 0) (24 * i + k) = s.2 3 i k := h.2.1 3 i k (Or.inr (Or.inr (Or.inr (Or.inl ⟨rfl, hk⟩))))
theorem RM.wri {x : hp_S} {s : sg} {C : Nat → Nat → Int32} (h : RM x s C) (i k : Nat) (hk : k < 24) : x.2.2.1 (26, 0) (24 * i + k) = s.2 4 i k := h.2.1 4 i k (Or.inr (Or.inr (Or.inr (Or.inr (Or.inl ⟨rfl, hk⟩)))))
theorem RM.res {x : hp_S} {s : sg} {C : Nat → Nat → Int32} (h : RM x s C) (i : Nat) : x.2.2.1 (40, 0) i = s.2 2 i 0 := h.2.1 2 i 0 (Or.inr (Or.inr (Or.inl ⟨rfl, rfl⟩)))
theorem RM.co {x : hp_S} {s : sg} {C : Nat → Nat → Int32} (h : RM x s C) (i : Nat) : x.2.2.1 (28, 0) i = s.2 5 i 0 := h.2.1 5 i 0 (Or.inr (Or.inr (Or.inr (Or.inr (Or.inr (Or.inl ⟨rfl, rfl⟩))))))
theorem RM.ch {x : hp_S} {s : sg} {C : Nat → Nat → Int32} (h : RM x s C) (i : Nat) : x.2.2.1 (29, 0) i = s.2 6 i 0 := h.2.1 6 i 0 (Or.inr (Or.inr (Or.inr (Or.inr (Or.inr (Or.inr (⟨rfl, rfl⟩)))))))
theorem RX.mk {x : hp_S} {s : sg} {C : Nat → Nat → Int32} (h : RX x s C) (i : Nat) : x.2.1 (3, 0) i = C 0 i := h.2.2 0 i (Or.inl rfl)
theorem RX.abv {x : hp_S} {s : sg} {C : Nat → Nat → Int32} (h : RX x s C) (i : Nat) : x.2.1 (11, i) 6 = C 1 i := h.2.2 1 i (Or.inr (Or.inl rfl))
theorem RX.chg {x : hp_S} {s : sg} {C : Nat → Nat → Int32} (h : RX x s C) : x.2.1 (0, 0) 10 = C 2 0 := h.2.2 2 0 (Or.inr (Or.inr ⟨rfl, rfl⟩))
theorem RM.own {x : hp_S} {s : sg} {C : Nat → Nat → Int32} (h : RM x s C) : x.2.1 (20, 0) 10 = C 0 0 := h.2.2 0 0 (Or.inl ⟨rfl, rfl⟩)
theorem RM.mar {x : hp_S} {s : sg} {C : Nat → Nat → Int32} (h : RM x s C) (i : Nat) : x.2.1 (41, 0) i = C 1 i := h.2.2 1 i (Or.inr (Or.inl rfl))
theorem RM.don {x : hp_S} {s : sg} {C : Nat → Nat → Int32} (h : RM x s C) (i : Nat) : x.2.1 (42, 0) i = C 2 i := h.2.2 2 i (Or.inr (Or.inr (Or.inl rfl)))
theorem RM.chd {x : hp_S} {s : sg} {C : Nat → Nat → Int32} (h : RM x s C) : x.2.1 (20, 0) 28 = C 3 0 := h.2.2 3 0 (Or.inr (Or.inr (Or.inr (Or.inl ⟨rfl, rfl⟩))))
theorem RM.rn {x : hp_S} {s : sg} {C : Nat → Nat → Int32} (h : RM x s C) : x.2.1 (20, 0) 29 = C 4 0 := h.2.2 4 0 (Or.inr (Or.inr (Or.inr (Or.inr ⟨rfl, rfl⟩))))
/-! small rows -/
theorem b1 {A B : Prop} (h : B) : (nI 1 = 0 → A) ∧ (¬ nI 1 = 0 → B) := ⟨fun e => absurd e (by decide), fun _ => h⟩
theorem b0 {A B : Prop} (h : A) : (nI 0 = 0 → A) ∧ (¬ nI 0 = 0 → B) := ⟨fun _ => h, fun e => absurd nI_0 e⟩
theorem b1' {A B : Prop} (h : B) : (¬ nI 1 = 0 → B) ∧ (nI 1 = 0 → A) := ⟨fun _ => h, fun e => absurd e (by decide)⟩
theorem b0' {A B : Prop} (h : A) : (¬ nI 0 = 0 → B) ∧ (nI 0 = 0 → A) := ⟨fun e => absurd nI_0 e, fun _ => h⟩
theorem nI_z {a : Nat} (h : a < 2 ^ 31) : nI a = 0 ↔ a = 0 := by
  rw [← nI_0]
  exact nI_eq h (by decide)
/-- a number that is 0 or 1 -/
theorem bz {A B : Prop} {r : Int32} {a : Nat} (hr : r = nI a) (ha : a < 2 ^ 31) (h0 : a = 0 → A) (h1 : a ≠ 0 → B) : (r = 0 → A) ∧ (¬ r = 0 → B) := by
  subst hr
  rw [nI_z ha]
  exact ⟨h0, h1⟩
theorem bz' {A B : Prop} {r : Int32} {a : Nat} (hr : r = nI a) (ha : a < 2 ^ 31) (h0 : a = 0 → A) (h1 : a ≠ 0 → B) : (¬ r = 0 → B) ∧ (r = 0 → A) := (bz hr ha h0 h1).symm
/-- an argument against a count -/
theorem rc {A B : Prop} {a r : Int32} {n : Nat} (hr : r = nI n) (hn : n < 2 ^ 31) (hA : (∀ j, j < n → a ≠ nI j) → A) (hB : ∀ j, j < n → a = nI j → B) : (a < 0 → A) ∧ (¬ a < 0 → ((r ≤ a → A) ∧ (¬ r ≤ a → B))) := by
  subst hr
  rcases pk_ix a hn with h | h | ⟨j, hj, rfl⟩
  · refine ⟨fun _ => hA (fun j hj e => ?_), fun h' => absurd h h'⟩
    rw [e] at h
    exact nI_pos (by omega) h
  · have hA' : A := hA (fun j hj e => by
      rw [e] at h
      exact nI_ge hj (by omega) h)
    exact ⟨fun _ => hA', fun _ => ⟨fun _ => hA', fun h' => absurd h h'⟩⟩
  · refine ⟨fun h => absurd h (nI_pos (by omega)), fun _ => ⟨fun h => absurd h (nI_ge hj (by omega)), fun _ => hB j hj rfl⟩⟩
theorem lc0 (a b : Int64) : lg_cmp a b = 0 ↔ a = b := by
  unfold lg_cmp
  constructor
  · intro h
    split at h
    · exact absurd h (by decide)
    · split at h
      · assumption
      · exact absurd h (by decide)
  · intro h
    subst h
    simp
theorem bl {A B : Prop} (a b : Int64) (h0 : a = b → A) (h1 : a ≠ b → B) : (lg_cmp a b = 0 → A) ∧ (¬ lg_cmp a b = 0 → B) := by
  rw [lc0]
  exact ⟨h0, h1⟩
/-- a loop that counts up -/
theorem up {τ : Type} {n : Nat} (K : Nat → τ → Int32 → Prop) (I : Nat → τ → Prop) (hend : ∀ x, I n x → ∃ q, K q x (nI n)) (hstep : ∀ j x, j < n → I j x → (∀ x', I (j + 1) x' → ∃ q, K q x' (nI (j + 1))) → ∃ q, K q x (nI j)) : ∀ j x, j ≤ n → I j x → ∃ q, K q x (nI j) := by
  intro j x hj
  obtain ⟨d, hd⟩ : ∃ d, d = n - j := ⟨_, rfl⟩
  induction d generalizing j x with
  | zero =>
    intro hI
    have : j = n := by omega
    subst this
    exact hend x hI
  | succ d ih =>
    intro hI
    exact hstep j x (by omega) hI (fun x' hI' => ih (j + 1) x' (by omega) (by omega) hI')
def GX (x y : hp_S) : Prop := y.1 = x.1 ∧ y.2.2.2 = x.2.2.2 ∧ FX x y
def GM (x y : hp_S) : Prop := y.1 = x.1 ∧ y.2.2.2 = x.2.2.2 ∧ FM x y
theorem GX.rf (x : hp_S) : GX x x := ⟨rfl, rfl, FX.rf x⟩
theorem GM.rf (x : hp_S) : GM x x := ⟨rfl, rfl, FM.rf x⟩
theorem GX.tr {x y z : hp_S} (h1 : GX x y) (h2 : GX y z) : GX x z := ⟨h2.1.trans h1.1, h2.2.1.trans h1.2.1, h1.2.2.tr h2.2.2⟩
theorem GM.tr {x y z : hp_S} (h1 : GM x y) (h2 : GM y z) : GM x z := ⟨h2.1.trans h1.1, h2.2.1.trans h1.2.1, h1.2.2.tr h2.2.2⟩
theorem GX.uI {x y : hp_S} (h : GX x y) {t : hp_T} {p : Nat} {v : Int32} (ht : t.1 < 20) : GX x (hp_uI y t p v) := ⟨h.1, h.2.1, h.2.2.uI ht⟩
theorem GX.uL {x y : hp_S} (h : GX x y) {t : hp_T} {p : Nat} {v : Int64} (ht : t.1 < 20) : GX x (hp_uL y t p v) := ⟨h.1, h.2.1, h.2.2.uL ht⟩
theorem GM.uI {x y : hp_S} (h : GM x y) {t : hp_T} {p : Nat} {v : Int32} (ht : 20 ≤ t.1) : GM x (hp_uI y t p v) := ⟨h.1, h.2.1, h.2.2.uI ht⟩
theorem GM.uL {x y : hp_S} (h : GM x y) {t : hp_T} {p : Nat} {v : Int64} (ht : 20 ≤ t.1) : GM x (hp_uL y t p v) := ⟨h.1, h.2.1, h.2.2.uL ht⟩
theorem cl (n : Nat) (h : n < 2 ^ 31) : (nI n).toNatClampNeg = n := nI_clamp h
