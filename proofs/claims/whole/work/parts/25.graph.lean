/-! GRAPH: closure of a relation, counts, rank, bits -/
def tcn (e : Nat → Nat → Prop) : Nat → Nat → Nat → Prop
  | 0, a, b => e a b
  | n + 1, a, c => ∃ b, tcn e n a b ∧ e b c
def tc (e : Nat → Nat → Prop) (a b : Nat) : Prop := ∃ n, tcn e n a b
theorem tc.one {e : Nat → Nat → Prop} {a b : Nat} (h : e a b) : tc e a b := ⟨0, h⟩
theorem tc.more {e : Nat → Nat → Prop} {a b c : Nat} (h : tc e a b) (h2 : e b c) : tc e a c := by
  obtain ⟨n, h⟩ := h
  exact ⟨n + 1, b, h, h2⟩
theorem tc.ind {e : Nat → Nat → Prop} {a : Nat} {M : (b : Nat) → tc e a b → Prop} (one : ∀ {b : Nat} (h : e a b), M b (.one h)) (more : ∀ {b c : Nat} (h : tc e a b) (h2 : e b c), M b h → M c (.more h h2)) {b : Nat} (h : tc e a b) : M b h := by
  obtain ⟨n, h⟩ := h
  induction n generalizing b with
  | zero => exact one h
  | succ n ih =>
    obtain ⟨c, h1, h2⟩ := h
    exact more ⟨n, h1⟩ h2 (ih h1)
def tcr (e : Nat → Nat → Prop) (a b : Nat) : Prop := a = b ∨ tc e a b
section GRAPH
variable {e e' : Nat → Nat → Prop} {a b c m i : Nat}
theorem tc.trans (h1 : tc e a b) (h2 : tc e b c) : tc e a c := by
  induction h2 using tc.ind with
  | one h => exact .more h1 h
  | more _ h ih => exact .more ih h
theorem tcr.cat (h1 : tcr e a b) (h2 : tc e b c) : tc e a c := by
  rcases h1 with rfl | h1
  · exact h2
  · exact h1.trans h2
theorem tc.cat (h1 : tc e a b) (h2 : tcr e b c) : tc e a c := by
  rcases h2 with rfl | h2
  · exact h1
  · exact h1.trans h2
theorem tcr.trans (h1 : tcr e a b) (h2 : tcr e b c) : tcr e a c := by
  rcases h1 with rfl | h1
  · exact h2
  · exact Or.inr (h1.cat h2)
theorem tcr.rf : tcr e a a := Or.inl rfl
theorem tcr.edge (h1 : tcr e a b) (h2 : e b c) : tcr e a c := Or.inr (h1.cat (.one h2))
theorem tc.mono (h : ∀ a b, e a b → e' a b) (h1 : tc e a b) : tc e' a b := by
  induction h1 using tc.ind with
  | one h1 => exact .one (h _ _ h1)
  | more _ h1 ih => exact .more ih (h _ _ h1)
theorem tcr.mono (h : ∀ a b, e a b → e' a b) (h1 : tcr e a b) : tcr e' a b := by
  rcases h1 with rfl | h1
  · exact Or.inl rfl
  · exact Or.inr (h1.mono h)
theorem tc.last (h : tc e a c) : ∃ b, tcr e a b ∧ e b c := by
  induction h using tc.ind with
  | one h => exact ⟨a, Or.inl rfl, h⟩
  | more h1 h _ => exact ⟨_, Or.inr h1, h⟩
theorem tc.head (h : tc e a c) : ∃ b, e a b ∧ tcr e b c := by
  induction h using tc.ind with
  | one h => exact ⟨_, h, Or.inl rfl⟩
  | more _ h ih =>
    obtain ⟨b, h1, h2⟩ := ih
    exact ⟨b, h1, h2.edge h⟩
theorem tc_congr (h : ∀ a b, e a b ↔ e' a b) : tc e a b ↔ tc e' a b := ⟨tc.mono (fun a b => (h a b).mp), tc.mono (fun a b => (h a b).mpr)⟩
theorem tcr_congr (h : ∀ a b, e a b ↔ e' a b) : tcr e a b ↔ tcr e' a b := ⟨tcr.mono (fun a b => (h a b).mp), tcr.mono (fun a b => (h a b).mpr)⟩
/-- one more edge -/
theorem tc_add : tc (fun u v => e u v ∨ (u = m ∧ v = i)) a b ↔ tc e a b ∨ (tcr e a m ∧ tcr e i b) := by
  constructor
  · intro h
    induction h using tc.ind with
    | one h =>
      rcases h with h | ⟨rfl, rfl⟩
      · exact Or.inl (.one h)
      · exact Or.inr ⟨.rf, .rf⟩
    | more _ h ih =>
      rcases h with h | ⟨rfl, rfl⟩
      · rcases ih with ih | ⟨h1, h2⟩
        · exact Or.inl (.more ih h)
        · exact Or.inr ⟨h1, h2.edge h⟩
      · rcases ih with ih | ⟨h1, h2⟩
        · exact Or.inr ⟨Or.inr ih, .rf⟩
        · exact Or.inr ⟨h1, .rf⟩
  · rintro (h | ⟨h1, h2⟩)
    · exact h.mono (fun _ _ h => Or.inl h)
    · have g1 : tcr (fun u v => e u v ∨ (u = m ∧ v = i)) a m := h1.mono (fun _ _ h => Or.inl h)
      have g2 : tcr (fun u v => e u v ∨ (u = m ∧ v = i)) i b := h2.mono (fun _ _ h => Or.inl h)
      exact (g1.cat (.one (Or.inr ⟨rfl, rfl⟩))).cat g2
theorem tcr_add : tcr (fun u v => e u v ∨ (u = m ∧ v = i)) a b ↔ tcr e a b ∨ (tcr e a m ∧ tcr e i b) := by
  unfold tcr
  rw [tc_add]
  constructor
  · rintro (h | h | h)
    · exact Or.inl (Or.inl h)
    · exact Or.inl (Or.inr h)
    · exact Or.inr h
  · rintro ((h | h) | h)
    · exact Or.inl h
    · exact Or.inr (Or.inl h)
    · exact Or.inr (Or.inr h)
end GRAPH
noncomputable def cnt (p : Nat → Prop) : Nat → Nat
  | 0 => 0
  | n + 1 => cnt p n + @ite _ (p n) (Classical.propDecidable _) 1 0
section CNT
variable {p q : Nat → Prop}
theorem cnt_le (h : ∀ x, p x → q x) : ∀ n, cnt p n ≤ cnt q n
  | 0 => Nat.le_refl _
  | n + 1 => by
    have := cnt_le h n
    unfold cnt
    by_cases hp : p n
    · rw [if_pos hp, if_pos (h n hp)]
      omega
    · rw [if_neg hp]
      omega
theorem cnt_lt (h : ∀ x, p x → q x) {y n : Nat} (hy : y < n) (hq : q y) (hp : ¬ p y) : cnt p n < cnt q n := by
  induction n with
  | zero => omega
  | succ n ih =>
    unfold cnt
    by_cases e : y = n
    · subst e
      have := cnt_le h y
      rw [if_neg hp, if_pos hq]
      omega
    · have := ih (by omega)
      by_cases hp : p n
      · rw [if_pos hp, if_pos (h n hp)]
        omega
      · rw [if_neg hp]
        omega
theorem cnt_max (p : Nat → Prop) : ∀ n, cnt p n ≤ n
  | 0 => Nat.le_refl _
  | n + 1 => by
    have := cnt_max p n
    unfold cnt
    split <;> omega
theorem cnt_congr {n : Nat} (h : ∀ x, x < n → (p x ↔ q x)) : cnt p n = cnt q n := by
  induction n with
  | zero => rfl
  | succ n ih =>
    unfold cnt
    rw [ih (fun x hx => h x (by omega)), propext (h n (by omega))]
theorem cnt_zero {n : Nat} (h : ∀ x, x < n → ¬ p x) : cnt p n = 0 := by
  induction n with
  | zero => rfl
  | succ n ih =>
    unfold cnt
    rw [ih (fun x hx => h x (by omega)), if_neg (h n (by omega))]
theorem cnt_add {n y : Nat} (hy : y < n) (h : ∀ x, x < n → x ≠ y → (p x ↔ q x)) (hp : ¬ p y) (hq : q y) : cnt q n = cnt p n + 1 := by
  induction n with
  | zero => omega
  | succ n ih =>
    unfold cnt
    by_cases e : y = n
    · subst e
      rw [if_neg hp, if_pos hq, cnt_congr (fun x hx => h x (by omega) (by omega))]
    · have hn := h n (by omega) (by omega)
      rw [ih (by omega) (fun x hx => h x (by omega)), propext hn]
      omega
end CNT
noncomputable def rk (e : Nat → Nat → Prop) (b : Nat) : Nat := cnt (fun o => tc e o b) 12
theorem rk_lt {e : Nat → Nat → Prop} (ha : ∀ i, ¬ tc e i i) {c b : Nat} (hc : c < 12) (h : tc e c b) : rk e c < rk e b := cnt_lt (fun x hx => hx.trans h) hc h (ha c)
theorem rk_max {e : Nat → Nat → Prop} (ha : ∀ i, ¬ tc e i i) {b : Nat} (hb : b < 12) : rk e b < 12 := Nat.lt_of_lt_of_le (cnt_lt (q := fun _ => True) (fun _ _ => trivial) hb trivial (ha b)) (cnt_max _ 12)
/-! bits -/
def bt (v : Int32) (o : Nat) : Prop := ¬ ((hx_iushr v (nI o)) &&& (nI 1)) = 0
theorem bt_or (a b : Int32) (o : Nat) : bt (a ||| b) o ↔ bt a o ∨ bt b o := by
  unfold bt
  have h : ∀ (x y : UInt32) (n : UInt32), ((x ||| y) >>> n).toInt32 &&& nI 1 = (((x >>> n).toInt32 &&& nI 1) ||| ((y >>> n).toInt32 &&& nI 1)) := by
    intro x y n
    apply Int32.toBitVec_inj.mp
    simp [BitVec.ushiftRight_or_distrib, BitVec.and_or_distrib_right]
  have h2 : (hx_iushr (a ||| b) (nI o)) &&& nI 1 = ((hx_iushr a (nI o)) &&& nI 1) ||| ((hx_iushr b (nI o)) &&& nI 1) := by
    unfold hx_iushr
    rw [← h]
    rfl
  rw [h2]
  have h3 : ∀ x y : Int32, x ||| y = 0 ↔ x = 0 ∧ y = 0 := by
    intro x y
    rw [← Int32.toBitVec_inj, ← Int32.toBitVec_inj, ← Int32.toBitVec_inj]
    simp
  rw [h3]
  constructor
  · intro h
    by_cases e : (hx_iushr a (nI o)) &&& nI 1 = 0
    · exact Or.inr (fun e2 => h ⟨e, e2⟩)
    · exact Or.inl e
  · rintro (h | h) ⟨h1, h2⟩
    · exact h h1
    · exact h h2
theorem bt_one : ∀ i, i < 12 → ∀ o, o < 12 → (¬ ((hx_iushr ((nI 1) <<< ((nI i) &&& 31)) (nI o)) &&& (nI 1)) = 0 ↔ i = o) := by decide +kernel
theorem bt_zero : ∀ o, o < 12 → ((hx_iushr 0 (nI o)) &&& (nI 1)) = 0 := by decide +kernel
