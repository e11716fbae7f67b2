/-! ABSTRACT OBJECTS. A tag is (kind, number). Each tag has ints, longs and references by places; 'hp_kd' says what a kind is. -/
abbrev hp_T : Type := Nat × Nat
abbrev hp_S : Type := (hp_T → Bool) × (hp_T → Nat → Int32) × (hp_T → Nat → Int64) × (hp_T → Nat → Option hp_T)
def hp_uI (x : hp_S) (t : hp_T) (k : Nat) (v : Int32) : hp_S := (x.1, fun t' k' => if t' = t ∧ k' = k then v else x.2.1 t' k', x.2.2.1, x.2.2.2)
def hp_uL (x : hp_S) (t : hp_T) (k : Nat) (v : Int64) : hp_S := (x.1, x.2.1, fun t' k' => if t' = t ∧ k' = k then v else x.2.2.1 t' k', x.2.2.2)
def hp_uR (x : hp_S) (t : hp_T) (k : Nat) (v : Option hp_T) : hp_S := (x.1, x.2.1, x.2.2.1, fun t' k' => if t' = t ∧ k' = k then v else x.2.2.2 t' k')
/-- a row of longs is written anew -/
def hp_wL (x : hp_S) (t : hp_T) (f : Nat → Int64) : hp_S := (x.1, x.2.1, fun t' => if t' = t then f else x.2.2.1 t', x.2.2.2)
/-- a new object, all zero -/
def hp_nw (x : hp_S) (t : hp_T) : hp_S := (fun t' => if t' = t then true else x.1 t', fun t' k => if t' = t then 0 else x.2.1 t' k, fun t' k => if t' = t then 0 else x.2.2.1 t' k, fun t' k => if t' = t then none else x.2.2.2 t' k)
def hp_ad (ad : hp_T → Nat) (t : hp_T) (q : Nat) : hp_T → Nat := fun t' => if t' = t then q else ad t'
def hp_val (ad : hp_T → Nat) (x : hp_S) (t : hp_T) (c k : Nat) : Value := match c with
  | 0 => .int (x.2.1 t k)
  | 1 => .long (x.2.2.1 t k)
  | _ => va_rf ((x.2.2.2 t k).map ad)
def hp_fs (ad : hp_T → Nat) (x : hp_S) (t : hp_T) (sl : List Nat) : List Value := (List.range sl.length).map (fun k => hp_val ad x t (sl.getD k 0) k)
def hp_bank (ty : FieldType) : Nat := match ty with
  | .long => 1
  | .object _ => 2
  | .array _ => 2
  | _ => 0
def hp_arr (ad : hp_T → Nat) (x : hp_S) (t : hp_T) (b n : Nat) : vp_A := (n, match b with
  | 0 => .inl (x.2.1 t)
  | 1 => .inr (.inl (x.2.2.1 t))
  | _ => .inr (.inr (.inr (.inr (fun j => (x.2.2.2 t j).map ad)))))
def hp_cell (cA : Nat → ClassId) (ad : hp_T → Nat) (x : hp_S) (t : hp_T) : va_E := match hp_kd t.1 with
  | .inl o => .inr (o.1, hp_fs ad x t o.2)
  | .inr a => .inl (cA a.1, hp_arr ad x t (hp_bank (hp_aty a.1)) a.2)
/-- every object that is there is whole -/
def hp_sh (x : hp_S) : Prop := ∀ t k t2, hp_ex t k = some t2 → x.1 t = true → x.2.2.2 t k = some t2
theorem hp_cell_o {cA : Nat → ClassId} {ad : hp_T → Nat} {x : hp_S} {t : hp_T} {ci : Nat} {sl : List Nat} (h : hp_kd t.1 = .inl (ci, sl)) : hp_cell cA ad x t = .inr (ci, hp_fs ad x t sl) := by
  simp only [hp_cell, h]
theorem hp_cell_a {cA : Nat → ClassId} {ad : hp_T → Nat} {x : hp_S} {t : hp_T} {a n : Nat} (h : hp_kd t.1 = .inr (a, n)) : hp_cell cA ad x t = .inl (cA a, hp_arr ad x t (hp_bank (hp_aty a)) n) := by
  simp only [hp_cell, h]
theorem hp_fs_get {ad : hp_T → Nat} {x : hp_S} {t : hp_T} {sl : List Nat} {k c : Nat} (h : sl[k]? = some c) : (hp_fs ad x t sl)[k]? = some (hp_val ad x t c k) := by
  have hl : k < sl.length := (List.getElem?_eq_some_iff.mp h).1
  have e : sl.getD k 0 = c := by rw [List.getD_eq_getElem?_getD, h]; rfl
  simp only [hp_fs, List.getElem?_map, List.getElem?_range hl, Option.map_some, e]
theorem hp_fs_len {ad : hp_T → Nat} {x : hp_S} {t : hp_T} {sl : List Nat} : (hp_fs ad x t sl).length = sl.length := by simp [hp_fs]
/-- the fields behind a write: place by place -/
theorem hp_fs_set {ad : hp_T → Nat} {x x' : hp_S} {t : hp_T} {sl : List Nat} {k : Nat} {v : Value} (hk : k < sl.length) (h1 : hp_val ad x' t (sl.getD k 0) k = v) (h2 : ∀ j, j ≠ k → hp_val ad x' t (sl.getD j 0) j = hp_val ad x t (sl.getD j 0) j) : (hp_fs ad x t sl).set k v = hp_fs ad x' t sl := by
  apply List.ext_getElem?
  intro j
  rw [List.getElem?_set]
  by_cases hj : k = j
  · subst hj
    rw [if_pos rfl, if_pos (by rw [hp_fs_len]; exact hk)]
    simp only [hp_fs, List.getElem?_map, List.getElem?_range hk, Option.map_some, h1]
  · rw [if_neg hj]
    by_cases hl : j < sl.length
    · simp only [hp_fs, List.getElem?_map, List.getElem?_range hl, Option.map_some, h2 j (Ne.symm hj)]
    · simp [hp_fs, hl]
/-- what a cell is made of -/
theorem hp_cell_congr {cA : Nat → ClassId} {ad ad' : hp_T → Nat} {x x' : hp_S} {t : hp_T} (h1 : x'.2.1 t = x.2.1 t) (h2 : x'.2.2.1 t = x.2.2.1 t) (h3 : ∀ k, (x'.2.2.2 t k).map ad' = (x.2.2.2 t k).map ad) : hp_cell cA ad' x' t = hp_cell cA ad x t := by
  have hv : ∀ c k, hp_val ad' x' t c k = hp_val ad x t c k := by
    intro c k
    match c with
    | 0 => simp only [hp_val, h1]
    | 1 => simp only [hp_val, h2]
    | n + 2 => simp only [hp_val, h3]
  have hf : ∀ sl, hp_fs ad' x' t sl = hp_fs ad x t sl := fun sl => by simp only [hp_fs, hv]
  have ha : ∀ b n, hp_arr ad' x' t b n = hp_arr ad x t b n := by
    intro b n
    match b with
    | 0 => simp only [hp_arr, h1]
    | 1 => simp only [hp_arr, h2]
    | m + 2 => simp only [hp_arr, h3]
  simp only [hp_cell, hf, ha]
def hp_H (D : va_G) (cA : Nat → ClassId) (B0 : Nat) (ad : hp_T → Nat) (x : hp_S) (H : Heap) : Prop :=
  B0 ≤ H.size ∧ (∀ t, x.1 t = true → B0 ≤ ad t ∧ va_at D vwCl (ad t, hp_cell cA ad x t) H) ∧ (∀ t t', x.1 t = true → x.1 t' = true → ad t = ad t' → t = t') ∧ ∀ t k t', x.1 t = true → x.2.2.2 t k = some t' → x.1 t' = true
theorem hp_H.put {D : va_G} {cA : Nat → ClassId} {B0 : Nat} {ad : hp_T → Nat} {x x' : hp_S} {H H1 : Heap} {t : hp_T} (h : hp_H D cA B0 ad x H) (ht : x.1 t = true) (hl : x'.1 = x.1) (ho : ∀ t', t' ≠ t → hp_cell cA ad x' t' = hp_cell cA ad x t') (hr : ∀ k t', x'.2.2.2 t k = some t' → x.1 t' = true) (hr2 : ∀ t', t' ≠ t → x'.2.2.2 t' = x.2.2.2 t') (he : va_at D vwCl (ad t, hp_cell cA ad x' t) H1) (hz : H1.size = H.size) (oq : ∀ q : Nat, q ≠ ad t → H1[q]? = H[q]?) : hp_H D cA B0 ad x' H1 := by
  refine ⟨by rw [hz]; exact h.1, fun t' h' => ?_, fun t1 t2 h1 h2 e => ?_, fun t1 k t2 h1 h2 => ?_⟩
  · rw [hl] at h'
    refine ⟨(h.2.1 t' h').1, ?_⟩
    by_cases e : t' = t
    · subst e
      exact he
    · rw [ho t' e]
      exact (h.2.1 t' h').2.kept (oq _ (fun q => e (h.2.2.1 t' t h' ht q)))
  · rw [hl] at h1 h2
    exact h.2.2.1 t1 t2 h1 h2 e
  · rw [hl] at h1 ⊢
    by_cases e : t1 = t
    · subst e
      exact hr k t2 h2
    · rw [hr2 t1 e] at h2
      exact h.2.2.2 t1 k t2 h1 h2
/-- a cell is made -/
theorem hp_H.mk {D : va_G} {cA : Nat → ClassId} {B0 : Nat} {ad : hp_T → Nat} {x : hp_S} {H H1 : Heap} {t : hp_T} (h : hp_H D cA B0 ad x H) (ht : x.1 t = false) (he : va_at D vwCl (H.size, hp_cell cA (hp_ad ad t H.size) (hp_nw x t) t) H1) (hz : H1.size = H.size + 1) (oq : ∀ q : Nat, q < H.size → H1[q]? = H[q]?) : hp_H D cA B0 (hp_ad ad t H.size) (hp_nw x t) H1 := by
  have hlt : ∀ t', x.1 t' = true → ad t' < H.size := fun t' h' => (h.2.1 t' h').2.lt
  have hne : ∀ t', x.1 t' = true → t' ≠ t := fun t' h' e => by rw [e, ht] at h'; cases h'
  refine ⟨by rw [hz]; exact Nat.le_succ_of_le h.1, fun t' h' => ?_, fun t1 t2 h1 h2 e => ?_, fun t1 k t2 h1 h2 => ?_⟩
  · by_cases e : t' = t
    · subst e
      refine ⟨?_, ?_⟩
      · simp only [hp_ad, if_pos]
        exact h.1
      · rw [show hp_ad ad t' H.size t' = H.size by simp [hp_ad]]
        exact he
    · have h0 : x.1 t' = true := by simpa [hp_nw, e] using h'
      have ea : hp_ad ad t H.size t' = ad t' := by simp [hp_ad, e]
      rw [ea]
      refine ⟨(h.2.1 t' h0).1, ?_⟩
      rw [show hp_cell cA (hp_ad ad t H.size) (hp_nw x t) t' = hp_cell cA ad x t' from hp_cell_congr (by funext k; simp [hp_nw, e]) (by funext k; simp [hp_nw, e]) (fun k => by
        have e3 : (hp_nw x t).2.2.2 t' k = x.2.2.2 t' k := by simp [hp_nw, e]
        rw [e3]
        cases hq : x.2.2.2 t' k with
        | none => rfl
        | some t2 => simp [hp_ad, hne t2 (h.2.2.2 t' k t2 h0 hq)])]
      exact (h.2.1 t' h0).2.kept (oq _ (hlt t' h0))
  · by_cases e1 : t1 = t
    · by_cases e2 : t2 = t
      · rw [e1, e2]
      · have h0 : x.1 t2 = true := by simpa [hp_nw, e2] using h2
        have := hlt t2 h0
        simp only [hp_ad, e1, if_pos, if_neg e2] at e
        omega
    · have h0 : x.1 t1 = true := by simpa [hp_nw, e1] using h1
      by_cases e2 : t2 = t
      · have := hlt t1 h0
        simp only [hp_ad, e2, if_pos, if_neg e1] at e
        omega
      · have h9 : x.1 t2 = true := by simpa [hp_nw, e2] using h2
        simp only [hp_ad, if_neg e1, if_neg e2] at e
        exact h.2.2.1 t1 t2 h0 h9 e
  · by_cases e1 : t1 = t
    · subst e1
      simp [hp_nw] at h2
    · have h0 : x.1 t1 = true := by simpa [hp_nw, e1] using h1
      have h3 : x.2.2.2 t1 k = some t2 := by simpa [hp_nw, e1] using h2
      have h4 := h.2.2.2 t1 k t2 h0 h3
      simp only [hp_nw]
      split
      · rfl
      · exact h4
def hp_tys (cA : Nat → ClassId) : List (ClassId × FieldType) := (List.range hp_na).map (fun a => (cA a, hp_aty a))
theorem hp_tys_at {cA : Nat → ClassId} {a : Nat} (h : a < hp_na) : (hp_tys cA)[a]? = some (cA a, hp_aty a) := by
  simp [hp_tys, List.getElem?_map, List.getElem?_range h]
def hp_K (D : va_G) (cA : Nat → ClassId) (U : State) : Prop := va_K D vwCl (hp_tys cA) U ∧ hp_AO U
theorem hp_K.warm {D : va_G} {cA : Nat → ClassId} {u U : State} (hW : u.WarmedH U.vm) (h : hp_K D cA u) : hp_K D cA U := ⟨va_K.moved hW.alike h.1, hp_AO_warm hW h.2⟩
theorem hp_K.same {D : va_G} {cA : Nat → ClassId} {u U : State} (hv : u.vm = U.vm) (h : hp_K D cA u) : hp_K D cA U := ⟨va_K.moved (by rw [hv]; exact Vm.Alike.refl U.vm) h.1, hp_AO_same hv h.2⟩
def hp_E (p : Program) (s : State) (m : MethodId) (args : Array Value) (meth : Method) (c : Code) (cc : ByteArray) (nL : Nat) (own : String) (Ts : List Cond) (D : va_G) (cA : Nat → ClassId) (B0 : Nat) : Prop :=
  CallFix p m c cc nL s args Ts own ∧ hp_K D cA s ∧ meth.locks = false ∧ B0 ≤ s.heap.size
abbrev hx_iushr (z y : Int32) : Int32 := (z.toUInt32 >>> (y.toUInt32 &&& Int32.toUInt32 31)).toInt32
abbrev hx_lushr (z : Int64) (y : Int32) : Int64 := (z.toUInt64 >>> (y.toInt64.toUInt64 &&& Int64.toUInt64 63)).toInt64
theorem hx_i1 (u : Int32) : u + Int32.ofInt 1 = u + nI 1 := by
  rw [show Int32.ofInt 1 = nI 1 by decide]
theorem hx_out3 {z : Int32} (h0 : ¬ z = nI 0) (h1 : ¬ z = nI 1) (h2 : ¬ z = nI 2) : z.toInt < 0 ∨ 2 < z.toInt := by
  rcases Int.lt_or_le z.toInt 0 with h | h
  · exact Or.inl h
  rcases Int.lt_or_le 2 z.toInt with h' | h'
  · exact Or.inr h'
  exfalso
  have e : z.toInt = 0 ∨ z.toInt = 1 ∨ z.toInt = 2 := by omega
  rcases e with e | e | e
  · exact h0 (Int32.toInt_inj.mp e)
  · exact h1 (Int32.toInt_inj.mp e)
  · exact h2 (Int32.toInt_inj.mp e)
/-! ABSTRACT VALUES: an int, a long, a reference by its tag (or null), an address from outside -/
abbrev hp_A : Type := Int32 ⊕ Int64 ⊕ Option hp_T ⊕ Nat
abbrev aI (i : Int32) : hp_A := .inl i
abbrev aL (i : Int64) : hp_A := .inr (.inl i)
abbrev aR (t : hp_T) : hp_A := .inr (.inr (.inl (some t)))
abbrev aN : hp_A := .inr (.inr (.inl none))
abbrev aQ (b : Nat) : hp_A := .inr (.inr (.inr b))
def hp_c (ad : hp_T → Nat) (v : hp_A) : Value := match v with
  | .inl i => .int i
  | .inr (.inl i) => .long i
  | .inr (.inr (.inl r)) => va_rf (r.map ad)
  | .inr (.inr (.inr b)) => .ref b
def hp_cat (v : hp_A) : Nat := match v with
  | .inr (.inl _) => 2
  | _ => 1
theorem hp_cat_eq (ad : hp_T → Nat) (v : hp_A) : (hp_c ad v).category = hp_cat v := by
  match v with
  | .inl _ => rfl
  | .inr (.inl _) => rfl
  | .inr (.inr (.inl none)) => rfl
  | .inr (.inr (.inl (some _))) => rfl
  | .inr (.inr (.inr _)) => rfl
def hp_ok (b : hp_T → Bool) (v : hp_A) : Prop := match v with
  | .inr (.inr (.inl (some t))) => b t = true
  | _ => True
def hp_oks (b : hp_T → Bool) (l : List hp_A) : Prop := match l with
  | [] => True
  | v :: r => hp_ok b v ∧ hp_oks b r
def hp_okl (b : hp_T → Bool) (l : List (Nat × hp_A)) : Prop := ∀ q ∈ l, hp_ok b q.2
def hp_cl (ad : hp_T → Nat) (l : List (Nat × hp_A)) : List (Nat × Value) := l.map (fun q => (q.1, hp_c ad q.2))
theorem hp_okl_at {x : hp_T → Bool} {l : List (Nat × hp_A)} {j i : Nat} {v : hp_A} (h : hp_okl x l) (hj : l[j]? = some (i, v)) : hp_ok x v := h _ (List.mem_of_getElem? hj)
theorem hp_cl_at {ad : hp_T → Nat} {l : List (Nat × hp_A)} {j i : Nat} {v : hp_A} (hj : l[j]? = some (i, v)) : (hp_cl ad l)[j]? = some (i, hp_c ad v) := by
  simp only [hp_cl, List.getElem?_map, hj, Option.map_some]
def hp_f1 (i : Nat) (l : List (Nat × hp_A)) : List (Nat × hp_A) := l.filter (fun q => !(q.1 == i) && !(q.1 + 1 == i && hp_cat q.2 == 2))
def hp_f2 (i : Nat) (l : List (Nat × hp_A)) : List (Nat × hp_A) := l.filter (fun q => !(q.1 == i) && (!(q.1 == i + 1) && !(q.1 + 1 == i && hp_cat q.2 == 2)))
theorem hp_f1_cl {ad : hp_T → Nat} {i : Nat} {l : List (Nat × hp_A)} : (hp_cl ad l).filter (fun q => !(q.1 == i) && !(q.1 + 1 == i && q.2.category == 2)) = hp_cl ad (hp_f1 i l) := by
  simp only [hp_cl, hp_f1, List.filter_map]
  congr 2
  funext q
  simp only [Function.comp, hp_cat_eq]
theorem hp_f2_cl {ad : hp_T → Nat} {i : Nat} {l : List (Nat × hp_A)} : (hp_cl ad l).filter (fun q => !(q.1 == i) && (!(q.1 == i + 1) && !(q.1 + 1 == i && q.2.category == 2))) = hp_cl ad (hp_f2 i l) := by
  simp only [hp_cl, hp_f2, List.filter_map]
  congr 2
  funext q
  simp only [Function.comp, hp_cat_eq]
theorem hp_f1_ok {x : hp_T → Bool} {i : Nat} {l : List (Nat × hp_A)} (h : hp_okl x l) : hp_okl x (hp_f1 i l) := fun q hq => h q (List.mem_filter.mp hq).1
theorem hp_f2_ok {x : hp_T → Bool} {i : Nat} {l : List (Nat × hp_A)} (h : hp_okl x l) : hp_okl x (hp_f2 i l) := fun q hq => h q (List.mem_filter.mp hq).1
theorem hp_okl_cons {x : hp_T → Bool} {q : Nat × hp_A} {l : List (Nat × hp_A)} (h1 : hp_ok x q.2) (h : hp_okl x l) : hp_okl x (q :: l) := fun r hr => by
  rcases List.mem_cons.mp hr with e | e
  · rw [e]; exact h1
  · exact h r e
/-- what stays when more is alive, and nothing has moved -/
theorem hp_ok_mono {x x' : hp_T → Bool} {v : hp_A} (h : ∀ t, x t = true → x' t = true) (hv : hp_ok x v) : hp_ok x' v := by
  match v with
  | .inl _ => trivial
  | .inr (.inl _) => trivial
  | .inr (.inr (.inl none)) => trivial
  | .inr (.inr (.inl (some t))) => exact h t hv
  | .inr (.inr (.inr _)) => trivial
theorem hp_oks_mono {x x' : hp_T → Bool} (h : ∀ t, x t = true → x' t = true) : ∀ {l : List hp_A}, hp_oks x l → hp_oks x' l
  | [], _ => trivial
  | _ :: _, hl => ⟨hp_ok_mono h hl.1, hp_oks_mono h hl.2⟩
theorem hp_c_same {x : hp_T → Bool} {ad ad' : hp_T → Nat} {v : hp_A} (h : ∀ t, x t = true → ad' t = ad t) (hv : hp_ok x v) : hp_c ad' v = hp_c ad v := by
  match v with
  | .inl _ => rfl
  | .inr (.inl _) => rfl
  | .inr (.inr (.inl none)) => rfl
  | .inr (.inr (.inl (some t))) => simp only [hp_c, Option.map_some, h t hv]
  | .inr (.inr (.inr _)) => rfl
theorem hp_cs_same {x : hp_T → Bool} {ad ad' : hp_T → Nat} (h : ∀ t, x t = true → ad' t = ad t) : ∀ {l : List hp_A}, hp_oks x l → l.map (hp_c ad') = l.map (hp_c ad)
  | [], _ => rfl
  | _ :: _, hl => by rw [List.map_cons, List.map_cons, hp_c_same h hl.1, hp_cs_same h hl.2]
theorem hp_cl_same {x : hp_T → Bool} {ad ad' : hp_T → Nat} {l : List (Nat × hp_A)} (h : ∀ t, x t = true → ad' t = ad t) (hl : hp_okl x l) : hp_cl ad' l = hp_cl ad l := by
  simp only [hp_cl]
  apply List.map_congr_left
  intro q hq
  rw [hp_c_same h (hl q hq)]
/-- the machine, from any heap that holds x, at pc with these locals and this stack, comes to Q; 'S' is what is known of the shape -/
def hp_V (p : Program) (l : Launch) (e : Env) (R : Room) (s : State) (m : MethodId) (args : Array Value) (below : List Frame) (meth : Method) (c : Code) (Q : (hp_T → Nat) → State → Prop) (D : va_G) (cA : Nat → ClassId) (B0 nL : Nat) (ad0 : hp_T → Nat) (x0 : hp_S) (cells slots : Nat) (x : hp_S) (pc : Nat) (lv : List (Nat × hp_A)) (st : List hp_A) : Prop :=
  ∀ (ad : hp_T → Nat) (H : Heap) (locs : List Loc) (ls : Array Slot), hp_H D cA B0 ad x H → (∀ t, x0.1 t = true → x.1 t = true ∧ ad t = ad0 t) → hp_okl x.1 lv → hp_oks x.1 st → va_S (fun q => B0 ≤ q) s.heap H locs → lv_has ls nL (hp_cl ad lv) → W p l e R s m args below meth c H locs cells slots (Q ad0) (F0 m pc ls (st.map (hp_c ad)))
/-- a method's end: the answer, the state behind it -/
def hp_Q (D : va_G) (cA : Nat → ClassId) (B0 : Nat) (ad0 : hp_T → Nat) (x0 : hp_S) (post : Option hp_A → hp_S → Prop) : Array Value → State → Outcome → State → Prop := fun _ st oc t =>
  ∃ (v : Option hp_A) (ad : hp_T → Nat) (x : hp_S), oc = .returned (v.map (hp_c ad)) ∧ post v x ∧ (∀ w, v = some w → hp_ok x.1 w) ∧ (∀ t, x0.1 t = true → x.1 t = true ∧ ad t = ad0 t) ∧ hp_H D cA B0 ad x t.heap ∧ hp_K D cA t ∧ va_F (fun q => B0 ≤ q) st t
/-- a method's contract -/
def hp_C (l : Launch) (y : MethodName) (ws : List Cond) (rm : Room) (av : List hp_A) (x : hp_S) (post : Option hp_A → hp_S → Prop) (mc ms : Nat) : Prop :=
  ∀ (D : va_G) (cA : Nat → ClassId) (B0 : Nat) (ad : hp_T → Nat), hp_oks x.1 av → Met l y ws rm (va_Pc (av.map (hp_c ad)) (fun U => hp_H D cA B0 ad x U.heap ∧ hp_K D cA U)) (hp_Q D cA B0 ad x post) mc ms (fun q => B0 ≤ q)
def hp_args (i : Nat) (l : List hp_A) : List (Nat × hp_A) := match l with
  | [] => []
  | v :: vs => (i, v) :: hp_args (if hp_cat v = 2 then i + 2 else i + 1) vs
theorem hp_args_cl (ad : hp_T → Nat) : ∀ (l : List hp_A) (i : Nat), lv_args i (l.map (hp_c ad)) = hp_cl ad (hp_args i l)
  | [], _ => rfl
  | v :: vs, i => by
    simp only [List.map_cons, lv_args, hp_args, hp_cl, hp_cat_eq]
    rw [hp_args_cl ad vs]
    rfl
theorem hp_args_ok {x : hp_T → Bool} : ∀ {l : List hp_A} {i : Nat}, hp_oks x l → hp_okl x (hp_args i l)
  | [], _, _ => fun q h => by cases h
  | _ :: _, _, h => hp_okl_cons h.1 (hp_args_ok h.2)
def hp_len (l : List hp_A) : Nat := (l.map hp_cat).sum
theorem hp_len_eq (ad : hp_T → Nat) : ∀ l : List hp_A, (lg_sl (l.map (hp_c ad))).length = hp_len l
  | [] => rfl
  | v :: vs => by
    have ih := hp_len_eq ad vs
    simp only [lg_sl, List.map_cons, List.flatMap_cons, List.length_append, hp_len, List.sum_cons, hp_cat_eq] at ih ⊢
    rw [ih]
    congr 1
    match v with
    | .inl _ => rfl
    | .inr (.inl _) => rfl
    | .inr (.inr (.inl none)) => rfl
    | .inr (.inr (.inl (some _))) => rfl
    | .inr (.inr (.inr _)) => rfl
theorem hp_ofV {l : Launch} {y : MethodName} {own : String} {rm : Room} {av : List hp_A} {x : hp_S} {post : Option hp_A → hp_S → Prop} {mc ms : Nat} {cc : ByteArray} {maxL : Nat} {ret : Option FieldType} {lv : List (Nat × hp_A)}
    (hy : plainName y.cls = true) (ho : y.cls = own) (hlen : hp_len av ≤ maxL) (hlv : hp_args 0 av = lv)
    (body : ∀ p e s m args below meth c D cA B0 ad0, hp_E p s m args meth c cc maxL own hp_ws D cA B0 → meth.sig.returnType = ret → meth.name = y.name → hp_V p l e rm s m args below meth c (fun ad0 => MQ below (hp_Q D cA B0 ad0 x post) args s mc ms (fun q => B0 ≤ q)) D cA B0 maxL ad0 x 0 0 x 0 lv []) :
    hp_C l y (Cond.code y cc maxL ret :: hp_ws) rm av x post mc ms := by
  intro D cA B0 ad hok
  subst ho
  refine Met.ofW (cc := cc) (maxL := maxL) (ret := ret) hy rfl ?_
  intro p e s m args below meth c s₁ B hml hv
  obtain ⟨rfl, hG, hK⟩ := hv
  have hl := lv_entry (av.map (hp_c ad)) (n := maxL) (by rw [hp_len_eq]; exact hlen)
  rw [lg_entry_eq]
  rw [hp_args_cl, hlv] at hl
  exact body p e s m _ below meth c D cA B0 ad ⟨⟨B.exec, B.bytes, hml, findClass_of_methodNamed B.named, fun w hw => atoms_spec (ws := Cond.code y cc maxL ret :: hp_ws) B.pre w (List.mem_cons_of_mem _ hw)⟩, hK, B.notSynchronized, hG.1⟩ B.returns (name_of_methodNamed B.named B.method).1 ad s.heap [] _ hG (fun t h => ⟨h, rfl⟩) (by rw [← hlv]; exact hp_args_ok hok) trivial va_S.rf hl
/-- what a method's answer is: an int, a long, nothing; the shape stays -/
def hp_pI (P : Int32 → hp_S → Prop) : Option hp_A → hp_S → Prop := fun v x => ∃ r, v = some (aI r) ∧ hp_sh x ∧ P r x
def hp_pL (P : Int64 → hp_S → Prop) : Option hp_A → hp_S → Prop := fun v x => ∃ r, v = some (aL r) ∧ hp_sh x ∧ P r x
def hp_pV (P : hp_S → Prop) : Option hp_A → hp_S → Prop := fun v x => v = none ∧ hp_sh x ∧ P x
/-- a constructor's: the shape isn't whole yet -/
def hp_p0 (P : hp_S → Prop) : Option hp_A → hp_S → Prop := fun v x => v = none ∧ P x
theorem hp_sh_uR {x : hp_S} {t : hp_T} {k : Nat} {v : Option hp_T} (h : hp_ex t k = none) (hs : hp_sh x) : hp_sh (hp_uR x t k v) := by
  intro t1 k1 t2 he hl
  have h0 := hs t1 k1 t2 he hl
  simp only [hp_uR]
  split
  · rename_i e
    rw [e.1, e.2, h] at he
    cases he
  · exact h0
theorem hp_ex_row {i : Int32} (h : vp_in i 6) : hp_ex (1, 0) i.toNatClampNeg = some (2, i.toNatClampNeg) := by
  have hlt : i.toNatClampNeg < 6 := Nat.not_le.mp fun q => h (Or.inr q)
  simp [hp_ex, hlt]
section HV
variable {p : Program} {l : Launch} {e : Env} {R : Room} {s : State} {m : MethodId} {args : Array Value} {below : List Frame} {meth : Method} {c : Code} {Q : (hp_T → Nat) → State → Prop} {D : va_G} {cA : Nat → ClassId} {B0 nL cells slots : Nat} {ad0 : hp_T → Nat} {x0 x : hp_S} {lv : List (Nat × hp_A)}
variable {cc : ByteArray} {own : String} {Ts : List Cond} {pc : Nat} {rest : List hp_A}
theorem hv_widen {k n : Nat} (h1 : cells ≤ k) (h2 : slots ≤ n) (kk : hp_V p l e R s m args below meth c Q D cA B0 nL ad0 x0 k n x pc lv rest) : hp_V p l e R s m args below meth c Q D cA B0 nL ad0 x0 cells slots x pc lv rest := fun ad H locs ls hG hx0 hl0 hst hS hl => W.widen h1 h2 (kk ad H locs ls hG hx0 hl0 hst hS hl)
theorem hv_lv {lv' : List (Nat × hp_A)} (ks : List Nat) (hk0 : ks.filterMap (fun k => lv[k]?) = lv') (kk : hp_V p l e R s m args below meth c Q D cA B0 nL ad0 x0 cells slots x pc lv' rest) : hp_V p l e R s m args below meth c Q D cA B0 nL ad0 x0 cells slots x pc lv rest := by
  have hk : ∀ q ∈ lv', q ∈ lv := fun q hq => by
    rw [← hk0] at hq
    obtain ⟨k, -, hk⟩ := List.mem_filterMap.mp hq
    exact List.mem_of_getElem? hk
  exact fun ad H locs ls hG hx0 hl0 hst hS hl => kk ad H locs ls hG hx0 (fun q h => hl0 q (hk q h)) hst hS ⟨hl.1, hl.2.1, fun q hq => by
    obtain ⟨r, h1, h2⟩ := List.mem_map.mp hq
    exact hl.2.2 q (List.mem_map.mpr ⟨r, hk r h1, h2⟩)⟩
theorem hv_iconst (E : hp_E p s m args meth c cc nL own Ts D cA B0) {n : Int} {v : Int32} (hdg : decode cc pc = .ok (.iconst n, 1)) (hv : Int32.ofInt n = v) (k : hp_V p l e R s m args below meth c Q D cA B0 nL ad0 x0 cells slots x (pc + 1) lv (aI v :: rest)) : hp_V p l e R s m args below meth c Q D cA B0 nL ad0 x0 cells slots x pc lv rest := fun ad H locs ls hG hx0 hl0 hst hS hl => lv_iconst E.1.1 E.1.2.1 hdg hv (k ad H locs ls hG hx0 hl0 ⟨trivial, hst⟩ hS hl)
theorem hv_bipush (E : hp_E p s m args meth c cc nL own Ts D cA B0) {n : Int} {v : Int32} (hdg : decode cc pc = .ok (.bipush n, 2)) (hv : (Int8.ofInt n).toInt32 = v) (k : hp_V p l e R s m args below meth c Q D cA B0 nL ad0 x0 cells slots x (pc + 2) lv (aI v :: rest)) : hp_V p l e R s m args below meth c Q D cA B0 nL ad0 x0 cells slots x pc lv rest := fun ad H locs ls hG hx0 hl0 hst hS hl => lv_bipush E.1.1 E.1.2.1 hdg hv (k ad H locs ls hG hx0 hl0 ⟨trivial, hst⟩ hS hl)
theorem hv_sipush (E : hp_E p s m args meth c cc nL own Ts D cA B0) {n : Int} {v : Int32} (hdg : decode cc pc = .ok (.sipush n, 3)) (hv : (Int16.ofInt n).toInt32 = v) (k : hp_V p l e R s m args below meth c Q D cA B0 nL ad0 x0 cells slots x (pc + 3) lv (aI v :: rest)) : hp_V p l e R s m args below meth c Q D cA B0 nL ad0 x0 cells slots x pc lv rest := fun ad H locs ls hG hx0 hl0 hst hS hl => lv_sipush E.1.1 E.1.2.1 hdg hv (k ad H locs ls hG hx0 hl0 ⟨trivial, hst⟩ hS hl)
theorem hv_lconst (E : hp_E p s m args meth c cc nL own Ts D cA B0) {n : Fin 2} {v : Int64} (hdg : decode cc pc = .ok (.lconst n, 1)) (hv : Int64.ofNat (n : Nat) = v) (k : hp_V p l e R s m args below meth c Q D cA B0 nL ad0 x0 cells slots x (pc + 1) lv (aL v :: rest)) : hp_V p l e R s m args below meth c Q D cA B0 nL ad0 x0 cells slots x pc lv rest := fun ad H locs ls hG hx0 hl0 hst hS hl => lv_lconst E.1.1 E.1.2.1 hdg hv (k ad H locs ls hG hx0 hl0 ⟨trivial, hst⟩ hS hl)
theorem hv_iadd (E : hp_E p s m args meth c cc nL own Ts D cA B0) {y z v : Int32} (hdg : decode cc pc = .ok (.iadd, 1)) (hv : z + y = v) (k : hp_V p l e R s m args below meth c Q D cA B0 nL ad0 x0 cells slots x (pc + 1) lv (aI v :: rest)) : hp_V p l e R s m args below meth c Q D cA B0 nL ad0 x0 cells slots x pc lv (aI y :: aI z :: rest) := by
  subst hv
  exact fun ad H locs ls hG hx0 hl0 hst hS hl => lv_iadd E.1.1 E.1.2.1 hdg (k ad H locs ls hG hx0 hl0 ⟨trivial, hst.2.2⟩ hS hl)
theorem hv_isub (E : hp_E p s m args meth c cc nL own Ts D cA B0) {y z v : Int32} (hdg : decode cc pc = .ok (.isub, 1)) (hv : z - y = v) (k : hp_V p l e R s m args below meth c Q D cA B0 nL ad0 x0 cells slots x (pc + 1) lv (aI v :: rest)) : hp_V p l e R s m args below meth c Q D cA B0 nL ad0 x0 cells slots x pc lv (aI y :: aI z :: rest) := by
  subst hv
  exact fun ad H locs ls hG hx0 hl0 hst hS hl => lv_isub E.1.1 E.1.2.1 hdg (k ad H locs ls hG hx0 hl0 ⟨trivial, hst.2.2⟩ hS hl)
theorem hv_imul (E : hp_E p s m args meth c cc nL own Ts D cA B0) {y z v : Int32} (hdg : decode cc pc = .ok (.imul, 1)) (hv : z * y = v) (k : hp_V p l e R s m args below meth c Q D cA B0 nL ad0 x0 cells slots x (pc + 1) lv (aI v :: rest)) : hp_V p l e R s m args below meth c Q D cA B0 nL ad0 x0 cells slots x pc lv (aI y :: aI z :: rest) := by
  subst hv
  exact fun ad H locs ls hG hx0 hl0 hst hS hl => lv_imul E.1.1 E.1.2.1 hdg (k ad H locs ls hG hx0 hl0 ⟨trivial, hst.2.2⟩ hS hl)
theorem hv_iand (E : hp_E p s m args meth c cc nL own Ts D cA B0) {y z v : Int32} (hdg : decode cc pc = .ok (.iand, 1)) (hv : z &&& y = v) (k : hp_V p l e R s m args below meth c Q D cA B0 nL ad0 x0 cells slots x (pc + 1) lv (aI v :: rest)) : hp_V p l e R s m args below meth c Q D cA B0 nL ad0 x0 cells slots x pc lv (aI y :: aI z :: rest) := by
  subst hv
  exact fun ad H locs ls hG hx0 hl0 hst hS hl => lv_iand E.1.1 E.1.2.1 hdg (k ad H locs ls hG hx0 hl0 ⟨trivial, hst.2.2⟩ hS hl)
theorem hv_ior (E : hp_E p s m args meth c cc nL own Ts D cA B0) {y z v : Int32} (hdg : decode cc pc = .ok (.ior, 1)) (hv : z ||| y = v) (k : hp_V p l e R s m args below meth c Q D cA B0 nL ad0 x0 cells slots x (pc + 1) lv (aI v :: rest)) : hp_V p l e R s m args below meth c Q D cA B0 nL ad0 x0 cells slots x pc lv (aI y :: aI z :: rest) := by
  subst hv
  exact fun ad H locs ls hG hx0 hl0 hst hS hl => lv_ior E.1.1 E.1.2.1 hdg (k ad H locs ls hG hx0 hl0 ⟨trivial, hst.2.2⟩ hS hl)
theorem hv_ixor (E : hp_E p s m args meth c cc nL own Ts D cA B0) {y z v : Int32} (hdg : decode cc pc = .ok (.ixor, 1)) (hv : z ^^^ y = v) (k : hp_V p l e R s m args below meth c Q D cA B0 nL ad0 x0 cells slots x (pc + 1) lv (aI v :: rest)) : hp_V p l e R s m args below meth c Q D cA B0 nL ad0 x0 cells slots x pc lv (aI y :: aI z :: rest) := by
  subst hv
  exact fun ad H locs ls hG hx0 hl0 hst hS hl => lv_ixor E.1.1 E.1.2.1 hdg (k ad H locs ls hG hx0 hl0 ⟨trivial, hst.2.2⟩ hS hl)
theorem hv_ishl (E : hp_E p s m args meth c cc nL own Ts D cA B0) {y z v : Int32} (hdg : decode cc pc = .ok (.ishl, 1)) (hv : z <<< (y &&& 31) = v) (k : hp_V p l e R s m args below meth c Q D cA B0 nL ad0 x0 cells slots x (pc + 1) lv (aI v :: rest)) : hp_V p l e R s m args below meth c Q D cA B0 nL ad0 x0 cells slots x pc lv (aI y :: aI z :: rest) := by
  subst hv
  exact fun ad H locs ls hG hx0 hl0 hst hS hl => lv_ishl E.1.1 E.1.2.1 hdg (k ad H locs ls hG hx0 hl0 ⟨trivial, hst.2.2⟩ hS hl)
theorem hv_ishr (E : hp_E p s m args meth c cc nL own Ts D cA B0) {y z v : Int32} (hdg : decode cc pc = .ok (.ishr, 1)) (hv : z >>> (y &&& 31) = v) (k : hp_V p l e R s m args below meth c Q D cA B0 nL ad0 x0 cells slots x (pc + 1) lv (aI v :: rest)) : hp_V p l e R s m args below meth c Q D cA B0 nL ad0 x0 cells slots x pc lv (aI y :: aI z :: rest) := by
  subst hv
  exact fun ad H locs ls hG hx0 hl0 hst hS hl => lv_ishr E.1.1 E.1.2.1 hdg (k ad H locs ls hG hx0 hl0 ⟨trivial, hst.2.2⟩ hS hl)
theorem hv_ladd (E : hp_E p s m args meth c cc nL own Ts D cA B0) {y z v : Int64} (hdg : decode cc pc = .ok (.ladd, 1)) (hv : z + y = v) (k : hp_V p l e R s m args below meth c Q D cA B0 nL ad0 x0 cells slots x (pc + 1) lv (aL v :: rest)) : hp_V p l e R s m args below meth c Q D cA B0 nL ad0 x0 cells slots x pc lv (aL y :: aL z :: rest) := by
  subst hv
  exact fun ad H locs ls hG hx0 hl0 hst hS hl => lv_ladd E.1.1 E.1.2.1 hdg (k ad H locs ls hG hx0 hl0 ⟨trivial, hst.2.2⟩ hS hl)
theorem hv_lsub (E : hp_E p s m args meth c cc nL own Ts D cA B0) {y z v : Int64} (hdg : decode cc pc = .ok (.lsub, 1)) (hv : z - y = v) (k : hp_V p l e R s m args below meth c Q D cA B0 nL ad0 x0 cells slots x (pc + 1) lv (aL v :: rest)) : hp_V p l e R s m args below meth c Q D cA B0 nL ad0 x0 cells slots x pc lv (aL y :: aL z :: rest) := by
  subst hv
  exact fun ad H locs ls hG hx0 hl0 hst hS hl => lv_lsub E.1.1 E.1.2.1 hdg (k ad H locs ls hG hx0 hl0 ⟨trivial, hst.2.2⟩ hS hl)
theorem hv_lmul (E : hp_E p s m args meth c cc nL own Ts D cA B0) {y z v : Int64} (hdg : decode cc pc = .ok (.lmul, 1)) (hv : z * y = v) (k : hp_V p l e R s m args below meth c Q D cA B0 nL ad0 x0 cells slots x (pc + 1) lv (aL v :: rest)) : hp_V p l e R s m args below meth c Q D cA B0 nL ad0 x0 cells slots x pc lv (aL y :: aL z :: rest) := by
  subst hv
  exact fun ad H locs ls hG hx0 hl0 hst hS hl => lv_lmul E.1.1 E.1.2.1 hdg (k ad H locs ls hG hx0 hl0 ⟨trivial, hst.2.2⟩ hS hl)
theorem hv_land (E : hp_E p s m args meth c cc nL own Ts D cA B0) {y z v : Int64} (hdg : decode cc pc = .ok (.land, 1)) (hv : z &&& y = v) (k : hp_V p l e R s m args below meth c Q D cA B0 nL ad0 x0 cells slots x (pc + 1) lv (aL v :: rest)) : hp_V p l e R s m args below meth c Q D cA B0 nL ad0 x0 cells slots x pc lv (aL y :: aL z :: rest) := by
  subst hv
  exact fun ad H locs ls hG hx0 hl0 hst hS hl => lv_land E.1.1 E.1.2.1 hdg (k ad H locs ls hG hx0 hl0 ⟨trivial, hst.2.2⟩ hS hl)
theorem hv_lor (E : hp_E p s m args meth c cc nL own Ts D cA B0) {y z v : Int64} (hdg : decode cc pc = .ok (.lor, 1)) (hv : z ||| y = v) (k : hp_V p l e R s m args below meth c Q D cA B0 nL ad0 x0 cells slots x (pc + 1) lv (aL v :: rest)) : hp_V p l e R s m args below meth c Q D cA B0 nL ad0 x0 cells slots x pc lv (aL y :: aL z :: rest) := by
  subst hv
  exact fun ad H locs ls hG hx0 hl0 hst hS hl => lv_lor E.1.1 E.1.2.1 hdg (k ad H locs ls hG hx0 hl0 ⟨trivial, hst.2.2⟩ hS hl)
theorem hv_lxor (E : hp_E p s m args meth c cc nL own Ts D cA B0) {y z v : Int64} (hdg : decode cc pc = .ok (.lxor, 1)) (hv : z ^^^ y = v) (k : hp_V p l e R s m args below meth c Q D cA B0 nL ad0 x0 cells slots x (pc + 1) lv (aL v :: rest)) : hp_V p l e R s m args below meth c Q D cA B0 nL ad0 x0 cells slots x pc lv (aL y :: aL z :: rest) := by
  subst hv
  exact fun ad H locs ls hG hx0 hl0 hst hS hl => lv_lxor E.1.1 E.1.2.1 hdg (k ad H locs ls hG hx0 hl0 ⟨trivial, hst.2.2⟩ hS hl)
theorem hv_lrem (E : hp_E p s m args meth c cc nL own Ts D cA B0) {y z v : Int64} (hdg : decode cc pc = .ok (.lrem, 1)) (hne : ¬ y = 0) (hv : z - z / y * y = v) (k : hp_V p l e R s m args below meth c Q D cA B0 nL ad0 x0 cells slots x (pc + 1) lv (aL v :: rest)) : hp_V p l e R s m args below meth c Q D cA B0 nL ad0 x0 cells slots x pc lv (aL y :: aL z :: rest) := by
  subst hv
  exact fun ad H locs ls hG hx0 hl0 hst hS hl => lv_lrem E.1.1 E.1.2.1 hdg hne (k ad H locs ls hG hx0 hl0 ⟨trivial, hst.2.2⟩ hS hl)
theorem hv_ldiv (E : hp_E p s m args meth c cc nL own Ts D cA B0) {y z v : Int64} (hdg : decode cc pc = .ok (.ldiv, 1)) (hne : ¬ y = 0) (hv : z / y = v) (k : hp_V p l e R s m args below meth c Q D cA B0 nL ad0 x0 cells slots x (pc + 1) lv (aL v :: rest)) : hp_V p l e R s m args below meth c Q D cA B0 nL ad0 x0 cells slots x pc lv (aL y :: aL z :: rest) := by
  subst hv
  exact fun ad H locs ls hG hx0 hl0 hst hS hl => lv_ldiv E.1.1 E.1.2.1 hdg hne (k ad H locs ls hG hx0 hl0 ⟨trivial, hst.2.2⟩ hS hl)
theorem hv_irem (E : hp_E p s m args meth c cc nL own Ts D cA B0) {y z v : Int32} (hdg : decode cc pc = .ok (.irem, 1)) (hne : ¬ y = 0) (hv : z - z / y * y = v) (k : hp_V p l e R s m args below meth c Q D cA B0 nL ad0 x0 cells slots x (pc + 1) lv (aI v :: rest)) : hp_V p l e R s m args below meth c Q D cA B0 nL ad0 x0 cells slots x pc lv (aI y :: aI z :: rest) := by
  subst hv
  exact fun ad H locs ls hG hx0 hl0 hst hS hl => lv_irem E.1.1 E.1.2.1 hdg hne (k ad H locs ls hG hx0 hl0 ⟨trivial, hst.2.2⟩ hS hl)
theorem hv_idiv (E : hp_E p s m args meth c cc nL own Ts D cA B0) {y z v : Int32} (hdg : decode cc pc = .ok (.idiv, 1)) (hne : ¬ y = 0) (hv : z / y = v) (k : hp_V p l e R s m args below meth c Q D cA B0 nL ad0 x0 cells slots x (pc + 1) lv (aI v :: rest)) : hp_V p l e R s m args below meth c Q D cA B0 nL ad0 x0 cells slots x pc lv (aI y :: aI z :: rest) := by
  subst hv
  exact fun ad H locs ls hG hx0 hl0 hst hS hl => lv_idiv E.1.1 E.1.2.1 hdg hne (k ad H locs ls hG hx0 hl0 ⟨trivial, hst.2.2⟩ hS hl)
theorem hv_iushr (E : hp_E p s m args meth c cc nL own Ts D cA B0) {y z v : Int32} (hdg : decode cc pc = .ok (.iushr, 1)) (hv : (z.toUInt32 >>> (y.toUInt32 &&& Int32.toUInt32 31)).toInt32 = v) (k : hp_V p l e R s m args below meth c Q D cA B0 nL ad0 x0 cells slots x (pc + 1) lv (aI v :: rest)) : hp_V p l e R s m args below meth c Q D cA B0 nL ad0 x0 cells slots x pc lv (aI y :: aI z :: rest) := fun ad H locs ls hG hx0 hl0 hst hS hl => lv_iushr E.1.1 E.1.2.1 hdg hv (k ad H locs ls hG hx0 hl0 ⟨trivial, hst.2.2⟩ hS hl)
theorem hv_lushr (E : hp_E p s m args meth c cc nL own Ts D cA B0) {y : Int32} {z v : Int64} (hdg : decode cc pc = .ok (.lushr, 1)) (hv : (z.toUInt64 >>> (y.toInt64.toUInt64 &&& Int64.toUInt64 63)).toInt64 = v) (k : hp_V p l e R s m args below meth c Q D cA B0 nL ad0 x0 cells slots x (pc + 1) lv (aL v :: rest)) : hp_V p l e R s m args below meth c Q D cA B0 nL ad0 x0 cells slots x pc lv (aI y :: aL z :: rest) := fun ad H locs ls hG hx0 hl0 hst hS hl => lv_lushr E.1.1 E.1.2.1 hdg hv (k ad H locs ls hG hx0 hl0 ⟨trivial, hst.2.2⟩ hS hl)
theorem hv_lshl (E : hp_E p s m args meth c cc nL own Ts D cA B0) {y : Int32} {z v : Int64} (hdg : decode cc pc = .ok (.lshl, 1)) (hv : z <<< (y.toInt64 &&& 63) = v) (k : hp_V p l e R s m args below meth c Q D cA B0 nL ad0 x0 cells slots x (pc + 1) lv (aL v :: rest)) : hp_V p l e R s m args below meth c Q D cA B0 nL ad0 x0 cells slots x pc lv (aI y :: aL z :: rest) := fun ad H locs ls hG hx0 hl0 hst hS hl => lv_lshl E.1.1 E.1.2.1 hdg hv (k ad H locs ls hG hx0 hl0 ⟨trivial, hst.2.2⟩ hS hl)
theorem hv_i2l (E : hp_E p s m args meth c cc nL own Ts D cA B0) {z : Int32} {v : Int64} (hdg : decode cc pc = .ok (.i2l, 1)) (hv : z.toInt64 = v) (k : hp_V p l e R s m args below meth c Q D cA B0 nL ad0 x0 cells slots x (pc + 1) lv (aL v :: rest)) : hp_V p l e R s m args below meth c Q D cA B0 nL ad0 x0 cells slots x pc lv (aI z :: rest) := fun ad H locs ls hG hx0 hl0 hst hS hl => lv_i2l E.1.1 E.1.2.1 hdg hv (k ad H locs ls hG hx0 hl0 ⟨trivial, hst.2⟩ hS hl)
theorem hv_l2i (E : hp_E p s m args meth c cc nL own Ts D cA B0) {z : Int64} {v : Int32} (hdg : decode cc pc = .ok (.l2i, 1)) (hv : z.toInt32 = v) (k : hp_V p l e R s m args below meth c Q D cA B0 nL ad0 x0 cells slots x (pc + 1) lv (aI v :: rest)) : hp_V p l e R s m args below meth c Q D cA B0 nL ad0 x0 cells slots x pc lv (aL z :: rest) := fun ad H locs ls hG hx0 hl0 hst hS hl => lv_l2i E.1.1 E.1.2.1 hdg hv (k ad H locs ls hG hx0 hl0 ⟨trivial, hst.2⟩ hS hl)
theorem hv_lcmp (E : hp_E p s m args meth c cc nL own Ts D cA B0) {y z : Int64} (hdg : decode cc pc = .ok (.lcmp, 1)) (k : hp_V p l e R s m args below meth c Q D cA B0 nL ad0 x0 cells slots x (pc + 1) lv (aI (lg_cmp z y) :: rest)) : hp_V p l e R s m args below meth c Q D cA B0 nL ad0 x0 cells slots x pc lv (aL y :: aL z :: rest) := fun ad H locs ls hG hx0 hl0 hst hS hl => W.lcmp E.1.1 E.1.2.1 hdg (k ad H locs ls hG hx0 hl0 ⟨trivial, hst.2.2⟩ hS hl)
theorem hv_ldc (E : hp_E p s m args meth c cc nL own Ts D cA B0) {index : Nat} {v : Int32} (hc : Cond.constant own index v ∈ Ts) (hdg : decode cc pc = .ok (.ldc index, 2)) (k : hp_V p l e R s m args below meth c Q D cA B0 nL ad0 x0 cells slots x (pc + 2) lv (aI v :: rest)) : hp_V p l e R s m args below meth c Q D cA B0 nL ad0 x0 cells slots x pc lv rest := fun ad H locs ls hG hx0 hl0 hst hS hl => lv_ldc E.1.1 E.1.2.1 E.1.2.2.2.1 (E.1.2.2.2.2 _ hc) hdg (k ad H locs ls hG hx0 hl0 ⟨trivial, hst⟩ hS hl)
theorem hv_ldc2 (E : hp_E p s m args meth c cc nL own Ts D cA B0) {index : Nat} {v : Int64} (hc : Cond.constantLong own index v ∈ Ts) (hdg : decode cc pc = .ok (.ldc2_w index, 3)) (k : hp_V p l e R s m args below meth c Q D cA B0 nL ad0 x0 cells slots x (pc + 3) lv (aL v :: rest)) : hp_V p l e R s m args below meth c Q D cA B0 nL ad0 x0 cells slots x pc lv rest := fun ad H locs ls hG hx0 hl0 hst hS hl => lv_ldc2 E.1.1 E.1.2.1 E.1.2.2.2.1 (E.1.2.2.2.2 _ hc) hdg (k ad H locs ls hG hx0 hl0 ⟨trivial, hst⟩ hS hl)
theorem hv_dup (E : hp_E p s m args meth c cc nL own Ts D cA B0) {va : hp_A} (hdg : decode cc pc = .ok (.dup, 1)) (hc : hp_cat va = 1) (k : hp_V p l e R s m args below meth c Q D cA B0 nL ad0 x0 cells slots x (pc + 1) lv (va :: va :: rest)) : hp_V p l e R s m args below meth c Q D cA B0 nL ad0 x0 cells slots x pc lv (va :: rest) := fun ad H locs ls hG hx0 hl0 hst hS hl => lv_dup E.1.1 E.1.2.1 hdg (by rw [hp_cat_eq]; exact hc) (k ad H locs ls hG hx0 hl0 ⟨hst.1, hst⟩ hS hl)
theorem hv_dup2 (E : hp_E p s m args meth c cc nL own Ts D cA B0) {va vb : hp_A} (hdg : decode cc pc = .ok (.dup2, 1)) (hc : hp_cat va = 1) (hc2 : hp_cat vb = 1) (k : hp_V p l e R s m args below meth c Q D cA B0 nL ad0 x0 cells slots x (pc + 1) lv (va :: vb :: va :: vb :: rest)) : hp_V p l e R s m args below meth c Q D cA B0 nL ad0 x0 cells slots x pc lv (va :: vb :: rest) := fun ad H locs ls hG hx0 hl0 hst hS hl => lv_dup2_11 E.1.1 E.1.2.1 hdg (by rw [hp_cat_eq]; exact hc) (by rw [hp_cat_eq]; exact hc2) (k ad H locs ls hG hx0 hl0 ⟨hst.1, hst.2.1, hst⟩ hS hl)
theorem hv_pop (E : hp_E p s m args meth c cc nL own Ts D cA B0) {va : hp_A} (hdg : decode cc pc = .ok (.pop, 1)) (hc : hp_cat va = 1) (k : hp_V p l e R s m args below meth c Q D cA B0 nL ad0 x0 cells slots x (pc + 1) lv rest) : hp_V p l e R s m args below meth c Q D cA B0 nL ad0 x0 cells slots x pc lv (va :: rest) := fun ad H locs ls hG hx0 hl0 hst hS hl => lv_pop E.1.1 E.1.2.1 hdg (by rw [hp_cat_eq]; exact hc) (k ad H locs ls hG hx0 hl0 hst.2 hS hl)
theorem hv_null (E : hp_E p s m args meth c cc nL own Ts D cA B0) (hdg : decode cc pc = .ok (.aconst_null, 1)) (k : hp_V p l e R s m args below meth c Q D cA B0 nL ad0 x0 cells slots x (pc + 1) lv (aN :: rest)) : hp_V p l e R s m args below meth c Q D cA B0 nL ad0 x0 cells slots x pc lv rest := fun ad H locs ls hG hx0 hl0 hst hS hl => lv_null E.1.1 E.1.2.1 hdg (k ad H locs ls hG hx0 hl0 ⟨trivial, hst⟩ hS hl)
theorem hv_goto (E : hp_E p s m args meth c cc nL own Ts D cA B0) {off : Int} {tgt : Nat} (hdg : decode cc pc = .ok (.goto off, 3)) (ht : (pc : Int) + off = (tgt : Int)) (k : hp_V p l e R s m args below meth c Q D cA B0 nL ad0 x0 cells slots x tgt lv rest) : hp_V p l e R s m args below meth c Q D cA B0 nL ad0 x0 cells slots x pc lv rest := fun ad H locs ls hG hx0 hl0 hst hS hl => lv_goto E.1.1 E.1.2.1 hdg ht (k ad H locs ls hG hx0 hl0 hst hS hl)
theorem hv_if_eq (E : hp_E p s m args meth c cc nL own Ts D cA B0) {z : Int32} {off : Int} {tgt : Nat} (hdg : decode cc pc = .ok (.ifCond .eq off, 3)) (ht : (pc : Int) + off = (tgt : Int)) (kt : z = 0 → hp_V p l e R s m args below meth c Q D cA B0 nL ad0 x0 cells slots x tgt lv rest) (kf : ¬ z = 0 → hp_V p l e R s m args below meth c Q D cA B0 nL ad0 x0 cells slots x (pc + 3) lv rest) : hp_V p l e R s m args below meth c Q D cA B0 nL ad0 x0 cells slots x pc lv (aI z :: rest) := fun ad H locs ls hG hx0 hl0 hst hS hl => lv_if_eq E.1.1 E.1.2.1 hdg ht (fun h => kt h ad H locs ls hG hx0 hl0 hst.2 hS hl) (fun h => kf h ad H locs ls hG hx0 hl0 hst.2 hS hl)
theorem hv_if_ne (E : hp_E p s m args meth c cc nL own Ts D cA B0) {z : Int32} {off : Int} {tgt : Nat} (hdg : decode cc pc = .ok (.ifCond .ne off, 3)) (ht : (pc : Int) + off = (tgt : Int)) (kt : ¬ z = 0 → hp_V p l e R s m args below meth c Q D cA B0 nL ad0 x0 cells slots x tgt lv rest) (kf : z = 0 → hp_V p l e R s m args below meth c Q D cA B0 nL ad0 x0 cells slots x (pc + 3) lv rest) : hp_V p l e R s m args below meth c Q D cA B0 nL ad0 x0 cells slots x pc lv (aI z :: rest) := fun ad H locs ls hG hx0 hl0 hst hS hl => lv_if_ne E.1.1 E.1.2.1 hdg ht (fun h => kt h ad H locs ls hG hx0 hl0 hst.2 hS hl) (fun h => kf h ad H locs ls hG hx0 hl0 hst.2 hS hl)
theorem hv_if_lt (E : hp_E p s m args meth c cc nL own Ts D cA B0) {z : Int32} {off : Int} {tgt : Nat} (hdg : decode cc pc = .ok (.ifCond .lt off, 3)) (ht : (pc : Int) + off = (tgt : Int)) (kt : z < 0 → hp_V p l e R s m args below meth c Q D cA B0 nL ad0 x0 cells slots x tgt lv rest) (kf : ¬ z < 0 → hp_V p l e R s m args below meth c Q D cA B0 nL ad0 x0 cells slots x (pc + 3) lv rest) : hp_V p l e R s m args below meth c Q D cA B0 nL ad0 x0 cells slots x pc lv (aI z :: rest) := fun ad H locs ls hG hx0 hl0 hst hS hl => lv_if_lt E.1.1 E.1.2.1 hdg ht (fun h => kt h ad H locs ls hG hx0 hl0 hst.2 hS hl) (fun h => kf h ad H locs ls hG hx0 hl0 hst.2 hS hl)
theorem hv_if_ge (E : hp_E p s m args meth c cc nL own Ts D cA B0) {z : Int32} {off : Int} {tgt : Nat} (hdg : decode cc pc = .ok (.ifCond .ge off, 3)) (ht : (pc : Int) + off = (tgt : Int)) (kt : 0 ≤ z → hp_V p l e R s m args below meth c Q D cA B0 nL ad0 x0 cells slots x tgt lv rest) (kf : ¬ 0 ≤ z → hp_V p l e R s m args below meth c Q D cA B0 nL ad0 x0 cells slots x (pc + 3) lv rest) : hp_V p l e R s m args below meth c Q D cA B0 nL ad0 x0 cells slots x pc lv (aI z :: rest) := fun ad H locs ls hG hx0 hl0 hst hS hl => lv_if_ge E.1.1 E.1.2.1 hdg ht (fun h => kt h ad H locs ls hG hx0 hl0 hst.2 hS hl) (fun h => kf h ad H locs ls hG hx0 hl0 hst.2 hS hl)
theorem hv_if_gt (E : hp_E p s m args meth c cc nL own Ts D cA B0) {z : Int32} {off : Int} {tgt : Nat} (hdg : decode cc pc = .ok (.ifCond .gt off, 3)) (ht : (pc : Int) + off = (tgt : Int)) (kt : 0 < z → hp_V p l e R s m args below meth c Q D cA B0 nL ad0 x0 cells slots x tgt lv rest) (kf : ¬ 0 < z → hp_V p l e R s m args below meth c Q D cA B0 nL ad0 x0 cells slots x (pc + 3) lv rest) : hp_V p l e R s m args below meth c Q D cA B0 nL ad0 x0 cells slots x pc lv (aI z :: rest) := fun ad H locs ls hG hx0 hl0 hst hS hl => lv_if_gt E.1.1 E.1.2.1 hdg ht (fun h => kt h ad H locs ls hG hx0 hl0 hst.2 hS hl) (fun h => kf h ad H locs ls hG hx0 hl0 hst.2 hS hl)
theorem hv_if_le (E : hp_E p s m args meth c cc nL own Ts D cA B0) {z : Int32} {off : Int} {tgt : Nat} (hdg : decode cc pc = .ok (.ifCond .le off, 3)) (ht : (pc : Int) + off = (tgt : Int)) (kt : z ≤ 0 → hp_V p l e R s m args below meth c Q D cA B0 nL ad0 x0 cells slots x tgt lv rest) (kf : ¬ z ≤ 0 → hp_V p l e R s m args below meth c Q D cA B0 nL ad0 x0 cells slots x (pc + 3) lv rest) : hp_V p l e R s m args below meth c Q D cA B0 nL ad0 x0 cells slots x pc lv (aI z :: rest) := fun ad H locs ls hG hx0 hl0 hst hS hl => lv_if_le E.1.1 E.1.2.1 hdg ht (fun h => kt h ad H locs ls hG hx0 hl0 hst.2 hS hl) (fun h => kf h ad H locs ls hG hx0 hl0 hst.2 hS hl)
theorem hv_icmp_eq (E : hp_E p s m args meth c cc nL own Ts D cA B0) {y z : Int32} {off : Int} {tgt : Nat} (hdg : decode cc pc = .ok (.if_icmp .eq off, 3)) (ht : (pc : Int) + off = (tgt : Int)) (kt : z = y → hp_V p l e R s m args below meth c Q D cA B0 nL ad0 x0 cells slots x tgt lv rest) (kf : ¬ z = y → hp_V p l e R s m args below meth c Q D cA B0 nL ad0 x0 cells slots x (pc + 3) lv rest) : hp_V p l e R s m args below meth c Q D cA B0 nL ad0 x0 cells slots x pc lv (aI y :: aI z :: rest) := fun ad H locs ls hG hx0 hl0 hst hS hl => lv_icmp_eq E.1.1 E.1.2.1 hdg ht (fun h => kt h ad H locs ls hG hx0 hl0 hst.2.2 hS hl) (fun h => kf h ad H locs ls hG hx0 hl0 hst.2.2 hS hl)
theorem hv_icmp_ne (E : hp_E p s m args meth c cc nL own Ts D cA B0) {y z : Int32} {off : Int} {tgt : Nat} (hdg : decode cc pc = .ok (.if_icmp .ne off, 3)) (ht : (pc : Int) + off = (tgt : Int)) (kt : ¬ z = y → hp_V p l e R s m args below meth c Q D cA B0 nL ad0 x0 cells slots x tgt lv rest) (kf : z = y → hp_V p l e R s m args below meth c Q D cA B0 nL ad0 x0 cells slots x (pc + 3) lv rest) : hp_V p l e R s m args below meth c Q D cA B0 nL ad0 x0 cells slots x pc lv (aI y :: aI z :: rest) := fun ad H locs ls hG hx0 hl0 hst hS hl => lv_icmp_ne E.1.1 E.1.2.1 hdg ht (fun h => kt h ad H locs ls hG hx0 hl0 hst.2.2 hS hl) (fun h => kf h ad H locs ls hG hx0 hl0 hst.2.2 hS hl)
theorem hv_icmp_lt (E : hp_E p s m args meth c cc nL own Ts D cA B0) {y z : Int32} {off : Int} {tgt : Nat} (hdg : decode cc pc = .ok (.if_icmp .lt off, 3)) (ht : (pc : Int) + off = (tgt : Int)) (kt : z < y → hp_V p l e R s m args below meth c Q D cA B0 nL ad0 x0 cells slots x tgt lv rest) (kf : ¬ z < y → hp_V p l e R s m args below meth c Q D cA B0 nL ad0 x0 cells slots x (pc + 3) lv rest) : hp_V p l e R s m args below meth c Q D cA B0 nL ad0 x0 cells slots x pc lv (aI y :: aI z :: rest) := fun ad H locs ls hG hx0 hl0 hst hS hl => lv_icmp_lt E.1.1 E.1.2.1 hdg ht (fun h => kt h ad H locs ls hG hx0 hl0 hst.2.2 hS hl) (fun h => kf h ad H locs ls hG hx0 hl0 hst.2.2 hS hl)
theorem hv_icmp_ge (E : hp_E p s m args meth c cc nL own Ts D cA B0) {y z : Int32} {off : Int} {tgt : Nat} (hdg : decode cc pc = .ok (.if_icmp .ge off, 3)) (ht : (pc : Int) + off = (tgt : Int)) (kt : y ≤ z → hp_V p l e R s m args below meth c Q D cA B0 nL ad0 x0 cells slots x tgt lv rest) (kf : ¬ y ≤ z → hp_V p l e R s m args below meth c Q D cA B0 nL ad0 x0 cells slots x (pc + 3) lv rest) : hp_V p l e R s m args below meth c Q D cA B0 nL ad0 x0 cells slots x pc lv (aI y :: aI z :: rest) := fun ad H locs ls hG hx0 hl0 hst hS hl => lv_icmp_ge E.1.1 E.1.2.1 hdg ht (fun h => kt h ad H locs ls hG hx0 hl0 hst.2.2 hS hl) (fun h => kf h ad H locs ls hG hx0 hl0 hst.2.2 hS hl)
theorem hv_icmp_gt (E : hp_E p s m args meth c cc nL own Ts D cA B0) {y z : Int32} {off : Int} {tgt : Nat} (hdg : decode cc pc = .ok (.if_icmp .gt off, 3)) (ht : (pc : Int) + off = (tgt : Int)) (kt : y < z → hp_V p l e R s m args below meth c Q D cA B0 nL ad0 x0 cells slots x tgt lv rest) (kf : ¬ y < z → hp_V p l e R s m args below meth c Q D cA B0 nL ad0 x0 cells slots x (pc + 3) lv rest) : hp_V p l e R s m args below meth c Q D cA B0 nL ad0 x0 cells slots x pc lv (aI y :: aI z :: rest) := fun ad H locs ls hG hx0 hl0 hst hS hl => lv_icmp_gt E.1.1 E.1.2.1 hdg ht (fun h => kt h ad H locs ls hG hx0 hl0 hst.2.2 hS hl) (fun h => kf h ad H locs ls hG hx0 hl0 hst.2.2 hS hl)
theorem hv_icmp_le (E : hp_E p s m args meth c cc nL own Ts D cA B0) {y z : Int32} {off : Int} {tgt : Nat} (hdg : decode cc pc = .ok (.if_icmp .le off, 3)) (ht : (pc : Int) + off = (tgt : Int)) (kt : z ≤ y → hp_V p l e R s m args below meth c Q D cA B0 nL ad0 x0 cells slots x tgt lv rest) (kf : ¬ z ≤ y → hp_V p l e R s m args below meth c Q D cA B0 nL ad0 x0 cells slots x (pc + 3) lv rest) : hp_V p l e R s m args below meth c Q D cA B0 nL ad0 x0 cells slots x pc lv (aI y :: aI z :: rest) := fun ad H locs ls hG hx0 hl0 hst hS hl => lv_icmp_le E.1.1 E.1.2.1 hdg ht (fun h => kt h ad H locs ls hG hx0 hl0 hst.2.2 hS hl) (fun h => kf h ad H locs ls hG hx0 hl0 hst.2.2 hS hl)
theorem hv_ifnull (E : hp_E p s m args meth c cc nL own Ts D cA B0) {t : hp_T} {off : Int} (hdg : decode cc pc = .ok (.ifnull off, 3)) (k : hp_V p l e R s m args below meth c Q D cA B0 nL ad0 x0 cells slots x (pc + 3) lv rest) : hp_V p l e R s m args below meth c Q D cA B0 nL ad0 x0 cells slots x pc lv (aR t :: rest) := fun ad H locs ls hG hx0 hl0 hst hS hl => lv_ifnull E.1.1 E.1.2.1 hdg (k ad H locs ls hG hx0 hl0 hst.2 hS hl)
theorem hv_ifnonnull (E : hp_E p s m args meth c cc nL own Ts D cA B0) {t : hp_T} {off : Int} {tgt : Nat} (hdg : decode cc pc = .ok (.ifnonnull off, 3)) (ht : (pc : Int) + off = (tgt : Int)) (k : hp_V p l e R s m args below meth c Q D cA B0 nL ad0 x0 cells slots x tgt lv rest) : hp_V p l e R s m args below meth c Q D cA B0 nL ad0 x0 cells slots x pc lv (aR t :: rest) := fun ad H locs ls hG hx0 hl0 hst hS hl => lv_ifnonnull E.1.1 E.1.2.1 hdg ht (k ad H locs ls hG hx0 hl0 hst.2 hS hl)
theorem hv_ifnullN (E : hp_E p s m args meth c cc nL own Ts D cA B0) {off : Int} {tgt : Nat} (hdg : decode cc pc = .ok (.ifnull off, 3)) (ht : (pc : Int) + off = (tgt : Int)) (k : hp_V p l e R s m args below meth c Q D cA B0 nL ad0 x0 cells slots x tgt lv rest) : hp_V p l e R s m args below meth c Q D cA B0 nL ad0 x0 cells slots x pc lv (aN :: rest) := fun ad H locs ls hG hx0 hl0 hst hS hl => lv_ifnullN E.1.1 E.1.2.1 hdg ht (k ad H locs ls hG hx0 hl0 hst.2 hS hl)
theorem hv_ifnonnullN (E : hp_E p s m args meth c cc nL own Ts D cA B0) {off : Int} (hdg : decode cc pc = .ok (.ifnonnull off, 3)) (k : hp_V p l e R s m args below meth c Q D cA B0 nL ad0 x0 cells slots x (pc + 3) lv rest) : hp_V p l e R s m args below meth c Q D cA B0 nL ad0 x0 cells slots x pc lv (aN :: rest) := fun ad H locs ls hG hx0 hl0 hst hS hl => lv_ifnonnullN E.1.1 E.1.2.1 hdg (k ad H locs ls hG hx0 hl0 hst.2 hS hl)
theorem hv_tableIn (E : hp_E p s m args meth c cc nL own Ts D cA B0) {dflt lo hi : Int} {offs : Array Int} {len : Nat} {z : Int32} {off : Int} {tgt : Nat} (hdg : decode cc pc = .ok (.tableswitch dflt lo hi offs, len)) (h1 : ¬ z.toInt < lo) (h2 : ¬ hi < z.toInt) (ho : offs[(z.toInt - lo).toNat]? = some off) (ht : (pc : Int) + off = (tgt : Int)) (k : hp_V p l e R s m args below meth c Q D cA B0 nL ad0 x0 cells slots x tgt lv rest) : hp_V p l e R s m args below meth c Q D cA B0 nL ad0 x0 cells slots x pc lv (aI z :: rest) := fun ad H locs ls hG hx0 hl0 hst hS hl => lv_tableIn E.1.1 E.1.2.1 hdg h1 h2 ho ht (k ad H locs ls hG hx0 hl0 hst.2 hS hl)
theorem hv_tableOut (E : hp_E p s m args meth c cc nL own Ts D cA B0) {dflt lo hi : Int} {offs : Array Int} {len : Nat} {z : Int32} {tgt : Nat} (hdg : decode cc pc = .ok (.tableswitch dflt lo hi offs, len)) (h : z.toInt < lo ∨ hi < z.toInt) (ht : (pc : Int) + dflt = (tgt : Int)) (k : hp_V p l e R s m args below meth c Q D cA B0 nL ad0 x0 cells slots x tgt lv rest) : hp_V p l e R s m args below meth c Q D cA B0 nL ad0 x0 cells slots x pc lv (aI z :: rest) := fun ad H locs ls hG hx0 hl0 hst hS hl => lv_tableOut E.1.1 E.1.2.1 hdg h ht (k ad H locs ls hG hx0 hl0 hst.2 hS hl)
theorem hv_iload_n (E : hp_E p s m args meth c cc nL own Ts D cA B0) {n : Fin 4} {i : Nat} {v : Int32} (hdg : decode cc pc = .ok (.iload_n n, 1)) (hi : (n : Nat) = i) (j : Nat) (hj : lv[j]? = some (i, aI v)) (k : hp_V p l e R s m args below meth c Q D cA B0 nL ad0 x0 cells slots x (pc + 1) lv (aI v :: rest)) : hp_V p l e R s m args below meth c Q D cA B0 nL ad0 x0 cells slots x pc lv rest := fun ad H locs ls hG hx0 hl0 hst hS hl => lv_iload_n E.1.1 E.1.2.1 hdg hi (lv_at hl j (hp_cl_at hj)) (k ad H locs ls hG hx0 hl0 ⟨trivial, hst⟩ hS hl)
theorem hv_iload (E : hp_E p s m args meth c cc nL own Ts D cA B0) {i : Nat} {v : Int32} (hdg : decode cc pc = .ok (.iload i, 2)) (j : Nat) (hj : lv[j]? = some (i, aI v)) (k : hp_V p l e R s m args below meth c Q D cA B0 nL ad0 x0 cells slots x (pc + 2) lv (aI v :: rest)) : hp_V p l e R s m args below meth c Q D cA B0 nL ad0 x0 cells slots x pc lv rest := fun ad H locs ls hG hx0 hl0 hst hS hl => lv_iload E.1.1 E.1.2.1 hdg (lv_at hl j (hp_cl_at hj)) (k ad H locs ls hG hx0 hl0 ⟨trivial, hst⟩ hS hl)
theorem hv_lload_n (E : hp_E p s m args meth c cc nL own Ts D cA B0) {n : Fin 4} {i : Nat} {v : Int64} (hdg : decode cc pc = .ok (.lload_n n, 1)) (hi : (n : Nat) = i) (j : Nat) (hj : lv[j]? = some (i, aL v)) (k : hp_V p l e R s m args below meth c Q D cA B0 nL ad0 x0 cells slots x (pc + 1) lv (aL v :: rest)) : hp_V p l e R s m args below meth c Q D cA B0 nL ad0 x0 cells slots x pc lv rest := fun ad H locs ls hG hx0 hl0 hst hS hl => lv_lload_n E.1.1 E.1.2.1 hdg hi (lv_at hl j (hp_cl_at hj)) (k ad H locs ls hG hx0 hl0 ⟨trivial, hst⟩ hS hl)
theorem hv_lload (E : hp_E p s m args meth c cc nL own Ts D cA B0) {i : Nat} {v : Int64} (hdg : decode cc pc = .ok (.lload i, 2)) (j : Nat) (hj : lv[j]? = some (i, aL v)) (k : hp_V p l e R s m args below meth c Q D cA B0 nL ad0 x0 cells slots x (pc + 2) lv (aL v :: rest)) : hp_V p l e R s m args below meth c Q D cA B0 nL ad0 x0 cells slots x pc lv rest := fun ad H locs ls hG hx0 hl0 hst hS hl => lv_lload E.1.1 E.1.2.1 hdg (lv_at hl j (hp_cl_at hj)) (k ad H locs ls hG hx0 hl0 ⟨trivial, hst⟩ hS hl)
theorem hv_aload_n (E : hp_E p s m args meth c cc nL own Ts D cA B0) {n : Fin 4} {i : Nat} {v : hp_T} (hdg : decode cc pc = .ok (.aload_n n, 1)) (hi : (n : Nat) = i) (j : Nat) (hj : lv[j]? = some (i, aR v)) (k : hp_V p l e R s m args below meth c Q D cA B0 nL ad0 x0 cells slots x (pc + 1) lv (aR v :: rest)) : hp_V p l e R s m args below meth c Q D cA B0 nL ad0 x0 cells slots x pc lv rest := fun ad H locs ls hG hx0 hl0 hst hS hl => lv_aload_n E.1.1 E.1.2.1 hdg hi (lv_at hl j (hp_cl_at hj)) (k ad H locs ls hG hx0 hl0 ⟨hp_okl_at hl0 hj, hst⟩ hS hl)
theorem hv_aload (E : hp_E p s m args meth c cc nL own Ts D cA B0) {i : Nat} {v : hp_T} (hdg : decode cc pc = .ok (.aload i, 2)) (j : Nat) (hj : lv[j]? = some (i, aR v)) (k : hp_V p l e R s m args below meth c Q D cA B0 nL ad0 x0 cells slots x (pc + 2) lv (aR v :: rest)) : hp_V p l e R s m args below meth c Q D cA B0 nL ad0 x0 cells slots x pc lv rest := fun ad H locs ls hG hx0 hl0 hst hS hl => lv_aload E.1.1 E.1.2.1 hdg (lv_at hl j (hp_cl_at hj)) (k ad H locs ls hG hx0 hl0 ⟨hp_okl_at hl0 hj, hst⟩ hS hl)
theorem hv_aload_nQ (E : hp_E p s m args meth c cc nL own Ts D cA B0) {n : Fin 4} {i : Nat} {v : Nat} (hdg : decode cc pc = .ok (.aload_n n, 1)) (hi : (n : Nat) = i) (j : Nat) (hj : lv[j]? = some (i, aQ v)) (k : hp_V p l e R s m args below meth c Q D cA B0 nL ad0 x0 cells slots x (pc + 1) lv (aQ v :: rest)) : hp_V p l e R s m args below meth c Q D cA B0 nL ad0 x0 cells slots x pc lv rest := fun ad H locs ls hG hx0 hl0 hst hS hl => lv_aload_n E.1.1 E.1.2.1 hdg hi (lv_at hl j (hp_cl_at hj)) (k ad H locs ls hG hx0 hl0 ⟨hp_okl_at hl0 hj, hst⟩ hS hl)
theorem hv_aloadQ (E : hp_E p s m args meth c cc nL own Ts D cA B0) {i : Nat} {v : Nat} (hdg : decode cc pc = .ok (.aload i, 2)) (j : Nat) (hj : lv[j]? = some (i, aQ v)) (k : hp_V p l e R s m args below meth c Q D cA B0 nL ad0 x0 cells slots x (pc + 2) lv (aQ v :: rest)) : hp_V p l e R s m args below meth c Q D cA B0 nL ad0 x0 cells slots x pc lv rest := fun ad H locs ls hG hx0 hl0 hst hS hl => lv_aload E.1.1 E.1.2.1 hdg (lv_at hl j (hp_cl_at hj)) (k ad H locs ls hG hx0 hl0 ⟨hp_okl_at hl0 hj, hst⟩ hS hl)
theorem hv_istore (E : hp_E p s m args meth c cc nL own Ts D cA B0) {i : Nat} {v : Int32} {lv' : List (Nat × hp_A)} (hdg : decode cc pc = .ok (.istore i, 2)) (hn : i < nL) (hf : hp_f1 i lv = lv') (k : hp_V p l e R s m args below meth c Q D cA B0 nL ad0 x0 cells slots x (pc + 2) ((i, aI v) :: lv') rest) : hp_V p l e R s m args below meth c Q D cA B0 nL ad0 x0 cells slots x pc lv (aI v :: rest) := fun ad H locs ls hG hx0 hl0 hst hS hl => lv_istore E.1.1 E.1.2.1 hdg hl hn rfl (fun ls2 h2 => k ad H locs ls2 hG hx0 (hp_okl_cons hst.1 (by rw [← hf]; exact hp_f1_ok hl0)) hst.2 hS (by rw [hp_f1_cl, hf] at h2; exact h2))
theorem hv_istore_n (E : hp_E p s m args meth c cc nL own Ts D cA B0) {n : Fin 4} {i : Nat} {v : Int32} {lv' : List (Nat × hp_A)} (hdg : decode cc pc = .ok (.istore_n n, 1)) (hi : (n : Nat) = i) (hn : i < nL) (hf : hp_f1 i lv = lv') (k : hp_V p l e R s m args below meth c Q D cA B0 nL ad0 x0 cells slots x (pc + 1) ((i, aI v) :: lv') rest) : hp_V p l e R s m args below meth c Q D cA B0 nL ad0 x0 cells slots x pc lv (aI v :: rest) := fun ad H locs ls hG hx0 hl0 hst hS hl => lv_istore_n E.1.1 E.1.2.1 hdg hi hl hn rfl (fun ls2 h2 => k ad H locs ls2 hG hx0 (hp_okl_cons hst.1 (by rw [← hf]; exact hp_f1_ok hl0)) hst.2 hS (by rw [hp_f1_cl, hf] at h2; exact h2))
theorem hv_lstore (E : hp_E p s m args meth c cc nL own Ts D cA B0) {i : Nat} {v : Int64} {lv' : List (Nat × hp_A)} (hdg : decode cc pc = .ok (.lstore i, 2)) (hn : i + 1 < nL) (hf : hp_f2 i lv = lv') (k : hp_V p l e R s m args below meth c Q D cA B0 nL ad0 x0 cells slots x (pc + 2) ((i, aL v) :: lv') rest) : hp_V p l e R s m args below meth c Q D cA B0 nL ad0 x0 cells slots x pc lv (aL v :: rest) := fun ad H locs ls hG hx0 hl0 hst hS hl => lv_lstore E.1.1 E.1.2.1 hdg hl hn rfl (fun ls2 h2 => k ad H locs ls2 hG hx0 (hp_okl_cons hst.1 (by rw [← hf]; exact hp_f2_ok hl0)) hst.2 hS (by rw [hp_f2_cl, hf] at h2; exact h2))
theorem hv_lstore_n (E : hp_E p s m args meth c cc nL own Ts D cA B0) {n : Fin 4} {i : Nat} {v : Int64} {lv' : List (Nat × hp_A)} (hdg : decode cc pc = .ok (.lstore_n n, 1)) (hi : (n : Nat) = i) (hn : i + 1 < nL) (hf : hp_f2 i lv = lv') (k : hp_V p l e R s m args below meth c Q D cA B0 nL ad0 x0 cells slots x (pc + 1) ((i, aL v) :: lv') rest) : hp_V p l e R s m args below meth c Q D cA B0 nL ad0 x0 cells slots x pc lv (aL v :: rest) := fun ad H locs ls hG hx0 hl0 hst hS hl => lv_lstore_n E.1.1 E.1.2.1 hdg hi hl hn rfl (fun ls2 h2 => k ad H locs ls2 hG hx0 (hp_okl_cons hst.1 (by rw [← hf]; exact hp_f2_ok hl0)) hst.2 hS (by rw [hp_f2_cl, hf] at h2; exact h2))
theorem hv_astore (E : hp_E p s m args meth c cc nL own Ts D cA B0) {i : Nat} {v : hp_T} {lv' : List (Nat × hp_A)} (hdg : decode cc pc = .ok (.astore i, 2)) (hn : i < nL) (hf : hp_f1 i lv = lv') (k : hp_V p l e R s m args below meth c Q D cA B0 nL ad0 x0 cells slots x (pc + 2) ((i, aR v) :: lv') rest) : hp_V p l e R s m args below meth c Q D cA B0 nL ad0 x0 cells slots x pc lv (aR v :: rest) := fun ad H locs ls hG hx0 hl0 hst hS hl => lv_astore E.1.1 E.1.2.1 hdg hl hn rfl (fun ls2 h2 => k ad H locs ls2 hG hx0 (hp_okl_cons hst.1 (by rw [← hf]; exact hp_f1_ok hl0)) hst.2 hS (by rw [hp_f1_cl, hf] at h2; exact h2))
theorem hv_astore_n (E : hp_E p s m args meth c cc nL own Ts D cA B0) {n : Fin 4} {i : Nat} {v : hp_T} {lv' : List (Nat × hp_A)} (hdg : decode cc pc = .ok (.astore_n n, 1)) (hi : (n : Nat) = i) (hn : i < nL) (hf : hp_f1 i lv = lv') (k : hp_V p l e R s m args below meth c Q D cA B0 nL ad0 x0 cells slots x (pc + 1) ((i, aR v) :: lv') rest) : hp_V p l e R s m args below meth c Q D cA B0 nL ad0 x0 cells slots x pc lv (aR v :: rest) := fun ad H locs ls hG hx0 hl0 hst hS hl => lv_astore_n E.1.1 E.1.2.1 hdg hi hl hn rfl (fun ls2 h2 => k ad H locs ls2 hG hx0 (hp_okl_cons hst.1 (by rw [← hf]; exact hp_f1_ok hl0)) hst.2 hS (by rw [hp_f1_cl, hf] at h2; exact h2))
theorem hv_iinc (E : hp_E p s m args meth c cc nL own Ts D cA B0) {i : Nat} {n : Int} {u v : Int32} {lv' : List (Nat × hp_A)} (j : Nat) (hdg : decode cc pc = .ok (.iinc i n, 3)) (hk : lv[j]? = some (i, aI u)) (hv : u + Int32.ofInt n = v) (hn : i < nL) (hf : hp_f1 i lv = lv') (k : hp_V p l e R s m args below meth c Q D cA B0 nL ad0 x0 cells slots x (pc + 3) ((i, aI v) :: lv') rest) : hp_V p l e R s m args below meth c Q D cA B0 nL ad0 x0 cells slots x pc lv rest := fun ad H locs ls hG hx0 hl0 hst hS hl => lv_iinc (k := j) E.1.1 E.1.2.1 hdg hl (hp_cl_at hk) hv hn rfl (fun ls2 h2 => k ad H locs ls2 hG hx0 (hp_okl_cons trivial (by rw [← hf]; exact hp_f1_ok hl0)) hst hS (by rw [hp_f1_cl, hf] at h2; exact h2))
/-- a single cell as a world -/
theorem hp_one {D : va_G} {q : Nat × va_E} {H : Heap} (h : va_at D vwCl q H) : va_P D vwCl [q] H := fun k0 q0 h0 => by
  match k0, h0 with
  | 0, h0 => cases h0; exact h
  | n + 1, h0 => cases h0
theorem hp_getW (E : hp_E p s m args meth c cc nL own Ts D cA B0) {ci index k : Nat} {sl : List Nat} {C ref : String} {T : u_T} {N : Nat} {t : hp_T} {cd : Nat} {ad : hp_T → Nat} {H : Heap} {locs : List Loc} {ls : Array Slot} {QQ : State → Prop} {st : List Value} (hdg : decode cc pc = .ok (.getfield index, 3)) (hk : hp_kd t.1 = .inl (ci, sl)) (hc : vwCl[ci]? = some (C, T, N)) (hin : ∀ w ∈ u_ws C T N, w ∈ Ts) (hkN : k < N) (hlink : Cond.fieldLink own index ref (T k).2.1 (T k).2.2.1 ∈ Ts) (hsame : (T k).1 = ref) (hsk : sl[k]? = some cd) (hG : hp_H D cA B0 ad x H) (ht : x.1 t = true) (kk : W p l e R s m args below meth c H locs cells slots QQ (F0 m (pc + 3) ls (hp_val ad x t cd k :: st))) : W p l e R s m args below meth c H locs cells slots QQ (F0 m pc ls (.ref (ad t) :: st)) := by
  obtain ⟨hx, hb, hml, hown, hts⟩ := E.1
  have hat := (hG.2.1 t ht).2
  rw [hp_cell_o hk] at hat
  subst hsame
  exact va_get (ws := [(ad t, .inr (ci, hp_fs ad x t sl))]) hx hb hts hin hown E.2.1.1 (hp_one hat) 0 rfl hc k hkN (hts _ hlink) (fun _ h9 => h9) (hp_fs_get hsk) hdg kk
theorem hv_getI (E : hp_E p s m args meth c cc nL own Ts D cA B0) {ci index k : Nat} {sl : List Nat} {C ref : String} {T : u_T} {N : Nat} {t : hp_T} (hdg : decode cc pc = .ok (.getfield index, 3)) (hk : hp_kd t.1 = .inl (ci, sl)) (hc : vwCl[ci]? = some (C, T, N)) (hin : ∀ w ∈ u_ws C T N, w ∈ Ts) (hkN : k < N) (hlink : Cond.fieldLink own index ref (T k).2.1 (T k).2.2.1 ∈ Ts) (hsame : (T k).1 = ref) (hsk : sl[k]? = some 0)
    (kk : hp_V p l e R s m args below meth c Q D cA B0 nL ad0 x0 cells slots x (pc + 3) lv (aI (x.2.1 t k) :: rest)) : hp_V p l e R s m args below meth c Q D cA B0 nL ad0 x0 cells slots x pc lv (aR t :: rest) := fun ad H locs ls hG hx0 hl0 hst hS hl => hp_getW E hdg hk hc hin hkN hlink hsame hsk hG hst.1 (kk ad H locs ls hG hx0 hl0 ⟨trivial, hst.2⟩ hS hl)
theorem hv_getL (E : hp_E p s m args meth c cc nL own Ts D cA B0) {ci index k : Nat} {sl : List Nat} {C ref : String} {T : u_T} {N : Nat} {t : hp_T} (hdg : decode cc pc = .ok (.getfield index, 3)) (hk : hp_kd t.1 = .inl (ci, sl)) (hc : vwCl[ci]? = some (C, T, N)) (hin : ∀ w ∈ u_ws C T N, w ∈ Ts) (hkN : k < N) (hlink : Cond.fieldLink own index ref (T k).2.1 (T k).2.2.1 ∈ Ts) (hsame : (T k).1 = ref) (hsk : sl[k]? = some 1)
    (kk : hp_V p l e R s m args below meth c Q D cA B0 nL ad0 x0 cells slots x (pc + 3) lv (aL (x.2.2.1 t k) :: rest)) : hp_V p l e R s m args below meth c Q D cA B0 nL ad0 x0 cells slots x pc lv (aR t :: rest) := fun ad H locs ls hG hx0 hl0 hst hS hl => hp_getW E hdg hk hc hin hkN hlink hsame hsk hG hst.1 (kk ad H locs ls hG hx0 hl0 ⟨trivial, hst.2⟩ hS hl)
theorem hv_getR (E : hp_E p s m args meth c cc nL own Ts D cA B0) {ci index k : Nat} {sl : List Nat} {C ref : String} {T : u_T} {N : Nat} {t : hp_T} {t2 : hp_T} (hdg : decode cc pc = .ok (.getfield index, 3)) (hk : hp_kd t.1 = .inl (ci, sl)) (hc : vwCl[ci]? = some (C, T, N)) (hin : ∀ w ∈ u_ws C T N, w ∈ Ts) (hkN : k < N) (hlink : Cond.fieldLink own index ref (T k).2.1 (T k).2.2.1 ∈ Ts) (hsame : (T k).1 = ref) (hsk : sl[k]? = some 2) (hv : x.1 t = true → x.2.2.2 t k = some t2)
    (kk : hp_V p l e R s m args below meth c Q D cA B0 nL ad0 x0 cells slots x (pc + 3) lv (aR t2 :: rest)) : hp_V p l e R s m args below meth c Q D cA B0 nL ad0 x0 cells slots x pc lv (aR t :: rest) := by
  intro ad H locs ls hG hx0 hl0 hst hS hl
  have ht : x.1 t = true := hst.1
  refine hp_getW E hdg hk hc hin hkN hlink hsame hsk hG ht ?_
  rw [show hp_val ad x t 2 k = hp_c ad (aR t2) by simp [hp_val, hp_c, hv ht]]
  exact kk ad H locs ls hG hx0 hl0 ⟨hG.2.2.2 t k t2 ht (hv ht), hst.2⟩ hS hl
theorem hv_getN (E : hp_E p s m args meth c cc nL own Ts D cA B0) {ci index k : Nat} {sl : List Nat} {C ref : String} {T : u_T} {N : Nat} {t : hp_T} (hdg : decode cc pc = .ok (.getfield index, 3)) (hk : hp_kd t.1 = .inl (ci, sl)) (hc : vwCl[ci]? = some (C, T, N)) (hin : ∀ w ∈ u_ws C T N, w ∈ Ts) (hkN : k < N) (hlink : Cond.fieldLink own index ref (T k).2.1 (T k).2.2.1 ∈ Ts) (hsame : (T k).1 = ref) (hsk : sl[k]? = some 2) (hv : x.2.2.2 t k = none)
    (kk : hp_V p l e R s m args below meth c Q D cA B0 nL ad0 x0 cells slots x (pc + 3) lv (aN :: rest)) : hp_V p l e R s m args below meth c Q D cA B0 nL ad0 x0 cells slots x pc lv (aR t :: rest) := by
  intro ad H locs ls hG hx0 hl0 hst hS hl
  refine hp_getW E hdg hk hc hin hkN hlink hsame hsk hG hst.1 ?_
  rw [show hp_val ad x t 2 k = hp_c ad aN by simp [hp_val, hp_c, hv]]
  exact kk ad H locs ls hG hx0 hl0 ⟨trivial, hst.2⟩ hS hl
theorem hp_putW (E : hp_E p s m args meth c cc nL own Ts D cA B0) {ci index k : Nat} {sl : List Nat} {C ref : String} {T : u_T} {N : Nat} {t : hp_T} {ty : FieldType} {v : Value} {x' : hp_S} {ad : hp_T → Nat} {H : Heap} {locs : List Loc} {ls : Array Slot} {QQ : State → Prop} {st : List Value} (ty0 : Nat → FieldType) (hty : ∀ k, k < N → parseFieldDescriptor (T k).2.2.1 = some (ty0 k)) (hnm : ∀ a, a < N → ∀ b, b < N → a ≠ b → (T a).2.1 ≠ (T b).2.1) (hdg : decode cc pc = .ok (.putfield index, 3)) (hk : hp_kd t.1 = .inl (ci, sl)) (hc : vwCl[ci]? = some (C, T, N)) (hin : ∀ w ∈ u_ws C T N, w ∈ Ts) (hkN : k < N) (hlink : Cond.fieldLink own index ref (T k).2.1 (T k).2.2.1 ∈ Ts) (hsame : (T k).1 = ref) (hks : k < sl.length) (hfin : (T k).2.2.2 = false ∨ ((T k).2.2.2 = true ∧ meth.name = "<init>" ∧ ref = own)) (hd : parseFieldDescriptor (T k).2.2.1 = some ty) (hn : narrow ty v = v) (hfit : fits ty v = true) (hG : hp_H D cA B0 ad x H) (hS : va_S (fun q => B0 ≤ q) s.heap H locs) (ht : x.1 t = true)
    (hl1 : x'.1 = x.1) (ho : ∀ t', t' ≠ t → hp_cell cA ad x' t' = hp_cell cA ad x t') (hr : ∀ k t', x'.2.2.2 t k = some t' → x.2.2.2 t k = some t' ∨ x.1 t' = true) (hr2 : ∀ t', t' ≠ t → x'.2.2.2 t' = x.2.2.2 t') (hset : (hp_fs ad x t sl).set k v = hp_fs ad x' t sl)
    (kk : ∀ (H1 : Heap) (locs1 : List Loc), hp_H D cA B0 ad x' H1 → va_S (fun q => B0 ≤ q) s.heap H1 locs1 → W p l e R s m args below meth c H1 locs1 cells slots QQ (F0 m (pc + 3) ls st)) : W p l e R s m args below meth c H locs cells slots QQ (F0 m pc ls (v :: .ref (ad t) :: st)) := by
  obtain ⟨hx, hb, hml, hown, hts⟩ := E.1
  have hK := E.2.1.1
  have hap := va_apart (own := own) hts hin ty0 hty hnm hK hc
  obtain ⟨hB, hat⟩ := hG.2.1 t ht
  rw [hp_cell_o hk] at hat
  subst hsame
  obtain ⟨r, h1, cell, q1, q2, q3, q4⟩ := hat
  have hr0 : r = (C, T, N) := Option.some.inj (h1.symm.trans hc)
  subst hr0
  obtain ⟨hSl, hfc, kC, hkC, hkind⟩ := hK.1 ci _ hc
  obtain ⟨cf, kf, fi, f, hi, hsl⟩ := hSl k hkN
  have hlay := hts _ (hin _ (u_in_lay hkN))
  unfold u_lay at hlay
  have hst := (u_facts hfc hkC (u_lays hts hin hkN) hi).1
  have fin : ∀ H' : Heap, H'[ad t]? = some (cell.setSlot f.slot v) → H'.size = H.size → (∀ q, q ≠ ad t → H'[q]? = H[q]?) → W p l e R s m args below meth c H' (locs ++ [⟨ad t, f.slot⟩]) cells slots QQ (F0 m (pc + 3) ls st) := by
    intro H' e1 e2 e3
    rw [hsl] at e1 ⊢
    refine kk H' _ (hG.put ht hl1 ho (fun k t' h => (hr k t' h).elim (hG.2.2.2 t k t' ht) id) hr2 ?_ e2 e3) (hS.put e2 e3 hB)
    rw [hp_cell_o hk]
    refine ⟨_, hc, t_OB.to (V := updV (vp_V (hp_fs ad x t sl)) k v) ⟨_, e1, q2, q3, t_set q4 hap hkN v⟩ (fun j _ => ?_)⟩
    rw [vp_updV_set (by rw [hp_fs_len]; exact hks) v j, hset]
  rcases hfin with hfin | ⟨hfin, hnm2, hdecl⟩
  · rw [if_neg (by rw [hfin]; decide)] at hlay
    have h6 := u_store hfc hkC hkind hlay hi hd hn hfit
    exact W.putK hx hb (f := f) ⟨hown, hts _ hlink, ⟨_, _, _, hi⟩, hst⟩ (by rw [q2]; exact h6) q1 q3 (by rw [hsl]; exact k2_hasslot (q4 k hkN)) rfl rfl hdg fin
  · rw [if_pos hfin] at hlay
    have hcf : m.cls = cf := by
      obtain ⟨_, _, c', _, _, _, -, -, hf', -, -, -, hown2, -⟩ := Cond.laysFinal_spec hlay
      have e1 : c' = cf := by have := hi.symm.trans hf'; simp at this; exact this.1.symm
      rw [hdecl] at hown2
      rw [← e1]; exact Option.some.inj (hown.symm.trans hown2)
    have h6 := u_fits hfc hkC hkind (Or.inr hlay) hi hd hn hfit
    exact W.putFinK hx hb hown (hts _ hlink) hi hst hcf hnm2 (by rw [q2]; exact h6) q1 q3 (by rw [hsl]; exact k2_hasslot (q4 k hkN)) rfl rfl hdg fin
theorem hv_putI (E : hp_E p s m args meth c cc nL own Ts D cA B0) {ci index k : Nat} {sl : List Nat} {C ref : String} {T : u_T} {N : Nat} {t : hp_T} {ty : FieldType} {v : Int32} (ty0 : Nat → FieldType) (hty : ∀ k, k < N → parseFieldDescriptor (T k).2.2.1 = some (ty0 k)) (hnm : ∀ a, a < N → ∀ b, b < N → a ≠ b → (T a).2.1 ≠ (T b).2.1) (hdg : decode cc pc = .ok (.putfield index, 3)) (hk : hp_kd t.1 = .inl (ci, sl)) (hc : vwCl[ci]? = some (C, T, N)) (hin : ∀ w ∈ u_ws C T N, w ∈ Ts) (hkN : k < N) (hlink : Cond.fieldLink own index ref (T k).2.1 (T k).2.2.1 ∈ Ts) (hsame : (T k).1 = ref) (hsk : sl[k]? = some 0) (hfin : (T k).2.2.2 = false ∨ ((T k).2.2.2 = true ∧ meth.name = "<init>" ∧ ref = own)) (hd : parseFieldDescriptor (T k).2.2.1 = some ty) (hn : narrow ty (.int v) = (.int v)) (hfit : fits ty (.int v) = true)
    (kk : hp_V p l e R s m args below meth c Q D cA B0 nL ad0 x0 cells slots (hp_uI x t k v) (pc + 3) lv rest) : hp_V p l e R s m args below meth c Q D cA B0 nL ad0 x0 cells slots x pc lv (aI v :: aR t :: rest) := by
  intro ad H locs ls hG hx0 hl0 hst hS hl
  have ht : x.1 t = true := hst.2.1
  have e0 : sl.getD k 0 = 0 := by rw [List.getD_eq_getElem?_getD, hsk]; rfl
  refine hp_putW (x' := (hp_uI x t k v)) E ty0 hty hnm hdg hk hc hin hkN hlink hsame (List.getElem?_eq_some_iff.mp hsk).1 hfin hd hn hfit hG hS ht rfl (fun t' h => hp_cell_congr (by funext j; simp [hp_uI, h]) rfl (fun _ => rfl)) (fun _ _ h => Or.inl h) (fun _ _ => rfl) (hp_fs_set (List.getElem?_eq_some_iff.mp hsk).1 ?_ ?_) (fun H1 locs1 hG1 hS1 => kk ad H1 locs1 ls hG1 hx0 hl0 hst.2.2 hS1 hl)
  · rw [e0]
    simp [hp_val, hp_uI, hp_c]
  · intro j hj
    match sl.getD j 0 with
    | 0 => simp [hp_val, hp_uI, hj]
    | 1 => rfl
    | n + 2 => rfl
theorem hv_putL (E : hp_E p s m args meth c cc nL own Ts D cA B0) {ci index k : Nat} {sl : List Nat} {C ref : String} {T : u_T} {N : Nat} {t : hp_T} {ty : FieldType} {v : Int64} (ty0 : Nat → FieldType) (hty : ∀ k, k < N → parseFieldDescriptor (T k).2.2.1 = some (ty0 k)) (hnm : ∀ a, a < N → ∀ b, b < N → a ≠ b → (T a).2.1 ≠ (T b).2.1) (hdg : decode cc pc = .ok (.putfield index, 3)) (hk : hp_kd t.1 = .inl (ci, sl)) (hc : vwCl[ci]? = some (C, T, N)) (hin : ∀ w ∈ u_ws C T N, w ∈ Ts) (hkN : k < N) (hlink : Cond.fieldLink own index ref (T k).2.1 (T k).2.2.1 ∈ Ts) (hsame : (T k).1 = ref) (hsk : sl[k]? = some 1) (hfin : (T k).2.2.2 = false ∨ ((T k).2.2.2 = true ∧ meth.name = "<init>" ∧ ref = own)) (hd : parseFieldDescriptor (T k).2.2.1 = some ty) (hn : narrow ty (.long v) = (.long v)) (hfit : fits ty (.long v) = true)
    (kk : hp_V p l e R s m args below meth c Q D cA B0 nL ad0 x0 cells slots (hp_uL x t k v) (pc + 3) lv rest) : hp_V p l e R s m args below meth c Q D cA B0 nL ad0 x0 cells slots x pc lv (aL v :: aR t :: rest) := by
  intro ad H locs ls hG hx0 hl0 hst hS hl
  have ht : x.1 t = true := hst.2.1
  have e0 : sl.getD k 0 = 1 := by rw [List.getD_eq_getElem?_getD, hsk]; rfl
  refine hp_putW (x' := (hp_uL x t k v)) E ty0 hty hnm hdg hk hc hin hkN hlink hsame (List.getElem?_eq_some_iff.mp hsk).1 hfin hd hn hfit hG hS ht rfl (fun t' h => hp_cell_congr rfl (by funext j; simp [hp_uL, h]) (fun _ => rfl)) (fun _ _ h => Or.inl h) (fun _ _ => rfl) (hp_fs_set (List.getElem?_eq_some_iff.mp hsk).1 ?_ ?_) (fun H1 locs1 hG1 hS1 => kk ad H1 locs1 ls hG1 hx0 hl0 hst.2.2 hS1 hl)
  · rw [e0]
    simp [hp_val, hp_uL, hp_c]
  · intro j hj
    match sl.getD j 0 with
    | 0 => rfl
    | 1 => simp [hp_val, hp_uL, hj]
    | n + 2 => rfl
theorem hv_putR (E : hp_E p s m args meth c cc nL own Ts D cA B0) {ci index k : Nat} {sl : List Nat} {C ref : String} {T : u_T} {N : Nat} {t : hp_T} {ty : FieldType} {t2 : hp_T} (ty0 : Nat → FieldType) (hty : ∀ k, k < N → parseFieldDescriptor (T k).2.2.1 = some (ty0 k)) (hnm : ∀ a, a < N → ∀ b, b < N → a ≠ b → (T a).2.1 ≠ (T b).2.1) (hdg : decode cc pc = .ok (.putfield index, 3)) (hk : hp_kd t.1 = .inl (ci, sl)) (hc : vwCl[ci]? = some (C, T, N)) (hin : ∀ w ∈ u_ws C T N, w ∈ Ts) (hkN : k < N) (hlink : Cond.fieldLink own index ref (T k).2.1 (T k).2.2.1 ∈ Ts) (hsame : (T k).1 = ref) (hsk : sl[k]? = some 2) (hfin : (T k).2.2.2 = false ∨ ((T k).2.2.2 = true ∧ meth.name = "<init>" ∧ ref = own)) (hd : parseFieldDescriptor (T k).2.2.1 = some ty) (hn : ∀ q : Nat, narrow ty (.ref q) = .ref q) (hfit : ∀ q : Nat, fits ty (.ref q) = true)
    (kk : hp_V p l e R s m args below meth c Q D cA B0 nL ad0 x0 cells slots (hp_uR x t k (some t2)) (pc + 3) lv rest) : hp_V p l e R s m args below meth c Q D cA B0 nL ad0 x0 cells slots x pc lv (aR t2 :: aR t :: rest) := by
  intro ad H locs ls hG hx0 hl0 hst hS hl
  have ht : x.1 t = true := hst.2.1
  have e0 : sl.getD k 0 = 2 := by rw [List.getD_eq_getElem?_getD, hsk]; rfl
  refine hp_putW (x' := (hp_uR x t k (some t2))) E ty0 hty hnm hdg hk hc hin hkN hlink hsame (List.getElem?_eq_some_iff.mp hsk).1 hfin hd (hn _) (hfit _) hG hS ht rfl (fun t' h => hp_cell_congr rfl rfl (fun j => by simp [hp_uR, h])) (fun j t' h => by
    by_cases e : j = k
    · right; simp [hp_uR, e] at h; rw [← h]; exact hst.1
    · left; simpa [hp_uR, e] using h) (fun t' h => by funext j; simp [hp_uR, h]) (hp_fs_set (List.getElem?_eq_some_iff.mp hsk).1 ?_ ?_) (fun H1 locs1 hG1 hS1 => kk ad H1 locs1 ls hG1 hx0 hl0 hst.2.2 hS1 hl)
  · rw [e0]
    simp [hp_val, hp_uR, hp_c]
  · intro j hj
    match sl.getD j 0 with
    | 0 => rfl
    | 1 => rfl
    | n + 2 => simp [hp_val, hp_uR, hj]
theorem hv_putN (E : hp_E p s m args meth c cc nL own Ts D cA B0) {ci index k : Nat} {sl : List Nat} {C ref : String} {T : u_T} {N : Nat} {t : hp_T} {ty : FieldType}  (ty0 : Nat → FieldType) (hty : ∀ k, k < N → parseFieldDescriptor (T k).2.2.1 = some (ty0 k)) (hnm : ∀ a, a < N → ∀ b, b < N → a ≠ b → (T a).2.1 ≠ (T b).2.1) (hdg : decode cc pc = .ok (.putfield index, 3)) (hk : hp_kd t.1 = .inl (ci, sl)) (hc : vwCl[ci]? = some (C, T, N)) (hin : ∀ w ∈ u_ws C T N, w ∈ Ts) (hkN : k < N) (hlink : Cond.fieldLink own index ref (T k).2.1 (T k).2.2.1 ∈ Ts) (hsame : (T k).1 = ref) (hsk : sl[k]? = some 2) (hfin : (T k).2.2.2 = false ∨ ((T k).2.2.2 = true ∧ meth.name = "<init>" ∧ ref = own)) (hd : parseFieldDescriptor (T k).2.2.1 = some ty) (hn : narrow ty .null = .null) (hfit : fits ty .null = true)
    (kk : hp_V p l e R s m args below meth c Q D cA B0 nL ad0 x0 cells slots (hp_uR x t k none) (pc + 3) lv rest) : hp_V p l e R s m args below meth c Q D cA B0 nL ad0 x0 cells slots x pc lv (aN :: aR t :: rest) := by
  intro ad H locs ls hG hx0 hl0 hst hS hl
  have ht : x.1 t = true := hst.2.1
  have e0 : sl.getD k 0 = 2 := by rw [List.getD_eq_getElem?_getD, hsk]; rfl
  refine hp_putW (x' := (hp_uR x t k none)) E ty0 hty hnm hdg hk hc hin hkN hlink hsame (List.getElem?_eq_some_iff.mp hsk).1 hfin hd hn hfit hG hS ht rfl (fun t' h => hp_cell_congr rfl rfl (fun j => by simp [hp_uR, h])) (fun j t' h => by
    by_cases e : j = k
    · simp [hp_uR, e] at h
    · left; simpa [hp_uR, e] using h) (fun t' h => by funext j; simp [hp_uR, h]) (hp_fs_set (List.getElem?_eq_some_iff.mp hsk).1 ?_ ?_) (fun H1 locs1 hG1 hS1 => kk ad H1 locs1 ls hG1 hx0 hl0 hst.2.2 hS1 hl)
  · rw [e0]
    simp [hp_val, hp_uR, hp_c]
  · intro j hj
    match sl.getD j 0 with
    | 0 => rfl
    | 1 => rfl
    | n + 2 => simp [hp_val, hp_uR, hj]
theorem hv_iald (E : hp_E p s m args meth c cc nL own Ts D cA B0) {a n : Nat} {t : hp_T} {i : Int32} (hdg : decode cc pc = .ok (.iaload, 1)) (hk : hp_kd t.1 = .inr (a, n)) (ha : a < hp_na) (hty : hp_aty a = .int) (hi : vp_in i n)
    (kk : hp_V p l e R s m args below meth c Q D cA B0 nL ad0 x0 cells slots x (pc + 1) lv (aI (x.2.1 t i.toNatClampNeg) :: rest)) : hp_V p l e R s m args below meth c Q D cA B0 nL ad0 x0 cells slots x pc lv (aI i :: aR t :: rest) := by
  intro ad H locs ls hG hx0 hl0 hst hS hl
  have ht : x.1 t = true := hst.2.1
  have hat := (hG.2.1 t ht).2
  rw [hp_cell_a hk] at hat
  have hy := hp_tys_at (cA := cA) ha
  rw [hty] at hat hy
  exact va_iald (ws := [(ad t, .inl (cA a, hp_arr ad x t 0 n))]) E.1.1 E.1.2.1 E.2.1.1 (hp_one hat) 0 a rfl hy hi hdg (kk ad H locs ls hG hx0 hl0 ⟨trivial, hst.2.2⟩ hS hl)
theorem hv_zald (E : hp_E p s m args meth c cc nL own Ts D cA B0) {a n : Nat} {t : hp_T} {i : Int32} (hdg : decode cc pc = .ok (.baload, 1)) (hk : hp_kd t.1 = .inr (a, n)) (ha : a < hp_na) (hty : hp_aty a = .boolean) (hi : vp_in i n)
    (kk : hp_V p l e R s m args below meth c Q D cA B0 nL ad0 x0 cells slots x (pc + 1) lv (aI (x.2.1 t i.toNatClampNeg) :: rest)) : hp_V p l e R s m args below meth c Q D cA B0 nL ad0 x0 cells slots x pc lv (aI i :: aR t :: rest) := by
  intro ad H locs ls hG hx0 hl0 hst hS hl
  have ht : x.1 t = true := hst.2.1
  have hat := (hG.2.1 t ht).2
  rw [hp_cell_a hk] at hat
  have hy := hp_tys_at (cA := cA) ha
  rw [hty] at hat hy
  exact va_zald (ws := [(ad t, .inl (cA a, hp_arr ad x t 0 n))]) E.1.1 E.1.2.1 E.2.1.1 (hp_one hat) 0 a rfl hy hi hdg (kk ad H locs ls hG hx0 hl0 ⟨trivial, hst.2.2⟩ hS hl)
theorem hv_lald (E : hp_E p s m args meth c cc nL own Ts D cA B0) {a n : Nat} {t : hp_T} {i : Int32} (hdg : decode cc pc = .ok (.laload, 1)) (hk : hp_kd t.1 = .inr (a, n)) (ha : a < hp_na) (hty : hp_aty a = .long) (hi : vp_in i n)
    (kk : hp_V p l e R s m args below meth c Q D cA B0 nL ad0 x0 cells slots x (pc + 1) lv (aL (x.2.2.1 t i.toNatClampNeg) :: rest)) : hp_V p l e R s m args below meth c Q D cA B0 nL ad0 x0 cells slots x pc lv (aI i :: aR t :: rest) := by
  intro ad H locs ls hG hx0 hl0 hst hS hl
  have ht : x.1 t = true := hst.2.1
  have hat := (hG.2.1 t ht).2
  rw [hp_cell_a hk] at hat
  have hy := hp_tys_at (cA := cA) ha
  rw [hty] at hat hy
  exact va_lald (ws := [(ad t, .inl (cA a, hp_arr ad x t 1 n))]) E.1.1 E.1.2.1 E.2.1.1 (hp_one hat) 0 a rfl hy hi hdg (kk ad H locs ls hG hx0 hl0 ⟨trivial, hst.2.2⟩ hS hl)
theorem hv_aald (E : hp_E p s m args meth c cc nL own Ts D cA B0) {a n : Nat} {t t2 : hp_T} {i : Int32} (hdg : decode cc pc = .ok (.aaload, 1)) (hk : hp_kd t.1 = .inr (a, n)) (ha : a < hp_na) (hty : hp_bank (hp_aty a) = 2) (hrf : (hp_aty a).isReference = true) (hi : vp_in i n) (hv : x.1 t = true → x.2.2.2 t i.toNatClampNeg = some t2)
    (kk : hp_V p l e R s m args below meth c Q D cA B0 nL ad0 x0 cells slots x (pc + 1) lv (aR t2 :: rest)) : hp_V p l e R s m args below meth c Q D cA B0 nL ad0 x0 cells slots x pc lv (aI i :: aR t :: rest) := by
  intro ad H locs ls hG hx0 hl0 hst hS hl
  have ht : x.1 t = true := hst.2.1
  have hat := (hG.2.1 t ht).2
  rw [hp_cell_a hk, hty] at hat
  have hlt : i.toNatClampNeg < n := Nat.not_le.mp fun q => hi (Or.inr q)
  refine W.aald (v := hp_c ad (aR t2)) (ty := hp_aty a) E.1.1 E.1.2.1 (show H[ad t]? = some (arrV (cA a) n (fun j => va_rf ((x.2.2.2 t j).map ad))) from hat) ((E.2.1.1.2 a _ (hp_tys_at ha)).1 n _) hrf (fun q => by cases q) (by rw [arrV_size]; exact hi) (by rw [arrV_read _ _ hlt, hv ht]; rfl) rfl rfl hdg (kk ad H locs ls hG hx0 hl0 ⟨hG.2.2.2 t _ t2 ht (hv ht), hst.2.2⟩ hS hl)
theorem hv_alen (E : hp_E p s m args meth c cc nL own Ts D cA B0) {a n : Nat} {t : hp_T} {v : Int32} (hdg : decode cc pc = .ok (.arraylength, 1)) (hk : hp_kd t.1 = .inr (a, n)) (ha : a < hp_na) (hv : Int32.ofNat n = v)
    (kk : hp_V p l e R s m args below meth c Q D cA B0 nL ad0 x0 cells slots x (pc + 1) lv (aI v :: rest)) : hp_V p l e R s m args below meth c Q D cA B0 nL ad0 x0 cells slots x pc lv (aR t :: rest) := by
  intro ad H locs ls hG hx0 hl0 hst hS hl
  have hat := (hG.2.1 t hst.1).2
  rw [hp_cell_a hk] at hat
  exact va_alen (ws := [(ad t, .inl (cA a, hp_arr ad x t (hp_bank (hp_aty a)) n))]) E.1.1 E.1.2.1 E.2.1.1 (hp_one hat) 0 a rfl (hp_tys_at ha) hv hdg (kk ad H locs ls hG hx0 hl0 ⟨trivial, hst.2⟩ hS hl)
theorem hv_iast (E : hp_E p s m args meth c cc nL own Ts D cA B0) {a n : Nat} {t : hp_T} {i : Int32} {v : Int32} (hdg : decode cc pc = .ok (.iastore, 1)) (hk : hp_kd t.1 = .inr (a, n)) (ha : a < hp_na) (hty : hp_aty a = .int) (hi : vp_in i n)
    (kk : hp_V p l e R s m args below meth c Q D cA B0 nL ad0 x0 cells slots (hp_uI x t i.toNatClampNeg v) (pc + 1) lv rest) : hp_V p l e R s m args below meth c Q D cA B0 nL ad0 x0 cells slots x pc lv (aI v :: aI i :: aR t :: rest) := by
  intro ad H locs ls hG hx0 hl0 hst hS hl
  have ht : x.1 t = true := hst.2.2.1
  obtain ⟨hB, hat⟩ := hG.2.1 t ht
  rw [hp_cell_a hk] at hat
  have hy := hp_tys_at (cA := cA) ha
  rw [hty] at hat hy
  have hc0 : H[ad t]? = some (arrV (cA a) n (fun j => .int (x.2.1 t j))) := hat
  refine W.iast E.1.1 E.1.2.1 hc0 ((E.2.1.1.2 a _ hy).1 n _) (fun q => by cases q) (by rw [arrV_size]; exact hi) rfl rfl hdg fun H1 e z oq => ?_
  refine kk ad H1 _ ls (hG.put ht rfl (fun t' h => hp_cell_congr (by funext j; simp [hp_uI, h]) rfl (fun _ => rfl)) (fun k t' h => hG.2.2.2 t k t' ht h) (fun _ _ => rfl) ?_ z oq) hx0 hl0 hst.2.2.2 (hS.put z oq hB) hl
  rw [hp_cell_a hk, hty]
  show H1[ad t]? = some (vp_cell (cA a) (n, .inl ((hp_uI x t i.toNatClampNeg v).2.1 t)))
  rw [e, vp_cell_i, arrV_store]
  congr 2
  funext q
  by_cases hq : q = i.toNatClampNeg
  · subst hq
    simp [updV, hp_uI]
    try rfl
  · simp [updV, hp_uI, hq]
theorem hp_narw {v w : Int32} (h : vp_nar .boolean v = w) : narrow .boolean (.int v) = .int w := by
  rw [← h]; rfl
theorem hv_zast (E : hp_E p s m args meth c cc nL own Ts D cA B0) {a n : Nat} {t : hp_T} {i : Int32} {v : Int32} (hdg : decode cc pc = .ok (.bastore, 1)) (hk : hp_kd t.1 = .inr (a, n)) (ha : a < hp_na) (hty : hp_aty a = .boolean) (hi : vp_in i n) {w : Int32} (hw : vp_nar .boolean v = w)
    (kk : hp_V p l e R s m args below meth c Q D cA B0 nL ad0 x0 cells slots (hp_uI x t i.toNatClampNeg w) (pc + 1) lv rest) : hp_V p l e R s m args below meth c Q D cA B0 nL ad0 x0 cells slots x pc lv (aI v :: aI i :: aR t :: rest) := by
  intro ad H locs ls hG hx0 hl0 hst hS hl
  have ht : x.1 t = true := hst.2.2.1
  obtain ⟨hB, hat⟩ := hG.2.1 t ht
  rw [hp_cell_a hk] at hat
  have hy := hp_tys_at (cA := cA) ha
  rw [hty] at hat hy
  have hc0 : H[ad t]? = some (arrV (cA a) n (fun j => .int (x.2.1 t j))) := hat
  refine W.zast E.1.1 E.1.2.1 hc0 ((E.2.1.1.2 a _ hy).1 n _) (fun q => by cases q) (by rw [arrV_size]; exact hi) rfl rfl hdg fun H1 e z oq => ?_
  refine kk ad H1 _ ls (hG.put ht rfl (fun t' h => hp_cell_congr (by funext j; simp [hp_uI, h]) rfl (fun _ => rfl)) (fun k t' h => hG.2.2.2 t k t' ht h) (fun _ _ => rfl) ?_ z oq) hx0 hl0 hst.2.2.2 (hS.put z oq hB) hl
  rw [hp_cell_a hk, hty]
  show H1[ad t]? = some (vp_cell (cA a) (n, .inl ((hp_uI x t i.toNatClampNeg w).2.1 t)))
  rw [e, vp_cell_i, arrV_store]
  congr 2
  funext q
  by_cases hq : q = i.toNatClampNeg
  · subst hq
    simp [updV, hp_uI, hp_narw hw]
    try rfl
  · simp [updV, hp_uI, hq]
theorem hv_last (E : hp_E p s m args meth c cc nL own Ts D cA B0) {a n : Nat} {t : hp_T} {i : Int32} {v : Int64} (hdg : decode cc pc = .ok (.lastore, 1)) (hk : hp_kd t.1 = .inr (a, n)) (ha : a < hp_na) (hty : hp_aty a = .long) (hi : vp_in i n)
    (kk : hp_V p l e R s m args below meth c Q D cA B0 nL ad0 x0 cells slots (hp_uL x t i.toNatClampNeg v) (pc + 1) lv rest) : hp_V p l e R s m args below meth c Q D cA B0 nL ad0 x0 cells slots x pc lv (aL v :: aI i :: aR t :: rest) := by
  intro ad H locs ls hG hx0 hl0 hst hS hl
  have ht : x.1 t = true := hst.2.2.1
  obtain ⟨hB, hat⟩ := hG.2.1 t ht
  rw [hp_cell_a hk] at hat
  have hy := hp_tys_at (cA := cA) ha
  rw [hty] at hat hy
  have hc0 : H[ad t]? = some (arrV (cA a) n (fun j => .long (x.2.2.1 t j))) := hat
  refine W.last E.1.1 E.1.2.1 hc0 ((E.2.1.1.2 a _ hy).1 n _) (fun q => by cases q) (by rw [arrV_size]; exact hi) rfl rfl hdg fun H1 e z oq => ?_
  refine kk ad H1 _ ls (hG.put ht rfl (fun t' h => hp_cell_congr rfl (by funext j; simp [hp_uL, h]) (fun _ => rfl)) (fun k t' h => hG.2.2.2 t k t' ht h) (fun _ _ => rfl) ?_ z oq) hx0 hl0 hst.2.2.2 (hS.put z oq hB) hl
  rw [hp_cell_a hk, hty]
  show H1[ad t]? = some (vp_cell (cA a) (n, .inr (.inl ((hp_uL x t i.toNatClampNeg v).2.2.1 t))))
  rw [e, vp_cell_l, arrV_store]
  congr 2
  funext q
  by_cases hq : q = i.toNatClampNeg
  · subst hq
    simp [updV, hp_uL]
    try rfl
  · simp [updV, hp_uL, hq]
theorem hv_aast (E : hp_E p s m args meth c cc nL own Ts D cA B0) {a n ci : Nat} {sl : List Nat} {q : vw_C} {t t2 : hp_T} {i : Int32} (hdg : decode cc pc = .ok (.aastore, 1)) (hk : hp_kd t.1 = .inr (a, n)) (ha : a < hp_na) (hty : hp_aty a = .object q.1) (hk2 : hp_kd t2.1 = .inl (ci, sl)) (hc : vwCl[ci]? = some q) (hi : vp_in i n)
    (kk : hp_V p l e R s m args below meth c Q D cA B0 nL ad0 x0 cells slots (hp_uR x t i.toNatClampNeg (some t2)) (pc + 1) lv rest) : hp_V p l e R s m args below meth c Q D cA B0 nL ad0 x0 cells slots x pc lv (aR t2 :: aI i :: aR t :: rest) := by
  intro ad H locs ls hG hx0 hl0 hst hS hl
  have ht2 : x.1 t2 = true := hst.1
  have ht : x.1 t = true := hst.2.2.1
  obtain ⟨hB, hat⟩ := hG.2.1 t ht
  obtain ⟨-, hat2⟩ := hG.2.1 t2 ht2
  rw [hp_cell_a hk] at hat
  rw [hp_cell_o hk2] at hat2
  have hy := hp_tys_at (cA := cA) ha
  rw [hty] at hat hy
  have hc0 : H[ad t]? = some (arrV (cA a) n (fun j => va_rf ((x.2.2.2 t j).map ad))) := hat
  have hlt : i.toNatClampNeg < n := Nat.not_le.mp fun q => hi (Or.inr q)
  have h0 : ¬ i < 0 := fun q => hi (Or.inl q)
  obtain ⟨r', hr', cellV, g1, g2, g3, -⟩ := hat2
  have hcls := (E.2.1.1.1 ci q hc).2
  obtain ⟨kA, comp, k1, k2, k3, -⟩ := (E.2.1.1.2 a _ hy).2
  have hcomp : comp = D.1 ci := Option.some.inj (k3.symm.trans hcls.1)
  subst hcomp
  obtain ⟨kC, hkC, -⟩ := id hcls.2
  refine W.aast E.1.1 E.1.2.1 hc0 (fun q h => by cases h) (fun h => by cases h) k1 k2 rfl hkC ⟨h0, by rw [arrV_size]; exact hlt⟩ g1 (fun q h => by rw [g3] at h; cases h) (by rw [g2]; exact hkC) (by rw [g2]; exact va_assign hcls) rfl rfl hdg fun H1 e z oq => ?_
  refine kk ad H1 _ ls (hG.put ht rfl (fun t' h => hp_cell_congr rfl rfl (fun j => by simp [hp_uR, h])) (fun j t' h => ?_) (fun t' h => by funext j; simp [hp_uR, h]) ?_ z oq) hx0 hl0 hst.2.2.2 (hS.put z oq hB) hl
  · by_cases e9 : j = i.toNatClampNeg
    · simp [hp_uR, e9] at h
      rw [← h]; exact ht2
    · exact hG.2.2.2 t j t' ht (by simpa [hp_uR, e9] using h)
  · rw [hp_cell_a hk, hty]
    show H1[ad t]? = some (vp_cell (cA a) (n, .inr (.inr (.inr (.inr (fun j => ((hp_uR x t i.toNatClampNeg (some t2)).2.2.2 t j).map ad))))))
    rw [e, vp_cell_q, arrV_store]
    congr 2
    funext q
    by_cases hq : q = i.toNatClampNeg
    · subst hq
      simp [updV, hp_uR, va_rf]
    · simp [updV, hp_uR, hq]
/-- behind the making of a cell: what was there, and the new one -/
theorem hp_newK {ad : hp_T → Nat} {H H1 : Heap} {locs : List Loc} {ls : Array Slot} {t : hp_T} {st : List hp_A} {QQ : State → Prop} {cells' slots' pc' : Nat} (kk : ∀ (ad : hp_T → Nat) (H : Heap) (locs : List Loc) (ls : Array Slot), hp_H D cA B0 ad (hp_nw x t) H → (∀ t', x0.1 t' = true → (hp_nw x t).1 t' = true ∧ ad t' = ad0 t') → hp_okl (hp_nw x t).1 lv → hp_oks (hp_nw x t).1 (aR t :: st) → va_S (fun q => B0 ≤ q) s.heap H locs → lv_has ls nL (hp_cl ad lv) → W p l e R s m args below meth c H locs cells' slots' QQ (F0 m pc' ls ((aR t :: st).map (hp_c ad))))
    (ht : x.1 t = false) (hx0 : ∀ t', x0.1 t' = true → x.1 t' = true ∧ ad t' = ad0 t') (hl0 : hp_okl x.1 lv) (hst : hp_oks x.1 st) (hS : va_S (fun q => B0 ≤ q) s.heap H locs) (hl : lv_has ls nL (hp_cl ad lv)) (hG1 : hp_H D cA B0 (hp_ad ad t H.size) (hp_nw x t) H1) (z1 : H1.size = H.size + 1) (o1 : ∀ q : Nat, q < H.size → H1[q]? = H[q]?) :
    W p l e R s m args below meth c H1 locs cells' slots' QQ (F0 m pc' ls (.ref H.size :: st.map (hp_c ad))) := by
  have hmono : ∀ t', x.1 t' = true → (hp_nw x t).1 t' = true := fun t' h => by
    simp only [hp_nw]
    split
    · rfl
    · exact h
  have hne : ∀ t', x.1 t' = true → t' ≠ t := fun t' h' e => by rw [e, ht] at h'; cases h'
  have hsame : ∀ t', x.1 t' = true → hp_ad ad t H.size t' = ad t' := fun t' h => by simp [hp_ad, hne t' h]
  have w := kk (hp_ad ad t H.size) H1 locs ls hG1 (fun t' h => ⟨hmono t' (hx0 t' h).1, (hsame t' (hx0 t' h).1).trans (hx0 t' h).2⟩) (fun q hq => hp_ok_mono hmono (hl0 q hq)) ⟨by simp [hp_ok, hp_nw], hp_oks_mono hmono hst⟩
    ⟨Nat.le_trans hS.1 (by omega), fun y h1 h2 => (o1 y (Nat.lt_of_lt_of_le h1 hS.1)).trans (hS.2.1 y h1 h2), hS.2.2⟩ (by rw [hp_cl_same hsame hl0]; exact hl)
  rw [List.map_cons, hp_cs_same hsame hst] at w
  have e2 : hp_c (hp_ad ad t H.size) (aR t) = .ref H.size := by simp [hp_c, hp_ad, va_rf]
  rw [e2] at w
  exact w
theorem hv_new (E : hp_E p s m args meth c cc nL own Ts D cA B0) {ci index : Nat} {sl : List Nat} {C : String} {T : u_T} {N : Nat} (t : hp_T) (ty : Nat → FieldType) (hty : ∀ k, k < N → parseFieldDescriptor (T k).2.2.1 = some (ty k)) (hdg : decode cc pc = .ok (.new index, 3)) (hk : hp_kd t.1 = .inl (ci, sl)) (hc : vwCl[ci]? = some (C, T, N)) (hin : ∀ w ∈ u_ws C T N, w ∈ Ts) (hcl : Cond.classLink own index C ∈ Ts) (hinst : Cond.instantiable C N ∈ Ts) (hini : Cond.initialized C ∈ Ts) (hsl : ∀ j, j < N → defaultValue (ty j) = (match sl.getD j 0 with | 0 => .int 0 | 1 => .long 0 | _ => .null) ∧ j < sl.length) (ht : x.1 t = false) (hcells : cells + 1 ≤ R.cells) (hslots : slots + N ≤ R.slots)
    (kk : hp_V p l e R s m args below meth c Q D cA B0 nL ad0 x0 (cells + 1) (slots + N) (hp_nw x t) (pc + 3) lv (aR t :: rest)) : hp_V p l e R s m args below meth c Q D cA B0 nL ad0 x0 cells slots x pc lv rest := by
  intro ad H locs ls hG hx0 hl0 hst hS hl
  obtain ⟨hx, hb, hml, hown, hts⟩ := E.1
  have hKn := E.2.1.1.1 ci _ hc
  refine W.newcK hx hb hown (hts _ hcl) (hts _ hinst) (hts _ hini) rfl hdg hcells hslots hKn.2.1 rfl fun H1 kC hkC e1 z1 o1 => ?_
  refine hp_newK kk ht hx0 hl0 hst hS hl (hG.mk ht ?_ z1 o1) z1 o1
  rw [hp_cell_o hk]
  refine ⟨_, hc, (u_born ty hts hin hKn hkC e1 hty).to (fun j hj => ?_)⟩
  obtain ⟨h1, h2⟩ := hsl j hj
  show defaultValue (ty j) = (hp_fs _ _ _ _).getD j .null
  rw [List.getD_eq_getElem?_getD, hp_fs_get (c := sl.getD j 0) (by rw [List.getD_eq_getElem?_getD, List.getElem?_eq_getElem h2]; rfl), h1]
  match sl.getD j 0 with
  | 0 => simp [hp_val, hp_nw]
  | 1 => simp [hp_val, hp_nw]
  | n + 2 => simp [hp_val, hp_nw, va_rf]
theorem hv_newa (E : hp_E p s m args meth c cc nL own Ts D cA B0) {a n : Nat} {atype : ArrayType} {i : Int32} (t : hp_T) (hdg : decode cc pc = .ok (.newarray atype, 2)) (harr : Cond.arrayClass (newarray.typeOf atype) ∈ Ts) (hk : hp_kd t.1 = .inr (a, n)) (ha : a < hp_na) (hty : newarray.typeOf atype = hp_aty a) (hnf : ¬ atype = .float ∧ ¬ atype = .double) (hn : ¬ i < 0) (hN : i.toNatClampNeg = n) (hbytes : n * componentBytes (hp_aty a) ≤ 536870912) (ht : x.1 t = false) (hcells : cells + 1 ≤ R.cells) (hslots : slots + n ≤ R.slots)
    (kk : hp_V p l e R s m args below meth c Q D cA B0 nL ad0 x0 (cells + 1) (slots + n) (hp_nw x t) (pc + 2) lv (aR t :: rest)) : hp_V p l e R s m args below meth c Q D cA B0 nL ad0 x0 cells slots x pc lv (aI i :: rest) := by
  intro ad H locs ls hG hx0 hl0 hst hS hl
  obtain ⟨hx, hb, hml, hown, hts⟩ := E.1
  refine va_newaK hx hb (hts _ harr) rfl hdg rfl hn hN (by rw [hty]; exact hbytes) hcells hslots rfl fun H1 c0 e1 z1 o1 hAr hNm => ?_
  have hRA := (E.2.1.1.2 a _ (hp_tys_at ha)).2
  simp only [← hty] at hRA
  have ec : c0 = cA a := by
    cases atype <;> exact Option.some.inj (hNm.symm.trans hRA)
  subst ec
  refine hp_newK kk ht hx0 hl0 hst.2 hS hl (hG.mk ht ?_ z1 o1) z1 o1
  rw [hp_cell_a hk, ← hty]
  show H1[H.size]? = some (vp_cell _ _)
  rw [e1]
  cases atype <;> first | exact absurd rfl hnf.1 | exact absurd rfl hnf.2 | simp [newarray.typeOf, hp_bank, hp_arr, vp_cell, defaultValue, hp_nw]
theorem hv_newq (E : hp_E p s m args meth c cc nL own Ts D cA B0) {a n index : Nat} {C : String} {i : Int32} (t : hp_T) (hdg : decode cc pc = .ok (.anewarray index, 3)) (hcl : Cond.classLink own index C ∈ Ts) (hover : va_AO C s) (hk : hp_kd t.1 = .inr (a, n)) (ha : a < hp_na) (hty : hp_aty a = .object C) (hn : ¬ i < 0) (hN : i.toNatClampNeg = n) (hbytes : n * 4 ≤ 536870912) (ht : x.1 t = false) (hcells : cells + 1 ≤ R.cells) (hslots : slots + n ≤ R.slots)
    (kk : hp_V p l e R s m args below meth c Q D cA B0 nL ad0 x0 (cells + 1) (slots + n) (hp_nw x t) (pc + 3) lv (aR t :: rest)) : hp_V p l e R s m args below meth c Q D cA B0 nL ad0 x0 cells slots x pc lv (aI i :: rest) := by
  intro ad H locs ls hG hx0 hl0 hst hS hl
  obtain ⟨hx, hb, hml, hown, hts⟩ := E.1
  subst hN
  refine W.anew hx hb hown (hts _ hcl) (va_AO.use hover) rfl hdg rfl hn hbytes hcells hslots fun c0 kA comp f1 f2 f3 f4 => ?_
  have hRA := (E.2.1.1.2 a _ (hp_tys_at ha)).2
  simp only [hty] at hRA
  obtain ⟨_, _, _, _, _, f5⟩ := hRA
  have ec : c0 = cA a := Option.some.inj (f1.symm.trans f5)
  subst ec
  generalize hH1 : H.push ({ cls := cA a, slots := Array.replicate i.toNatClampNeg .null, vm := .none } : Cell) = H1
  have z1 : H1.size = H.size + 1 := by rw [← hH1, Array.size_push]
  have e1 : H1[H.size]? = some (arrV (cA a) i.toNatClampNeg (fun _ => .null)) := by rw [← hH1, Array.getElem?_push_size, ← arrV_new]
  have o1 : ∀ q : Nat, q < H.size → H1[q]? = H[q]? := fun q hq => by rw [← hH1, Array.getElem?_push, if_neg (Nat.ne_of_lt hq)]
  refine hp_newK kk ht hx0 hl0 hst.2 hS hl (hG.mk ht ?_ z1 o1) z1 o1
  rw [hp_cell_a hk, hty]
  show H1[H.size]? = some (vp_cell _ _)
  rw [e1]
  simp [hp_bank, hp_arr, vp_cell, hp_nw, va_rf]
theorem hp_sumcat {ad : hp_T → Nat} (l : List hp_A) : ((l.map (hp_c ad)).map fun v => v.category).sum = (l.map hp_cat).sum := by
  rw [List.map_map]
  congr 1
  apply List.map_congr_left
  intro v _
  exact hp_cat_eq ad v
theorem hv_objInit (E : hp_E p s m args meth c cc nL own Ts D cA B0) {idx : Nat} {t : hp_T} (hdg : decode cc pc = .ok (.invokespecial idx, 3)) (hlink : Cond.methodLink own idx Lib.objectInit ∈ Ts) (hinst : Cond.instanceMethod Lib.objectInit ∈ Ts) (hcode : Cond.code Lib.objectInit ⟨#[0xb1]⟩ 1 none ∈ Ts) (hframes : 1 ≤ R.frames) (hlocals : (rest.map hp_cat).sum + 12 ≤ R.locals)
    (kk : hp_V p l e R s m args below meth c Q D cA B0 nL ad0 x0 cells slots x (pc + 3) lv rest) : hp_V p l e R s m args below meth c Q D cA B0 nL ad0 x0 cells slots x pc lv (aR t :: rest) := by
  intro ad H locs ls hG hx0 hl0 hst hS hl
  obtain ⟨hx, hb, hml, hown, hts⟩ := E.1
  exact W.objInit hx hb hown (hts _ hlink) (hts _ hinst) (hts _ hcode) rfl (by rw [hml]; exact hl.1) rfl hdg hframes (by show 2 * 0 + _ + 12 ≤ _; rw [hp_sumcat]; omega) (kk ad H locs ls hG hx0 hl0 hst.2 hS hl)
theorem hv_iret (E : hp_E p s m args meth c cc nL own Ts D cA B0) {mc ms : Nat} {post : Option hp_A → hp_S → Prop} {v : Int32} (hr : meth.sig.returnType = some .int) (hdg : decode cc pc = .ok (.ireturn, 1)) (hc : cells ≤ mc) (hs : slots ≤ ms) (hp : post (some (aI v)) x) : hp_V p l e R s m args below meth c (fun ad0 => MQ below (hp_Q D cA B0 ad0 x0 post) args s mc ms (fun q => B0 ≤ q)) D cA B0 nL ad0 x0 cells slots x pc lv [aI v] := by
  intro ad H locs ls hG hx0 hl0 hst hS hl
  refine W.widen hc hs ?_
  exact W.iret E.1.1 E.1.2.1 hr (fun t ht hW => ⟨(some (aI v)), ad, x, rfl, hp, (by intro w h; cases h; trivial), hx0, by rw [ht]; exact hG, hp_K.warm hW E.2.1, hS.F ht⟩) hS.2.2 hdg E.2.2.1
theorem hv_zret (E : hp_E p s m args meth c cc nL own Ts D cA B0) {mc ms : Nat} {post : Option hp_A → hp_S → Prop} {v : Int32} (hr : meth.sig.returnType = some .boolean) (hdg : decode cc pc = .ok (.ireturn, 1)) (hv : narrow .boolean (.int v) = .int v) (hc : cells ≤ mc) (hs : slots ≤ ms) (hp : post (some (aI v)) x) : hp_V p l e R s m args below meth c (fun ad0 => MQ below (hp_Q D cA B0 ad0 x0 post) args s mc ms (fun q => B0 ≤ q)) D cA B0 nL ad0 x0 cells slots x pc lv [aI v] := by
  intro ad H locs ls hG hx0 hl0 hst hS hl
  refine W.widen hc hs ?_
  exact W.zret E.1.1 E.1.2.1 hr hv (fun t ht hW => ⟨(some (aI v)), ad, x, rfl, hp, (by intro w h; cases h; trivial), hx0, by rw [ht]; exact hG, hp_K.warm hW E.2.1, hS.F ht⟩) hS.2.2 hdg E.2.2.1
theorem hv_lret (E : hp_E p s m args meth c cc nL own Ts D cA B0) {mc ms : Nat} {post : Option hp_A → hp_S → Prop} {v : Int64} (hr : meth.sig.returnType = some .long) (hdg : decode cc pc = .ok (.lreturn, 1)) (hc : cells ≤ mc) (hs : slots ≤ ms) (hp : post (some (aL v)) x) : hp_V p l e R s m args below meth c (fun ad0 => MQ below (hp_Q D cA B0 ad0 x0 post) args s mc ms (fun q => B0 ≤ q)) D cA B0 nL ad0 x0 cells slots x pc lv [aL v] := by
  intro ad H locs ls hG hx0 hl0 hst hS hl
  refine W.widen hc hs ?_
  exact W.lret E.1.1 E.1.2.1 hr (fun t ht hW => ⟨(some (aL v)), ad, x, rfl, hp, (by intro w h; cases h; trivial), hx0, by rw [ht]; exact hG, hp_K.warm hW E.2.1, hS.F ht⟩) hS.2.2 hdg E.2.2.1
theorem hv_vret (E : hp_E p s m args meth c cc nL own Ts D cA B0) {mc ms : Nat} {post : Option hp_A → hp_S → Prop} (hr : meth.sig.returnType = none) (hdg : decode cc pc = .ok (.return_, 1)) (hc : cells ≤ mc) (hs : slots ≤ ms) (hp : post none x) : hp_V p l e R s m args below meth c (fun ad0 => MQ below (hp_Q D cA B0 ad0 x0 post) args s mc ms (fun q => B0 ≤ q)) D cA B0 nL ad0 x0 cells slots x pc lv [] := by
  intro ad H locs ls hG hx0 hl0 hst hS hl
  refine W.widen hc hs ?_
  exact W.vret E.1.1 E.1.2.1 hr (fun t ht hW => ⟨none, ad, x, rfl, hp, (by intro w h; cases h), hx0, by rw [ht]; exact hG, hp_K.warm hW E.2.1, hS.F ht⟩) hS.2.2 hdg E.2.2.1
/-- behind a call -/
theorem hp_call {mc ms : Nat} {post : Option hp_A → hp_S → Prop} {a : Array Value} {ad : hp_T → Nat} {st0 : List Value} {H : Heap} {locs : List Loc} {ls : Array Slot} (hr : va_Run p l e R s m args below meth c H locs cells slots mc ms (F0 m pc ls st0) (rest.map (hp_c ad)) (hp_Q D cA B0 ad x post a) (fun q => B0 ≤ q)) (hx0 : ∀ t, x0.1 t = true → x.1 t = true ∧ ad t = ad0 t) (hl0 : hp_okl x.1 lv) (hst : hp_oks x.1 rest) (hS : va_S (fun q => B0 ≤ q) s.heap H locs) (hl : lv_has ls nL (hp_cl ad lv))
    (kk : ∀ (v : Option hp_A) (x' : hp_S), post v x' → (∀ t, x.1 t = true → x'.1 t = true) → hp_V p l e R s m args below meth c Q D cA B0 nL ad0 x0 (cells + mc) (slots + ms) x' (pc + 3) lv (v.toList ++ rest)) : W p l e R s m args below meth c H locs cells slots (Q ad0) (F0 m pc ls st0) := by
  intro T hT X
  obtain ⟨v, st₀, t, T', L, h0, X', hL, e1, e2, ⟨v', ad', x', hv, hp, hvk, hx1, hG, hK, hz, hk⟩, st⟩ := hr T hT X
  cases hv
  rw [h0] at hz hk
  have hmono : ∀ t, x.1 t = true → x'.1 t = true := fun t h => (hx1 t h).1
  have hsame : ∀ t, x.1 t = true → ad' t = ad t := fun t h => (hx1 t h).2
  have w := kk v' x' hp hmono ad' T'.heap (locs ++ L) ls (by rw [e1]; exact hG) (fun t h => ⟨hmono t (hx0 t h).1, (hsame t (hx0 t h).1).trans (hx0 t h).2⟩) (fun q hq => hp_ok_mono hmono (hl0 q hq)) (by
      cases v' with
      | none => exact hp_oks_mono hmono hst
      | some w => exact ⟨hvk w rfl, hp_oks_mono hmono hst⟩)
    ⟨Nat.le_trans hS.1 (by rw [e1]; exact hz), fun q h1 h2 => by rw [e1, hk q (Nat.lt_of_lt_of_le h1 hS.1) h2]; exact hS.2.1 q h1 h2, fun q hq => by
      rcases List.mem_append.mp hq with h | h
      · exact hS.2.2 q h
      · exact hL q h⟩ (by rw [hp_cl_same hsame hl0]; exact hl)
  have e3 : (v'.toList ++ rest).map (hp_c ad') = (v'.map (hp_c ad')).toList ++ rest.map (hp_c ad) := by
    rw [List.map_append, hp_cs_same hsame hst]
    cases v' <;> rfl
  rw [e3] at w
  obtain ⟨t2, a1, b1⟩ := w T' rfl X'
  exact ⟨t2, st t2 a1, b1⟩
theorem hp_blind {av : List Value} {ad : hp_T → Nat} : FrameBlind (va_Pc av (fun U => hp_H D cA B0 ad x U.heap ∧ hp_K D cA U)) := fun a U g mk q => by
  obtain ⟨q0, q1, q2⟩ := q
  exact ⟨q0, q1, hp_K.same (u := U) (U := U.calling g mk a) rfl q2⟩
theorem hp_oks_app {y : hp_T → Bool} : ∀ {l r : List hp_A}, hp_oks y (l ++ r) → hp_oks y l ∧ hp_oks y r
  | [], _, h => ⟨trivial, h⟩
  | _ :: _, _, h => ⟨⟨h.1, (hp_oks_app h.2).1⟩, (hp_oks_app h.2).2⟩
theorem hp_oks_in {y : hp_T → Bool} : ∀ {l : List hp_A}, hp_oks y l ↔ ∀ v ∈ l, hp_ok y v
  | [] => ⟨fun _ v h => absurd h List.not_mem_nil, fun _ => trivial⟩
  | a :: r => ⟨fun h v hv => by
      rcases List.mem_cons.mp hv with e | e
      · rw [e]; exact h.1
      · exact hp_oks_in.mp h.2 v e, fun h => ⟨h a List.mem_cons_self, hp_oks_in.mpr (fun v hv => h v (List.mem_cons_of_mem _ hv))⟩⟩
theorem hp_oks_rev {y : hp_T → Bool} {l : List hp_A} (h : hp_oks y l.reverse) : hp_oks y l := hp_oks_in.mpr (fun v hv => hp_oks_in.mp h v (List.mem_reverse.mpr hv))
theorem hv_runV (E : hp_E p s m args meth c cc nL own Ts D cA B0) {y : MethodName} {bytes : ByteArray} {maxL mc ms n index : Nat} {ret : Option FieldType} {ws : List Cond} {rm : Room} {post : Option hp_A → hp_S → Prop} {st : List hp_A} (As : List hp_A) {t : hp_T} {ci : Nat} {sl : List Nat} {C : String} {T : u_T} {N : Nat} (hM : hp_C l y ws rm (aR t :: As) x post mc ms) (cw : CallW R s args own C index y bytes maxL ret ws rm mc ms n) (hk : hp_kd t.1 = .inl (ci, sl)) (hc : vwCl[ci]? = some (C, T, N)) (hn : As.length = n) (hst0 : st = As.reverse ++ aR t :: rest) (hW : (rest.map hp_cat).sum ≤ 8) (hdg : decode cc pc = .ok (.invokevirtual index, 3)) (hf : cells + mc ≤ R.cells ∧ slots + ms ≤ R.slots)
    (kk : ∀ (v : Option hp_A) (x' : hp_S), post v x' → (∀ t, x.1 t = true → x'.1 t = true) → hp_V p l e R s m args below meth c Q D cA B0 nL ad0 x0 (cells + mc) (slots + ms) x' (pc + 3) lv (v.toList ++ rest)) : hp_V p l e R s m args below meth c Q D cA B0 nL ad0 x0 cells slots x pc lv st := by
  intro ad H locs ls hG hx0 hl0 hst hS hl
  subst hst0
  have hsa := (hp_oks_app hst).1
  have hsb := (hp_oks_app hst).2
  have hoks : hp_oks x.1 (aR t :: As) := ⟨hsb.1, hp_oks_rev hsa⟩
  have hat := (hG.2.1 t hsb.1).2
  rw [hp_cell_o hk] at hat
  refine hp_call (rest := rest) (ad := ad) (va_runV (As := As.map (hp_c ad)) (rest := rest.map (hp_c ad)) (b := ad t) E.1 (hM D cA B0 ad hoks) cw ⟨hp_blind, va_recv E.2.1.1 (hp_one hat) (ci := ci) (q0 := 0) hc rfl, fun U hU hW => ⟨rfl, by rw [hU]; exact hG, hp_K.warm hW E.2.1⟩⟩ rfl (by rw [List.length_map]; exact hn) hl.1 (by simp [hp_c, va_rf]) (lv_room (by rw [hp_sumcat]; exact hW)) hdg hf) hx0 hl0 hsb.2 hS hl kk
theorem hv_runS (E : hp_E p s m args meth c cc nL own Ts D cA B0) {y : MethodName} {bytes : ByteArray} {maxL mc ms n index : Nat} {ret : Option FieldType} {ws : List Cond} {rm : Room} {post : Option hp_A → hp_S → Prop} {st : List hp_A} (As : List hp_A) (hM : hp_C l y ws rm As x post mc ms) (cw : CallB R s args own index y bytes maxL ret ws rm mc ms n ∧ (Cond.static y).before args s = true) (hn : As.length = n) (hst0 : st = As.reverse ++ rest) (hW : (rest.map hp_cat).sum ≤ 8) (hdg : decode cc pc = .ok (.invokestatic index, 3)) (hf : cells + mc ≤ R.cells ∧ slots + ms ≤ R.slots)
    (kk : ∀ (v : Option hp_A) (x' : hp_S), post v x' → (∀ t, x.1 t = true → x'.1 t = true) → hp_V p l e R s m args below meth c Q D cA B0 nL ad0 x0 (cells + mc) (slots + ms) x' (pc + 3) lv (v.toList ++ rest)) : hp_V p l e R s m args below meth c Q D cA B0 nL ad0 x0 cells slots x pc lv st := by
  intro ad H locs ls hG hx0 hl0 hst hS hl
  subst hst0
  have hsa := (hp_oks_app hst).1
  have hsb := (hp_oks_app hst).2
  refine hp_call (rest := rest) (ad := ad) (va_runS (As := As.map (hp_c ad)) (rest := rest.map (hp_c ad)) E.1 (hM D cA B0 ad (hp_oks_rev hsa)) cw ⟨hp_blind, fun U hU hW => ⟨rfl, by rw [hU]; exact hG, hp_K.warm hW E.2.1⟩⟩ rfl (by rw [List.length_map]; exact hn) hl.1 (by simp [hp_c, va_rf]) (lv_room (by rw [hp_sumcat]; exact hW)) hdg hf) hx0 hl0 hsb hS hl kk
theorem hv_runI (E : hp_E p s m args meth c cc nL own Ts D cA B0) {y : MethodName} {bytes : ByteArray} {maxL mc ms n index : Nat} {ws : List Cond} {rm : Room} {post : Option hp_A → hp_S → Prop} {st : List hp_A} (As : List hp_A) {t : hp_T} (hM : hp_C l y ws rm (aR t :: As) x post mc ms) (cw : CallB R s args own index y bytes maxL none ws rm mc ms n ∧ y.name = "<init>" ∧ (Cond.instanceMethod y).before args s = true) (hn : As.length = n) (hst0 : st = As.reverse ++ aR t :: rest) (hW : (rest.map hp_cat).sum ≤ 8) (hdg : decode cc pc = .ok (.invokespecial index, 3)) (hf : cells + mc ≤ R.cells ∧ slots + ms ≤ R.slots)
    (kk : ∀ (v : Option hp_A) (x' : hp_S), post v x' → (∀ t, x.1 t = true → x'.1 t = true) → hp_V p l e R s m args below meth c Q D cA B0 nL ad0 x0 (cells + mc) (slots + ms) x' (pc + 3) lv (v.toList ++ rest)) : hp_V p l e R s m args below meth c Q D cA B0 nL ad0 x0 cells slots x pc lv st := by
  intro ad H locs ls hG hx0 hl0 hst hS hl
  subst hst0
  have hsa := (hp_oks_app hst).1
  have hsb := (hp_oks_app hst).2
  have hoks : hp_oks x.1 (aR t :: As) := ⟨hsb.1, hp_oks_rev hsa⟩
  refine hp_call (rest := rest) (ad := ad) (va_runI (As := As.map (hp_c ad)) (rest := rest.map (hp_c ad)) (b := ad t) E.1 (hM D cA B0 ad hoks) cw ⟨hp_blind, fun U hU hW => ⟨rfl, by rw [hU]; exact hG, hp_K.warm hW E.2.1⟩⟩ rfl (by rw [List.length_map]; exact hn) hl.1 (by simp [hp_c, va_rf]) (lv_room (by rw [hp_sumcat]; exact hW)) hdg hf) hx0 hl0 hsb.2 hS hl kk
theorem hv_runIN (E : hp_E p s m args meth c cc nL own Ts D cA B0) {y : MethodName} {bytes : ByteArray} {maxL mc ms n index : Nat} {ws : List Cond} {rm : Room} {post : Option hp_A → hp_S → Prop} {st : List hp_A} (As : List hp_A) {t : hp_T} {host : String} (hM : hp_C l y ws rm (aR t :: As) x post mc ms) (cw : va_CN R s args own index y host bytes maxL none ws rm mc ms n ∧ y.name = "<init>" ∧ (Cond.instanceMethod y).before args s = true) (hn : As.length = n) (hst0 : st = As.reverse ++ aR t :: rest) (hW : (rest.map hp_cat).sum ≤ 8) (hdg : decode cc pc = .ok (.invokespecial index, 3)) (hf : cells + mc ≤ R.cells ∧ slots + ms ≤ R.slots)
    (kk : ∀ (v : Option hp_A) (x' : hp_S), post v x' → (∀ t, x.1 t = true → x'.1 t = true) → hp_V p l e R s m args below meth c Q D cA B0 nL ad0 x0 (cells + mc) (slots + ms) x' (pc + 3) lv (v.toList ++ rest)) : hp_V p l e R s m args below meth c Q D cA B0 nL ad0 x0 cells slots x pc lv st := by
  intro ad H locs ls hG hx0 hl0 hst hS hl
  subst hst0
  have hsa := (hp_oks_app hst).1
  have hsb := (hp_oks_app hst).2
  have hoks : hp_oks x.1 (aR t :: As) := ⟨hsb.1, hp_oks_rev hsa⟩
  refine hp_call (rest := rest) (ad := ad) (va_runIN (As := As.map (hp_c ad)) (rest := rest.map (hp_c ad)) (b := ad t) E.1 (hM D cA B0 ad hoks) cw ⟨hp_blind, fun U hU hW => ⟨rfl, by rw [hU]; exact hG, hp_K.warm hW E.2.1⟩⟩ rfl (by rw [List.length_map]; exact hn) hl.1 (by simp [hp_c, va_rf]) (lv_room (by rw [hp_sumcat]; exact hW)) hdg hf) hx0 hl0 hsb.2 hS hl kk
theorem hv_maxl (E : hp_E p s m args meth c cc nL own Ts D cA B0) {index : Nat} {a b : Int64} (hdg : decode cc pc = .ok (.invokestatic index, 3)) (hlink : Cond.methodLink own index Lib.MathLoose.max_long.x ∈ Ts) (hstat : Cond.static Lib.MathLoose.max_long.x ∈ Ts) (hini : Cond.initialized "java/lang/Math" ∈ Ts) (hcode : Cond.code Lib.MathLoose.max_long.x Lib.MathLoose.max_long.code 4 (some .long) ∈ Ts) (hframes : 1 ≤ R.frames) (hlocals : (rest.map hp_cat).sum + 15 ≤ R.locals) (hc : cells ≤ R.cells) (hs : slots ≤ R.slots)
    (kk : hp_V p l e R s m args below meth c Q D cA B0 nL ad0 x0 cells slots x (pc + 3) lv (aL (if b < a then a else b) :: rest)) : hp_V p l e R s m args below meth c Q D cA B0 nL ad0 x0 cells slots x pc lv (aL b :: aL a :: rest) := by
  intro ad H locs ls hG hx0 hl0 hst hS hl
  obtain ⟨hx, hb, hml, hown, hts⟩ := E.1
  exact va_mmax_long hx hb (by rw [hml]; exact hl.1.symm) hown (hts _ hlink) (hts _ hstat) (hts _ hini) (hts _ hcode) hframes (by rw [hp_sumcat]; exact hlocals) hc hs hdg (kk ad H locs ls hG hx0 hl0 ⟨trivial, hst.2.2⟩ hS hl)
theorem hv_VI (E : hp_E p s m args meth c cc nL own Ts D cA B0) {y : MethodName} {bytes : ByteArray} {maxL mc ms n index : Nat} {ret : Option FieldType} {ws : List Cond} {rm : Room} {P : Int32 → hp_S → Prop} {st : List hp_A} (As : List hp_A) {t : hp_T} {ci : Nat} {sl : List Nat} {C : String} {T : u_T} {N : Nat} (hM : hp_C l y ws rm (aR t :: As) x (hp_pI P) mc ms) (cw : CallW R s args own C index y bytes maxL ret ws rm mc ms n) (hk : hp_kd t.1 = .inl (ci, sl)) (hc : vwCl[ci]? = some (C, T, N)) (hn : As.length = n) (hst0 : st = As.reverse ++ aR t :: rest) (hW : (rest.map hp_cat).sum ≤ 8) (hdg : decode cc pc = .ok (.invokevirtual index, 3)) (hf : cells + mc ≤ R.cells ∧ slots + ms ≤ R.slots)
    (kk : ∀ (r : Int32) (x' : hp_S), hp_sh x' → P r x' → hp_V p l e R s m args below meth c Q D cA B0 nL ad0 x0 (cells + mc) (slots + ms) x' (pc + 3) lv (aI r :: rest)) : hp_V p l e R s m args below meth c Q D cA B0 nL ad0 x0 cells slots x pc lv st := by
  refine hv_runV E As hM cw hk hc hn hst0 hW hdg hf ?_
  rintro v x' hp -
  obtain ⟨r, rfl, h1, h2⟩ := hp
  exact kk r x' h1 h2
theorem hv_VL (E : hp_E p s m args meth c cc nL own Ts D cA B0) {y : MethodName} {bytes : ByteArray} {maxL mc ms n index : Nat} {ret : Option FieldType} {ws : List Cond} {rm : Room} {P : Int64 → hp_S → Prop} {st : List hp_A} (As : List hp_A) {t : hp_T} {ci : Nat} {sl : List Nat} {C : String} {T : u_T} {N : Nat} (hM : hp_C l y ws rm (aR t :: As) x (hp_pL P) mc ms) (cw : CallW R s args own C index y bytes maxL ret ws rm mc ms n) (hk : hp_kd t.1 = .inl (ci, sl)) (hc : vwCl[ci]? = some (C, T, N)) (hn : As.length = n) (hst0 : st = As.reverse ++ aR t :: rest) (hW : (rest.map hp_cat).sum ≤ 8) (hdg : decode cc pc = .ok (.invokevirtual index, 3)) (hf : cells + mc ≤ R.cells ∧ slots + ms ≤ R.slots)
    (kk : ∀ (r : Int64) (x' : hp_S), hp_sh x' → P r x' → hp_V p l e R s m args below meth c Q D cA B0 nL ad0 x0 (cells + mc) (slots + ms) x' (pc + 3) lv (aL r :: rest)) : hp_V p l e R s m args below meth c Q D cA B0 nL ad0 x0 cells slots x pc lv st := by
  refine hv_runV E As hM cw hk hc hn hst0 hW hdg hf ?_
  rintro v x' hp -
  obtain ⟨r, rfl, h1, h2⟩ := hp
  exact kk r x' h1 h2
theorem hv_VV (E : hp_E p s m args meth c cc nL own Ts D cA B0) {y : MethodName} {bytes : ByteArray} {maxL mc ms n index : Nat} {ret : Option FieldType} {ws : List Cond} {rm : Room} {P : hp_S → Prop} {st : List hp_A} (As : List hp_A) {t : hp_T} {ci : Nat} {sl : List Nat} {C : String} {T : u_T} {N : Nat} (hM : hp_C l y ws rm (aR t :: As) x (hp_pV P) mc ms) (cw : CallW R s args own C index y bytes maxL ret ws rm mc ms n) (hk : hp_kd t.1 = .inl (ci, sl)) (hc : vwCl[ci]? = some (C, T, N)) (hn : As.length = n) (hst0 : st = As.reverse ++ aR t :: rest) (hW : (rest.map hp_cat).sum ≤ 8) (hdg : decode cc pc = .ok (.invokevirtual index, 3)) (hf : cells + mc ≤ R.cells ∧ slots + ms ≤ R.slots)
    (kk : ∀ (x' : hp_S), hp_sh x' → P x' → hp_V p l e R s m args below meth c Q D cA B0 nL ad0 x0 (cells + mc) (slots + ms) x' (pc + 3) lv rest) : hp_V p l e R s m args below meth c Q D cA B0 nL ad0 x0 cells slots x pc lv st := by
  refine hv_runV E As hM cw hk hc hn hst0 hW hdg hf ?_
  rintro v x' hp -
  obtain ⟨rfl, h1, h2⟩ := hp
  exact kk x' h1 h2
theorem hv_SI (E : hp_E p s m args meth c cc nL own Ts D cA B0) {y : MethodName} {bytes : ByteArray} {maxL mc ms n index : Nat} {ret : Option FieldType} {ws : List Cond} {rm : Room} {P : Int32 → hp_S → Prop} {st : List hp_A} (As : List hp_A)  (hM : hp_C l y ws rm (As) x (hp_pI P) mc ms) (cw : CallB R s args own index y bytes maxL ret ws rm mc ms n ∧ (Cond.static y).before args s = true) (hn : As.length = n) (hst0 : st = As.reverse ++ rest) (hW : (rest.map hp_cat).sum ≤ 8) (hdg : decode cc pc = .ok (.invokestatic index, 3)) (hf : cells + mc ≤ R.cells ∧ slots + ms ≤ R.slots)
    (kk : ∀ (r : Int32) (x' : hp_S), hp_sh x' → P r x' → hp_V p l e R s m args below meth c Q D cA B0 nL ad0 x0 (cells + mc) (slots + ms) x' (pc + 3) lv (aI r :: rest)) : hp_V p l e R s m args below meth c Q D cA B0 nL ad0 x0 cells slots x pc lv st := by
  refine hv_runS E As hM cw hn hst0 hW hdg hf ?_
  rintro v x' hp -
  obtain ⟨r, rfl, h1, h2⟩ := hp
  exact kk r x' h1 h2
theorem hv_SL (E : hp_E p s m args meth c cc nL own Ts D cA B0) {y : MethodName} {bytes : ByteArray} {maxL mc ms n index : Nat} {ret : Option FieldType} {ws : List Cond} {rm : Room} {P : Int64 → hp_S → Prop} {st : List hp_A} (As : List hp_A)  (hM : hp_C l y ws rm (As) x (hp_pL P) mc ms) (cw : CallB R s args own index y bytes maxL ret ws rm mc ms n ∧ (Cond.static y).before args s = true) (hn : As.length = n) (hst0 : st = As.reverse ++ rest) (hW : (rest.map hp_cat).sum ≤ 8) (hdg : decode cc pc = .ok (.invokestatic index, 3)) (hf : cells + mc ≤ R.cells ∧ slots + ms ≤ R.slots)
    (kk : ∀ (r : Int64) (x' : hp_S), hp_sh x' → P r x' → hp_V p l e R s m args below meth c Q D cA B0 nL ad0 x0 (cells + mc) (slots + ms) x' (pc + 3) lv (aL r :: rest)) : hp_V p l e R s m args below meth c Q D cA B0 nL ad0 x0 cells slots x pc lv st := by
  refine hv_runS E As hM cw hn hst0 hW hdg hf ?_
  rintro v x' hp -
  obtain ⟨r, rfl, h1, h2⟩ := hp
  exact kk r x' h1 h2
theorem hv_SV (E : hp_E p s m args meth c cc nL own Ts D cA B0) {y : MethodName} {bytes : ByteArray} {maxL mc ms n index : Nat} {ret : Option FieldType} {ws : List Cond} {rm : Room} {P : hp_S → Prop} {st : List hp_A} (As : List hp_A)  (hM : hp_C l y ws rm (As) x (hp_pV P) mc ms) (cw : CallB R s args own index y bytes maxL ret ws rm mc ms n ∧ (Cond.static y).before args s = true) (hn : As.length = n) (hst0 : st = As.reverse ++ rest) (hW : (rest.map hp_cat).sum ≤ 8) (hdg : decode cc pc = .ok (.invokestatic index, 3)) (hf : cells + mc ≤ R.cells ∧ slots + ms ≤ R.slots)
    (kk : ∀ (x' : hp_S), hp_sh x' → P x' → hp_V p l e R s m args below meth c Q D cA B0 nL ad0 x0 (cells + mc) (slots + ms) x' (pc + 3) lv rest) : hp_V p l e R s m args below meth c Q D cA B0 nL ad0 x0 cells slots x pc lv st := by
  refine hv_runS E As hM cw hn hst0 hW hdg hf ?_
  rintro v x' hp -
  obtain ⟨rfl, h1, h2⟩ := hp
  exact kk x' h1 h2
theorem hp_cwV {own C : String} {index maxL mc ms : Nat} {y : MethodName} {bytes : ByteArray} {ret : Option FieldType} {rm : Room} (n : Nat) (E : hp_E p s m args meth c cc nL own hp_ws D cA B0) (h1 : Cond.methodLink own index y ∈ hp_ws) (h2 : Cond.instanceMethod y ∈ hp_ws) (h3 : Cond.selects C y y ∈ hp_ws) (h4 : Cond.initialized C ∈ hp_ws) (h5 : Cond.code y bytes maxL ret ∈ hp_ws) (hrc : rm.cells = mc) (hrs : rm.slots = ms) (hd : y.cls = C ∧ y.cls ≠ "java/lang/invoke/MethodHandle" ∧ y.cls ≠ "java/lang/invoke/VarHandle" ∧ (parseMethodDescriptor y.desc).map (fun d => d.parameters.length) = some n) (hR : rm.frames + 1 ≤ R.frames ∧ 8 + (maxL + 11) + rm.locals ≤ R.locals) : CallW R s args own C index y bytes maxL ret (Cond.code y bytes maxL ret :: hp_ws) rm mc ms n := by
  refine cwV n E.1.2.2.2.2 (fun w hw => ?_) rfl hrc hrs hd hR
  simp only [wsV, List.mem_append, List.mem_cons, List.not_mem_nil, or_false] at hw
  rcases hw with (rfl | rfl | rfl | rfl) | rfl | hw
  · exact hp_ws_good _ h1
  · exact hp_ws_good _ h2
  · exact hp_ws_good _ h3
  · exact hp_ws_good _ h4
  · exact hp_ws_good _ h5
  · exact hp_ws_good _ hw
theorem hp_cwI {own : String} {index maxL mc ms : Nat} {y : MethodName} {bytes : ByteArray} {rm : Room} (n : Nat) (E : hp_E p s m args meth c cc nL own hp_ws D cA B0) (h1 : Cond.methodLink own index y ∈ hp_ws) (h2 : Cond.instanceMethod y ∈ hp_ws) (h4 : Cond.initialized y.cls ∈ hp_ws) (h5 : Cond.code y bytes maxL none ∈ hp_ws) (hrc : rm.cells = mc) (hrs : rm.slots = ms) (hy : y.name = "<init>") (hd : y.cls ≠ "java/lang/invoke/MethodHandle" ∧ y.cls ≠ "java/lang/invoke/VarHandle" ∧ (parseMethodDescriptor y.desc).map (fun d => d.parameters.length) = some n) (hR : rm.frames + 1 ≤ R.frames ∧ 8 + (maxL + 11) + rm.locals ≤ R.locals) : CallB R s args own index y bytes maxL none (Cond.code y bytes maxL none :: hp_ws) rm mc ms n ∧ y.name = "<init>" ∧ (Cond.instanceMethod y).before args s = true := by
  refine cwI n E.1.2.2.2.2 (fun w hw => ?_) rfl hrc hrs (E.1.2.2.2.2 _ h4) (E.1.2.2.2.2 _ h1) (E.1.2.2.2.2 _ h2) hy hd hR
  rcases List.mem_cons.mp hw with rfl | hw
  · exact hp_ws_good _ h5
  · exact hp_ws_good _ hw
theorem hp_cwN {own host : String} {index maxL mc ms : Nat} {y : MethodName} {bytes : ByteArray} {rm : Room} (n : Nat) (E : hp_E p s m args meth c cc nL own hp_ws D cA B0) (h1 : va_Nw (.methodLinkNest own index y host) s) (h2 : Cond.instanceMethod y ∈ hp_ws) (h4 : Cond.initialized y.cls ∈ hp_ws) (h5 : Cond.code y bytes maxL none ∈ hp_ws) (hrc : rm.cells = mc) (hrs : rm.slots = ms) (hy : y.name = "<init>") (hd : y.cls ≠ "java/lang/invoke/MethodHandle" ∧ y.cls ≠ "java/lang/invoke/VarHandle" ∧ (parseMethodDescriptor y.desc).map (fun d => d.parameters.length) = some n) (hR : rm.frames + 1 ≤ R.frames ∧ 8 + (maxL + 11) + rm.locals ≤ R.locals) : va_CN R s args own index y host bytes maxL none (Cond.code y bytes maxL none :: hp_ws) rm mc ms n ∧ y.name = "<init>" ∧ (Cond.instanceMethod y).before args s = true := by
  refine ⟨va_cnB n E.1.2.2.2.2 (fun w hw => ?_) rfl hrc hrs h1 (E.1.2.2.2.2 _ h4) hd hR, hy, E.1.2.2.2.2 _ h2⟩
  rcases List.mem_cons.mp hw with rfl | hw
  · exact hp_ws_good _ h5
  · exact hp_ws_good _ hw
end HV
