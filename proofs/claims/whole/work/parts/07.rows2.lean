section HV2
variable {p : Program} {l : Launch} {e : Env} {R : Room} {s : State} {m : MethodId} {args : Array Value} {below : List Frame} {meth : Method} {c : Code} {Q : (hp_T → Nat) → State → Prop} {D : va_G} {cA : Nat → ClassId} {B0 nL cells slots : Nat} {ad0 : hp_T → Nat} {x0 x : hp_S} {lv : List (Nat × hp_A)}
variable {cc : ByteArray} {own : String} {Ts : List Cond} {pc : Nat} {rest : List hp_A}
theorem hv_I0 (E : hp_E p s m args meth c cc nL own Ts D cA B0) {y : MethodName} {bytes : ByteArray} {maxL mc ms n index : Nat} {ws : List Cond} {rm : Room} {P : hp_S → Prop} {st : List hp_A} (As : List hp_A) {t : hp_T} (hM : hp_C l y ws rm (aR t :: As) x (hp_p0 P) mc ms) (cw : CallB R s args own index y bytes maxL none ws rm mc ms n ∧ y.name = "<init>" ∧ (Cond.instanceMethod y).before args s = true) (hn : As.length = n) (hst0 : st = As.reverse ++ aR t :: rest) (hW : (rest.map hp_cat).sum ≤ 8) (hdg : decode cc pc = .ok (.invokespecial index, 3)) (hf : cells + mc ≤ R.cells ∧ slots + ms ≤ R.slots)
    (kk : ∀ x' : hp_S, P x' → hp_V p l e R s m args below meth c Q D cA B0 nL ad0 x0 (cells + mc) (slots + ms) x' (pc + 3) lv rest) : hp_V p l e R s m args below meth c Q D cA B0 nL ad0 x0 cells slots x pc lv st := by
  refine hv_runI E As hM cw hn hst0 hW hdg hf ?_
  rintro v x' ⟨rfl, hp⟩ -
  exact kk x' hp
theorem hv_N0 (E : hp_E p s m args meth c cc nL own Ts D cA B0) {y : MethodName} {bytes : ByteArray} {maxL mc ms n index : Nat} {ws : List Cond} {rm : Room} {P : hp_S → Prop} {st : List hp_A} (As : List hp_A) {t : hp_T} {host : String} (hM : hp_C l y ws rm (aR t :: As) x (hp_p0 P) mc ms) (cw : va_CN R s args own index y host bytes maxL none ws rm mc ms n ∧ y.name = "<init>" ∧ (Cond.instanceMethod y).before args s = true) (hn : As.length = n) (hst0 : st = As.reverse ++ aR t :: rest) (hW : (rest.map hp_cat).sum ≤ 8) (hdg : decode cc pc = .ok (.invokespecial index, 3)) (hf : cells + mc ≤ R.cells ∧ slots + ms ≤ R.slots)
    (kk : ∀ x' : hp_S, P x' → hp_V p l e R s m args below meth c Q D cA B0 nL ad0 x0 (cells + mc) (slots + ms) x' (pc + 3) lv rest) : hp_V p l e R s m args below meth c Q D cA B0 nL ad0 x0 cells slots x pc lv st := by
  refine hv_runIN E As hM cw hn hst0 hW hdg hf ?_
  rintro v x' ⟨rfl, hp⟩ -
  exact kk x' hp
theorem hv_astore_nN (E : hp_E p s m args meth c cc nL own Ts D cA B0) {n : Fin 4} {i : Nat} {lv' : List (Nat × hp_A)} (hdg : decode cc pc = .ok (.astore_n n, 1)) (hi : (n : Nat) = i) (hn : i < nL) (hf : hp_f1 i lv = lv') (k : hp_V p l e R s m args below meth c Q D cA B0 nL ad0 x0 cells slots x (pc + 1) ((i, aN) :: lv') rest) : hp_V p l e R s m args below meth c Q D cA B0 nL ad0 x0 cells slots x pc lv (aN :: rest) := fun ad H locs ls hG hx0 hl0 hst hS hl => lv_astore_nN E.1.1 E.1.2.1 hdg hi hl hn rfl (fun ls2 h2 => k ad H locs ls2 hG hx0 (hp_okl_cons trivial (by rw [← hf]; exact hp_f1_ok hl0)) hst.2 hS (by rw [hp_f1_cl, hf] at h2; exact h2))
theorem hv_aload_nN (E : hp_E p s m args meth c cc nL own Ts D cA B0) {n : Fin 4} {i : Nat} (hdg : decode cc pc = .ok (.aload_n n, 1)) (hi : (n : Nat) = i) (j : Nat) (hj : lv[j]? = some (i, aN)) (k : hp_V p l e R s m args below meth c Q D cA B0 nL ad0 x0 cells slots x (pc + 1) lv (aN :: rest)) : hp_V p l e R s m args below meth c Q D cA B0 nL ad0 x0 cells slots x pc lv rest := fun ad H locs ls hG hx0 hl0 hst hS hl => lv_aload_nN E.1.1 E.1.2.1 hdg hi (lv_at hl j (hp_cl_at hj)) (k ad H locs ls hG hx0 hl0 ⟨trivial, hst⟩ hS hl)
theorem hv_copyl (E : hp_E p s m args meth c cc nL own Ts D cA B0) {a n index : Nat} {t t2 : hp_T} {w : Int32} (hdg : decode cc pc = .ok (.invokestatic index, 3)) (hlink : Cond.methodLink own index arraycopyName ∈ Ts) (hnat : Cond.native arraycopyName ∈ Ts) (hstat : Cond.static arraycopyName ∈ Ts) (hini : Cond.initialized "java/lang/System" ∈ Ts) (hk : hp_kd t.1 = .inr (a, n)) (hk2 : hp_kd t2.1 = .inr (a, n)) (ha : a < hp_na) (hty : hp_aty a = .long) (hw : ¬ w < 0) (hwn : w.toNatClampNeg = n) (hframes : 1 ≤ R.frames) (hlocals : (rest.map hp_cat).sum + (nativeFrameWords "java/lang/System" "arraycopy" 5 + 11) ≤ R.locals)
    (kk : hp_V p l e R s m args below meth c Q D cA B0 nL ad0 x0 cells slots (hp_wL x t2 (va_cpy (x.2.2.1 t) (x.2.2.1 t2) 0 0 n)) (pc + 3) lv rest) : hp_V p l e R s m args below meth c Q D cA B0 nL ad0 x0 cells slots x pc lv (aI w :: aI (nI 0) :: aR t2 :: aI (nI 0) :: aR t :: rest) := by
  intro ad H locs ls hG hx0 hl0 hst hS hl
  obtain ⟨hx, hb, hml, hown, hts⟩ := E.1
  have ht2 : x.1 t2 = true := hst.2.2.1
  have ht : x.1 t = true := hst.2.2.2.2.1
  obtain ⟨-, hat⟩ := hG.2.1 t ht
  obtain ⟨hB2, hat2⟩ := hG.2.1 t2 ht2
  have hy := hp_tys_at (cA := cA) ha
  rw [hp_cell_a hk] at hat
  rw [hp_cell_a hk2] at hat2
  rw [hty] at hat hat2 hy
  have hc0 : H[ad t]? = some (vp_cell (cA a) (n, .inr (.inl (x.2.2.1 t)))) := hat
  have hc1 : H[ad t2]? = some (vp_cell (cA a) (n, .inr (.inl (x.2.2.1 t2)))) := hat2
  have z0 : (nI 0).toNatClampNeg = 0 := by decide
  have z1 : (nI 0).toInt = 0 := by decide
  have zw : w.toInt = (n : Int) := by
    have hz0 : (0 : Int) ≤ w.toInt := by
      have := Int32.not_lt.mp hw
      simpa using Int32.le_iff_toInt_le.mp this
    have h2 : w.toInt.toNat = n := hwn
    omega
  intro T hT X
  obtain ⟨-, k0, hk0, cm0, hkk0⟩ := (E.2.1.1.2 a _ hy).1 n (fun j => .long (x.2.2.1 t j))
  obtain ⟨-, k1, hk1, cm1, hkk1⟩ := (E.2.1.1.2 a _ hy).1 n (fun j => .long (x.2.2.1 t2 j))
  obtain ⟨vm', X', step⟩ := X.arraycopy hx hown (hts _ hlink) (hts _ hnat) (hts _ hstat) (hts _ hini) (src := ad t) (dst := ad t2) (cs := vp_cell (cA a) (n, .inr (.inl (x.2.2.1 t)))) (cd := vp_cell (cA a) (n, .inr (.inl (x.2.2.1 t2)))) (srcPos := nI 0) (destPos := nI 0) (n := w) (by rw [hT]; exact hc0) (by rw [hT]; exact hc1)
    (fun _ h => by cases h) (fun _ h => by cases h) (fun h => by cases h) (fun h => by cases h) hk0 hk1 hkk0 hkk1 (by simp [refKind]) (by decide) (by decide) hw
    (by rw [z1, zw]; show ¬ _ > ((arrV (cA a) n (fun j => .long (x.2.2.1 t j))).slots.size : Int); rw [arrV_size]; omega)
    (by rw [z1, zw]; show ¬ _ > ((arrV (cA a) n (fun j => .long (x.2.2.1 t2 j))).slots.size : Int); rw [arrV_size]; omega)
    (fun vm₁ _ i hi => by
      have e : (vp_cell (cA a) (n, .inr (.inl (x.2.2.1 t)))).slots.getD ((nI 0).toNatClampNeg + i) .null = .long (x.2.2.1 t ((nI 0).toNatClampNeg + i)) := by
        show (arrV (cA a) n (fun j => .long (x.2.2.1 t j))).slots.getD _ _ = _
        rw [Array.getD_eq_getD_getElem?, arrV_read _ _ (by omega)]
        rfl
      rw [e]
      exact ⟨rfl, trivial⟩)
    (g := F0 m pc ls (.int w :: .int (nI 0) :: .ref (ad t2) :: .int (nI 0) :: .ref (ad t) :: rest.map (hp_c ad))) rfl (by rw [hml]; exact hl.1) (rest := rest.map (hp_c ad)) rfl (by rw [hb]; exact hdg) hframes (by show 2 * 0 + _ + _ ≤ _; rw [hp_sumcat]; omega)
  have e1 : copied (vp_cell (cA a) (n, .inr (.inl (x.2.2.1 t)))) (vp_cell (cA a) (n, .inr (.inl (x.2.2.1 t2)))) (nI 0) (nI 0) w = vp_cell (cA a) (n, .inr (.inl (va_cpy (x.2.2.1 t) (x.2.2.1 t2) 0 0 n))) := by
    have e0 : copied (vp_cell (cA a) (n, .inr (.inl (x.2.2.1 t)))) (vp_cell (cA a) (n, .inr (.inl (x.2.2.1 t2)))) (nI 0) (nI 0) w = vp_cell (cA a) (n, .inr (.inl (va_cpy (x.2.2.1 t) (x.2.2.1 t2) (nI 0).toNatClampNeg (nI 0).toNatClampNeg w.toNatClampNeg))) := va_copied (fun z => .long z) (cA a) (cA a) (x.2.2.1 t) (x.2.2.1 t2) (by omega)
    rw [z0, hwn] at e0
    exact e0
  rw [e1] at X' step
  have hlt : ad t2 < H.size := (Array.getElem?_eq_some_iff.mp hc1).1
  have hheap : ((T.setVm vm').setCell (ad t2) (vp_cell (cA a) (n, .inr (.inl (va_cpy (x.2.2.1 t) (x.2.2.1 t2) 0 0 n))))).heap = H.setIfInBounds (ad t2) (vp_cell (cA a) (n, .inr (.inl (va_cpy (x.2.2.1 t) (x.2.2.1 t2) 0 0 n)))) := by rw [← hT]; rfl
  have oq : ∀ q : Nat, q ≠ ad t2 → (H.setIfInBounds (ad t2) (vp_cell (cA a) (n, .inr (.inl (va_cpy (x.2.2.1 t) (x.2.2.1 t2) 0 0 n)))))[q]? = H[q]? := fun q hq => by simp [Array.getElem?_setIfInBounds, Ne.symm hq]
  obtain ⟨t9, a1, b1⟩ := kk ad _ _ ls (hG.put (x' := hp_wL x t2 (va_cpy (x.2.2.1 t) (x.2.2.1 t2) 0 0 n)) ht2 rfl (fun t' h => hp_cell_congr rfl (by simp [hp_wL, h]) (fun _ => rfl)) (fun k t' h => hG.2.2.2 t2 k t' ht2 h) (fun _ _ => rfl) (by
      rw [hp_cell_a hk2, hty]
      show (H.setIfInBounds (ad t2) _)[ad t2]? = some (vp_cell (cA a) (n, .inr (.inl ((hp_wL x t2 (va_cpy (x.2.2.1 t) (x.2.2.1 t2) 0 0 n)).2.2.1 t2))))
      simp [Array.getElem?_setIfInBounds, hlt, hp_wL]) (by simp) oq) hx0 hl0 hst.2.2.2.2.2 ⟨by simp; exact hS.1, fun q g1 g2 => by
      rw [oq q (fun e => g2 (by rw [e]; exact hB2))]
      exact hS.2.1 q g1 g2, fun q hq => by
      rcases List.mem_append.mp hq with h | h
      · exact hS.2.2 q h
      · obtain ⟨z, -, hz⟩ := List.mem_map.mp h
        rw [← hz]
        exact hB2⟩ hl _ hheap X'
  exact ⟨t9, step t9 a1, b1⟩
end HV2
theorem nwX0 : ∀ j, j < 6 → defaultValue (tyX0 j) = (match ([2, 2, 2, 2, 2, 0] : List Nat).getD j 0 with | 0 => .int 0 | 1 => .long 0 | _ => .null) ∧ j < ([2, 2, 2, 2, 2, 0] : List Nat).length := by
  intro j hj
  have h : j = 0 ∨ j = 1 ∨ j = 2 ∨ j = 3 ∨ j = 4 ∨ j = 5 := by omega
  rcases h with rfl | rfl | rfl | rfl | rfl | rfl <;> exact ⟨rfl, by decide⟩
theorem nwX1 : ∀ j, j < 5 → defaultValue (tyX1 j) = (match ([2, 2, 2, 2, 0] : List Nat).getD j 0 with | 0 => .int 0 | 1 => .long 0 | _ => .null) ∧ j < ([2, 2, 2, 2, 0] : List Nat).length := by
  intro j hj
  have h : j = 0 ∨ j = 1 ∨ j = 2 ∨ j = 3 ∨ j = 4 := by omega
  rcases h with rfl | rfl | rfl | rfl | rfl <;> exact ⟨rfl, by decide⟩
theorem nwX2 : ∀ j, j < 11 → defaultValue (tyX2 j) = (match ([0, 2, 2, 2, 0, 0, 0, 0, 0, 0, 1] : List Nat).getD j 0 with | 0 => .int 0 | 1 => .long 0 | _ => .null) ∧ j < ([0, 2, 2, 2, 0, 0, 0, 0, 0, 0, 1] : List Nat).length := by
  intro j hj
  have h : j = 0 ∨ j = 1 ∨ j = 2 ∨ j = 3 ∨ j = 4 ∨ j = 5 ∨ j = 6 ∨ j = 7 ∨ j = 8 ∨ j = 9 ∨ j = 10 := by omega
  rcases h with rfl | rfl | rfl | rfl | rfl | rfl | rfl | rfl | rfl | rfl | rfl <;> exact ⟨rfl, by decide⟩
theorem nwX3 : ∀ j, j < 11 → defaultValue (tyX3 j) = (match ([2, 2, 2, 2, 2, 2, 0, 0, 0, 0, 0] : List Nat).getD j 0 with | 0 => .int 0 | 1 => .long 0 | _ => .null) ∧ j < ([2, 2, 2, 2, 2, 2, 0, 0, 0, 0, 0] : List Nat).length := by
  intro j hj
  have h : j = 0 ∨ j = 1 ∨ j = 2 ∨ j = 3 ∨ j = 4 ∨ j = 5 ∨ j = 6 ∨ j = 7 ∨ j = 8 ∨ j = 9 ∨ j = 10 := by omega
  rcases h with rfl | rfl | rfl | rfl | rfl | rfl | rfl | rfl | rfl | rfl | rfl <;> exact ⟨rfl, by decide⟩
theorem nwX4 : ∀ j, j < 30 → defaultValue (tyX4 j) = (match ([0, 0, 2, 0, 2, 2, 2, 2, 2, 0, 0, 2, 2, 2, 2, 0, 2, 2, 2, 2, 2, 2, 2, 2, 2, 2, 2, 2, 0, 0] : List Nat).getD j 0 with | 0 => .int 0 | 1 => .long 0 | _ => .null) ∧ j < ([0, 0, 2, 0, 2, 2, 2, 2, 2, 0, 0, 2, 2, 2, 2, 0, 2, 2, 2, 2, 2, 2, 2, 2, 2, 2, 2, 2, 0, 0] : List Nat).length := by
  intro j hj
  have h : j = 0 ∨ j = 1 ∨ j = 2 ∨ j = 3 ∨ j = 4 ∨ j = 5 ∨ j = 6 ∨ j = 7 ∨ j = 8 ∨ j = 9 ∨ j = 10 ∨ j = 11 ∨ j = 12 ∨ j = 13 ∨ j = 14 ∨ j = 15 ∨ j = 16 ∨ j = 17 ∨ j = 18 ∨ j = 19 ∨ j = 20 ∨ j = 21 ∨ j = 22 ∨ j = 23 ∨ j = 24 ∨ j = 25 ∨ j = 26 ∨ j = 27 ∨ j = 28 ∨ j = 29 := by omega
  rcases h with rfl | rfl | rfl | rfl | rfl | rfl | rfl | rfl | rfl | rfl | rfl | rfl | rfl | rfl | rfl | rfl | rfl | rfl | rfl | rfl | rfl | rfl | rfl | rfl | rfl | rfl | rfl | rfl | rfl | rfl <;> exact ⟨rfl, by decide⟩
