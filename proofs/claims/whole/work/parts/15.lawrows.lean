/-! THE CLAIM OUT OF ONE WALK OF THE LAW'S BODY. Your part is whole_start (and what it stands on); all else here is the same for every law, but numbers. -/
def R_law : String := "VersionJoinsLaw"
def lw_P (b : Addr) (xs : List Int32) (args : Array Value) (s : State) : Prop := args = #[.ref b] ∧ s.IntsAt b xs ∧ xs.length ≤ 2560 ∧ (Jvm.Cond.and given_1 narrow_1).before args s = true
def lw_Q (_ : Array Value) (s : State) (o : Outcome) (t : State) : Prop := o = .returned (some (.int 1)) ∧ Framed s o t [] 600000 7302250
def lw_Z (below : List Frame) (a : Array Value) (s : State) : State → Prop := fun t => ∃ o, t.status = .running ∧ Ended t below o ∧ lw_Q a s o t
/-- the law's own end, with 1 on the stack, nothing written that was there before, its room as the claim has it -/
theorem lw_ret {p : Program} {l : Launch} {e : Env} {s : State} {m : MethodId} {below : List Frame} {meth : Method} {c : Code} {b : Nat} (hx : p.tables.exec = Jvm.exec) (hb : c.code = code) (hr : meth.sig.returnType = ret) (hlocks : meth.locks = false) {pc : Nat} {H : Heap} {ls : Array Slot} (hdg : decode code pc = .ok (.ireturn, 1)) : W p l e room_1 s m #[Value.ref b] below meth c H [] 600000 7302250 (lw_Z below #[Value.ref b] s) (F0 m pc ls [.int 1]) := by
  intro T hT X
  obtain ⟨fs, hret, hrun, hended, hW, hframe⟩ := X.leave (v := some (.int 1)) (hlocks := hlocks) (fun h => by rw [hr] at h; cases h)
  have hmeth' : T.vm.method? m = some meth := X.method'
  refine ⟨T.setFrames fs, ?_, .returned (some (.int 1)), hrun, hended, rfl, ⟨_, rfl⟩, hW, hframe⟩
  jvm_step X.here [X.here.top, hx, hb, hdg, hmeth', hr, ret, narrow_b1]
  (try refine ⟨rfl, ?_⟩); (try refine ⟨rfl, ?_⟩)
  first | (intro acts; rw [hret _ acts rfl rfl rfl]) | rw [hret _ _ rfl rfl rfl]
  exact Steps.refl _
/-- what holds at the law's entry: the machine, the code, the tables' words (any of lw_tbl by 'hts w (by decide +kernel)'), the script of L ints xs at the cell b, what the Statement gives of the start (any of its parts by flat_of_before) -/
def lw_At (p : Program) (s : State) (m : MethodId) (meth : Method) (c : Code) (b L : Nat) (xs : Nat → Int32) : Prop :=
  p.tables.exec = Jvm.exec ∧ c.code = code ∧ meth.sig.returnType = ret ∧ c.maxLocals = 4 ∧ s.vm.findClass R_law = some m.cls ∧ (∀ w ∈ lw_tbl, w.before #[Value.ref b] s = true) ∧ va_X b L xs s s.heap ∧ b < s.heap.size ∧ meth.locks = false ∧ (Jvm.Cond.and given_1 narrow_1).before #[Value.ref b] s = true
theorem hx_i5 (u : Int32) : u + Int32.ofInt 5 = u + nI 5 := by
  rw [show Int32.ofInt 5 = nI 5 by decide]
/-- nothing is there yet -/
def hp_x0 : hp_S := (fun _ => false, fun _ _ => 0, fun _ _ => 0, fun _ _ => none)
section HVL
variable {p : Program} {l : Launch} {e : Env} {R : Room} {s : State} {m : MethodId} {args : Array Value} {below : List Frame} {meth : Method} {c : Code} {Q : (hp_T → Nat) → State → Prop} {D : va_G} {cA : Nat → ClassId} {B0 nL cells slots : Nat} {ad0 : hp_T → Nat} {x0 x : hp_S} {lv : List (Nat × hp_A)}
variable {cc : ByteArray} {own : String} {Ts : List Cond} {pc : Nat} {rest : List hp_A} {b L : Nat} {xs : Nat → Int32}
theorem hv_sld (E : hp_E p s m args meth c cc nL own Ts D cA B0) (hX : va_X b L xs s s.heap) (hbl : b < B0) {i : Int32} (hin : vp_in i L) (hdg : decode cc pc = .ok (.iaload, 1))
    (kk : hp_V p l e R s m args below meth c Q D cA B0 nL ad0 x0 cells slots x (pc + 1) lv (aI (xs i.toNatClampNeg) :: rest)) : hp_V p l e R s m args below meth c Q D cA B0 nL ad0 x0 cells slots x pc lv (aI i :: aQ b :: rest) :=
  fun ad H locs ls hG hx0 hl0 hst hS hl => va_sld E.1.1 E.1.2.1 hX (Nat.lt_of_lt_of_le hbl E.2.2.2) (Nat.not_le.mpr hbl) hS hin hdg (kk ad H locs ls hG hx0 hl0 ⟨trivial, hst.2.2⟩ hS hl)
theorem hv_slen (E : hp_E p s m args meth c cc nL own Ts D cA B0) (hX : va_X b L xs s s.heap) (hbl : b < B0) (hdg : decode cc pc = .ok (.arraylength, 1))
    (kk : hp_V p l e R s m args below meth c Q D cA B0 nL ad0 x0 cells slots x (pc + 1) lv (aI (nI L) :: rest)) : hp_V p l e R s m args below meth c Q D cA B0 nL ad0 x0 cells slots x pc lv (aQ b :: rest) :=
  fun ad H locs ls hG hx0 hl0 hst hS hl => va_slen E.1.1 E.1.2.1 hX (Nat.lt_of_lt_of_le hbl E.2.2.2) (Nat.not_le.mpr hbl) hS hdg (kk ad H locs ls hG hx0 hl0 ⟨trivial, hst.2⟩ hS hl)
end HVL
theorem hv_law {p : Program} {l : Launch} {e : Env} {s : State} {m : MethodId} {below : List Frame} {meth : Method} {c : Code} {D : va_G} {cA : Nat → ClassId} {B0 cells slots pc b : Nat} {ad0 : hp_T → Nat} {x0 x : hp_S} {lv : List (Nat × hp_A)} (E : hp_E p s m #[Value.ref b] meth c code 4 "VersionJoinsLaw" hp_ws D cA B0) (hret : meth.sig.returnType = ret) (hB0 : B0 = s.heap.size) (hdg : decode code pc = .ok (.ireturn, 1)) (hc : cells ≤ 600000) (hs : slots ≤ 7302250) : hp_V p l e room_1 s m #[Value.ref b] below meth c (fun _ => lw_Z below #[Value.ref b] s) D cA B0 4 ad0 x0 cells slots x pc lv [aI (nI 1)] := by
  intro ad H locs ls hG hx0 hl0 hst hS hl
  refine va_forget (fun q hq => by rw [← hB0]; exact hS.2.2 q hq) ?_
  refine W.widen hc hs ?_
  exact lw_ret E.1.1 E.1.2.1 hret E.2.2.1 hdg
theorem hx_out16 {z : Int32} (h0 : ¬ z = nI 0) (h1 : ¬ z = nI 1) (h2 : ¬ z = nI 2) (h3 : ¬ z = nI 3) (h4 : ¬ z = nI 4) (h5 : ¬ z = nI 5) (h6 : ¬ z = nI 6) (h7 : ¬ z = nI 7) (h8 : ¬ z = nI 8) (h9 : ¬ z = nI 9) (h10 : ¬ z = nI 10) (h11 : ¬ z = nI 11) (h12 : ¬ z = nI 12) (h13 : ¬ z = nI 13) (h14 : ¬ z = nI 14) (h15 : ¬ z = nI 15) : z.toInt < 0 ∨ 15 < z.toInt := by
  rcases Int.lt_or_le z.toInt 0 with h | h
  · exact Or.inl h
  rcases Int.lt_or_le 15 z.toInt with h' | h'
  · exact Or.inr h'
  exfalso
  have e : z.toInt = 0 ∨ z.toInt = 1 ∨ z.toInt = 2 ∨ z.toInt = 3 ∨ z.toInt = 4 ∨ z.toInt = 5 ∨ z.toInt = 6 ∨ z.toInt = 7 ∨ z.toInt = 8 ∨ z.toInt = 9 ∨ z.toInt = 10 ∨ z.toInt = 11 ∨ z.toInt = 12 ∨ z.toInt = 13 ∨ z.toInt = 14 ∨ z.toInt = 15 := by omega
  rcases e with e | e | e | e | e | e | e | e | e | e | e | e | e | e | e | e
  · exact h0 (Int32.toInt_inj.mp e)
  · exact h1 (Int32.toInt_inj.mp e)
  · exact h2 (Int32.toInt_inj.mp e)
  · exact h3 (Int32.toInt_inj.mp e)
  · exact h4 (Int32.toInt_inj.mp e)
  · exact h5 (Int32.toInt_inj.mp e)
  · exact h6 (Int32.toInt_inj.mp e)
  · exact h7 (Int32.toInt_inj.mp e)
  · exact h8 (Int32.toInt_inj.mp e)
  · exact h9 (Int32.toInt_inj.mp e)
  · exact h10 (Int32.toInt_inj.mp e)
  · exact h11 (Int32.toInt_inj.mp e)
  · exact h12 (Int32.toInt_inj.mp e)
  · exact h13 (Int32.toInt_inj.mp e)
  · exact h14 (Int32.toInt_inj.mp e)
  · exact h15 (Int32.toInt_inj.mp e)
