/-! THE LAW: its handlers, its script -/
/-! THE LAW: its long, its handlers -/
/-- what does not fit what: the throws that pass a handler -/
def o_nc : List (String × String) := [(xISE, xIAE), (xIAE, xIOB), (xISE, xIOB)]
def oNC (U : State) : Prop := ∀ q ∈ o_nc, va_Nc q.1 q.2 U
theorem oNC.moved {u U : State} (hvm : u.vm.Alike U.vm) (h : oNC u) : oNC U := fun q hq => (h q hq).moved hvm
def oNCx : oCtx → Prop
  | (p, e, R, s, m, args, below, meth, c, Q, A, nL) => oNC s
def oTab (hh : List (Nat × Nat × Nat × Nat)) : oCtx → Prop
  | (p, e, R, s, m, args, below, meth, c, Q, A, nL) => c.exceptionTable.toList = tableOf hh
def oHi (l : Launch) (g : oG) (y : MethodName) (w : Cond) (lam mc : Nat) (av : List Value) (σ : oMem) (post : Int → oMem → Prop) : Prop :=
  ∀ sz : Nat, vx_Met l y (w :: wsL_law) (oRm lam mc) (va_Pc av (fun U => oPre g σ sz U ∧ oNC U)) (va_Qi (fun r (σ' : oMem) => ∃ z : Int, r = Int32.ofInt z ∧ post z σ') (fun σ' t => va_P g.1 vwCl (o_ws g σ') t.heap) (oA g sz)) (oXC g σ (fun _ => False) sz) mc (6 * mc) (oA g sz)
theorem oHi_of {l : Launch} {g : oG} {own : String} {y : MethodName} {cc : ByteArray} {ty : FieldType} {maxL lam mc : Nat} {av : List Value} {σ : oMem} {post : Int → oMem → Prop} {hh : List (Nat × Nat × Nat × Nat)} (hy : plainName y.cls = true) (ho : y.cls = own) (hc : ∀ v ∈ av, v.category = 1) (hn : av.length ≤ maxL)
    (body : ∀ x : oCtx, oK l g own cc lam mc x → oNCx x → oTab hh x → (∀ (z : Int) (σ' : oMem) (pc : Nat) (vs : List (Option Value)) (k : Nat), decode cc pc = .ok (.ireturn, 1) → narrow ty (oi z) = oi z → post z σ' → k ≤ mc → oW l g x σ' pc vs [oi z] k) → oW l g x σ 0 (av.map some ++ List.replicate (maxL - av.length) none) [] 0) :
    oHi l g y (.codeWith y cc maxL (some ty) hh) lam mc av σ post := by
  intro sz
  refine vx_ofWH (cc := cc) (maxL := maxL) (ret := some ty) (hh := hh) hy rfl ?_
  intro p e s m args below meth c s₁ B hml hv
  obtain ⟨rfl, hv, hnc⟩ := hv
  have ht := vx_table (x := y) B (atoms_spec (ws := Cond.codeWith y cc maxL (some ty) hh :: wsL_law) B.pre _ List.mem_cons_self)
  obtain ⟨C, hP, hS, -⟩ := o_ctx B hml ho hv
  obtain ⟨ls, e1, hl2⟩ := oL.entry av (n := maxL) hc hn
  rw [lg_entry_eq, e1]
  refine body _ C hnc ht (fun z σ' pc vs k hd hn9 hp hk => ?_) s.heap [] ls hl2 hP hS
  exact fun H locs ls hl hP hS => vx_ret (o_bodyI (l := l) (own := own) (lam := lam) (σ := σ) (post := post) B.exec B.bytes B.returns B.notSynchronized (fun z9 σ9 t9 h1 h2 h3 => ⟨⟨Int32.ofInt z9, σ9, rfl, ⟨z9, rfl, h1⟩, h2⟩, h3⟩) hd hn9 hp hk H locs ls hl hP hS)
/-- the handler of a throw at a place -/
def oRow (hh : List (Nat × Nat × Nat × Nat)) (pc : Nat) (E : String) (h : Nat) : Prop := ∃ (pre : List ExceptionTableEntry) (xx : ExceptionTableEntry) (suf : List ExceptionTableEntry), tableOf hh = pre ++ xx :: suf ∧ (∀ z ∈ pre, covers z pc = false ∨ (z.catchType ≠ 0 ∧ ∃ nm : String, Cond.classLink RL z.catchType nm ∈ wsL_law ∧ (E, nm) ∈ o_nc)) ∧ covers xx pc = true ∧ xx.catchType ≠ 0 ∧ Cond.classLink RL xx.catchType E ∈ wsL_law ∧ E ∈ o_ca ∧ xx.handlerPc = h
theorem o_callVxh {l : Launch} {g : oG} {cc : ByteArray} {lam mc lam' mc' : Nat} {x : oCtx} {σ : oMem} {pc : Nat} {vs : List (Option Value)} {rest : List Value} {k : Nat} {y : MethodName} {bytes : ByteArray} {maxL idx n K i : Nat} {ty : FieldType} {As : List Value} {postI : Int → oMem → Prop} {pxc : String → Prop} {hh : List (Nat × Nat × Nat × Nat)} (hN : oNCx x) (hT : oTab hh x) (C : oK l g RL cc lam mc x) (hM : oXi l g y (.code y bytes maxL (some ty)) lam' mc' (.ref (g.2.1 K i) :: As) σ postI pxc) (w1 : Cond.methodLink RL idx y ∈ wsL_law) (w2 : Cond.instanceMethod y ∈ wsL_law) (w3 : Cond.selects y.cls y y ∈ wsL_law) (w4 : Cond.initialized y.cls ∈ wsL_law) (w5 : Cond.code y bytes maxL (some ty) ∈ wsL_law) (hi : i < o_n K) (hr : oRecv g σ y K i) (hy : oDn y n) (hL : maxL ≤ 81) (hlm : lam' + 1 ≤ lam) (hk : k + mc' ≤ mc) (hn : As.length = n) (hW : (rest.map fun v => v.category).sum ≤ 8) (hd : decode cc pc = .ok (.invokevirtual idx, 3))
    (kx : ∀ E : String, pxc E → ∃ h : Nat, oRow hh pc E h ∧ ∀ q : Nat, oW l g x σ h vs [.ref q] (k + mc')) (kk : ∀ (z : Int) (σ' : oMem), postI z σ' → oW l g x σ' (pc + 3) vs (oi z :: rest) (k + mc')) : oW l g x σ pc vs (As.reverse ++ .ref (g.2.1 K i) :: rest) k := by
  obtain ⟨p, e, R, s, m, args, below, meth, c, Q, A, nL⟩ := x
  have C0 := C
  obtain ⟨hx, hb, hml, hown, hts, hK, hD, hA, hF, hR1, hR2, hR3, hR4⟩ := C
  intro H locs ls hl hP hS
  refine vx_calli (vx_runV (As := As) (rest := rest) (Ts := wsL_law) ⟨hx, hb, hml, hown, hts⟩ (hM H.size) (cwV n hts (o_good4 w1 w2 w3 w4 (o_good w5)) rfl rfl rfl ⟨rfl, hy⟩ ⟨by show 10 + lam' + 1 ≤ _; omega, by show 8 + (maxL + 11) + (200 + 100 * lam') ≤ _; omega⟩) ⟨oPre_blind, o_recv (p := p) (e := e) (R := R) (m := m) (args := args) (below := below) (meth := meth) (c := c) (Q := Q) (A := A) (nL := nL) hK hP hi hr, o_pre C0 hP hS _⟩ rfl hn hl.1.1 rfl (by show 2 * 0 + _ ≤ 8; omega) hd ⟨by omega, by omega⟩) hS (fun q _ h => oA_in hD hA hS.1 q h) (fun q h => oA_in hD hA hS.1 q h) (fun q _ h => oA_in hD hA hS.1 q h) (fun E ce q9 u t H1 locs1 ht hvm hp hB hz hk1 hS1 h1 h2 h3 => ?_) (fun r σ' t H1 locs1 ht hvm hp hB hz hk1 hS1 => ?_)
  · obtain ⟨h, ⟨pre, xx, suf, e1, e2, e3, e4, e5, e6, rfl⟩, h9⟩ := kx E hB.1
    have hcast : (Cond.castable E E).before args s = true := va_Nw.use rfl (hF.2.2.2.2.2.1 _ e6)
    refine vx_catch (own := RL) hown pre xx suf (Eq.trans hT e1) (fun z hz => ?_) e3 e4 (hts _ e5) hcast h1 h2 h3 ?_
    · rcases e2 z hz with a | ⟨a, nm, b, d⟩
      · exact Or.inl a
      · exact Or.inr ⟨a, nm, hts _ b, hN _ d⟩
    · have h := h9 q9 H1 locs1 ls hl (by rw [← ht]; exact hB.2) hS1
      rw [Nat.mul_add] at h
      exact h
  obtain ⟨z, rfl, hp⟩ := hp
  have h := kk z σ' hp H1 locs1 ls hl (by rw [← ht]; exact hB) hS1
  rw [Nat.mul_add] at h
  exact h
/-- a wrapper's call -/
theorem o_callSXh {l : Launch} {g : oG} {cc : ByteArray} {lam mc lam' mc' : Nat} {x : oCtx} {σ : oMem} {pc : Nat} {vs : List (Option Value)} {rest : List Value} {k : Nat} {y : MethodName} {bytes : ByteArray} {maxL idx n : Nat} {ty : FieldType} {As : List Value} {postI : Int → oMem → Prop} {hh : List (Nat × Nat × Nat × Nat)} (hN : oNCx x) (C : oK l g RL cc lam mc x) (hM : oHi l g y (.codeWith y bytes maxL (some ty) hh) lam' mc' As σ postI) (w1 : Cond.methodLink RL idx y ∈ wsL_law) (w2 : Cond.static y ∈ wsL_law) (w4 : Cond.initialized y.cls ∈ wsL_law) (w5 : Cond.codeWith y bytes maxL (some ty) hh ∈ wsL_law) (hy : oDn y n) (hL : maxL ≤ 81) (hlm : lam' + 1 ≤ lam) (hk : k + mc' ≤ mc) (hn : As.length = n) (hW : (rest.map fun v => v.category).sum ≤ 8) (hd : decode cc pc = .ok (.invokestatic idx, 3)) (kk : ∀ (z : Int) (σ' : oMem), postI z σ' → oW l g x σ' (pc + 3) vs (oi z :: rest) (k + mc')) : oW l g x σ pc vs (As.reverse ++ rest) k := by
  obtain ⟨p, e, R, s, m, args, below, meth, c, Q, A, nL⟩ := x
  have C0 := C
  obtain ⟨hx, hb, hml, hown, hts, hK, hD, hA, hF, hR1, hR2, hR3, hR4⟩ := C
  intro H locs ls hl hP hS
  refine vx_calli (vx_runSX (As := As) (rest := rest) (Ts := wsL_law) ⟨hx, hb, hml, hown, hts⟩ (hM H.size) (vx_cwSW n hts (o_good3 w1 w2 w4 (o_good w5)) rfl rfl rfl hy ⟨by show 10 + lam' + 1 ≤ _; omega, by show 8 + (maxL + 11) + (200 + 100 * lam') ≤ _; omega⟩) ⟨?_, ?_⟩ rfl hn hl.1.1 rfl (by show 2 * 0 + _ ≤ 8; omega) hd ⟨by omega, by omega⟩) hS (fun q _ h => oA_in hD hA hS.1 q h) (fun q h => oA_in hD hA hS.1 q h) (fun q _ h => oA_in hD hA hS.1 q h) (fun E ce q9 u t H1 locs1 ht hvm hp hB hz hk1 hS1 h1 h2 h3 => absurd hB.1 id) (fun r σ' t H1 locs1 ht hvm hp hB hz hk1 hS1 => ?_)
  · intro a U g' mk h
    obtain ⟨h0, h1, h2⟩ := h
    obtain ⟨q0, q1⟩ := oPre_blind a U g' mk ⟨h0, h1⟩
    exact ⟨q0, q1, h2⟩
  · intro U hU hW9
    obtain ⟨q0, q1⟩ := o_pre C0 hP hS As U hU hW9
    exact ⟨q0, q1, oNC.moved hW9.alike hN⟩
  obtain ⟨z, rfl, hp⟩ := hp
  have h := kk z σ' hp H1 locs1 ls hl (by rw [← ht]; exact hB) hS1
  rw [Nat.mul_add] at h
  exact h
/-! the script -/
def oScr (b L : Nat) (xs : Nat → Int32) : oCtx → Prop
  | (p, e, R, s, m, args, below, meth, c, Q, A, nL) => va_X b L xs s s.heap ∧ b < s.heap.size ∧ ¬ A b
theorem InR_x (v : Int32) : InR v.toInt := by
  have h1 := Int32.minValue_le_toInt v
  have h2 := Int32.toInt_le v
  have e1 : Int32.minValue.toInt = -2147483648 := rfl
  have e2 : Int32.maxValue.toInt = 2147483647 := rfl
  rw [e1] at h1
  rw [e2] at h2
  omega
theorem oi_x (v : Int32) : oi v.toInt = .int v := by unfold oi; rw [Int32.ofInt_toInt]
section OSCR
variable {l : Launch} {g : oG} {own : String} {cc : ByteArray} {lam mc : Nat} {x : oCtx} {σ : oMem} {pc : Nat} {vs : List (Option Value)} {st : List Value} {k : Nat} {b L : Nat} {xs : Nat → Int32}
theorem o_sld {z : Int} {j : Nat} (S : oScr b L xs x) (C : oK l g own cc lam mc x) (hz : z = (j : Int)) (hj : j < L) (hL : L ≤ 2560) (hd : decode cc pc = .ok (.iaload, 1)) (kk : oW l g x σ (pc + 1) vs (oi (xs j).toInt :: st) k) : oW l g x σ pc vs (oi z :: .ref b :: st) k := by
  obtain ⟨p, e, R, s, m, args, below, meth, c, Q, A, nL⟩ := x
  obtain ⟨hx, hb, -⟩ := C
  obtain ⟨s1, s2, s3⟩ := S
  intro H locs ls hl hP hS
  subst hz
  refine va_sld hx hb s1 s2 s3 hS (o_in (z := (j : Int)) (n := L) (by omega) (by omega) (by omega)) hd ?_
  rw [o_nat ⟨by omega, by omega⟩, Int.toNat_natCast, ← oi_x]
  exact kk H locs ls hl hP hS
theorem o_slen (S : oScr b L xs x) (C : oK l g own cc lam mc x) (hd : decode cc pc = .ok (.arraylength, 1)) (kk : oW l g x σ (pc + 1) vs (oi (L : Int) :: st) k) : oW l g x σ pc vs (.ref b :: st) k := by
  obtain ⟨p, e, R, s, m, args, below, meth, c, Q, A, nL⟩ := x
  obtain ⟨hx, hb, -⟩ := C
  obtain ⟨s1, s2, s3⟩ := S
  intro H locs ls hl hP hS
  exact va_slen hx hb s1 s2 s3 hS hd (kk H locs ls hl hP hS)
theorem o_rem {a b : Int} (ha : 0 ≤ a) (hb : 0 < b) (h1 : InR a) (h2 : InR b) : Int32.ofInt a - Int32.ofInt a / Int32.ofInt b * Int32.ofInt b = Int32.ofInt (a % b) := by
  rw [o_div ha hb h1 h2, o_mul, o_sub, Int.emod_def, Int.mul_comm]
theorem o_irem {a d : Int} (C : oK l g own cc lam mc x) (hd : decode cc pc = .ok (.irem, 1)) (ha : 0 ≤ a) (hb0 : 0 < d) (h1 : InR a) (h2 : InR d) (kk : oW l g x σ (pc + 1) vs (oi (a % d) :: st) k) : oW l g x σ pc vs (oi d :: oi a :: st) k := by
  obtain ⟨p, e, R, s, m, args, below, meth, c, Q, A, nL⟩ := x
  obtain ⟨hx, hb, -⟩ := C
  exact fun H locs ls hl hP hS => lv_irem hx hb hd (fun h => by rw [show (0 : Int32) = Int32.ofInt 0 from rfl, o_eq h2 ⟨by omega, by omega⟩] at h; omega) (by rw [o_rem ha hb0 h1 h2]; exact kk H locs ls hl hP hS)
theorem o_ne_same {a off : Int} {tgt : Nat} (C : oK l g own cc lam mc x) (hd : decode cc pc = .ok (.if_icmp .ne off, 3)) (ht : (pc : Int) + off = (tgt : Int)) (kk : oW l g x σ (pc + 3) vs st k) : oW l g x σ pc vs (oi a :: oi a :: st) k := by
  obtain ⟨p, e, R, s, m, args, below, meth, c, Q, A, nL⟩ := x
  obtain ⟨hx, hb9, -⟩ := C
  intro H locs ls hl hP hS
  exact lv_icmp_ne hx hb9 hd ht (fun h1 => absurd rfl h1) (fun _ => kk H locs ls hl hP hS)
end OSCR
theorem x_max (v : Int32) : ∃ n : Int, 0 ≤ n ∧ n ≤ 2147483647 ∧ v &&& Int32.ofInt 2147483647 = Int32.ofInt n := by
  refine ⟨((v.toBitVec &&& 2147483647#32).toNat : Nat), by omega, ?_, ?_⟩
  · have h : (v.toBitVec &&& 2147483647#32).toNat ≤ 2147483647 := by
      rw [BitVec.toNat_and]
      exact Nat.and_le_right
    omega
  · apply Int32.toBitVec_inj.mp
    rw [Int32.toBitVec_and]
    show _ = BitVec.ofInt 32 _
    rw [BitVec.ofInt_natCast, BitVec.ofNat_toNat]
    simp
/-! methods of the law that look at both offices, and the one that reads the script -/
def oGi (F : Nat → State → Prop) (l : Launch) (g : oG) (y : MethodName) (w : Cond) (lam mc : Nat) (av : List Value) (σ : oMem) (post : Int → oMem → Prop) : Prop :=
  ∀ sz : Nat, Met l y (w :: wsL_law) (oRm lam mc) (va_Pc av (fun U => oPre g σ sz U ∧ F sz U)) (va_Qi (fun r (σ' : oMem) => ∃ z : Int, r = Int32.ofInt z ∧ post z σ') (fun σ' t => va_P g.1 vwCl (o_ws g σ') t.heap) (oA g sz)) mc (6 * mc) (oA g sz)
def oFN : Nat → State → Prop := fun _ U => oNC U
def oFS (g : oG) (b L : Nat) (xs : Nat → Int32) : Nat → State → Prop := fun sz U => va_X b L xs U U.heap ∧ b < U.heap.size ∧ ¬ oA g sz b
theorem oGN_of {l : Launch} {g : oG} {own : String} {y : MethodName} {cc : ByteArray} {ty : FieldType} {maxL lam mc : Nat} {av : List Value} {σ : oMem} {post : Int → oMem → Prop} (hy : plainName y.cls = true) (ho : y.cls = own) (hc : ∀ v ∈ av, v.category = 1) (hn : av.length ≤ maxL)
    (body : ∀ x : oCtx, oK l g own cc lam mc x → oNCx x → (∀ (z : Int) (σ' : oMem) (pc : Nat) (vs : List (Option Value)) (k : Nat), decode cc pc = .ok (.ireturn, 1) → narrow ty (oi z) = oi z → post z σ' → k ≤ mc → oW l g x σ' pc vs [oi z] k) → oW l g x σ 0 (av.map some ++ List.replicate (maxL - av.length) none) [] 0) :
    oGi oFN l g y (.code y cc maxL (some ty)) lam mc av σ post := by
  intro sz
  refine Met.ofW (cc := cc) (maxL := maxL) (ret := some ty) hy rfl ?_
  intro p e s m args below meth c s₁ B hml hv
  obtain ⟨rfl, hv, hnc⟩ := hv
  obtain ⟨C, hP, hS, -⟩ := o_ctx B hml ho hv
  obtain ⟨ls, e1, hl⟩ := oL.entry av (n := maxL) hc hn
  rw [lg_entry_eq, e1]
  exact body _ C hnc (fun z σ' pc vs k hd hn9 hp hk => o_bodyI (own := own) (lam := lam) (σ := σ) B.exec B.bytes B.returns B.notSynchronized (fun z9 σ9 t9 h1 h2 h3 => ⟨⟨Int32.ofInt z9, σ9, rfl, ⟨z9, rfl, h1⟩, h2⟩, h3⟩) hd hn9 hp hk) s.heap [] ls hl hP hS
theorem oGS_of {l : Launch} {g : oG} {own : String} {y : MethodName} {cc : ByteArray} {ty : FieldType} {maxL lam mc : Nat} {av : List Value} {σ : oMem} {post : Int → oMem → Prop} {b L : Nat} {xs : Nat → Int32} (hy : plainName y.cls = true) (ho : y.cls = own) (hc : ∀ v ∈ av, v.category = 1) (hn : av.length ≤ maxL)
    (body : ∀ x : oCtx, oK l g own cc lam mc x → oScr b L xs x → (∀ (z : Int) (σ' : oMem) (pc : Nat) (vs : List (Option Value)) (k : Nat), decode cc pc = .ok (.ireturn, 1) → narrow ty (oi z) = oi z → post z σ' → k ≤ mc → oW l g x σ' pc vs [oi z] k) → oW l g x σ 0 (av.map some ++ List.replicate (maxL - av.length) none) [] 0) :
    oGi (oFS g b L xs) l g y (.code y cc maxL (some ty)) lam mc av σ post := by
  intro sz
  refine Met.ofW (cc := cc) (maxL := maxL) (ret := some ty) hy rfl ?_
  intro p e s m args below meth c s₁ B hml hv
  obtain ⟨rfl, hv, hscr⟩ := hv
  obtain ⟨C, hP, hS, -⟩ := o_ctx B hml ho hv
  obtain ⟨ls, e1, hl⟩ := oL.entry av (n := maxL) hc hn
  rw [lg_entry_eq, e1]
  exact body _ C hscr (fun z σ' pc vs k hd hn9 hp hk => o_bodyI (own := own) (lam := lam) (σ := σ) B.exec B.bytes B.returns B.notSynchronized (fun z9 σ9 t9 h1 h2 h3 => ⟨⟨Int32.ofInt z9, σ9, rfl, ⟨z9, rfl, h1⟩, h2⟩, h3⟩) hd hn9 hp hk) s.heap [] ls hl hP hS
theorem o_callSN {l : Launch} {g : oG} {own : String} {cc : ByteArray} {lam mc lam' mc' : Nat} {x : oCtx} {σ : oMem} {pc : Nat} {vs : List (Option Value)} {rest : List Value} {k : Nat} {y : MethodName} {bytes : ByteArray} {maxL idx n : Nat} {ty : FieldType} {As : List Value} {postI : Int → oMem → Prop} (hN : oNCx x) (C : oK l g own cc lam mc x) (hM : oGi oFN l g y (.code y bytes maxL (some ty)) lam' mc' As σ postI) (w1 : Cond.methodLink own idx y ∈ wsL_law) (w2 : Cond.static y ∈ wsL_law) (w4 : Cond.initialized own ∈ wsL_law) (w5 : Cond.code y bytes maxL (some ty) ∈ wsL_law) (ho : y.cls = own) (hy : oDn y n) (hL : maxL ≤ 81) (hlm : lam' + 1 ≤ lam) (hk : k + mc' ≤ mc) (hn : As.length = n) (hW : (rest.map fun v => v.category).sum ≤ 8) (hd : decode cc pc = .ok (.invokestatic idx, 3)) (kk : ∀ (z : Int) (σ' : oMem), postI z σ' → oW l g x σ' (pc + 3) vs (oi z :: rest) (k + mc')) : oW l g x σ pc vs (As.reverse ++ rest) k := by
  obtain ⟨p, e, R, s, m, args, below, meth, c, Q, A, nL⟩ := x
  have C0 := C
  obtain ⟨hx, hb, hml, hown, hts, hK, hD, hA, hF, hR1, hR2, hR3, hR4⟩ := C
  intro H locs ls hl hP hS
  refine va_calli (va_runS (As := As) (rest := rest) (Ts := wsL_law) ⟨hx, hb, hml, hown, hts⟩ (hM H.size) (cwS n hts (o_good3 w1 w2 w4 (o_good w5)) rfl rfl rfl ⟨ho, hy⟩ ⟨by show 10 + lam' + 1 ≤ _; omega, by show 8 + (maxL + 11) + (200 + 100 * lam') ≤ _; omega⟩) ⟨?_, ?_⟩ rfl hn hl.1.1 rfl (by show 2 * 0 + _ ≤ 8; omega) hd ⟨by omega, by omega⟩) hS (fun q _ h => oA_in hD hA hS.1 q h) (fun q h => oA_in hD hA hS.1 q h) (fun r σ' t H1 locs1 ht hvm hp hB hz hk1 hS1 => ?_)
  · intro a U g' mk h
    obtain ⟨h0, h1, h2⟩ := h
    obtain ⟨q0, q1⟩ := oPre_blind a U g' mk ⟨h0, h1⟩
    exact ⟨q0, q1, h2⟩
  · intro U hU hW9
    obtain ⟨q0, q1⟩ := o_pre C0 hP hS As U hU hW9
    exact ⟨q0, q1, oNC.moved hW9.alike hN⟩
  obtain ⟨z, rfl, hp⟩ := hp
  have h := kk z σ' hp H1 locs1 ls hl (by rw [← ht]; exact hB) hS1
  rw [Nat.mul_add] at h
  exact h
theorem o_callSS {l : Launch} {g : oG} {own : String} {cc : ByteArray} {lam mc lam' mc' : Nat} {x : oCtx} {σ : oMem} {pc : Nat} {vs : List (Option Value)} {rest : List Value} {k : Nat} {y : MethodName} {bytes : ByteArray} {maxL idx n : Nat} {ty : FieldType} {As : List Value} {postI : Int → oMem → Prop} {b L : Nat} {xs : Nat → Int32} (S : oScr b L xs x) (C : oK l g own cc lam mc x) (hM : oGi (oFS g b L xs) l g y (.code y bytes maxL (some ty)) lam' mc' As σ postI) (w1 : Cond.methodLink own idx y ∈ wsL_law) (w2 : Cond.static y ∈ wsL_law) (w4 : Cond.initialized own ∈ wsL_law) (w5 : Cond.code y bytes maxL (some ty) ∈ wsL_law) (ho : y.cls = own) (hy : oDn y n) (hL : maxL ≤ 81) (hlm : lam' + 1 ≤ lam) (hk : k + mc' ≤ mc) (hn : As.length = n) (hW : (rest.map fun v => v.category).sum ≤ 8) (hd : decode cc pc = .ok (.invokestatic idx, 3)) (kk : ∀ (z : Int) (σ' : oMem), postI z σ' → oW l g x σ' (pc + 3) vs (oi z :: rest) (k + mc')) : oW l g x σ pc vs (As.reverse ++ rest) k := by
  obtain ⟨p, e, R, s, m, args, below, meth, c, Q, A, nL⟩ := x
  have C0 := C
  obtain ⟨hx, hb, hml, hown, hts, hK, hD, hA, hF, hR1, hR2, hR3, hR4⟩ := C
  intro H locs ls hl hP hS
  refine va_calli (va_runS (As := As) (rest := rest) (Ts := wsL_law) ⟨hx, hb, hml, hown, hts⟩ (hM H.size) (cwS n hts (o_good3 w1 w2 w4 (o_good w5)) rfl rfl rfl ⟨ho, hy⟩ ⟨by show 10 + lam' + 1 ≤ _; omega, by show 8 + (maxL + 11) + (200 + 100 * lam') ≤ _; omega⟩) ⟨?_, ?_⟩ rfl hn hl.1.1 rfl (by show 2 * 0 + _ ≤ 8; omega) hd ⟨by omega, by omega⟩) hS (fun q _ h => oA_in hD hA hS.1 q h) (fun q h => oA_in hD hA hS.1 q h) (fun r σ' t H1 locs1 ht hvm hp hB hz hk1 hS1 => ?_)
  · intro a U g' mk h
    obtain ⟨h0, h1, h2⟩ := h
    obtain ⟨q0, q1⟩ := oPre_blind a U g' mk ⟨h0, h1⟩
    exact ⟨q0, q1, va_X.moved (u := U) (U := U.calling g' mk a) (Vm.Alike.refl U.vm) h2.1, h2.2⟩
  · intro U hU hW9
    obtain ⟨q0, q1⟩ := o_pre C0 hP hS As U hU hW9
    exact ⟨q0, q1, (by rw [hU]; exact (S.1.kept (hS.2.1 b S.2.1 S.2.2)).moved hW9.alike), (by rw [hU]; exact Nat.lt_of_lt_of_le S.2.1 hS.1), fun h => S.2.2 (oA_in hD hA hS.1 b h)⟩
  obtain ⟨z, rfl, hp⟩ := hp
  have h := kk z σ' hp H1 locs1 ls hl (by rw [← ht]; exact hB) hS1
  rw [Nat.mul_add] at h
  exact h
