/-! THE LAW: its long, its handlers -/
/-- what does not fit what: the throws that pass a handler -/
def o_nc : List (String × String) := [(xISE, xIAE), (xIAE, xIOB), (xISE, xIOB)]
def oNC (U : State) : Prop := ∀ q ∈ o_nc, va_Nc q.1 q.2 U
theorem oNC.moved {u U : State} (hvm : u.vm.Alike U.vm) (h : oNC u) : oNC U := fun q hq => (h q hq).moved hvm
def oNCx : oCtx → Prop
  | (p, e, R, s, m, args, below, meth, c, Q, A, nL) => oNC s
def oTab (hh : List (Nat × Nat × Nat × Nat)) : oCtx → Prop
  | (p, e, R, s, m, args, below, meth, c, Q, A, nL) => c.exceptionTable.toList = tableOf hh
def oHi (l : Launch) (g : oG) (y : MethodName) (w : Cond) (lam mc : Nat) (av : List Value) (σ : oMem) (post : Int → oMem → Prop) : Prop :=
  ∀ sz : Nat, vx_Met l y (w :: wsL_law) (oRm lam mc) (va_Pc av (fun U => oPre g σ sz U ∧ oNC U)) (va_Qi (fun r (σ' : oMem) => ∃ z : Int, r = Int32.ofInt z ∧ post z σ') (fun σ' t => va_P g.1 vwCl (o_ws g σ') t.heap) (oA g sz)) (oXC g σ (fun _ => False) sz) mc (6 * mc) (oA g sz)
theorem oHi_of {l : Launch} {g : oG} {own : String} {y : MethodName} {cc : ByteArray} {ty : FieldType} {maxL lam mc : Nat} {av : List Value} {σ : oMem} {post : Int → oMem → Prop} {hh : List (Nat × Nat × Nat × Nat)} (hy : plainName y.cls = true) (ho : y.cls = own) (hc : ∀ v ∈ av, v.category = 1) (hn : av.length ≤ maxL)
    (body : ∀ x : oCtx, oK l g own cc lam mc x → oNCx x → oTab hh x → (∀ (z : Int) (σ' : oMem) (pc : Nat) (vs : List (Option Value)) (k : Nat), decode cc pc = .ok (.ireturn, 1) → narrow ty (oi z) = oi z → post z σ' → k ≤ mc → oW l g x σ' pc vs [oi z] k) → oW l g x σ 0 (av.map some ++ List.replicate (maxL - av.length) none) [] 0) :
    oHi l g y (.codeWith y cc maxL (some ty) hh) lam mc av σ post := by
  intro sz
  refine vx_ofWH (cc := cc) (maxL := maxL) (ret := some ty) (hh := hh) hy rfl ?_
  intro p e s m args below meth c s₁ B hml hv
  obtain ⟨rfl, hv, hnc⟩ := hv
  have ht := vx_table (x := y) B (atoms_spec (ws := Cond.codeWith y cc maxL (some ty) hh :: wsL_law) B.pre _ List.mem_cons_self)
  obtain ⟨C, hP, hS, -⟩ := o_ctx B hml ho hv
  obtain ⟨ls, e1, hl2⟩ := oL.entry av (n := maxL) hc hn
  rw [lg_entry_eq, e1]
  refine body _ C hnc ht (fun z σ' pc vs k hd hn9 hp hk => ?_) s.heap [] ls hl2 hP hS
  exact fun H locs ls hl hP hS => vx_ret (o_bodyI (l := l) (own := own) (lam := lam) (σ := σ) (post := post) B.exec B.bytes B.returns B.notSynchronized (fun z9 σ9 t9 h1 h2 h3 => ⟨⟨Int32.ofInt z9, σ9, rfl, ⟨z9, rfl, h1⟩, h2⟩, h3⟩) hd hn9 hp hk H locs ls hl hP hS)
/-- the handler of a throw at a place -/
def oRow (hh : List (Nat × Nat × Nat × Nat)) (pc : Nat) (E : String) (h : Nat) : Prop := ∃ (pre : List ExceptionTableEntry) (xx : ExceptionTableEntry) (suf : List ExceptionTableEntry), tableOf hh = pre ++ xx :: suf ∧ (∀ z ∈ pre, covers z pc = false ∨ (z.catchType ≠ 0 ∧ ∃ nm : String, Cond.classLink RL z.catchType nm ∈ wsL_law ∧ (E, nm) ∈ o_nc)) ∧ covers xx pc = true ∧ xx.catchType ≠ 0 ∧ Cond.classLink RL xx.catchType E ∈ wsL_law ∧ E ∈ o_ca ∧ xx.handlerPc = h
theorem o_callVxh {l : Launch} {g : oG} {cc : ByteArray} {lam mc lam' mc' : Nat} {x : oCtx} {σ : oMem} {pc : Nat} {vs : List (Option Value)} {rest : List Value} {k : Nat} {y : MethodName} {bytes : ByteArray} {maxL idx n K i : Nat} {ty : FieldType} {As : List Value} {postI : Int → oMem → Prop} {pxc : String → Prop} {hh : List (Nat × Nat × Nat × Nat)} (hN : oNCx x) (hT : oTab hh x) (C : oK l g RL cc lam mc x) (hM : oXi l g y (.code y bytes maxL (some ty)) lam' mc' (.ref (g.2.1 K i) :: As) σ postI pxc) (w1 : Cond.methodLink RL idx y ∈ wsL_law) (w2 : Cond.instanceMethod y ∈ wsL_law) (w3 : Cond.selects y.cls y y ∈ wsL_law) (w4 : Cond.initialized y.cls ∈ wsL_law) (w5 : Cond.code y bytes maxL (some ty) ∈ wsL_law) (hi : i < o_n K) (hr : oRecv g σ y K i) (hy : oDn y n) (hL : maxL ≤ 81) (hlm : lam' + 1 ≤ lam) (hk : k + mc' ≤ mc) (hn : As.length = n) (hW : (rest.map fun v => v.category).sum ≤ 8) (hd : decode cc pc = .ok (.invokevirtual idx, 3))
    (kx : ∀ E : String, pxc E → ∃ h : Nat, oRow hh pc E h ∧ ∀ q : Nat, oW l g x σ h vs [.ref q] (k + mc')) (kk : ∀ (z : Int) (σ' : oMem), postI z σ' → oW l g x σ' (pc + 3) vs (oi z :: rest) (k + mc')) : oW l g x σ pc vs (As.reverse ++ .ref (g.2.1 K i) :: rest) k := by
  obtain ⟨p, e, R, s, m, args, below, meth, c, Q, A, nL⟩ := x
  have C0 := C
  obtain ⟨hx, hb, hml, hown, hts, hK, hD, hA, hF, hR1, hR2, hR3, hR4⟩ := C
  intro H locs ls hl hP hS
  refine vx_calli (vx_runV (As := As) (rest := rest) (Ts := wsL_law) ⟨hx, hb, hml, hown, hts⟩ (hM H.size) (cwV n hts (o_good4 w1 w2 w3 w4 (o_good w5)) rfl rfl rfl ⟨rfl, hy⟩ ⟨by show 10 + lam' + 1 ≤ _; omega, by show 8 + (maxL + 11) + (200 + 100 * lam') ≤ _; omega⟩) ⟨oPre_blind, o_recv (p := p) (e := e) (R := R) (m := m) (args := args) (below := below) (meth := meth) (c := c) (Q := Q) (A := A) (nL := nL) hK hP hi hr, o_pre C0 hP hS _⟩ rfl hn hl.1.1 rfl (by show 2 * 0 + _ ≤ 8; omega) hd ⟨by omega, by omega⟩) hS (fun q _ h => oA_in hD hA hS.1 q h) (fun q h => oA_in hD hA hS.1 q h) (fun q _ h => oA_in hD hA hS.1 q h) (fun E ce q9 u t H1 locs1 ht hvm hp hB hz hk1 hS1 h1 h2 h3 => ?_) (fun r σ' t H1 locs1 ht hvm hp hB hz hk1 hS1 => ?_)
  · obtain ⟨h, ⟨pre, xx, suf, e1, e2, e3, e4, e5, e6, rfl⟩, h9⟩ := kx E hB.1
    have hcast : (Cond.castable E E).before args s = true := va_Nw.use rfl (hF.2.2.2.2.2.1 _ e6)
    refine vx_catch (own := RL) hown pre xx suf (Eq.trans hT e1) (fun z hz => ?_) e3 e4 (hts _ e5) hcast h1 h2 h3 ?_
    · rcases e2 z hz with a | ⟨a, nm, b, d⟩
      · exact Or.inl a
      · exact Or.inr ⟨a, nm, hts _ b, hN _ d⟩
    · have h := h9 q9 H1 locs1 ls hl (by rw [← ht]; exact hB.2) hS1
      rw [Nat.mul_add] at h
      exact h
  obtain ⟨z, rfl, hp⟩ := hp
  have h := kk z σ' hp H1 locs1 ls hl (by rw [← ht]; exact hB) hS1
  rw [Nat.mul_add] at h
  exact h
/-! longs -/
section OLONG
variable {l : Launch} {g : oG} {own : String} {cc : ByteArray} {lam mc : Nat} {x : oCtx} {σ : oMem} {pc : Nat} {vs : List (Option Value)} {st : List Value} {k : Nat}
def ol (z : Int) : Value := .long (Int32.ofInt z).toInt64
theorem o_i2l {z : Int} (C : oK l g own cc lam mc x) (hd : decode cc pc = .ok (.i2l, 1)) (kk : oW l g x σ (pc + 1) vs (ol z :: st) k) : oW l g x σ pc vs (oi z :: st) k := by
  obtain ⟨p, e, R, s, m, args, below, meth, c, Q, A, nL⟩ := x
  obtain ⟨hx, hb, -⟩ := C
  exact fun H locs ls hl hP hS => lv_i2l hx hb hd rfl (kk H locs ls hl hP hS)
theorem o_lconst {n : Fin 2} {z : Int} (C : oK l g own cc lam mc x) (hd : decode cc pc = .ok (.lconst n, 1)) (hv : Int64.ofNat (n : Nat) = (Int32.ofInt z).toInt64) (kk : oW l g x σ (pc + 1) vs (ol z :: st) k) : oW l g x σ pc vs st k := by
  obtain ⟨p, e, R, s, m, args, below, meth, c, Q, A, nL⟩ := x
  obtain ⟨hx, hb, -⟩ := C
  exact fun H locs ls hl hP hS => lv_lconst hx hb hd hv (kk H locs ls hl hP hS)
theorem o_lald (C : oK l g own cc lam mc x) (hd : decode cc pc = .ok (.laload, 1)) (kk : oW l g x σ (pc + 1) vs (ol (σ 47 0 0) :: st) k) : oW l g x σ pc vs (oi 0 :: .ref (g.2.1 47 0) :: st) k := by
  obtain ⟨p, e, R, s, m, args, below, meth, c, Q, A, nL⟩ := x
  obtain ⟨hx, hb, hml, hown, hts, hK, -⟩ := C
  intro H locs ls hl hP hS
  obtain ⟨q0, hq, -⟩ := o_at g σ (K := 47) (i := 0) (by decide)
  exact va_lald hx hb hK hP q0 5 hq rfl (o_in (z := 0) (n := 1) (by decide) (by decide) (by decide)) hd (kk H locs ls hl hP hS)
theorem o_last {z : Int} (C : oK l g own cc lam mc x) (hd : decode cc pc = .ok (.lastore, 1)) (kk : oW l g x (o_up σ 47 0 0 z) (pc + 1) vs st k) : oW l g x σ pc vs (ol z :: oi 0 :: .ref (g.2.1 47 0) :: st) k := by
  obtain ⟨p, e, R, s, m, args, below, meth, c, Q, A, nL⟩ := x
  obtain ⟨hx, hb, hml, hown, hts, hK, hD, -⟩ := C
  intro H locs ls hl hP hS
  obtain ⟨q0, hq, hset2⟩ := o_at g σ (K := 47) (i := 0) (by decide)
  refine va_last hx hb hK hP (o_ws_D hD) hS q0 5 hq rfl (o_in (z := 0) (n := 1) (by decide) (by decide) (by decide)) hd (fun H1 locs1 hP1 hD1 hS1 => ?_)
  rw [hset2 (o_up σ 47 0 0 z) _ (fun K' i' h => o_up_row σ 47 0 0 z K' i' h) (by
    rw [o_up_own]
    show Sum.inl (g.2.2 5, 1, Sum.inr (Sum.inl (vp_updL (fun j => (Int32.ofInt (σ 47 0 j)).toInt64) 0 (Int32.ofInt z).toInt64))) = Sum.inl (g.2.2 5, 1, Sum.inr (Sum.inl (fun j => (Int32.ofInt (if j = 0 then z else σ 47 0 j)).toInt64)))
    refine congrArg (fun f => Sum.inl (g.2.2 5, 1, Sum.inr (Sum.inl f))) (funext fun j => ?_)
    unfold vp_updL
    split <;> rfl)] at hP1
  exact kk H1 locs1 ls hl hP1 hS1
theorem o_icmp_same {a : Int} {off : Int} {tgt : Nat} (C : oK l g own cc lam mc x) (hd : decode cc pc = .ok (.if_icmp .eq off, 3)) (ht : (pc : Int) + off = (tgt : Int)) (kk : oW l g x σ tgt vs st k) : oW l g x σ pc vs (oi a :: oi a :: st) k := by
  obtain ⟨p, e, R, s, m, args, below, meth, c, Q, A, nL⟩ := x
  obtain ⟨hx, hb9, -⟩ := C
  intro H locs ls hl hP hS
  exact lv_icmp_eq hx hb9 hd ht (fun _ => kk H locs ls hl hP hS) (fun h1 => absurd rfl h1)
theorem o_lcmp_same {z : Int} (C : oK l g own cc lam mc x) (hd : decode cc pc = .ok (.lcmp, 1)) (kk : oW l g x σ (pc + 1) vs (oi 0 :: st) k) : oW l g x σ pc vs (ol z :: ol z :: st) k := by
  obtain ⟨p, e, R, s, m, args, below, meth, c, Q, A, nL⟩ := x
  obtain ⟨hx, hb9, -⟩ := C
  intro H locs ls hl hP hS
  refine W.lcmp hx hb9 hd ?_
  have h := kk H locs ls hl hP hS
  rw [show lg_cmp (Int32.ofInt z).toInt64 (Int32.ofInt z).toInt64 = 0 by simp [lg_cmp]]
  exact h
end OLONG
