/-! fields, rows, calls -/
section OHEAP
variable {l : Launch} {g : oG} {own : String} {cc : ByteArray} {lam mc : Nat} {x : oCtx} {σ : oMem} {pc : Nat} {vs : List (Option Value)} {st : List Value} {k : Nat}
theorem o_get {Cn : String} {T : u_T} {N ci idx K i slot : Nat} {fs : List Value} {v : Value} (C : oK l g own cc lam mc x) (hi : i < o_n K) (hsh : o_sh g K i (σ K i) = .inr (ci, fs)) (hc : vwCl[ci]? = some (Cn, T, N)) (hin : ∀ w ∈ u_ws Cn T N, w ∈ wsL_law) (hk : slot < N) (hlink : Cond.fieldLink own idx (T slot).1 (T slot).2.1 (T slot).2.2.1 ∈ wsL_law) (hv : fs[slot]? = some v) (hd : decode cc pc = .ok (.getfield idx, 3)) (kk : oW l g x σ (pc + 3) vs (v :: st) k) : oW l g x σ pc vs (.ref (g.2.1 K i) :: st) k := by
  obtain ⟨p, e, R, s, m, args, below, meth, c, Q, A, nL⟩ := x
  obtain ⟨hx, hb, hml, hown, hts, hK, -⟩ := C
  intro H locs ls hl hP hS
  obtain ⟨q0, hq, -⟩ := o_at g σ hi
  rw [hsh] at hq
  exact va_get hx hb hts hin hown hK hP q0 hq hc slot hk (hts _ hlink) (fun _ h => h) hv hd (kk H locs ls hl hP hS)
theorem o_getN {Cn host : String} {T : u_T} {N ci idx K i slot : Nat} {fs : List Value} {v : Value} (C : oK l g own cc lam mc x) (hi : i < o_n K) (hsh : o_sh g K i (σ K i) = .inr (ci, fs)) (hc : vwCl[ci]? = some (Cn, T, N)) (hin : ∀ w ∈ u_ws Cn T N, w ∈ wsL_law) (hk : slot < N) (hlink : (own, idx, (T slot).1, (T slot).2.1, (T slot).2.2.1, host) ∈ o_nf) (hv : fs[slot]? = some v) (hd : decode cc pc = .ok (.getfield idx, 3)) (kk : oW l g x σ (pc + 3) vs (v :: st) k) : oW l g x σ pc vs (.ref (g.2.1 K i) :: st) k := by
  obtain ⟨p, e, R, s, m, args, below, meth, c, Q, A, nL⟩ := x
  obtain ⟨hx, hb, hml, hown, hts, hK, -, -, hF, -⟩ := C
  intro H locs ls hl hP hS
  obtain ⟨q0, hq, -⟩ := o_at g σ hi
  rw [hsh] at hq
  exact va_getN hx hb hts hin hown hK hP q0 hq hc slot hk (va_Nw.use rfl (hF.1 _ hlink)) (fun _ h => h) hv hd (kk H locs ls hl hP hS)
theorem o_put {Cn : String} {T : u_T} {N ci idx K i slot : Nat} {z : Int} (C : oK l g own cc lam mc x) (hi : i < o_n K) (fs : (Nat → Int) → List Value) (hsh : ∀ f, o_sh g K i f = .inr (ci, fs f)) (hset : ∀ (f : Nat → Int) (v : Int), (fs f).set slot (oi v) = fs (fun j => if j = slot then v else f j)) (hc : vwCl[ci]? = some (Cn, T, N)) (hin : ∀ w ∈ u_ws Cn T N, w ∈ wsL_law) (ty0 : Nat → FieldType) (hty : ∀ k, k < N → parseFieldDescriptor (T k).2.2.1 = some (ty0 k)) (hnm : ∀ a, a < N → ∀ b, b < N → a ≠ b → (T a).2.1 ≠ (T b).2.1) (hk : slot < N) (hlink : Cond.fieldLink own idx (T slot).1 (T slot).2.1 (T slot).2.2.1 ∈ wsL_law) (hfin : (T slot).2.2.2 = false) (hpd : parseFieldDescriptor (T slot).2.2.1 = some .int) (hl0 : slot < (fs (σ K i)).length) (hd : decode cc pc = .ok (.putfield idx, 3)) (kk : oW l g x (o_up σ K i slot z) (pc + 3) vs st k) : oW l g x σ pc vs (oi z :: .ref (g.2.1 K i) :: st) k := by
  obtain ⟨p, e, R, s, m, args, below, meth, c, Q, A, nL⟩ := x
  obtain ⟨hx, hb, hml, hown, hts, hK, hD, -⟩ := C
  intro H locs ls hl hP hS
  obtain ⟨q0, hq, hset2⟩ := o_at g σ hi
  rw [hsh] at hq
  refine va_put hx hb hts hin ty0 hty hnm hown hK hP (o_ws_D hD) hS q0 hq hc slot hk (hts _ hlink) (fun _ h => h) hfin hpd rfl rfl hl0 hd (fun H1 locs1 hP1 hD1 hS1 => ?_)
  rw [hset2 (o_up σ K i slot z) _ (fun K' i' h => o_up_row σ K i slot z K' i' h) (by rw [hsh, hset, o_up_own])] at hP1
  exact kk H1 locs1 ls hl hP1 hS1
theorem o_len_le (K : Nat) : o_len K ≤ 2001 := by
  unfold o_len
  rw [List.getD_eq_getElem?_getD]
  cases h : o_lens[K]? with
  | none => exact Nat.zero_le _
  | some v => exact (show ∀ v ∈ o_lens, v ≤ 2001 by decide) v (List.mem_of_getElem? h)
theorem o_iald {K i : Nat} {z : Int} (C : oK l g own cc lam mc x) (hi : i < o_n K) (hsh : ∀ f, o_sh g K i f = .inl (g.2.2 0, o_len K, .inl (fun j => Int32.ofInt (f j)))) (h0 : 0 ≤ z) (h1 : z < o_len K) (hd : decode cc pc = .ok (.iaload, 1)) (kk : oW l g x σ (pc + 1) vs (oi (σ K i z.toNat) :: st) k) : oW l g x σ pc vs (oi z :: .ref (g.2.1 K i) :: st) k := by
  obtain ⟨p, e, R, s, m, args, below, meth, c, Q, A, nL⟩ := x
  obtain ⟨hx, hb, hml, hown, hts, hK, -⟩ := C
  intro H locs ls hl hP hS
  obtain ⟨q0, hq, -⟩ := o_at g σ hi
  rw [hsh] at hq
  have hle := o_len_le K
  refine va_iald hx hb hK hP q0 0 hq rfl (o_in h0 h1 (by omega)) hd ?_
  rw [o_nat ⟨by omega, by omega⟩]
  exact kk H locs ls hl hP hS
theorem o_iast {K i : Nat} {z v : Int} (C : oK l g own cc lam mc x) (hi : i < o_n K) (hsh : ∀ f, o_sh g K i f = .inl (g.2.2 0, o_len K, .inl (fun j => Int32.ofInt (f j)))) (h0 : 0 ≤ z) (h1 : z < o_len K) (hd : decode cc pc = .ok (.iastore, 1)) (kk : oW l g x (o_up σ K i z.toNat v) (pc + 1) vs st k) : oW l g x σ pc vs (oi v :: oi z :: .ref (g.2.1 K i) :: st) k := by
  obtain ⟨p, e, R, s, m, args, below, meth, c, Q, A, nL⟩ := x
  obtain ⟨hx, hb, hml, hown, hts, hK, hD, -⟩ := C
  intro H locs ls hl hP hS
  obtain ⟨q0, hq, hset2⟩ := o_at g σ hi
  rw [hsh] at hq
  have hle := o_len_le K
  refine va_iast hx hb hK hP (o_ws_D hD) hS q0 0 hq rfl (o_in h0 h1 (by omega)) hd (fun H1 locs1 hP1 hD1 hS1 => ?_)
  rw [o_nat ⟨by omega, by omega⟩] at hP1
  rw [hset2 (o_up σ K i z.toNat v) _ (fun K' i' h => o_up_row σ K i z.toNat v K' i' h) (by
    rw [hsh, o_up_own]
    refine congrArg (fun f => Sum.inl (g.2.2 0, o_len K, Sum.inl f)) (funext fun j => ?_)
    show (if j = z.toNat then Int32.ofInt v else Int32.ofInt (σ K i j)) = Int32.ofInt (if j = z.toNat then v else σ K i j)
    split <;> rfl)] at hP1
  exact kk H1 locs1 ls hl hP1 hS1
theorem o_aald {K i t0 n : Nat} {ty : FieldType} {cA : ClassId} {f : Nat → Nat} {z : Int} (C : oK l g own cc lam mc x) (hi : i < o_n K) (hsh : o_sh g K i (σ K i) = .inl (cA, n, .inr (.inr (.inr (.inr (fun j => some (f j))))))) (ht : (o_tys g)[t0]? = some (cA, ty)) (hr : ty.isReference = true) (hn : n ≤ 2147483647) (h0 : 0 ≤ z) (h1 : z < n) (hd : decode cc pc = .ok (.aaload, 1)) (kk : oW l g x σ (pc + 1) vs (.ref (f z.toNat) :: st) k) : oW l g x σ pc vs (oi z :: .ref (g.2.1 K i) :: st) k := by
  obtain ⟨p, e, R, s, m, args, below, meth, c, Q, A, nL⟩ := x
  obtain ⟨hx, hb, hml, hown, hts, hK, -⟩ := C
  intro H locs ls hl hP hS
  obtain ⟨q0, hq, -⟩ := o_at g σ hi
  rw [hsh] at hq
  have hin := o_in (n := n) h0 h1 hn
  have hlt : (Int32.ofInt z).toNatClampNeg < n := Nat.not_le.mp fun q => hin (Or.inr q)
  refine W.aald (v := .ref (f z.toNat)) (ty := ty) hx hb (hP q0 _ hq) ((hK.2 t0 _ ht).1 n (fun j => va_rf (some (f j)))) hr (fun q => by cases q) (by show ¬ (Int32.ofInt z < 0 ∨ (arrV _ _ _).slots.size ≤ _); rw [arrV_size]; exact hin) (by show (arrV _ _ _).slots[_]? = _; rw [arrV_read _ _ hlt, o_nat ⟨by omega, by omega⟩]; rfl) rfl rfl hd (kk H locs ls hl hP hS)
theorem o_alen {K i t0 n : Nat} {xx : vp_A} {ty : FieldType} {cA : ClassId} (C : oK l g own cc lam mc x) (hi : i < o_n K) (hsh : o_sh g K i (σ K i) = .inl (cA, xx)) (ht : (o_tys g)[t0]? = some (cA, ty)) (hn : Int32.ofNat xx.1 = Int32.ofInt (n : Int)) (hd : decode cc pc = .ok (.arraylength, 1)) (kk : oW l g x σ (pc + 1) vs (oi (n : Int) :: st) k) : oW l g x σ pc vs (.ref (g.2.1 K i) :: st) k := by
  obtain ⟨p, e, R, s, m, args, below, meth, c, Q, A, nL⟩ := x
  obtain ⟨hx, hb, hml, hown, hts, hK, -⟩ := C
  intro H locs ls hl hP hS
  obtain ⟨q0, hq, -⟩ := o_at g σ hi
  rw [hsh] at hq
  exact va_alen hx hb hK hP q0 t0 hq ht hn hd (kk H locs ls hl hP hS)
theorem o_max {a b : Int} {idx : Nat} (C : oK l g own cc lam mc x) (w1 : Cond.methodLink own idx Lib.Math.max.name ∈ wsL_law) (w2 : Cond.static Lib.Math.max.name ∈ wsL_law) (w3 : Cond.initialized "java/lang/Math" ∈ wsL_law) (w4 : Cond.code Lib.Math.max.name Lib.Math.max.code 2 (some .int) ∈ wsL_law) (ha : InR a) (hb9 : InR b) (hW : (st.map fun v => v.category).sum ≤ 8) (hk : k ≤ mc) (hd : decode cc pc = .ok (.invokestatic idx, 3)) (kk : oW l g x σ (pc + 3) vs (oi (if a < b then b else a) :: st) k) : oW l g x σ pc vs (oi b :: oi a :: st) k := by
  obtain ⟨p, e, R, s, m, args, below, meth, c, Q, A, nL⟩ := x
  obtain ⟨hx, hb, hml, hown, hts, hK, hD, hA, hF, hR1, hR2, hR3, hR4⟩ := C
  intro H locs ls hl hP hS
  refine va_mmax hx hb (hml.trans hl.1.1.symm) hown (hts _ w1) (hts _ w2) (hts _ w3) (hts _ w4) (by omega) (by omega) (by omega) (by omega) hd ?_
  have h := kk H locs ls hl hP hS
  have e9 : (if Int32.ofInt a < Int32.ofInt b then Int32.ofInt b else Int32.ofInt a) = Int32.ofInt (if a < b then b else a) := by
    by_cases q : a < b
    · rw [if_pos q, if_pos ((o_lt ha hb9).mpr q)]
    · rw [if_neg q, if_neg (fun h => q ((o_lt ha hb9).mp h))]
  rw [e9]; exact h
theorem o_min {a b : Int} {idx : Nat} (C : oK l g own cc lam mc x) (w1 : Cond.methodLink own idx Lib.Math.min.name ∈ wsL_law) (w2 : Cond.static Lib.Math.min.name ∈ wsL_law) (w3 : Cond.initialized "java/lang/Math" ∈ wsL_law) (w4 : Cond.code Lib.Math.min.name Lib.Math.min.code 2 (some .int) ∈ wsL_law) (ha : InR a) (hb9 : InR b) (hW : (st.map fun v => v.category).sum ≤ 8) (hk : k ≤ mc) (hd : decode cc pc = .ok (.invokestatic idx, 3)) (kk : oW l g x σ (pc + 3) vs (oi (if b < a then b else a) :: st) k) : oW l g x σ pc vs (oi b :: oi a :: st) k := by
  obtain ⟨p, e, R, s, m, args, below, meth, c, Q, A, nL⟩ := x
  obtain ⟨hx, hb, hml, hown, hts, hK, hD, hA, hF, hR1, hR2, hR3, hR4⟩ := C
  intro H locs ls hl hP hS
  refine va_mmin hx hb (hml.trans hl.1.1.symm) hown (hts _ w1) (hts _ w2) (hts _ w3) (hts _ w4) (by omega) (by omega) (by omega) (by omega) hd ?_
  have h := kk H locs ls hl hP hS
  have e9 : (if Int32.ofInt b < Int32.ofInt a then Int32.ofInt b else Int32.ofInt a) = Int32.ofInt (if b < a then b else a) := by
    by_cases q : b < a
    · rw [if_pos q, if_pos ((o_lt hb9 ha).mpr q)]
    · rw [if_neg q, if_neg (fun h => q ((o_lt hb9 ha).mp h))]
  rw [e9]; exact h
end OHEAP
section OCALLS
variable {l : Launch} {g : oG} {own : String} {cc : ByteArray} {lam mc lam' mc' : Nat} {x : oCtx} {σ : oMem} {pc : Nat} {vs : List (Option Value)} {st rest : List Value} {k : Nat}
variable {y : MethodName} {bytes : ByteArray} {maxL idx n K i : Nat} {ty : FieldType} {As : List Value} {postI : Int → oMem → Prop} {postV : oMem → Prop} {px pxc : String → Prop} {σ0 : oMem}
abbrev oDn (y : MethodName) (n : Nat) : Prop := y.cls ≠ "java/lang/invoke/MethodHandle" ∧ y.cls ≠ "java/lang/invoke/VarHandle" ∧ (parseMethodDescriptor y.desc).map (fun d => d.parameters.length) = some n
abbrev oRecv (g : oG) (σ : oMem) (y : MethodName) (K i : Nat) : Prop := ∃ (ci : Nat) (fs : List Value) (q : vw_C), o_sh g K i (σ K i) = .inr (ci, fs) ∧ vwCl[ci]? = some q ∧ q.1 = y.cls
theorem o_recv {p : Program} {e : Env} {R : Room} {s : State} {m : MethodId} {args : Array Value} {below : List Frame} {meth : Method} {c : Code} {Q : State → Prop} {A : Nat → Prop} {nL : Nat} {H : Heap} (hK : va_K g.1 vwCl (o_tys g) s) (hP : va_P g.1 vwCl (o_ws g σ) H) (hi : i < o_n K) (hr : oRecv g σ y K i) : ∃ cell : Cell, H[g.2.1 K i]? = some cell ∧ cell.vm.isStatics = false ∧ s.vm.findClass y.cls = some cell.cls := by
  obtain ⟨ci, fs, q, h1, h2, h3⟩ := hr
  obtain ⟨q0, hq, -⟩ := o_at g σ hi
  rw [h1] at hq
  rw [← h3]
  exact va_recv hK hP h2 hq
theorem o_callVi (C : oK l g own cc lam mc x) (hM : oMi l g y (.code y bytes maxL (some ty)) lam' mc' (.ref (g.2.1 K i) :: As) σ postI) (w1 : Cond.methodLink own idx y ∈ wsL_law) (w2 : Cond.instanceMethod y ∈ wsL_law) (w3 : Cond.selects y.cls y y ∈ wsL_law) (w4 : Cond.initialized y.cls ∈ wsL_law) (w5 : Cond.code y bytes maxL (some ty) ∈ wsL_law) (hi : i < o_n K) (hr : oRecv g σ y K i) (hy : oDn y n) (hL : maxL ≤ 81) (hlm : lam' + 1 ≤ lam) (hk : k + mc' ≤ mc) (hn : As.length = n) (hW : (rest.map fun v => v.category).sum ≤ 8) (hd : decode cc pc = .ok (.invokevirtual idx, 3)) (kk : ∀ (z : Int) (σ' : oMem), postI z σ' → oW l g x σ' (pc + 3) vs (oi z :: rest) (k + mc')) : oW l g x σ pc vs (As.reverse ++ .ref (g.2.1 K i) :: rest) k := by
  obtain ⟨p, e, R, s, m, args, below, meth, c, Q, A, nL⟩ := x
  have C0 := C
  obtain ⟨hx, hb, hml, hown, hts, hK, hD, hA, hF, hR1, hR2, hR3, hR4⟩ := C
  intro H locs ls hl hP hS
  refine va_calli (va_runV (As := As) (rest := rest) (Ts := wsL_law) ⟨hx, hb, hml, hown, hts⟩ (hM H.size) (cwV n hts (o_good4 w1 w2 w3 w4 (o_good w5)) rfl rfl rfl ⟨rfl, hy⟩ ⟨by show 10 + lam' + 1 ≤ _; omega, by show 8 + (maxL + 11) + (200 + 100 * lam') ≤ _; omega⟩) ⟨oPre_blind, o_recv (p := p) (e := e) (R := R) (m := m) (args := args) (below := below) (meth := meth) (c := c) (Q := Q) (A := A) (nL := nL) hK hP hi hr, o_pre C0 hP hS _⟩ rfl hn hl.1.1 rfl (by show 2 * 0 + _ ≤ 8; omega) hd ⟨by omega, by omega⟩) hS (fun q _ h => oA_in hD hA hS.1 q h) (fun q h => oA_in hD hA hS.1 q h) (fun r σ' t H1 locs1 ht hvm hp hB hz hk1 hS1 => ?_)
  obtain ⟨z, rfl, hp⟩ := hp
  have h := kk z σ' hp H1 locs1 ls hl (by rw [← ht]; exact hB) hS1
  rw [Nat.mul_add] at h
  exact h
theorem o_callVv (C : oK l g own cc lam mc x) (hM : oMv l g y (.code y bytes maxL (none)) lam' mc' (.ref (g.2.1 K i) :: As) σ postV) (w1 : Cond.methodLink own idx y ∈ wsL_law) (w2 : Cond.instanceMethod y ∈ wsL_law) (w3 : Cond.selects y.cls y y ∈ wsL_law) (w4 : Cond.initialized y.cls ∈ wsL_law) (w5 : Cond.code y bytes maxL (none) ∈ wsL_law) (hi : i < o_n K) (hr : oRecv g σ y K i) (hy : oDn y n) (hL : maxL ≤ 81) (hlm : lam' + 1 ≤ lam) (hk : k + mc' ≤ mc) (hn : As.length = n) (hW : (rest.map fun v => v.category).sum ≤ 8) (hd : decode cc pc = .ok (.invokevirtual idx, 3)) (kk : ∀ σ' : oMem, postV σ' → oW l g x σ' (pc + 3) vs rest (k + mc')) : oW l g x σ pc vs (As.reverse ++ .ref (g.2.1 K i) :: rest) k := by
  obtain ⟨p, e, R, s, m, args, below, meth, c, Q, A, nL⟩ := x
  have C0 := C
  obtain ⟨hx, hb, hml, hown, hts, hK, hD, hA, hF, hR1, hR2, hR3, hR4⟩ := C
  intro H locs ls hl hP hS
  refine va_callv (va_runV (As := As) (rest := rest) (Ts := wsL_law) ⟨hx, hb, hml, hown, hts⟩ (hM H.size) (cwV n hts (o_good4 w1 w2 w3 w4 (o_good w5)) rfl rfl rfl ⟨rfl, hy⟩ ⟨by show 10 + lam' + 1 ≤ _; omega, by show 8 + (maxL + 11) + (200 + 100 * lam') ≤ _; omega⟩) ⟨oPre_blind, o_recv (p := p) (e := e) (R := R) (m := m) (args := args) (below := below) (meth := meth) (c := c) (Q := Q) (A := A) (nL := nL) hK hP hi hr, o_pre C0 hP hS _⟩ rfl hn hl.1.1 rfl (by show 2 * 0 + _ ≤ 8; omega) hd ⟨by omega, by omega⟩) hS (fun q _ h => oA_in hD hA hS.1 q h) (fun q h => oA_in hD hA hS.1 q h) (fun σ' t H1 locs1 ht hvm hp hB hz hk1 hS1 => ?_)
  have h := kk σ' hp H1 locs1 ls hl (by rw [← ht]; exact hB) hS1
  rw [Nat.mul_add] at h
  exact h
theorem o_callVxi (T : oT l g own cc mc σ px x) (C : oK l g own cc lam mc x) (hM : oXi l g y (.code y bytes maxL (some ty)) lam' mc' (.ref (g.2.1 K i) :: As) σ postI pxc) (hpx : ∀ E, pxc E → px E) (w1 : Cond.methodLink own idx y ∈ wsL_law) (w2 : Cond.instanceMethod y ∈ wsL_law) (w3 : Cond.selects y.cls y y ∈ wsL_law) (w4 : Cond.initialized y.cls ∈ wsL_law) (w5 : Cond.code y bytes maxL (some ty) ∈ wsL_law) (hi : i < o_n K) (hr : oRecv g σ y K i) (hy : oDn y n) (hL : maxL ≤ 81) (hlm : lam' + 1 ≤ lam) (hk : k + mc' ≤ mc) (hn : As.length = n) (hW : (rest.map fun v => v.category).sum ≤ 8) (hd : decode cc pc = .ok (.invokevirtual idx, 3)) (kk : ∀ (z : Int) (σ' : oMem), postI z σ' → oW l g x σ' (pc + 3) vs (oi z :: rest) (k + mc')) : oW l g x σ pc vs (As.reverse ++ .ref (g.2.1 K i) :: rest) k := by
  obtain ⟨p, e, R, s, m, args, below, meth, c, Q, A, nL⟩ := x
  have C0 := C
  obtain ⟨hx, hb, hml, hown, hts, hK, hD, hA, hF, hR1, hR2, hR3, hR4⟩ := C
  intro H locs ls hl hP hS
  refine vx_calli (vx_runV (As := As) (rest := rest) (Ts := wsL_law) ⟨hx, hb, hml, hown, hts⟩ (hM H.size) (cwV n hts (o_good4 w1 w2 w3 w4 (o_good w5)) rfl rfl rfl ⟨rfl, hy⟩ ⟨by show 10 + lam' + 1 ≤ _; omega, by show 8 + (maxL + 11) + (200 + 100 * lam') ≤ _; omega⟩) ⟨oPre_blind, o_recv (p := p) (e := e) (R := R) (m := m) (args := args) (below := below) (meth := meth) (c := c) (Q := Q) (A := A) (nL := nL) hK hP hi hr, o_pre C0 hP hS _⟩ rfl hn hl.1.1 rfl (by show 2 * 0 + _ ≤ 8; omega) hd ⟨by omega, by omega⟩) hS (fun q _ h => oA_in hD hA hS.1 q h) (fun q h => oA_in hD hA hS.1 q h) (fun q _ h => oA_in hD hA hS.1 q h) (fun E ce q9 u t H1 locs1 ht hvm hp hB hz hk1 hS1 h1 h2 h3 => ?_) (fun r σ' t H1 locs1 ht hvm hp hB hz hk1 hS1 => ?_)
  · have h := T.1 E ce q9 H1 locs1 ls pc rest (k + mc') (hpx E hB.1) (by rw [← ht]; exact hB.2) hS1 h1 h2 h3 hk
    rw [Nat.mul_add] at h
    exact h
  obtain ⟨z, rfl, hp⟩ := hp
  have h := kk z σ' hp H1 locs1 ls hl (by rw [← ht]; exact hB) hS1
  rw [Nat.mul_add] at h
  exact h
theorem o_callVxv (T : oT l g own cc mc σ px x) (C : oK l g own cc lam mc x) (hM : oXv l g y (.code y bytes maxL (none)) lam' mc' (.ref (g.2.1 K i) :: As) σ postV pxc) (hpx : ∀ E, pxc E → px E) (w1 : Cond.methodLink own idx y ∈ wsL_law) (w2 : Cond.instanceMethod y ∈ wsL_law) (w3 : Cond.selects y.cls y y ∈ wsL_law) (w4 : Cond.initialized y.cls ∈ wsL_law) (w5 : Cond.code y bytes maxL (none) ∈ wsL_law) (hi : i < o_n K) (hr : oRecv g σ y K i) (hy : oDn y n) (hL : maxL ≤ 81) (hlm : lam' + 1 ≤ lam) (hk : k + mc' ≤ mc) (hn : As.length = n) (hW : (rest.map fun v => v.category).sum ≤ 8) (hd : decode cc pc = .ok (.invokevirtual idx, 3)) (kk : ∀ σ' : oMem, postV σ' → oW l g x σ' (pc + 3) vs rest (k + mc')) : oW l g x σ pc vs (As.reverse ++ .ref (g.2.1 K i) :: rest) k := by
  obtain ⟨p, e, R, s, m, args, below, meth, c, Q, A, nL⟩ := x
  have C0 := C
  obtain ⟨hx, hb, hml, hown, hts, hK, hD, hA, hF, hR1, hR2, hR3, hR4⟩ := C
  intro H locs ls hl hP hS
  refine vx_callv (vx_runV (As := As) (rest := rest) (Ts := wsL_law) ⟨hx, hb, hml, hown, hts⟩ (hM H.size) (cwV n hts (o_good4 w1 w2 w3 w4 (o_good w5)) rfl rfl rfl ⟨rfl, hy⟩ ⟨by show 10 + lam' + 1 ≤ _; omega, by show 8 + (maxL + 11) + (200 + 100 * lam') ≤ _; omega⟩) ⟨oPre_blind, o_recv (p := p) (e := e) (R := R) (m := m) (args := args) (below := below) (meth := meth) (c := c) (Q := Q) (A := A) (nL := nL) hK hP hi hr, o_pre C0 hP hS _⟩ rfl hn hl.1.1 rfl (by show 2 * 0 + _ ≤ 8; omega) hd ⟨by omega, by omega⟩) hS (fun q _ h => oA_in hD hA hS.1 q h) (fun q h => oA_in hD hA hS.1 q h) (fun q _ h => oA_in hD hA hS.1 q h) (fun E ce q9 u t H1 locs1 ht hvm hp hB hz hk1 hS1 h1 h2 h3 => ?_) (fun σ' t H1 locs1 ht hvm hp hB hz hk1 hS1 => ?_)
  · have h := T.1 E ce q9 H1 locs1 ls pc rest (k + mc') (hpx E hB.1) (by rw [← ht]; exact hB.2) hS1 h1 h2 h3 hk
    rw [Nat.mul_add] at h
    exact h
  have h := kk σ' hp H1 locs1 ls hl (by rw [← ht]; exact hB) hS1
  rw [Nat.mul_add] at h
  exact h
theorem o_callSi (C : oK l g own cc lam mc x) (hM : oMi l g y (.code y bytes maxL (some ty)) lam' mc' As σ postI) (w1 : Cond.methodLink own idx y ∈ wsL_law) (w2 : Cond.static y ∈ wsL_law) (w4 : Cond.initialized own ∈ wsL_law) (w5 : Cond.code y bytes maxL (some ty) ∈ wsL_law) (ho : y.cls = own) (hy : oDn y n) (hL : maxL ≤ 81) (hlm : lam' + 1 ≤ lam) (hk : k + mc' ≤ mc) (hn : As.length = n) (hW : (rest.map fun v => v.category).sum ≤ 8) (hd : decode cc pc = .ok (.invokestatic idx, 3)) (kk : ∀ (z : Int) (σ' : oMem), postI z σ' → oW l g x σ' (pc + 3) vs (oi z :: rest) (k + mc')) : oW l g x σ pc vs (As.reverse ++ rest) k := by
  obtain ⟨p, e, R, s, m, args, below, meth, c, Q, A, nL⟩ := x
  have C0 := C
  obtain ⟨hx, hb, hml, hown, hts, hK, hD, hA, hF, hR1, hR2, hR3, hR4⟩ := C
  intro H locs ls hl hP hS
  refine va_calli (va_runS (As := As) (rest := rest) (Ts := wsL_law) ⟨hx, hb, hml, hown, hts⟩ (hM H.size) (cwS n hts (o_good3 w1 w2 w4 (o_good w5)) rfl rfl rfl ⟨ho, hy⟩ ⟨by show 10 + lam' + 1 ≤ _; omega, by show 8 + (maxL + 11) + (200 + 100 * lam') ≤ _; omega⟩) ⟨oPre_blind, o_pre C0 hP hS _⟩ rfl hn hl.1.1 rfl (by show 2 * 0 + _ ≤ 8; omega) hd ⟨by omega, by omega⟩) hS (fun q _ h => oA_in hD hA hS.1 q h) (fun q h => oA_in hD hA hS.1 q h) (fun r σ' t H1 locs1 ht hvm hp hB hz hk1 hS1 => ?_)
  obtain ⟨z, rfl, hp⟩ := hp
  have h := kk z σ' hp H1 locs1 ls hl (by rw [← ht]; exact hB) hS1
  rw [Nat.mul_add] at h
  exact h
theorem o_callSv (C : oK l g own cc lam mc x) (hM : oMv l g y (.code y bytes maxL (none)) lam' mc' As σ postV) (w1 : Cond.methodLink own idx y ∈ wsL_law) (w2 : Cond.static y ∈ wsL_law) (w4 : Cond.initialized own ∈ wsL_law) (w5 : Cond.code y bytes maxL (none) ∈ wsL_law) (ho : y.cls = own) (hy : oDn y n) (hL : maxL ≤ 81) (hlm : lam' + 1 ≤ lam) (hk : k + mc' ≤ mc) (hn : As.length = n) (hW : (rest.map fun v => v.category).sum ≤ 8) (hd : decode cc pc = .ok (.invokestatic idx, 3)) (kk : ∀ σ' : oMem, postV σ' → oW l g x σ' (pc + 3) vs rest (k + mc')) : oW l g x σ pc vs (As.reverse ++ rest) k := by
  obtain ⟨p, e, R, s, m, args, below, meth, c, Q, A, nL⟩ := x
  have C0 := C
  obtain ⟨hx, hb, hml, hown, hts, hK, hD, hA, hF, hR1, hR2, hR3, hR4⟩ := C
  intro H locs ls hl hP hS
  refine va_callv (va_runS (As := As) (rest := rest) (Ts := wsL_law) ⟨hx, hb, hml, hown, hts⟩ (hM H.size) (cwS n hts (o_good3 w1 w2 w4 (o_good w5)) rfl rfl rfl ⟨ho, hy⟩ ⟨by show 10 + lam' + 1 ≤ _; omega, by show 8 + (maxL + 11) + (200 + 100 * lam') ≤ _; omega⟩) ⟨oPre_blind, o_pre C0 hP hS _⟩ rfl hn hl.1.1 rfl (by show 2 * 0 + _ ≤ 8; omega) hd ⟨by omega, by omega⟩) hS (fun q _ h => oA_in hD hA hS.1 q h) (fun q h => oA_in hD hA hS.1 q h) (fun σ' t H1 locs1 ht hvm hp hB hz hk1 hS1 => ?_)
  have h := kk σ' hp H1 locs1 ls hl (by rw [← ht]; exact hB) hS1
  rw [Nat.mul_add] at h
  exact h
theorem o_callSxi (T : oT l g own cc mc σ px x) (C : oK l g own cc lam mc x) (hM : oXi l g y (.code y bytes maxL (some ty)) lam' mc' As σ postI pxc) (hpx : ∀ E, pxc E → px E) (w1 : Cond.methodLink own idx y ∈ wsL_law) (w2 : Cond.static y ∈ wsL_law) (w4 : Cond.initialized own ∈ wsL_law) (w5 : Cond.code y bytes maxL (some ty) ∈ wsL_law) (ho : y.cls = own) (hy : oDn y n) (hL : maxL ≤ 81) (hlm : lam' + 1 ≤ lam) (hk : k + mc' ≤ mc) (hn : As.length = n) (hW : (rest.map fun v => v.category).sum ≤ 8) (hd : decode cc pc = .ok (.invokestatic idx, 3)) (kk : ∀ (z : Int) (σ' : oMem), postI z σ' → oW l g x σ' (pc + 3) vs (oi z :: rest) (k + mc')) : oW l g x σ pc vs (As.reverse ++ rest) k := by
  obtain ⟨p, e, R, s, m, args, below, meth, c, Q, A, nL⟩ := x
  have C0 := C
  obtain ⟨hx, hb, hml, hown, hts, hK, hD, hA, hF, hR1, hR2, hR3, hR4⟩ := C
  intro H locs ls hl hP hS
  refine vx_calli (vx_runS (As := As) (rest := rest) (Ts := wsL_law) ⟨hx, hb, hml, hown, hts⟩ (hM H.size) (cwS n hts (o_good3 w1 w2 w4 (o_good w5)) rfl rfl rfl ⟨ho, hy⟩ ⟨by show 10 + lam' + 1 ≤ _; omega, by show 8 + (maxL + 11) + (200 + 100 * lam') ≤ _; omega⟩) ⟨oPre_blind, o_pre C0 hP hS _⟩ rfl hn hl.1.1 rfl (by show 2 * 0 + _ ≤ 8; omega) hd ⟨by omega, by omega⟩) hS (fun q _ h => oA_in hD hA hS.1 q h) (fun q h => oA_in hD hA hS.1 q h) (fun q _ h => oA_in hD hA hS.1 q h) (fun E ce q9 u t H1 locs1 ht hvm hp hB hz hk1 hS1 h1 h2 h3 => ?_) (fun r σ' t H1 locs1 ht hvm hp hB hz hk1 hS1 => ?_)
  · have h := T.1 E ce q9 H1 locs1 ls pc rest (k + mc') (hpx E hB.1) (by rw [← ht]; exact hB.2) hS1 h1 h2 h3 hk
    rw [Nat.mul_add] at h
    exact h
  obtain ⟨z, rfl, hp⟩ := hp
  have h := kk z σ' hp H1 locs1 ls hl (by rw [← ht]; exact hB) hS1
  rw [Nat.mul_add] at h
  exact h
theorem o_callSxv (T : oT l g own cc mc σ px x) (C : oK l g own cc lam mc x) (hM : oXv l g y (.code y bytes maxL (none)) lam' mc' As σ postV pxc) (hpx : ∀ E, pxc E → px E) (w1 : Cond.methodLink own idx y ∈ wsL_law) (w2 : Cond.static y ∈ wsL_law) (w4 : Cond.initialized own ∈ wsL_law) (w5 : Cond.code y bytes maxL (none) ∈ wsL_law) (ho : y.cls = own) (hy : oDn y n) (hL : maxL ≤ 81) (hlm : lam' + 1 ≤ lam) (hk : k + mc' ≤ mc) (hn : As.length = n) (hW : (rest.map fun v => v.category).sum ≤ 8) (hd : decode cc pc = .ok (.invokestatic idx, 3)) (kk : ∀ σ' : oMem, postV σ' → oW l g x σ' (pc + 3) vs rest (k + mc')) : oW l g x σ pc vs (As.reverse ++ rest) k := by
  obtain ⟨p, e, R, s, m, args, below, meth, c, Q, A, nL⟩ := x
  have C0 := C
  obtain ⟨hx, hb, hml, hown, hts, hK, hD, hA, hF, hR1, hR2, hR3, hR4⟩ := C
  intro H locs ls hl hP hS
  refine vx_callv (vx_runS (As := As) (rest := rest) (Ts := wsL_law) ⟨hx, hb, hml, hown, hts⟩ (hM H.size) (cwS n hts (o_good3 w1 w2 w4 (o_good w5)) rfl rfl rfl ⟨ho, hy⟩ ⟨by show 10 + lam' + 1 ≤ _; omega, by show 8 + (maxL + 11) + (200 + 100 * lam') ≤ _; omega⟩) ⟨oPre_blind, o_pre C0 hP hS _⟩ rfl hn hl.1.1 rfl (by show 2 * 0 + _ ≤ 8; omega) hd ⟨by omega, by omega⟩) hS (fun q _ h => oA_in hD hA hS.1 q h) (fun q h => oA_in hD hA hS.1 q h) (fun q _ h => oA_in hD hA hS.1 q h) (fun E ce q9 u t H1 locs1 ht hvm hp hB hz hk1 hS1 h1 h2 h3 => ?_) (fun σ' t H1 locs1 ht hvm hp hB hz hk1 hS1 => ?_)
  · have h := T.1 E ce q9 H1 locs1 ls pc rest (k + mc') (hpx E hB.1) (by rw [← ht]; exact hB.2) hS1 h1 h2 h3 hk
    rw [Nat.mul_add] at h
    exact h
  have h := kk σ' hp H1 locs1 ls hl (by rw [← ht]; exact hB) hS1
  rw [Nat.mul_add] at h
  exact h
theorem o_callNi (C : oK l g own cc lam mc x) (hM : oMi l g y (.code y bytes maxL (some ty)) lam' mc' (.ref (g.2.1 K i) :: As) σ postI) {host : String} (w1 : (own, idx, y, host) ∈ o_nm) (w2 : Cond.instanceMethod y ∈ wsL_law) (w3 : Cond.selects y.cls y y ∈ wsL_law) (w4 : Cond.initialized y.cls ∈ wsL_law) (w5 : Cond.code y bytes maxL (some ty) ∈ wsL_law) (hi : i < o_n K) (hr : oRecv g σ y K i) (hy : oDn y n) (hL : maxL ≤ 81) (hlm : lam' + 1 ≤ lam) (hk : k + mc' ≤ mc) (hn : As.length = n) (hW : (rest.map fun v => v.category).sum ≤ 8) (hd : decode cc pc = .ok (.invokevirtual idx, 3)) (kk : ∀ (z : Int) (σ' : oMem), postI z σ' → oW l g x σ' (pc + 3) vs (oi z :: rest) (k + mc')) : oW l g x σ pc vs (As.reverse ++ .ref (g.2.1 K i) :: rest) k := by
  obtain ⟨p, e, R, s, m, args, below, meth, c, Q, A, nL⟩ := x
  have C0 := C
  obtain ⟨hx, hb, hml, hown, hts, hK, hD, hA, hF, hR1, hR2, hR3, hR4⟩ := C
  intro H locs ls hl hP hS
  refine va_calli (va_runVN (As := As) (rest := rest) (Ts := wsL_law) ⟨hx, hb, hml, hown, hts⟩ (hM H.size) (⟨va_cnB n hts (o_good w5) rfl rfl rfl (hF.2.1 _ w1) (hts _ w4) hy ⟨by show 10 + lam' + 1 ≤ _; omega, by show 8 + (maxL + 11) + (200 + 100 * lam') ≤ _; omega⟩, hts _ w2, hts _ w3⟩) ⟨oPre_blind, o_recv (p := p) (e := e) (R := R) (m := m) (args := args) (below := below) (meth := meth) (c := c) (Q := Q) (A := A) (nL := nL) hK hP hi hr, o_pre C0 hP hS _⟩ rfl hn hl.1.1 rfl (by show 2 * 0 + _ ≤ 8; omega) hd ⟨by omega, by omega⟩) hS (fun q _ h => oA_in hD hA hS.1 q h) (fun q h => oA_in hD hA hS.1 q h) (fun r σ' t H1 locs1 ht hvm hp hB hz hk1 hS1 => ?_)
  obtain ⟨z, rfl, hp⟩ := hp
  have h := kk z σ' hp H1 locs1 ls hl (by rw [← ht]; exact hB) hS1
  rw [Nat.mul_add] at h
  exact h
theorem o_callNv (C : oK l g own cc lam mc x) (hM : oMv l g y (.code y bytes maxL (none)) lam' mc' (.ref (g.2.1 K i) :: As) σ postV) {host : String} (w1 : (own, idx, y, host) ∈ o_nm) (w2 : Cond.instanceMethod y ∈ wsL_law) (w3 : Cond.selects y.cls y y ∈ wsL_law) (w4 : Cond.initialized y.cls ∈ wsL_law) (w5 : Cond.code y bytes maxL (none) ∈ wsL_law) (hi : i < o_n K) (hr : oRecv g σ y K i) (hy : oDn y n) (hL : maxL ≤ 81) (hlm : lam' + 1 ≤ lam) (hk : k + mc' ≤ mc) (hn : As.length = n) (hW : (rest.map fun v => v.category).sum ≤ 8) (hd : decode cc pc = .ok (.invokevirtual idx, 3)) (kk : ∀ σ' : oMem, postV σ' → oW l g x σ' (pc + 3) vs rest (k + mc')) : oW l g x σ pc vs (As.reverse ++ .ref (g.2.1 K i) :: rest) k := by
  obtain ⟨p, e, R, s, m, args, below, meth, c, Q, A, nL⟩ := x
  have C0 := C
  obtain ⟨hx, hb, hml, hown, hts, hK, hD, hA, hF, hR1, hR2, hR3, hR4⟩ := C
  intro H locs ls hl hP hS
  refine va_callv (va_runVN (As := As) (rest := rest) (Ts := wsL_law) ⟨hx, hb, hml, hown, hts⟩ (hM H.size) (⟨va_cnB n hts (o_good w5) rfl rfl rfl (hF.2.1 _ w1) (hts _ w4) hy ⟨by show 10 + lam' + 1 ≤ _; omega, by show 8 + (maxL + 11) + (200 + 100 * lam') ≤ _; omega⟩, hts _ w2, hts _ w3⟩) ⟨oPre_blind, o_recv (p := p) (e := e) (R := R) (m := m) (args := args) (below := below) (meth := meth) (c := c) (Q := Q) (A := A) (nL := nL) hK hP hi hr, o_pre C0 hP hS _⟩ rfl hn hl.1.1 rfl (by show 2 * 0 + _ ≤ 8; omega) hd ⟨by omega, by omega⟩) hS (fun q _ h => oA_in hD hA hS.1 q h) (fun q h => oA_in hD hA hS.1 q h) (fun σ' t H1 locs1 ht hvm hp hB hz hk1 hS1 => ?_)
  have h := kk σ' hp H1 locs1 ls hl (by rw [← ht]; exact hB) hS1
  rw [Nat.mul_add] at h
  exact h

end OCALLS
