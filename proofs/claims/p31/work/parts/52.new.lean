/-! WHILE ALL IS MADE: a world that is a list, growing -/
def nF (U : State) : Prop := (∀ q ∈ o_nm, va_Nw (.methodLinkNest q.1 q.2.1 q.2.2.1 q.2.2.2) U) ∧ (∀ C ∈ [RX0, RX2, RX3], va_AO C U) ∧ va_AOA .int U
theorem AOA.moved {ty : FieldType} {u U : State} (hvm : u.vm.Alike U.vm) (h : va_AOA ty u) : va_AOA ty U := fun args => (Cond.overAtom_setVm hvm (.arrayOver (.array ty)) rfl (h args) : (Cond.arrayOver (.array ty)).before args (u.setVm U.vm) = true)
theorem nF.same {u U : State} (h : u.vm = U.vm) (f : nF u) : nF U :=
  ⟨fun q hq => va_Nw.same rfl h (f.1 q hq), fun C hC => (f.2.1 C hC).moved (by rw [h]; exact Vm.Alike.refl _), AOA.moved (by rw [h]; exact Vm.Alike.refl _) f.2.2⟩
theorem nF.warm {s U : State} (h : s.WarmedH U.vm) (f : nF s) : nF U :=
  ⟨fun q hq => va_Nw.warmM h (f.1 q hq), fun C hC => (f.2.1 C hC).moved h.alike, AOA.moved h.alike f.2.2⟩
def nW (l : Launch) (g : oG) : oCtx → va_W → Nat → List (Option Value) → List Value → Nat → Nat → Prop
  | (p, e, R, s, m, args, below, meth, c, Q, A, nL), ws, pc, vs, st, k, n => ∀ (H : Heap) (locs : List Loc) (ls : Array Slot), oL ls nL vs → va_P g.1 vwCl ws H → va_D A ws → va_S A s.heap H locs → W p l e R s m args below meth c H locs k n Q (F0 m pc ls st)
def nK (g : oG) (own : String) (cc : ByteArray) (lam mc ms : Nat) : oCtx → Prop
  | (p, e, R, s, m, args, below, meth, c, Q, A, nL) => p.tables.exec = Jvm.exec ∧ c.code = cc ∧ c.maxLocals = nL ∧ s.vm.findClass own = some m.cls ∧ (∀ w ∈ wsL_law, w.before args s = true) ∧ va_K g.1 vwCl (o_tys g) s ∧ (∀ q : Nat, s.heap.size ≤ q → A q) ∧ nF s ∧ (10 + lam ≤ R.frames ∧ 200 + 100 * lam ≤ R.locals ∧ mc ≤ R.cells ∧ ms ≤ R.slots)
def nIn : oCtx → Prop
  | (p, e, R, s, m, args, below, meth, c, Q, A, nL) => meth.name = "<init>"
def nRm (lam mc ms : Nat) : Room := { frames := 10 + lam, cells := mc, slots := ms, locals := 200 + 100 * lam }
def nPre (g : oG) (q : Nat) (e : va_E) (sz : Nat) (U : State) : Prop := U.heap.size = sz ∧ va_P g.1 vwCl [(q, e)] U.heap ∧ va_K g.1 vwCl (o_tys g) U ∧ va_D (fun _ => True) [(q, e)] ∧ nF U
def nMv (l : Launch) (g : oG) (y : MethodName) (w : Cond) (lam mc ms : Nat) (q : Nat) (e : va_E) (post : va_W → Prop) : Prop :=
  ∀ sz : Nat, Met l y (w :: wsL_law) (nRm lam mc ms) (va_Pc [.ref q] (nPre g q e sz)) (va_Qv post (fun w1 t => va_P g.1 vwCl w1 t.heap ∧ va_D (va_A [(q, e)] sz) w1) (va_A [(q, e)] sz)) mc ms (va_A [(q, e)] sz)
theorem nPre_blind {g : oG} {av : List Value} {q : Nat} {e : va_E} {sz : Nat} : FrameBlind (va_Pc av (nPre g q e sz)) := by
  intro a U g' mk h
  obtain ⟨h0, h1, h2, h3, h4, h5⟩ := h
  exact ⟨h0, h1, h2, va_K.moved (u := U) (U := U.calling g' mk a) (Vm.Alike.refl U.vm) h3, h4, nF.same (u := U) (U := U.calling g' mk a) rfl h5⟩
theorem nMv_of {l : Launch} {g : oG} {own : String} {y : MethodName} {cc : ByteArray} {maxL lam mc ms q : Nat} {e : va_E} {post : va_W → Prop} (hy : plainName y.cls = true) (ho : y.cls = own) (hi : y.name = "<init>") (hn : 1 ≤ maxL)
    (body : ∀ x : oCtx, nK g own cc lam mc ms x → nIn x → (∀ (w1 : va_W) (pc : Nat) (vs : List (Option Value)) (k n : Nat), decode cc pc = .ok (.return_, 1) → post w1 → k ≤ mc → n ≤ ms → nW l g x w1 pc vs [] k n) → nW l g x [(q, e)] 0 (some (.ref q) :: List.replicate (maxL - 1) none) [] 0 0) :
    nMv l g y (.code y cc maxL none) lam mc ms q e post := by
  intro sz
  refine Met.ofW (cc := cc) (maxL := maxL) (ret := none) hy rfl ?_
  intro p e9 s m args below meth c s₁ B hml hv
  obtain ⟨rfl, h0, hP, hK, hD, hF⟩ := hv
  subst h0
  subst ho
  have hts := atoms_spec (ws := Cond.code y cc maxL none :: wsL_law) B.pre
  obtain ⟨ls, e1, hl⟩ := oL.entry [.ref q] (n := maxL) (by simp [Value.category]) (by simpa using hn)
  rw [lg_entry_eq, e1]
  have C : nK g y.cls cc lam mc ms (p, e9, (headSpec (Cond.code y cc maxL none :: wsL_law) (nRm lam mc ms)).room, s, m, [Value.ref q].toArray, below, meth, c, MQ below (va_Qv post (fun w1 t => va_P g.1 vwCl w1 t.heap ∧ va_D (va_A [(q, e)] s.heap.size) w1) (va_A [(q, e)] s.heap.size)) [Value.ref q].toArray s mc ms (va_A [(q, e)] s.heap.size), va_A [(q, e)] s.heap.size, maxL) :=
    ⟨B.exec, B.bytes, hml, findClass_of_methodNamed B.named, fun w' hw => hts w' (List.mem_cons_of_mem _ hw), hK, fun q h => Or.inr h, hF, ⟨Nat.le_refl _, Nat.le_refl _, Nat.le_refl _, Nat.le_refl _⟩⟩
  refine body _ C ((name_of_methodNamed B.named B.method).1.trans hi) (fun w1 pc vs k n hd hp hk hn => ?_) s.heap [] ls (by simpa using hl) hP hD.self va_S.rf
  intro H locs ls hl hP hD hS
  refine W.widen (k := mc) (n := ms) hk hn ?_
  exact W.vret B.exec B.bytes B.returns (fun t ht hW => ⟨⟨w1, rfl, hp, by rw [ht]; exact hP, hD⟩, hS.F ht⟩) hS.2.2 hd B.notSynchronized
section NRULES
variable {l : Launch} {g : oG} {own : String} {cc : ByteArray} {lam mc ms : Nat} {x : oCtx} {ws : va_W} {pc : Nat} {vs : List (Option Value)} {st : List Value} {k n : Nat}
theorem n_iconst {z : Int} (C : nK g own cc lam mc ms x) (hd : decode cc pc = .ok (.iconst z, 1)) (kk : nW l g x ws (pc + 1) vs (oi z :: st) k n) : nW l g x ws pc vs st k n := by
  obtain ⟨p, e, R, s, m, args, below, meth, c, Q, A, nL⟩ := x
  obtain ⟨hx, hb, -⟩ := C
  exact fun H locs ls hl hP hD hS => lv_iconst hx hb hd rfl (kk H locs ls hl hP hD hS)
theorem n_bipush {z : Int} (C : nK g own cc lam mc ms x) (hd : decode cc pc = .ok (.bipush z, 2)) (hv : (Int8.ofInt z).toInt32 = Int32.ofInt z) (kk : nW l g x ws (pc + 2) vs (oi z :: st) k n) : nW l g x ws pc vs st k n := by
  obtain ⟨p, e, R, s, m, args, below, meth, c, Q, A, nL⟩ := x
  obtain ⟨hx, hb, -⟩ := C
  exact fun H locs ls hl hP hD hS => lv_bipush hx hb hd hv (kk H locs ls hl hP hD hS)
theorem n_sipush {z : Int} (C : nK g own cc lam mc ms x) (hd : decode cc pc = .ok (.sipush z, 3)) (hv : (Int16.ofInt z).toInt32 = Int32.ofInt z) (kk : nW l g x ws (pc + 3) vs (oi z :: st) k n) : nW l g x ws pc vs st k n := by
  obtain ⟨p, e, R, s, m, args, below, meth, c, Q, A, nL⟩ := x
  obtain ⟨hx, hb, -⟩ := C
  exact fun H locs ls hl hP hD hS => lv_sipush hx hb hd hv (kk H locs ls hl hP hD hS)
theorem n_aload_n {i : Fin 4} {a : Nat} (C : nK g own cc lam mc ms x) (hd : decode cc pc = .ok (.aload_n i, 1)) (hi : vs[(i : Nat)]? = some (some (.ref a))) (kk : nW l g x ws (pc + 1) vs (.ref a :: st) k n) : nW l g x ws pc vs st k n := by
  obtain ⟨p, e, R, s, m, args, below, meth, c, Q, A, nL⟩ := x
  obtain ⟨hx, hb, -⟩ := C
  exact fun H locs ls hl hP hD hS => lv_aload_n hx hb hd rfl (hl.val hi) (kk H locs ls hl hP hD hS)
theorem n_iload_n {i : Fin 4} {z : Int} (C : nK g own cc lam mc ms x) (hd : decode cc pc = .ok (.iload_n i, 1)) (hi : vs[(i : Nat)]? = some (some (oi z))) (kk : nW l g x ws (pc + 1) vs (oi z :: st) k n) : nW l g x ws pc vs st k n := by
  obtain ⟨p, e, R, s, m, args, below, meth, c, Q, A, nL⟩ := x
  obtain ⟨hx, hb, -⟩ := C
  exact fun H locs ls hl hP hD hS => lv_iload_n hx hb hd rfl (hl.val hi) (kk H locs ls hl hP hD hS)
theorem n_istore_n {i : Fin 4} {z : Int} (C : nK g own cc lam mc ms x) (hd : decode cc pc = .ok (.istore_n i, 1)) (hi : (i : Nat) < vs.length) (kk : nW l g x ws (pc + 1) (vs.set (i : Nat) (some (oi z))) st k n) : nW l g x ws pc vs (oi z :: st) k n := by
  obtain ⟨p, e, R, s, m, args, below, meth, c, Q, A, nL⟩ := x
  obtain ⟨hx, hb, -⟩ := C
  exact fun H locs ls hl hP hD hS => lv_istore_n hx hb hd rfl hl.1 (hl.lt hi) rfl (fun ls' h' => kk H locs ls' (hl.setv rfl hi h') hP hD hS)
theorem n_istore {i : Nat} {z : Int} (C : nK g own cc lam mc ms x) (hd : decode cc pc = .ok (.istore i, 2)) (hi : i < vs.length) (kk : nW l g x ws (pc + 2) (vs.set i (some (oi z))) st k n) : nW l g x ws pc vs (oi z :: st) k n := by
  obtain ⟨p, e, R, s, m, args, below, meth, c, Q, A, nL⟩ := x
  obtain ⟨hx, hb, -⟩ := C
  exact fun H locs ls hl hP hD hS => lv_istore hx hb hd hl.1 (hl.lt hi) rfl (fun ls' h' => kk H locs ls' (hl.setv rfl hi h') hP hD hS)
theorem n_astore_n {i : Fin 4} {a : Nat} (C : nK g own cc lam mc ms x) (hd : decode cc pc = .ok (.astore_n i, 1)) (hi : (i : Nat) < vs.length) (kk : nW l g x ws (pc + 1) (vs.set (i : Nat) (some (.ref a))) st k n) : nW l g x ws pc vs (.ref a :: st) k n := by
  obtain ⟨p, e, R, s, m, args, below, meth, c, Q, A, nL⟩ := x
  obtain ⟨hx, hb, -⟩ := C
  exact fun H locs ls hl hP hD hS => lv_astore_n hx hb hd rfl hl.1 (hl.lt hi) rfl (fun ls' h' => kk H locs ls' (hl.setv rfl hi h') hP hD hS)
theorem n_iinc {i : Nat} {d z : Int} (C : nK g own cc lam mc ms x) (hd : decode cc pc = .ok (.iinc i d, 3)) (hi : vs[i]? = some (some (oi z))) (kk : nW l g x ws (pc + 3) (vs.set i (some (oi (z + d)))) st k n) : nW l g x ws pc vs st k n := by
  obtain ⟨p, e, R, s, m, args, below, meth, c, Q, A, nL⟩ := x
  obtain ⟨hx, hb, -⟩ := C
  intro H locs ls hl hP hD hS
  have hlt : i < vs.length := (List.getElem?_eq_some_iff.mp hi).1
  obtain ⟨j, hj⟩ := List.mem_iff_getElem?.mp ((o_as_mem (i := i) (v := oi z) vs 0).mpr ⟨i, by omega, hi⟩)
  exact lv_iinc (v := Int32.ofInt (z + d)) hx hb hd hl.1 hj (o_add z d) (hl.lt hlt) rfl (fun ls' h' => kk H locs ls' (hl.setv rfl hlt h') hP hD hS)
theorem n_goto {off : Int} {tgt : Nat} (C : nK g own cc lam mc ms x) (hd : decode cc pc = .ok (.goto off, 3)) (ht : (pc : Int) + off = (tgt : Int)) (kk : nW l g x ws tgt vs st k n) : nW l g x ws pc vs st k n := by
  obtain ⟨p, e, R, s, m, args, below, meth, c, Q, A, nL⟩ := x
  obtain ⟨hx, hb, -⟩ := C
  exact fun H locs ls hl hP hD hS => lv_goto hx hb hd ht (kk H locs ls hl hP hD hS)
theorem n_dup {v : Value} (C : nK g own cc lam mc ms x) (hd : decode cc pc = .ok (.dup, 1)) (hv : v.category = 1) (kk : nW l g x ws (pc + 1) vs (v :: v :: st) k n) : nW l g x ws pc vs (v :: st) k n := by
  obtain ⟨p, e, R, s, m, args, below, meth, c, Q, A, nL⟩ := x
  obtain ⟨hx, hb, -⟩ := C
  exact fun H locs ls hl hP hD hS => lv_dup hx hb hd hv (kk H locs ls hl hP hD hS)
theorem n_icmp_ge {a b off : Int} {tgt : Nat} (C : nK g own cc lam mc ms x) (hd : decode cc pc = .ok (.if_icmp .ge off, 3)) (ht : (pc : Int) + off = (tgt : Int)) (ha : InR a) (hb : InR b) (kt : b ≤ a → nW l g x ws tgt vs st k n) (kf : a < b → nW l g x ws (pc + 3) vs st k n) : nW l g x ws pc vs (oi b :: oi a :: st) k n := by
  obtain ⟨p, e, R, s, m, args, below, meth, c, Q, A, nL⟩ := x
  obtain ⟨hx, hb9, -⟩ := C
  intro H locs ls hl hP hD hS
  refine lv_icmp_ge hx hb9 hd ht (fun h1 => kt (by rw [o_le hb ha] at h1; exact h1) H locs ls hl hP hD hS) (fun h1 => kf ?_ H locs ls hl hP hD hS)
  rw [o_le hb ha] at h1
  omega
theorem n_get {Cn : String} {T : u_T} {N ci idx slot q0 a : Nat} {fs : List Value} {v : Value} (C : nK g own cc lam mc ms x) (he : ws[q0]? = some (a, .inr (ci, fs))) (hc : vwCl[ci]? = some (Cn, T, N)) (hin : ∀ w ∈ u_ws Cn T N, w ∈ wsL_law) (hk : slot < N) (hlink : Cond.fieldLink own idx (T slot).1 (T slot).2.1 (T slot).2.2.1 ∈ wsL_law) (hv : fs[slot]? = some v) (hd : decode cc pc = .ok (.getfield idx, 3)) (kk : nW l g x ws (pc + 3) vs (v :: st) k n) : nW l g x ws pc vs (.ref a :: st) k n := by
  obtain ⟨p, e, R, s, m, args, below, meth, c, Q, A, nL⟩ := x
  obtain ⟨hx, hb, hml, hown, hts, hK, -⟩ := C
  exact fun H locs ls hl hP hD hS => va_get hx hb hts hin hown hK hP q0 he hc slot hk (hts _ hlink) (fun _ h => h) hv hd (kk H locs ls hl hP hD hS)
theorem n_put {Cn : String} {T : u_T} {N ci idx slot q0 a : Nat} {fs : List Value} {v : Value} {ty : FieldType} {ws' : va_W} (C : nK g own cc lam mc ms x) (hI : nIn x) (he : ws[q0]? = some (a, .inr (ci, fs))) (hc : vwCl[ci]? = some (Cn, T, N)) (hin : ∀ w ∈ u_ws Cn T N, w ∈ wsL_law) (ty0 : Nat → FieldType) (hty : ∀ k, k < N → parseFieldDescriptor (T k).2.2.1 = some (ty0 k)) (hnm : ∀ a, a < N → ∀ b, b < N → a ≠ b → (T a).2.1 ≠ (T b).2.1) (hk : slot < N) (hlink : Cond.fieldLink own idx (T slot).1 (T slot).2.1 (T slot).2.2.1 ∈ wsL_law) (hdecl : (T slot).1 = own) (hpd : parseFieldDescriptor (T slot).2.2.1 = some ty) (hn : narrow ty v = v) (hf : fits ty v = true) (hl0 : slot < fs.length) (hd : decode cc pc = .ok (.putfield idx, 3)) (hw : ws.set q0 (a, .inr (ci, fs.set slot v)) = ws') (kk : nW l g x ws' (pc + 3) vs st k n) : nW l g x ws pc vs (v :: .ref a :: st) k n := by
  subst hw
  obtain ⟨p, e, R, s, m, args, below, meth, c, Q, A, nL⟩ := x
  obtain ⟨hx, hb, hml, hown, hts, hK, -⟩ := C
  intro H locs ls hl hP hD hS
  cases hfin : (T slot).2.2.2
  · exact va_put hx hb hts hin ty0 hty hnm hown hK hP hD hS q0 he hc slot hk (hts _ hlink) (fun _ h => h) hfin hpd hn hf hl0 hd (fun H1 locs1 hP1 hD1 hS1 => kk H1 locs1 ls hl hP1 hD1 hS1)
  · exact va_putF hx hb hts hin ty0 hty hnm hown hK hP hD hS q0 he hc slot hk (hts _ hlink) (fun _ h => h) hfin hI hdecl hpd hn hf hl0 hd (fun H1 locs1 hP1 hD1 hS1 => kk H1 locs1 ls hl hP1 hD1 hS1)
theorem n_newa {z : Int} {N : Nat} (C : nK g own cc lam mc ms x) (hz : z = (N : Int)) (hN : N ≤ 100000) (hk : k + 1 ≤ mc) (hn : n + N ≤ ms) (hd : decode cc pc = .ok (.newarray .int, 2)) (kk : ∀ q : Nat, nW l g x (ws ++ [(q, .inl (g.2.2 0, N, .inl (fun _ => 0)))]) (pc + 2) vs (.ref q :: st) (k + 1) (n + N)) : nW l g x ws pc vs (oi z :: st) k n := by
  obtain ⟨p, e, R, s, m, args, below, meth, c, Q, A, nL⟩ := x
  obtain ⟨hx, hb, hml, hown, hts, hK, hA, hF, hR1, hR2, hR3, hR4⟩ := C
  intro H locs ls hl hP hD hS
  subst hz
  refine va_newa (atype := .int) (N' := N) (a0 := (N, .inl (fun _ => 0))) hx hb (hts _ kw_2_2) rfl hK hP hD hS hA (fun _ => rfl) (fun h => ?_) (by rw [o_nat ⟨by omega, by omega⟩]; exact Int.toNat_natCast N) (by show N * 4 ≤ _; omega) (by omega) (by omega) hd (fun q cA H1 hK1 hP1 hD1 hS1 => ?_)
  · rw [show (0 : Int32) = Int32.ofInt 0 from rfl, o_lt ⟨by omega, by omega⟩ ⟨by omega, by omega⟩] at h
    omega
  · have h1 := (hK1.2 (o_tys g).length (cA, .int) (by rw [List.getElem?_append_right (Nat.le_refl _), Nat.sub_self]; rfl)).2
    have h2 := (hK.2 0 _ rfl).2
    have e1 := Option.some.inj ((va_nm_int h1).symm.trans (va_nm_int h2))
    subst e1
    exact kk q H1 locs ls hl hP1 hD1 hS1
theorem n_anew {Cn : String} {z : Int} {N j idx : Nat} (C : nK g own cc lam mc ms x) (hz : z = (N : Int)) (hN : N ≤ 100000) (hC : Cn ∈ [RX0, RX2, RX3]) (hj : (o_tys g)[j]? = some (g.2.2 j, .object Cn)) (hlink : Cond.classLink own idx Cn ∈ wsL_law) (hk : k + 1 ≤ mc) (hn : n + N ≤ ms) (hd : decode cc pc = .ok (.anewarray idx, 3)) (kk : ∀ q : Nat, nW l g x (ws ++ [(q, .inl (g.2.2 j, N, .inr (.inr (.inr (.inr (fun _ => none))))))]) (pc + 3) vs (.ref q :: st) (k + 1) (n + N)) : nW l g x ws pc vs (oi z :: st) k n := by
  obtain ⟨p, e, R, s, m, args, below, meth, c, Q, A, nL⟩ := x
  obtain ⟨hx, hb, hml, hown, hts, hK, hA, hF, hR1, hR2, hR3, hR4⟩ := C
  intro H locs ls hl hP hD hS
  subst hz
  refine va_newq (N' := N) hx hb hown (hts _ hlink) (hF.2.1 _ hC) hK hP hD hS hA (fun h => ?_) (by rw [o_nat ⟨by omega, by omega⟩]; exact Int.toNat_natCast N) (by omega) (by omega) (by omega) hd (fun q cA H1 hK1 hP1 hD1 hS1 => ?_)
  · rw [show (0 : Int32) = Int32.ofInt 0 from rfl, o_lt ⟨by omega, by omega⟩ ⟨by omega, by omega⟩] at h
    omega
  · obtain ⟨-, -, -, -, -, h1⟩ := (hK1.2 (o_tys g).length (cA, .object Cn) (by simp)).2
    obtain ⟨-, -, -, -, -, h2⟩ := (hK.2 j _ hj).2
    have e1 := Option.some.inj (h1.symm.trans h2)
    subst e1
    exact kk q H1 locs ls hl hP1 hD1 hS1
theorem n_mna {z w : Int} {N M idx : Nat} (C : nK g own cc lam mc ms x) (hz : z = (N : Int)) (hw : w = (M : Int)) (hN : N ≤ 1000) (hM : M ≤ 1000) (hlink : Cond.classLink own idx "[[I" ∈ wsL_law) (hk : k + (1 + N) ≤ mc) (hn : n + (N + N * M) ≤ ms) (hd : decode cc pc = .ok (.multianewarray idx 2, 4)) (kk : ∀ (q : Nat) (r : Nat → Nat), nW l g x (ws ++ [(q, .inl (g.2.2 4, N, .inr (.inr (.inr (.inr (fun i => if i < N then some (r i) else none))))))] ++ (List.range N).map (fun i => (r i, .inl (g.2.2 0, M, .inl (fun _ => 0))))) (pc + 4) vs (.ref q :: st) (k + 1 + N) (n + N + N * M)) : nW l g x ws pc vs (oi w :: oi z :: st) k n := by
  obtain ⟨p, e, R, s, m, args, below, meth, c, Q, A, nL⟩ := x
  obtain ⟨hx, hb, hml, hown, hts, hK, hA, hF, hR1, hR2, hR3, hR4⟩ := C
  intro H locs ls hl hP hD hS
  subst hz hw
  have hp : ∀ y : Nat, y ≤ 1000 → ¬ Int32.ofInt (y : Int) < 0 := fun y hy h => by
    rw [show (0 : Int32) = Int32.ofInt 0 from rfl, o_lt ⟨by omega, by omega⟩ ⟨by omega, by omega⟩] at h
    omega
  have ht : ∀ y : Nat, y ≤ 1000 → (Int32.ofInt (y : Int)).toNatClampNeg = y := fun y hy => by rw [o_nat ⟨by omega, by omega⟩]; exact Int.toNat_natCast y
  refine va_mna (X := ws) (L := []) (f := fun _ => .inr (0, [])) (ty := .int) (cy := g.2.2 0) (N' := N) (K' := M) (z := (M, .inl (fun _ => 0))) hx hb hown (hts _ hlink) hF.2.2 (hts _ kw_2_2) (va_nm_int (hK.2 0 _ rfl).2) hK (by simpa [va_pl] using hP) (by simpa [va_pl] using hD) hS hA (hp N hN) (hp M hM) (ht N hN) (ht M hM) (by omega) (by show M * 4 ≤ _; omega) (by omega) rfl rfl (by omega) (by omega) (fun c => by rw [vp_cell_i, ← arrV_new]; rfl) hd (fun q r cA H1 hr hrL hK1 hP1 hD1 hS1 => ?_)
  have h1 := (hK1.2 (o_tys g).length (cA, .array .int) (by simp)).2
  have h2 := (hK.2 4 _ rfl).2
  have e1 : cA = g.2.2 4 := Option.some.inj (Eq.trans (Eq.symm h1) h2)
  subst e1
  have e2 : va_pl ([] ++ (List.range N).map r) (vr_up (fun _ => (.inr (0, []) : va_E)) ((List.range N).map r) (.inl (g.2.2 0, M, .inl (fun _ => 0)))) = (List.range N).map (fun i => (r i, (.inl (g.2.2 0, M, .inl (fun _ => 0)) : va_E))) := by
    unfold va_pl
    rw [List.nil_append, List.map_map]
    refine List.map_congr_left (fun i hi => ?_)
    show (r i, vr_up _ _ _ (r i)) = _
    rw [vr_up_in (List.mem_map.mpr ⟨i, hi, rfl⟩)]
  rw [e2] at hP1 hD1
  exact kk q r H1 locs ls hl hP1 hD1 hS1
theorem n_new {Cn : String} {T : u_T} {N ci idx : Nat} {fs : List Value} (C : nK g own cc lam mc ms x) (hin : ∀ w ∈ u_ws Cn T N, w ∈ wsL_law) (ty : Nat → FieldType) (hty : ∀ k, k < N → parseFieldDescriptor (T k).2.2.1 = some (ty k)) (w1 : Cond.classLink own idx Cn ∈ wsL_law) (w2 : Cond.instantiable Cn N ∈ wsL_law) (w3 : Cond.initialized Cn ∈ wsL_law) (hc : vwCl[ci]? = some (Cn, T, N)) (hfs : ∀ j, j < N → defaultValue (ty j) = vp_V fs j) (hk : k + 1 ≤ mc) (hn : n + N ≤ ms) (hd : decode cc pc = .ok (.new idx, 3)) (kk : ∀ q : Nat, nW l g x (ws ++ [(q, .inr (ci, fs))]) (pc + 3) vs (.ref q :: st) (k + 1) (n + N)) : nW l g x ws pc vs st k n := by
  obtain ⟨p, e, R, s, m, args, below, meth, c, Q, A, nL⟩ := x
  obtain ⟨hx, hb, hml, hown, hts, hK, hA, hF, hR1, hR2, hR3, hR4⟩ := C
  intro H locs ls hl hP hD hS
  exact va_new hx hb hts hin ty hty hown (hts _ w1) (hts _ w2) (hts _ w3) hK hP hD hS hA hc hfs (by omega) (by omega) hd (fun q H1 hP1 hD1 hS1 => kk q H1 locs ls hl hP1 hD1 hS1)
theorem n_obj {idx a : Nat} (C : nK g own cc lam mc ms x) (w1 : Cond.methodLink own idx objectInit ∈ wsL_law) (hW : (st.map fun v => v.category).sum ≤ 8) (hd : decode cc pc = .ok (.invokespecial idx, 3)) (kk : nW l g x ws (pc + 3) vs st k n) : nW l g x ws pc vs (.ref a :: st) k n := by
  obtain ⟨p, e, R, s, m, args, below, meth, c, Q, A, nL⟩ := x
  obtain ⟨hx, hb, hml, hown, hts, hK, hA, hF, hR1, hR2, hR3, hR4⟩ := C
  intro H locs ls hl hP hD hS
  exact W.objInit hx hb hown (hts _ w1) (hts _ kw_1_7) (hts _ kw_1_8) rfl (by rw [hml]; exact hl.1.1) rfl hd (by omega) (by show 2 * 0 + _ + 12 ≤ _; omega) (kk H locs ls hl hP hD hS)
theorem n_alen {q0 j a N : Nat} {cA : ClassId} {ty : FieldType} {y : _} (C : nK g own cc lam mc ms x) (he : ws[q0]? = some (a, .inl (cA, N, y))) (hj : (o_tys g)[j]? = some (cA, ty)) (hN : Int32.ofNat N = Int32.ofInt (N : Int)) (hd : decode cc pc = .ok (.arraylength, 1)) (kk : nW l g x ws (pc + 1) vs (oi (N : Int) :: st) k n) : nW l g x ws pc vs (.ref a :: st) k n := by
  obtain ⟨p, e, R, s, m, args, below, meth, c, Q, A, nL⟩ := x
  obtain ⟨hx, hb, hml, hown, hts, hK, -⟩ := C
  exact fun H locs ls hl hP hD hS => va_alen hx hb hK hP q0 j he hj hN hd (kk H locs ls hl hP hD hS)
theorem n_aast {q0 j ci a v N : Nat} {z : Int} {r : vw_C} {fs : List Value} {f : Nat → Option Nat} {cA : ClassId} {ws' : va_W} (C : nK g own cc lam mc ms x) (he : ws[q0]? = some (a, .inl (cA, N, .inr (.inr (.inr (.inr f)))))) (hj : (o_tys g)[j]? = some (cA, .object r.1)) (hm : (v, .inr (ci, fs)) ∈ ws) (hc : vwCl[ci]? = some r) (h0 : 0 ≤ z) (h1 : z < N) (hN : N ≤ 100000) (hd : decode cc pc = .ok (.aastore, 1)) (hw : ws.set q0 (a, .inl (cA, N, .inr (.inr (.inr (.inr (va_up f z.toNat (some v))))))) = ws') (kk : nW l g x ws' (pc + 1) vs st k n) : nW l g x ws pc vs (.ref v :: oi z :: .ref a :: st) k n := by
  subst hw
  obtain ⟨p, e, R, s, m, args, below, meth, c, Q, A, nL⟩ := x
  obtain ⟨hx, hb, hml, hown, hts, hK, -⟩ := C
  intro H locs ls hl hP hD hS
  obtain ⟨qk, hq⟩ := List.getElem?_of_mem hm
  refine va_astq hx hb hK hP hD hS q0 j qk ci he hj hq hc (o_in h0 h1 (by omega)) hd (fun H1 locs1 hP1 hD1 hS1 => ?_)
  rw [o_nat ⟨by omega, by omega⟩] at hP1 hD1
  exact kk H1 locs1 ls hl hP1 hD1 hS1
/-- behind a constructor's call -/
theorem j_last {A0 : Nat → Prop} {D : va_G} {cl : List vw_C} {wr w1 : va_W} {q : Nat} {e : va_E} {H H1 : Heap} (hP : va_P D cl (wr ++ [(q, e)]) H) (hD : va_D A0 (wr ++ [(q, e)])) (hk : ∀ q' : Nat, q' < H.size → ¬ va_A [(q, e)] H.size q' → H1[q']? = H[q']?) (hF : ∀ q', va_A [(q, e)] H.size q' → A0 q') (hP1 : va_P D cl w1 H1) (hD1 : va_D (va_A [(q, e)] H.size) w1) : va_P D cl (wr ++ w1) H1 ∧ va_D A0 (wr ++ w1) := by
  have hin : ∀ (i : Nat) (y : Nat × va_E), wr[i]? = some y → (wr ++ [(q, e)])[i]? = some y := fun i y hy => by rw [List.getElem?_append_left (List.getElem?_eq_some_iff.mp hy).1]; exact hy
  have apart : ∀ (i : Nat) (y : Nat × va_E), wr[i]? = some y → y.1 < H.size ∧ ¬ va_A [(q, e)] H.size y.1 := fun i y hy => by
    have hl := (hP i y (hin i y hy)).lt
    refine ⟨hl, fun h => ?_⟩
    rcases h with ⟨k2, e2, h⟩ | h
    · have h0 : k2 < 1 := (List.getElem?_eq_some_iff.mp h).1
      rw [show k2 = 0 by omega] at h
      have e3 : q = y.1 := by have := Option.some.inj h; exact congrArg Prod.fst this
      have hl2 := (List.getElem?_eq_some_iff.mp hy).1
      have := hD.1 i wr.length y (q, e) (hin i y hy) (by simp) e3.symm
      omega
    · omega
  have hDr : va_D A0 wr := ⟨fun i j a b ha hb hab => hD.1 i j a b (hin i a ha) (hin j b hb) hab, fun i y hy => hD.2 i y (hin i y hy)⟩
  refine ⟨va_P.app (fun i y hy => (hP i y (hin i y hy)).kept (hk y.1 (apart i y hy).1 (apart i y hy).2)) hP1, va_D.app hDr (hD1.weaken (fun k q _ h => hF q.1 h)) (fun i j a b ha hb hab => ?_)⟩
  exact (apart i a ha).2 (by rw [hab]; exact hD1.2 j b hb)
theorem n_initN {y : MethodName} {bytes : ByteArray} {maxL idx q lam' mc' ms' : Nat} {e : va_E} {post : va_W → Prop} {host : String} (C : nK g own cc lam mc ms x) (hM : nMv l g y (.code y bytes maxL none) lam' mc' ms' q e post) (w1 : (own, idx, y, host) ∈ o_nm) (w2 : Cond.instanceMethod y ∈ wsL_law) (w4 : Cond.initialized y.cls ∈ wsL_law) (w5 : Cond.code y bytes maxL none ∈ wsL_law) (hy1 : y.name = "<init>") (hy : oDn y 0) (hL : maxL ≤ 81) (hlm : lam' + 1 ≤ lam) (hk : k + mc' ≤ mc) (hn : n + ms' ≤ ms) (hW : (st.map fun v => v.category).sum ≤ 8) (hd : decode cc pc = .ok (.invokespecial idx, 3)) (kk : ∀ w1 : va_W, post w1 → nW l g x (ws ++ w1) (pc + 3) vs st (k + mc') (n + ms')) : nW l g x (ws ++ [(q, e)]) pc vs (.ref q :: st) k n := by
  obtain ⟨p, e9, R, s, m, args, below, meth, c, Q, A, nL⟩ := x
  obtain ⟨hx, hb, hml, hown, hts, hK, hA, hF, hR1, hR2, hR3, hR4⟩ := C
  intro H locs ls hl hP hD hS
  have hq : (ws ++ [(q, e)])[ws.length]? = some (q, e) := by simp
  have hAq : ∀ q', va_A [(q, e)] H.size q' → A q' := fun q' h => by
    rcases h with ⟨k2, e2, h⟩ | h
    · have h0 : k2 < 1 := (List.getElem?_eq_some_iff.mp h).1
      rw [show k2 = 0 by omega] at h
      have e3 : q = q' := congrArg Prod.fst (Option.some.inj h)
      rw [← e3]; exact hD.2 _ _ hq
    · exact hA q' (Nat.le_trans hS.1 h)
  have hP0 : va_P g.1 vwCl [(q, e)] H := fun k2 z hz => by
    have h0 : k2 < 1 := (List.getElem?_eq_some_iff.mp hz).1
    rw [show k2 = 0 by omega] at hz
    cases hz
    exact hP _ _ hq
  have hD0 : va_D (fun _ => True) [(q, e)] := ⟨fun i j a b ha hb _ => by
    have h0 := (List.getElem?_eq_some_iff.mp ha).1
    have h1 := (List.getElem?_eq_some_iff.mp hb).1
    simp at h0 h1
    omega, fun _ _ _ => trivial⟩
  refine va_callv (va_runIN (As := []) (rest := st) (Ts := wsL_law) ⟨hx, hb, hml, hown, hts⟩ (hM H.size) ⟨va_cnB 0 hts (o_good w5) rfl rfl rfl (hF.1 _ w1) (hts _ w4) hy ⟨by show 10 + lam' + 1 ≤ _; omega, by show 8 + (maxL + 11) + (200 + 100 * lam') ≤ _; omega⟩, hy1, hts _ w2⟩ ⟨nPre_blind, fun U hU hW9 => ⟨rfl, by rw [hU], by rw [hU]; exact hP0, va_K.moved hW9.alike hK, hD0, hF.warm hW9⟩⟩ rfl rfl hl.1.1 rfl (by show 2 * 0 + _ ≤ 8; omega) hd ⟨by omega, by omega⟩) hS (fun q' _ h => hAq q' h) hAq (fun u t H1 locs1 ht hvm hp hB hz hk1 hS1 => ?_)
  obtain ⟨hB1, hB2⟩ := hB
  obtain ⟨j1, j2⟩ := j_last hP hD hk1 hAq (by rw [← ht]; exact hB1) hB2
  exact kk u hp H1 locs1 ls hl j1 j2 hS1
theorem n_initI {y : MethodName} {bytes : ByteArray} {maxL idx q lam' mc' ms' : Nat} {e : va_E} {post : va_W → Prop} (C : nK g own cc lam mc ms x) (hM : nMv l g y (.code y bytes maxL none) lam' mc' ms' q e post) (w1 : Cond.methodLink own idx y ∈ wsL_law) (w2 : Cond.instanceMethod y ∈ wsL_law) (w4 : Cond.initialized y.cls ∈ wsL_law) (w5 : Cond.code y bytes maxL none ∈ wsL_law) (hy1 : y.name = "<init>") (hy : oDn y 0) (hL : maxL ≤ 81) (hlm : lam' + 1 ≤ lam) (hk : k + mc' ≤ mc) (hn : n + ms' ≤ ms) (hW : (st.map fun v => v.category).sum ≤ 8) (hd : decode cc pc = .ok (.invokespecial idx, 3)) (kk : ∀ w1 : va_W, post w1 → nW l g x (ws ++ w1) (pc + 3) vs st (k + mc') (n + ms')) : nW l g x (ws ++ [(q, e)]) pc vs (.ref q :: st) k n := by
  obtain ⟨p, e9, R, s, m, args, below, meth, c, Q, A, nL⟩ := x
  obtain ⟨hx, hb, hml, hown, hts, hK, hA, hF, hR1, hR2, hR3, hR4⟩ := C
  intro H locs ls hl hP hD hS
  have hq : (ws ++ [(q, e)])[ws.length]? = some (q, e) := by simp
  have hAq : ∀ q', va_A [(q, e)] H.size q' → A q' := fun q' h => by
    rcases h with ⟨k2, e2, h⟩ | h
    · have h0 : k2 < 1 := (List.getElem?_eq_some_iff.mp h).1
      rw [show k2 = 0 by omega] at h
      have e3 : q = q' := congrArg Prod.fst (Option.some.inj h)
      rw [← e3]; exact hD.2 _ _ hq
    · exact hA q' (Nat.le_trans hS.1 h)
  have hP0 : va_P g.1 vwCl [(q, e)] H := fun k2 z hz => by
    have h0 : k2 < 1 := (List.getElem?_eq_some_iff.mp hz).1
    rw [show k2 = 0 by omega] at hz
    cases hz
    exact hP _ _ hq
  have hD0 : va_D (fun _ => True) [(q, e)] := ⟨fun i j a b ha hb _ => by
    have h0 := (List.getElem?_eq_some_iff.mp ha).1
    have h1 := (List.getElem?_eq_some_iff.mp hb).1
    simp at h0 h1
    omega, fun _ _ _ => trivial⟩
  refine va_callv (va_runI (As := []) (rest := st) (Ts := wsL_law) ⟨hx, hb, hml, hown, hts⟩ (hM H.size) (cwI 0 hts (o_good w5) rfl rfl rfl (hts _ w4) (hts _ w1) (hts _ w2) hy1 hy ⟨by show 10 + lam' + 1 ≤ _; omega, by show 8 + (maxL + 11) + (200 + 100 * lam') ≤ _; omega⟩) ⟨nPre_blind, fun U hU hW9 => ⟨rfl, by rw [hU], by rw [hU]; exact hP0, va_K.moved hW9.alike hK, hD0, hF.warm hW9⟩⟩ rfl rfl hl.1.1 rfl (by show 2 * 0 + _ ≤ 8; omega) hd ⟨by omega, by omega⟩) hS (fun q' _ h => hAq q' h) hAq (fun u t H1 locs1 ht hvm hp hB hz hk1 hS1 => ?_)
  obtain ⟨hB1, hB2⟩ := hB
  obtain ⟨j1, j2⟩ := j_last hP hD hk1 hAq (by rw [← ht]; exact hB1) hB2
  exact kk u hp H1 locs1 ls hl j1 j2 hS1
end NRULES
