/-- what a throw comes to, in a method that may throw, the world being as it was at its entry -/
def oT (l : Launch) (g : oG) (own : String) (cc : ByteArray) (mc : Nat) (σ0 : oMem) (px : String → Prop) (x : oCtx) : Prop :=
  (match x with
  | (p, e, R, s, m, args, below, meth, c, Q, A, nL) => ∀ (E : String) (ce : Cell) (q : Nat) (H : Heap) (locs : List Loc) (ls : Array Slot) (pc : Nat) (rest : List Value) (k : Nat), px E → va_P g.1 vwCl (o_ws g σ0) H → va_S A s.heap H locs → H[q]? = some ce → ce.vm = .none → s.vm.findClass E = some ce.cls → k ≤ mc → vx_W p l e R s m args below meth c H locs k (6 * k) Q (F0 m pc ls rest) q) ∧
  (∀ (pc ik is ic : Nat) (cls text : String) (vs : List (Option Value)) (k : Nat), px cls → Bundle.fit cls = true → cls ∈ o_ca → Cond.classLink own ik cls ∈ wsL_law → Cond.initialized cls ∈ wsL_law → (own, is, text) ∈ o_tx →
    (∀ w ∈ (vx_atS own ic cls ["java/lang/RuntimeException", "java/lang/Exception"]).filter goodWord, w ∈ wsL_law) → (∀ w ∈ (vx_atS own ic cls ["java/lang/RuntimeException", "java/lang/Exception"]).filter (fun w => !goodWord w), w ∈ Cond.castable cls cls :: o_de.map Cond.declares) →
    (∀ w ∈ Cond.classLink own ik cls :: Cond.initialized cls :: vx_atS own ic cls ["java/lang/RuntimeException", "java/lang/Exception"], vx_ot w = true) →
    decode cc pc = .ok (.new ik, 3) → decode cc (pc + 3) = .ok (.dup, 1) → decode cc (pc + 4) = .ok (.ldc is, 2) → decode cc (pc + 6) = .ok (.invokespecial ic, 3) → decode cc (pc + 9) = .ok (.athrow, 1) → k + 1 ≤ mc → oW l g x σ0 pc vs [] k) ∧
  (∀ (pc ik is ic : Nat) (cls text : String) (vs : List (Option Value)) (k : Nat), px cls → Bundle.fit cls = true → cls ∈ o_ca → Cond.classLink own ik cls ∈ wsL_law → Cond.initialized cls ∈ wsL_law → (own, is, text) ∈ o_tx →
    (∀ w ∈ (vx_atS own ic cls ["java/lang/RuntimeException", "java/lang/Exception"]).filter goodWord, w ∈ wsL_law) → (∀ w ∈ (vx_atS own ic cls ["java/lang/RuntimeException", "java/lang/Exception"]).filter (fun w => !goodWord w), w ∈ Cond.castable cls cls :: o_de.map Cond.declares) →
    (∀ w ∈ Cond.classLink own ik cls :: Cond.initialized cls :: vx_atS own ic cls ["java/lang/RuntimeException", "java/lang/Exception"], vx_ot w = true) →
    decode cc pc = .ok (.new ik, 3) → decode cc (pc + 3) = .ok (.dup, 1) → decode cc (pc + 4) = .ok (.ldc_w is, 3) → decode cc (pc + 7) = .ok (.invokespecial ic, 3) → decode cc (pc + 10) = .ok (.athrow, 1) → k + 1 ≤ mc → oW l g x σ0 pc vs [] k)
theorem o_bodyI {l : Launch} {g : oG} {own : String} {cc : ByteArray} {ty : FieldType} {maxL lam mc : Nat} {σ : oMem} {post : Int → oMem → Prop} {p : Program} {e : Env} {R : Room} {s : State} {m : MethodId} {args : Array Value} {below : List Frame} {meth : Method} {c : Code} {A : Nat → Prop} {Q0 : Array Value → State → Outcome → State → Prop}
    (hx : p.tables.exec = Jvm.exec) (hb : c.code = cc) (hr : meth.sig.returnType = some ty) (hlocks : meth.locks = false) (hQ : ∀ (z : Int) (σ' : oMem) (t : State), post z σ' → va_P g.1 vwCl (o_ws g σ') t.heap → va_F A s t → Q0 args s (.returned (some (oi z))) t) {z : Int} {σ' : oMem} {pc : Nat} {vs : List (Option Value)} {k : Nat} (hd : decode cc pc = .ok (.ireturn, 1)) (hn : narrow ty (oi z) = oi z) (hp : post z σ') (hk : k ≤ mc) :
    oW l g (p, e, R, s, m, args, below, meth, c, MQ below Q0 args s mc (6 * mc) A, A, maxL) σ' pc vs [oi z] k := by
  intro H locs ls hl hP hS
  refine W.widen (k := mc) (n := 6 * mc) hk (Nat.mul_le_mul_left 6 hk) ?_
  exact W.zret hx hb hr hn (fun t ht hW => hQ z σ' t hp (by rw [ht]; exact hP) (hS.F ht)) hS.2.2 hd hlocks
theorem o_bodyV {l : Launch} {g : oG} {cc : ByteArray} {maxL mc : Nat} {post : oMem → Prop} {p : Program} {e : Env} {R : Room} {s : State} {m : MethodId} {args : Array Value} {below : List Frame} {meth : Method} {c : Code} {A : Nat → Prop} {Q0 : Array Value → State → Outcome → State → Prop}
    (hx : p.tables.exec = Jvm.exec) (hb : c.code = cc) (hr : meth.sig.returnType = none) (hlocks : meth.locks = false) (hQ : ∀ (σ' : oMem) (t : State), post σ' → va_P g.1 vwCl (o_ws g σ') t.heap → va_F A s t → Q0 args s (.returned none) t) {σ' : oMem} {pc : Nat} {vs : List (Option Value)} {k : Nat} (hd : decode cc pc = .ok (.return_, 1)) (hp : post σ') (hk : k ≤ mc) :
    oW l g (p, e, R, s, m, args, below, meth, c, MQ below Q0 args s mc (6 * mc) A, A, maxL) σ' pc vs [] k := by
  intro H locs ls hl hP hS
  refine W.widen (k := mc) (n := 6 * mc) hk (Nat.mul_le_mul_left 6 hk) ?_
  exact W.vret hx hb hr (fun t ht hW => hQ σ' t hp (by rw [ht]; exact hP) (hS.F ht)) hS.2.2 hd hlocks
theorem o_ctx {l : Launch} {g : oG} {own : String} {y : MethodName} {w : Cond} {cc : ByteArray} {ret : Option FieldType} {maxL lam mc : Nat} {σ : oMem} {p : Program} {e : Env} {s s₁ : State} {m : MethodId} {args : Array Value} {below : List Frame} {meth : Method} {c : Code} {Q : State → Prop}
    (B : BodyLoose p l y (headSpec (w :: wsL_law) (oRm lam mc)) cc maxL ret e s m args below meth c s₁) (hml : c.maxLocals = maxL) (ho : y.cls = own) {sz : Nat} (hv : oPre g σ sz s) :
    oK l g own cc lam mc (p, e, (headSpec (w :: wsL_law) (oRm lam mc)).room, s, m, args, below, meth, c, Q, oA g sz, maxL) ∧ va_P g.1 vwCl (o_ws g σ) s.heap ∧ va_S (oA g sz) s.heap s.heap [] ∧ sz = s.heap.size := by
  obtain ⟨h0, hP, hK, hD, hF⟩ := hv
  subst h0
  subst ho
  have hts := atoms_spec (ws := w :: wsL_law) B.pre
  exact ⟨⟨B.exec, B.bytes, hml, findClass_of_methodNamed B.named, fun w' hw => hts w' (List.mem_cons_of_mem _ hw), hK, hD.self, fun q h => Or.inr h, hF, ⟨Nat.le_refl _, Nat.le_refl _, Nat.le_refl _, Nat.le_refl _⟩⟩, hP, va_S.rf, rfl⟩
theorem oMi_of {l : Launch} {g : oG} {own : String} {y : MethodName} {cc : ByteArray} {ty : FieldType} {maxL lam mc : Nat} {av : List Value} {σ : oMem} {post : Int → oMem → Prop} (hy : plainName y.cls = true) (ho : y.cls = own) (hc : ∀ v ∈ av, v.category = 1) (hn : av.length ≤ maxL)
    (body : ∀ x : oCtx, oK l g own cc lam mc x → (∀ (z : Int) (σ' : oMem) (pc : Nat) (vs : List (Option Value)) (k : Nat), decode cc pc = .ok (.ireturn, 1) → narrow ty (oi z) = oi z → post z σ' → k ≤ mc → oW l g x σ' pc vs [oi z] k) → oW l g x σ 0 (av.map some ++ List.replicate (maxL - av.length) none) [] 0) :
    oMi l g y (.code y cc maxL (some ty)) lam mc av σ post := by
  intro sz
  refine Met.ofW (cc := cc) (maxL := maxL) (ret := some ty) hy rfl ?_
  intro p e s m args below meth c s₁ B hml hv
  obtain ⟨rfl, hv⟩ := hv
  obtain ⟨C, hP, hS, -⟩ := o_ctx B hml ho hv
  obtain ⟨ls, e1, hl⟩ := oL.entry av (n := maxL) hc hn
  rw [lg_entry_eq, e1]
  exact body _ C (fun z σ' pc vs k hd hn9 hp hk => o_bodyI (own := own) (lam := lam) (σ := σ) B.exec B.bytes B.returns B.notSynchronized (fun z9 σ9 t9 h1 h2 h3 => ⟨⟨Int32.ofInt z9, σ9, rfl, ⟨z9, rfl, h1⟩, h2⟩, h3⟩) hd hn9 hp hk) s.heap [] ls hl hP hS
theorem oMv_of {l : Launch} {g : oG} {own : String} {y : MethodName} {cc : ByteArray} {maxL lam mc : Nat} {av : List Value} {σ : oMem} {post : oMem → Prop} (hy : plainName y.cls = true) (ho : y.cls = own) (hc : ∀ v ∈ av, v.category = 1) (hn : av.length ≤ maxL)
    (body : ∀ x : oCtx, oK l g own cc lam mc x → (∀ (σ' : oMem) (pc : Nat) (vs : List (Option Value)) (k : Nat), decode cc pc = .ok (.return_, 1) → post σ' → k ≤ mc → oW l g x σ' pc vs [] k) → oW l g x σ 0 (av.map some ++ List.replicate (maxL - av.length) none) [] 0) :
    oMv l g y (.code y cc maxL none) lam mc av σ post := by
  intro sz
  refine Met.ofW (cc := cc) (maxL := maxL) (ret := none) hy rfl ?_
  intro p e s m args below meth c s₁ B hml hv
  obtain ⟨rfl, hv⟩ := hv
  obtain ⟨C, hP, hS, -⟩ := o_ctx B hml ho hv
  obtain ⟨ls, e1, hl⟩ := oL.entry av (n := maxL) hc hn
  rw [lg_entry_eq, e1]
  exact body _ C (fun σ' pc vs k hd hp hk => o_bodyV B.exec B.bytes B.returns B.notSynchronized (fun σ9 t9 h1 h2 h3 => ⟨⟨σ9, rfl, h1, h2⟩, h3⟩) hd hp hk) s.heap [] ls hl hP hS
theorem o_thrower {l : Launch} {g : oG} {own : String} {y : MethodName} {w : Cond} {cc : ByteArray} {ret : Option FieldType} {maxL lam mc : Nat} {σ : oMem} {px : String → Prop} {Qc : Array Value → State → Outcome → State → Prop} {p : Program} {e : Env} {s s₁ : State} {m : MethodId} {args : Array Value} {below : List Frame} {meth : Method} {c : Code} (hl : l.stackTraces = false) {sz : Nat}
    (B : BodyLoose p l y (headSpec (w :: wsL_law) (oRm lam mc)) cc maxL ret e s m args below meth c s₁) (ht : ∀ x ∈ c.exceptionTable.toList, False) (C : oK l g own cc lam mc (p, e, (headSpec (w :: wsL_law) (oRm lam mc)).room, s, m, args, below, meth, c, vx_MQ below Qc (oXC g σ px sz) args s mc (6 * mc) (oA g sz), oA g sz, maxL)) :
    oT l g own cc mc σ px (p, e, (headSpec (w :: wsL_law) (oRm lam mc)).room, s, m, args, below, meth, c, vx_MQ below Qc (oXC g σ px sz) args s mc (6 * mc) (oA g sz), oA g sz, maxL) := by
  refine ⟨fun E ce q H locs ls pc rest k hp hP hS h1 h2 h3 hk => vx_out (fun x hx => absurd (ht x hx) id) B.notSynchronized h1 h2 h3 (fun t e1 hW => ⟨(), trivial, ⟨hp, by rw [e1]; exact hP⟩, hS.F e1⟩) hS.2.2 hk (Nat.mul_le_mul_left 6 hk), ?_⟩
  refine ⟨?_, ?_⟩
  · intro pc ik is ic cls text vs k hp hfit hca hk hini htx hgood hbad hot d0 d3 d4 d6 d9 hkm
    obtain ⟨hx, hb, hml, hown, hts, hK, hD, hA, hF, hR⟩ := C
    intro H locs ls hl9 hP hS
    obtain ⟨sa, hstr⟩ := hF.2.2.1 _ htx
    have hcast : (Cond.castable cls cls).before args s = true := va_Nw.use rfl (hF.2.2.2.2.2.1 _ hca)
    refine vx_throwS (sa := sa) (names := ["java/lang/RuntimeException", "java/lang/Exception"]) hx hb hl hown hfit (by decide +kernel) (hts _ hk) (hts _ hini) hstr (fun w hw => ?_) hot hF.2.2.2.1 hF.2.2.2.2.1 hS (hl9.1.1.trans hml.symm) d0 d3 d4 d6 d9 (fun x hx => absurd (ht x hx) id) (Nat.lt_of_lt_of_le (by show 2 + 3 < 10; omega) (Nat.le_trans (Nat.le_add_right _ _) hR.1)) (Nat.le_trans (by show 0 + (13 * (2 + 1) + 43) ≤ 200; omega) (Nat.le_trans (Nat.le_add_right _ _) hR.2.1)) (Nat.le_trans hkm hR.2.2.1) (Nat.le_trans (by omega) hR.2.2.2) B.notSynchronized (fun t hW hz hh => ?_) hS.2.2 hkm (by omega)
    · by_cases hg : goodWord w = true
      · exact hts _ (hgood w (List.mem_filter.mpr ⟨hw, hg⟩))
      · rcases List.mem_cons.mp (hbad w (List.mem_filter.mpr ⟨hw, by simp [hg]⟩)) with h9 | h9
        · rw [h9]; exact hcast
        · obtain ⟨y9, hy9, e9⟩ := List.mem_map.mp h9
          rw [← e9]
          exact va_Nw.use rfl (hF.2.2.2.2.2.2 _ hy9)
    · refine ⟨(), trivial, ⟨hp, ?_⟩, ?_⟩
      · exact fun k q hq => (hP k q hq).kept (hh q.1 (vx_lt hP hq))
      · exact ⟨Nat.le_trans hS.1 hz, fun q h1 h2 => by rw [hh q (Nat.lt_of_lt_of_le h1 hS.1)]; exact hS.2.1 q h1 h2⟩
  · intro pc ik is ic cls text vs k hp hfit hca hk hini htx hgood hbad hot d0 d3 d4 d6 d9 hkm
    obtain ⟨hx, hb, hml, hown, hts, hK, hD, hA, hF, hR⟩ := C
    intro H locs ls hl9 hP hS
    obtain ⟨sa, hstr⟩ := hF.2.2.1 _ htx
    have hcast : (Cond.castable cls cls).before args s = true := va_Nw.use rfl (hF.2.2.2.2.2.1 _ hca)
    refine vx_throwSW (sa := sa) (names := ["java/lang/RuntimeException", "java/lang/Exception"]) hx hb hl hown hfit (by decide +kernel) (hts _ hk) (hts _ hini) hstr (fun w hw => ?_) hot hF.2.2.2.1 hF.2.2.2.2.1 hS (hl9.1.1.trans hml.symm) d0 d3 d4 d6 d9 (fun x hx => absurd (ht x hx) id) (Nat.lt_of_lt_of_le (by show 2 + 3 < 10; omega) (Nat.le_trans (Nat.le_add_right _ _) hR.1)) (Nat.le_trans (by show 0 + (13 * (2 + 1) + 43) ≤ 200; omega) (Nat.le_trans (Nat.le_add_right _ _) hR.2.1)) (Nat.le_trans hkm hR.2.2.1) (Nat.le_trans (by omega) hR.2.2.2) B.notSynchronized (fun t hW hz hh => ?_) hS.2.2 hkm (by omega)
    · by_cases hg : goodWord w = true
      · exact hts _ (hgood w (List.mem_filter.mpr ⟨hw, hg⟩))
      · rcases List.mem_cons.mp (hbad w (List.mem_filter.mpr ⟨hw, by simp [hg]⟩)) with h9 | h9
        · rw [h9]; exact hcast
        · obtain ⟨y9, hy9, e9⟩ := List.mem_map.mp h9
          rw [← e9]
          exact va_Nw.use rfl (hF.2.2.2.2.2.2 _ hy9)
    · refine ⟨(), trivial, ⟨hp, ?_⟩, ?_⟩
      · exact fun k q hq => (hP k q hq).kept (hh q.1 (vx_lt hP hq))
      · exact ⟨Nat.le_trans hS.1 hz, fun q h1 h2 => by rw [hh q (Nat.lt_of_lt_of_le h1 hS.1)]; exact hS.2.1 q h1 h2⟩
theorem oXi_of {l : Launch} {g : oG} {own : String} {y : MethodName} {cc : ByteArray} {ty : FieldType} {maxL lam mc : Nat} {av : List Value} {σ : oMem} {post : Int → oMem → Prop} {px : String → Prop} (hl : l.stackTraces = false) (hy : plainName y.cls = true) (ho : y.cls = own) (hc : ∀ v ∈ av, v.category = 1) (hn : av.length ≤ maxL)
    (body : ∀ x : oCtx, oK l g own cc lam mc x → oT l g own cc mc σ px x → (∀ (z : Int) (σ' : oMem) (pc : Nat) (vs : List (Option Value)) (k : Nat), decode cc pc = .ok (.ireturn, 1) → narrow ty (oi z) = oi z → post z σ' → k ≤ mc → oW l g x σ' pc vs [oi z] k) → oW l g x σ 0 (av.map some ++ List.replicate (maxL - av.length) none) [] 0) :
    oXi l g y (.code y cc maxL (some ty)) lam mc av σ post px := by
  intro sz
  refine vx_ofW (cc := cc) (maxL := maxL) (ret := some ty) hy rfl ?_
  intro p e s m args below meth c s₁ B hml ht hv
  obtain ⟨rfl, hv⟩ := hv
  obtain ⟨C, hP, hS, -⟩ := o_ctx B hml ho hv
  obtain ⟨ls, e1, hl2⟩ := oL.entry av (n := maxL) hc hn
  rw [lg_entry_eq, e1]
  refine body _ C (o_thrower hl B ht C) (fun z σ' pc vs k hd hn9 hp hk => ?_) s.heap [] ls hl2 hP hS
  exact fun H locs ls hl hP hS => vx_ret (o_bodyI (l := l) (own := own) (lam := lam) (σ := σ) (post := post) B.exec B.bytes B.returns B.notSynchronized (fun z9 σ9 t9 h1 h2 h3 => ⟨⟨Int32.ofInt z9, σ9, rfl, ⟨z9, rfl, h1⟩, h2⟩, h3⟩) hd hn9 hp hk H locs ls hl hP hS)
theorem oXv_of {l : Launch} {g : oG} {own : String} {y : MethodName} {cc : ByteArray} {maxL lam mc : Nat} {av : List Value} {σ : oMem} {post : oMem → Prop} {px : String → Prop} (hl : l.stackTraces = false) (hy : plainName y.cls = true) (ho : y.cls = own) (hc : ∀ v ∈ av, v.category = 1) (hn : av.length ≤ maxL)
    (body : ∀ x : oCtx, oK l g own cc lam mc x → oT l g own cc mc σ px x → (∀ (σ' : oMem) (pc : Nat) (vs : List (Option Value)) (k : Nat), decode cc pc = .ok (.return_, 1) → post σ' → k ≤ mc → oW l g x σ' pc vs [] k) → oW l g x σ 0 (av.map some ++ List.replicate (maxL - av.length) none) [] 0) :
    oXv l g y (.code y cc maxL none) lam mc av σ post px := by
  intro sz
  refine vx_ofW (cc := cc) (maxL := maxL) (ret := none) hy rfl ?_
  intro p e s m args below meth c s₁ B hml ht hv
  obtain ⟨rfl, hv⟩ := hv
  obtain ⟨C, hP, hS, -⟩ := o_ctx B hml ho hv
  obtain ⟨ls, e1, hl2⟩ := oL.entry av (n := maxL) hc hn
  rw [lg_entry_eq, e1]
  refine body _ C (o_thrower hl B ht C) (fun σ' pc vs k hd hp hk => ?_) s.heap [] ls hl2 hP hS
  exact fun H locs ls hl hP hS => vx_ret (o_bodyV (l := l) (post := post) B.exec B.bytes B.returns B.notSynchronized (fun σ9 t9 h1 h2 h3 => ⟨⟨σ9, rfl, h1, h2⟩, h3⟩) hd hp hk H locs ls hl hP hS)
