/-! THE CLAIM OUT OF ONE WALK OF THE LAW'S BODY. Your part is whole_start (and what it stands on); all else here is the same for every law, but numbers. -/
def R_law : String := "SlittingOfficeLaw"
def lw_P (b : Addr) (xs : List Int32) (args : Array Value) (s : State) : Prop := args = #[.ref b] ∧ s.IntsAt b xs ∧ xs.length ≤ 260 ∧ (Jvm.Cond.and given_1 narrow_1).before args s = true
def lw_Q (_ : Array Value) (s : State) (o : Outcome) (t : State) : Prop := o = .returned (some (.int 1)) ∧ Framed s o t [] 738373 6886505
def lw_Z (below : List Frame) (a : Array Value) (s : State) : State → Prop := fun t => ∃ o, t.status = .running ∧ Ended t below o ∧ lw_Q a s o t
/-- the law's own end, with 1 on the stack, nothing written that was there before, its room as the claim has it -/
theorem lw_ret {p : Program} {l : Launch} {e : Env} {s : State} {m : MethodId} {below : List Frame} {meth : Method} {c : Code} {b : Nat} (hx : p.tables.exec = Jvm.exec) (hb : c.code = code) (hr : meth.sig.returnType = ret) (hlocks : meth.locks = false) {pc : Nat} {H : Heap} {ls : Array Slot} (hdg : decode code pc = .ok (.ireturn, 1)) : W p l e room_1 s m #[Value.ref b] below meth c H [] 738373 6886505 (lw_Z below #[Value.ref b] s) (F0 m pc ls [.int 1]) := by
  intro T hT X
  obtain ⟨fs, hret, hrun, hended, hW, hframe⟩ := X.leave (v := some (.int 1)) (hlocks := hlocks) (fun h => by rw [hr] at h; cases h)
  have hmeth' : T.vm.method? m = some meth := X.method'
  refine ⟨T.setFrames fs, ?_, .returned (some (.int 1)), hrun, hended, rfl, ⟨_, rfl⟩, hW, hframe⟩
  jvm_step X.here [X.here.top, hx, hb, hdg, hmeth', hr, ret, narrow_b1]
  (try refine ⟨rfl, ?_⟩); (try refine ⟨rfl, ?_⟩)
  first | (intro acts; rw [hret _ acts rfl rfl rfl]) | rw [hret _ _ rfl rfl rfl]
  exact Steps.refl _
/-- what holds at the law's entry: the machine, the code, the tables' words (any of lw_tbl by 'hts w (by decide +kernel)'), the script of L ints xs at the cell b, what the Statement gives of the start (any of its parts by flat_of_before) -/
def lw_At (p : Program) (s : State) (m : MethodId) (meth : Method) (c : Code) (b L : Nat) (xs : Nat → Int32) : Prop :=
  p.tables.exec = Jvm.exec ∧ c.code = code ∧ meth.sig.returnType = ret ∧ c.maxLocals = 9 ∧ s.vm.findClass R_law = some m.cls ∧ (∀ w ∈ lw_tbl, w.before #[Value.ref b] s = true) ∧ va_X b L xs s s.heap ∧ b < s.heap.size ∧ meth.locks = false ∧ (Jvm.Cond.and given_1 narrow_1).before #[Value.ref b] s = true
set_option maxRecDepth 20000 in
/-- the law makes its two offices -/
theorem law_new {l : Launch} {g : oG} {x : oCtx} {b : Nat} (C : nK g RL cL_law 10 2000 20000 x) (K : ∀ (q1 qc1 qo1 qp1 u1 w1 : Nat) (aD1 aF1 aR1 r1 p1 : Nat → Nat) (E1 F1 G1 : Nat → Nat → Nat) (q2 qc2 qo2 qp2 u2 w2 : Nat) (aD2 aF2 aR2 r2 p2 : Nat → Nat) (E2 F2 G2 : Nat → Nat → Nat), nW l g x (cW g q1 qc1 qo1 qp1 u1 w1 aD1 aF1 aR1 r1 p1 E1 F1 G1 ++ cW g q2 qc2 qo2 qp2 u2 w2 aD2 aF2 aR2 r2 p2 E2 F2 G2) 16 [some (.ref b), some (.ref q1), some (.ref q2), none, none, none, none, none, none] [] 366 9860) : nW l g x [] 0 [some (.ref b), none, none, none, none, none, none, none, none] [] 0 0 := by
  refine n_new (pc := 0) (ci := 5) (fs := [.null, oi 0, .null, oi 0, .null, oi 0, .null, oi 0, oi 0, oi 0, oi 0, oi 0, .null, .null, oi 0, .null, .null]) C inlX5 tyX5 tyX5_ok kw_1_0 kw_1_1 kw_1_2 rfl (by decide +kernel) (Nat.le_of_ble_eq_true rfl) (Nat.le_of_ble_eq_true rfl) dL_law_0 (fun q1 => ?_)
  refine n_dup (pc := 3) C dL_law_3 rfl ?_
  refine n_initI (pc := 4) C (c_X5_init (q := q1)) kw_1_3 kw_1_4 kw_1_2 kw_1_5 rfl (by decide +kernel) (by decide) (by decide) (Nat.le_of_ble_eq_true rfl) (Nat.le_of_ble_eq_true rfl) (Nat.le_of_ble_eq_true rfl) dL_law_4 (fun w hw => ?_)
  obtain ⟨qc1, qo1, qp1, u1, w1, aD1, aF1, aR1, r1, p1, E1, F1, G1, rfl⟩ := hw
  refine n_astore_n (pc := 7) C dL_law_7 (by simp) ?_
  refine n_new (pc := 8) (ci := 5) (fs := [.null, oi 0, .null, oi 0, .null, oi 0, .null, oi 0, oi 0, oi 0, oi 0, oi 0, .null, .null, oi 0, .null, .null]) C inlX5 tyX5 tyX5_ok kw_1_0 kw_1_1 kw_1_2 rfl (by decide +kernel) (Nat.le_of_ble_eq_true rfl) (Nat.le_of_ble_eq_true rfl) dL_law_8 (fun q2 => ?_)
  refine n_dup (pc := 11) C dL_law_11 rfl ?_
  refine n_initI (pc := 12) C (c_X5_init (q := q2)) kw_1_3 kw_1_4 kw_1_2 kw_1_5 rfl (by decide +kernel) (by decide) (by decide) (Nat.le_of_ble_eq_true rfl) (Nat.le_of_ble_eq_true rfl) (Nat.le_of_ble_eq_true rfl) dL_law_12 (fun w hw => ?_)
  obtain ⟨qc2, qo2, qp2, u2, w2, aD2, aF2, aR2, r2, p2, E2, F2, G2, rfl⟩ := hw
  refine n_astore_n (pc := 15) C dL_law_15 (by simp) ?_
  exact K q1 qc1 qo1 qp1 u1 w1 aD1 aF1 aR1 r1 p1 E1 F1 G1 q2 qc2 qo2 qp2 u2 w2 aD2 aF2 aR2 r2 p2 E2 F2 G2

theorem whole_start {p : Program} {e : Env} {s : State} {m : MethodId} {below : List Frame} {meth : Method} {c : Code} (l : Launch) (hflags : l.flags = flags0) {b L : Nat} {xs : Nat → Int32} (hL : L ≤ 260) (C0 : lw_At p s m meth c b L xs) : W p l e room_1 s m #[Value.ref b] below meth c s.heap [] 0 0 (lw_Z below #[Value.ref b] s) (entryFrame m ([Value.ref b] : List Value).toArray 9) := by
  obtain ⟨hx, hb, hr, hml, hown, hts, hX, hbl, hlocks, hgv⟩ := C0
  obtain ⟨D, cls, hK⟩ := e_K hts
  obtain ⟨hnF, hoF, hoNC⟩ := e_F hts hgv
  have hl : ∀ w ∈ wsL_law, w.before #[Value.ref b] s = true := fun w h => hts w (wL_in w h)
  have hfl : l.stackTraces = false := by
    unfold Launch.stackTraces
    rw [hflags]
    decide +kernel
  obtain ⟨ls, e1, hls⟩ := oL.entry [.ref b] (n := 9) (by simp [Value.category]) (by simp)
  rw [lg_entry_eq, e1]
  have C : nK (D, fun _ _ => 0, cls) RL cL_law 10 2000 20000 (p, e, room_1, s, m, #[Value.ref b], below, meth, c, lw_Z below #[Value.ref b] s, (fun q : Nat => s.heap.size ≤ q), 9) := ⟨hx, hb, hml, hown, hl, hK _, fun q h => h, hnF, by decide, by decide, by decide, by decide⟩
  have key := law_new (l := l) (b := b) C (fun q1 qc1 qo1 qp1 u1 w1 aD1 aF1 aR1 r1 p1 E1 F1 G1 q2 qc2 qo2 qp2 u2 w2 aD2 aF2 aR2 r2 p2 E2 F2 G2 => ?_)
  · exact key s.heap [] ls hls (fun k q h => by simp at h) ⟨fun i j p q h => by simp at h, fun k q h => by simp at h⟩ va_S.rf
  intro H locs ls hl2 hP hD hS
  obtain ⟨hP', hD'⟩ := z_world (g := (D, fg q1 qc1 qo1 qp1 u1 w1 aD1 aF1 aR1 r1 p1 E1 F1 G1 q2 qc2 qo2 qp2 u2 w2 aD2 aF2 aR2 r2 p2 E2 F2 G2, cls)) (z_all (g := (D, fun _ _ => 0, cls))) zL_in hP hD
  have CK : oK l (D, fg q1 qc1 qo1 qp1 u1 w1 aD1 aF1 aR1 r1 p1 E1 F1 G1 q2 qc2 qo2 qp2 u2 w2 aD2 aF2 aR2 r2 p2 E2 F2 G2, cls) RL cL_law 30 100000 (p, e, room_1, s, m, #[Value.ref b], below, meth, c, lw_Z below #[Value.ref b] s, (fun q : Nat => s.heap.size ≤ q), 9) := ⟨hx, hb, hml, hown, hl, hK _, hD', fun q h => h, hoF, by decide, by decide, by decide, by decide⟩
  have S : oScr b L xs (p, e, room_1, s, m, #[Value.ref b], below, meth, c, lw_Z below #[Value.ref b] s, (fun q : Nat => s.heap.size ≤ q), 9) := ⟨hX, hbl, Nat.not_le.mpr hbl⟩
  have hE : ∀ (σ : oMem) (vs : List (Option Value)) (k : Nat), k ≤ 100000 → oW l (D, fg q1 qc1 qo1 qp1 u1 w1 aD1 aF1 aR1 r1 p1 E1 F1 G1 q2 qc2 qo2 qp2 u2 w2 aD2 aF2 aR2 r2 p2 E2 F2 G2, cls) (p, e, room_1, s, m, #[Value.ref b], below, meth, c, lw_Z below #[Value.ref b] s, (fun q : Nat => s.heap.size ≤ q), 9) σ 728 vs [oi 1] k := by
    intro σ vs k hk H1 locs1 ls1 hl1 hP1 hS1
    refine va_forget (fun q hq => hS1.2.2 q hq) ?_
    refine W.widen (k := 738373) (n := 6886505) (by omega) (by omega) ?_
    exact lw_ret hx hb hr hlocks dL_law_728
  have Lp := law_body (k0 := 1700) hfl CK S hoNC hL (by decide) z_J hE
  refine W.widen (k := 1700) (n := 6 * 1700) (by decide) (by decide) ?_
  exact Lp H locs ls hl2 hP' hS
