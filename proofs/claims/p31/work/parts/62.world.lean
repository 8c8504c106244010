/-! THE WORLD WHEN BOTH ARE MADE -/
def ff (q1 qc1 qo1 qp1 u1 w1 : Nat) (aD1 aF1 aR1 r1 p1 : Nat → Nat) (E1 F1 G1 : Nat → Nat → Nat) (K i : Nat) : Nat := if K = 0 then q1 else if K = 1 then E1 i 1 else if K = 2 then E1 i 2 else if K = 3 then E1 i 3 else if K = 4 then E1 i 4 else if K = 5 then E1 i 5 else if K = 6 then E1 i 6 else if K = 7 then F1 i 7 else if K = 8 then (if i = 10 then aD1 8 else G1 i 8) else if K = 9 then (if i = 10 then aD1 9 else G1 i 9) else if K = 10 then aF1 10 else if K = 11 then aF1 11 else if K = 12 then aF1 12 else if K = 13 then aR1 13 else if K = 14 then r1 i else if K = 15 then p1 i else if K = 16 then aR1 16 else if K = 17 then u1 else if K = 18 then w1 else if K = 19 then qc1 else if K = 20 then qo1 else if K = 21 then qp1 else if K = 22 then aR1 22 else aR1 23
def sz0 : oMem := fun K _ j => if K = 0 then (if j = 7 then 10 else if j = 8 then 20 else if j = 9 then 8 else if j = 10 then -1 else 0) else if K = 1 then (if j = 10 then -1 else 0) else if K = 7 then (if j = 3 then -1 else 0) else 0
def sz : oMem := fun K => sz0 (if K < 24 then K else K - 24)
def zP (g : oG) (w : Nat × va_E) (id : Nat × Nat) : Prop := w.1 = g.2.1 id.1 id.2 ∧ ∀ H : Heap, va_at g.1 vwCl w H → va_at g.1 vwCl (w.1, o_sh g id.1 id.2 (sz id.1 id.2)) H
theorem zP_rf {g : oG} {w : Nat × va_E} {K i : Nat} (h : w = (g.2.1 K i, o_sh g K i (sz K i))) : zP g w (K, i) := by
  subst h
  exact ⟨rfl, fun _ h => h⟩
theorem arrV_ext {c : ClassId} {N : Nat} {f f' : Nat → Value} (h : ∀ j, j < N → f j = f' j) : arrV c N f = arrV c N f' := by
  have e : (fun j : Fin N => f j.val) = fun j => f' j.val := funext fun j => h _ j.isLt
  unfold arrV
  rw [e]
theorem zP_ref {g : oG} {a K i N : Nat} {c : ClassId} {f f' : Nat → Option Nat} (ha : a = g.2.1 K i) (he : o_sh g K i (sz K i) = .inl (c, N, .inr (.inr (.inr (.inr f'))))) (hf : ∀ j, j < N → f j = f' j) : zP g (a, .inl (c, N, .inr (.inr (.inr (.inr f))))) (K, i) := by
  refine ⟨ha, fun H h => ?_⟩
  show va_at g.1 vwCl (a, o_sh g K i (sz K i)) H
  rw [he]
  have h1 : H[a]? = some (vp_cell c (N, .inr (.inr (.inr (.inr f))))) := h
  show H[a]? = some (vp_cell c (N, .inr (.inr (.inr (.inr f')))))
  rw [h1, vp_cell_q, vp_cell_q]
  exact congrArg some (arrV_ext (fun j hj => by rw [hf j hj]))
def z2 (g : oG) (W : va_W) (L : List (Nat × Nat)) : Prop := W.length = L.length ∧ ∀ (k : Nat) (w : Nat × va_E) (id : Nat × Nat), W[k]? = some w → L[k]? = some id → zP g w id
theorem z2.nil {g : oG} : z2 g [] [] := ⟨rfl, fun k w id h => by simp at h⟩
theorem z2.cons {g : oG} {w : Nat × va_E} {id : Nat × Nat} {W : va_W} {L : List (Nat × Nat)} (h : zP g w id) (t : z2 g W L) : z2 g (w :: W) (id :: L) := by
  refine ⟨by simp [t.1], fun k w' id' h1 h2 => ?_⟩
  cases k with
  | zero =>
    simp at h1 h2
    rw [← h1, ← h2]; exact h
  | succ k => exact t.2 k w' id' (by simpa using h1) (by simpa using h2)
theorem z2.app {g : oG} {W W' : va_W} {L L' : List (Nat × Nat)} (a : z2 g W L) (b : z2 g W' L') : z2 g (W ++ W') (L ++ L') := by
  refine ⟨by simp [a.1, b.1], fun k w id h1 h2 => ?_⟩
  rcases Nat.lt_or_ge k W.length with h | h
  · rw [List.getElem?_append_left h] at h1
    rw [List.getElem?_append_left (by rw [← a.1]; exact h)] at h2
    exact a.2 k w id h1 h2
  · rw [List.getElem?_append_right h] at h1
    rw [List.getElem?_append_right (by rw [← a.1]; exact h), ← a.1] at h2
    exact b.2 _ w id h1 h2
theorem z2.flat {g : oG} {f : Nat → va_W} {h : Nat → List (Nat × Nat)} : ∀ l : List Nat, (∀ j ∈ l, z2 g (f j) (h j)) → z2 g (l.flatMap f) (l.flatMap h)
  | [], _ => z2.nil
  | a :: r, k => by
    rw [List.flatMap_cons, List.flatMap_cons]
    exact z2.app (k a List.mem_cons_self) (z2.flat r (fun j hj => k j (List.mem_cons_of_mem _ hj)))
theorem z2.map {g : oG} {f : Nat → Nat × va_E} {h : Nat → Nat × Nat} : ∀ l : List Nat, (∀ j ∈ l, zP g (f j) (h j)) → z2 g (l.map f) (l.map h)
  | [], _ => z2.nil
  | a :: r, k => by
    rw [List.map_cons, List.map_cons]
    exact z2.cons (k a List.mem_cons_self) (z2.map r (fun j hj => k j (List.mem_cons_of_mem _ hj)))
theorem z_world {g : oG} {W : va_W} {L : List (Nat × Nat)} {A : Nat → Prop} {H : Heap} (hz : z2 g W L) (hL : ∀ id ∈ o_ids, id ∈ L) (hP : va_P g.1 vwCl W H) (hD : va_D A W) : va_P g.1 vwCl (o_ws g sz) H ∧ va_D A (o_ws g (fun _ _ _ => 0)) := by
  have key : ∀ (σ : oMem) (k : Nat) (q : Nat × va_E), (o_ws g σ)[k]? = some q → ∃ (id : Nat × Nat) (j : Nat) (w : Nat × va_E), o_ids[k]? = some id ∧ q = (g.2.1 id.1 id.2, o_sh g id.1 id.2 (σ id.1 id.2)) ∧ L[j]? = some id ∧ W[j]? = some w ∧ zP g w id := by
    intro σ k q h
    rw [o_ws, List.getElem?_map] at h
    cases hq : o_ids[k]? with
    | none => rw [hq] at h; simp at h
    | some id =>
      rw [hq] at h
      obtain ⟨j, hj⟩ := List.getElem?_of_mem (hL id (List.mem_of_getElem? hq))
      have hlt : j < W.length := by rw [hz.1]; exact (List.getElem?_eq_some_iff.mp hj).1
      exact ⟨id, j, W[j], rfl, (Option.some.inj h).symm, hj, List.getElem?_eq_getElem hlt, hz.2 j _ id (List.getElem?_eq_getElem hlt) hj⟩
  refine ⟨fun k q h => ?_, fun i j p q h1 h2 h3 => ?_, fun k q h => ?_⟩
  · obtain ⟨id, j, w, -, e, -, hw, hp⟩ := key sz k q h
    have h1 := hp.2 H (hP j w hw)
    rw [hp.1] at h1
    rw [e]; exact h1
  · obtain ⟨id1, j1, w1, a1, e1, l1, b1, p1⟩ := key _ i p h1
    obtain ⟨id2, j2, w2, a2, e2, l2, b2, p2⟩ := key _ j q h2
    have e3 : w1.1 = w2.1 := by
      rw [p1.1, p2.1]
      rw [e1, e2] at h3
      exact h3
    have e4 := hD.1 j1 j2 w1 w2 b1 b2 e3
    subst e4
    have e5 : id1 = id2 := Option.some.inj (l1.symm.trans l2)
    subst e5
    exact (List.getElem?_inj (List.getElem?_eq_some_iff.mp a1).1 o_nodup).mp (a1.trans a2.symm)
  · obtain ⟨id, j, w, -, e, -, hw, hp⟩ := key _ k q h
    have h1 := hD.2 j w hw
    rw [hp.1] at h1
    rw [e]; exact h1
def zL : List (Nat × Nat) := ((0, 0) :: (19, 0) :: (20, 0) :: (21, 0) :: (((([(8, 10), (9, 10)] ++ ([(17, 0), (18, 0)] ++ ([(10, 0), (11, 0), (12, 0)] ++ ((13, 0) :: (((([] ++ [(22, 0)]) ++ (List.range 8).map (fun i => (14, i))) ++ [(23, 0)]) ++ (List.range 8).map (fun i => (15, i)) ++ [(16, 0)]))))) ++ (List.range 20).flatMap (fun j => [(1, j), (2, j), (3, j), (4, j), (5, j), (6, j)])) ++ (List.range 12).flatMap (fun j => [(7, j)])) ++ (List.range 10).flatMap (fun j => [(8, j), (9, j)]))) ++ ((24, 0) :: (43, 0) :: (44, 0) :: (45, 0) :: (((([(32, 10), (33, 10)] ++ ([(41, 0), (42, 0)] ++ ([(34, 0), (35, 0), (36, 0)] ++ ((37, 0) :: (((([] ++ [(46, 0)]) ++ (List.range 8).map (fun i => (38, i))) ++ [(47, 0)]) ++ (List.range 8).map (fun i => (39, i)) ++ [(40, 0)]))))) ++ (List.range 20).flatMap (fun j => [(25, j), (26, j), (27, j), (28, j), (29, j), (30, j)])) ++ (List.range 12).flatMap (fun j => [(31, j)])) ++ (List.range 10).flatMap (fun j => [(32, j), (33, j)])))
set_option maxRecDepth 20000 in
theorem zL_in : ∀ id ∈ o_ids, id ∈ zL := by decide +kernel
abbrev fg (q1 qc1 qo1 qp1 u1 w1 : Nat) (aD1 aF1 aR1 r1 p1 : Nat → Nat) (E1 F1 G1 : Nat → Nat → Nat) (q2 qc2 qo2 qp2 u2 w2 : Nat) (aD2 aF2 aR2 r2 p2 : Nat → Nat) (E2 F2 G2 : Nat → Nat → Nat) : Nat → Nat → Nat := fun K i => if K < 24 then ff q1 qc1 qo1 qp1 u1 w1 aD1 aF1 aR1 r1 p1 E1 F1 G1 K i else ff q2 qc2 qo2 qp2 u2 w2 aD2 aF2 aR2 r2 p2 E2 F2 G2 (K - 24) i
abbrev zg (g : oG) (q1 qc1 qo1 qp1 u1 w1 : Nat) (aD1 aF1 aR1 r1 p1 : Nat → Nat) (E1 F1 G1 : Nat → Nat → Nat) (q2 qc2 qo2 qp2 u2 w2 : Nat) (aD2 aF2 aR2 r2 p2 : Nat → Nat) (E2 F2 G2 : Nat → Nat → Nat) : oG := (g.1, fg q1 qc1 qo1 qp1 u1 w1 aD1 aF1 aR1 r1 p1 E1 F1 G1 q2 qc2 qo2 qp2 u2 w2 aD2 aF2 aR2 r2 p2 E2 F2 G2, g.2.2)
theorem z_D1 {g : oG} {q1 qc1 qo1 qp1 u1 w1 : Nat} {aD1 aF1 aR1 r1 p1 : Nat → Nat} {E1 F1 G1 : Nat → Nat → Nat} {q2 qc2 qo2 qp2 u2 w2 : Nat} {aD2 aF2 aR2 r2 p2 : Nat → Nat} {E2 F2 G2 : Nat → Nat → Nat} : z2 (zg g q1 qc1 qo1 qp1 u1 w1 aD1 aF1 aR1 r1 p1 E1 F1 G1 q2 qc2 qo2 qp2 u2 w2 aD2 aF2 aR2 r2 p2 E2 F2 G2) (cP g aD1) [(8, 10), (9, 10)] := z2.cons (zP_rf rfl) (z2.cons (zP_rf rfl) z2.nil)
theorem z_F1 {g : oG} {q1 qc1 qo1 qp1 u1 w1 : Nat} {aD1 aF1 aR1 r1 p1 : Nat → Nat} {E1 F1 G1 : Nat → Nat → Nat} {q2 qc2 qo2 qp2 u2 w2 : Nat} {aD2 aF2 aR2 r2 p2 : Nat → Nat} {E2 F2 G2 : Nat → Nat → Nat} : z2 (zg g q1 qc1 qo1 qp1 u1 w1 aD1 aF1 aR1 r1 p1 E1 F1 G1 q2 qc2 qo2 qp2 u2 w2 aD2 aF2 aR2 r2 p2 E2 F2 G2) (cF g aF1) [(10, 0), (11, 0), (12, 0)] := z2.cons (zP_rf rfl) (z2.cons (zP_rf rfl) (z2.cons (zP_rf rfl) z2.nil))
theorem z_R1 {g : oG} {q1 qc1 qo1 qp1 u1 w1 : Nat} {aD1 aF1 aR1 r1 p1 : Nat → Nat} {E1 F1 G1 : Nat → Nat → Nat} {q2 qc2 qo2 qp2 u2 w2 : Nat} {aD2 aF2 aR2 r2 p2 : Nat → Nat} {E2 F2 G2 : Nat → Nat → Nat} : z2 (zg g q1 qc1 qo1 qp1 u1 w1 aD1 aF1 aR1 r1 p1 E1 F1 G1 q2 qc2 qo2 qp2 u2 w2 aD2 aF2 aR2 r2 p2 E2 F2 G2) (cR g aR1 r1 p1) ((13, 0) :: (((([] ++ [(22, 0)]) ++ (List.range 8).map (fun i => (14, i))) ++ [(23, 0)]) ++ (List.range 8).map (fun i => (15, i)) ++ [(16, 0)])) :=
  z2.cons (zP_rf rfl) (z2.app (z2.app (z2.app (z2.app (z2.app z2.nil (z2.cons (zP_ref rfl rfl (fun j hj => if_pos hj)) z2.nil)) (z2.map _ (fun j _ => zP_rf rfl))) (z2.cons (zP_ref rfl rfl (fun j hj => if_pos hj)) z2.nil)) (z2.map _ (fun j _ => zP_rf rfl))) (z2.cons (zP_rf rfl) z2.nil))
theorem z_C1 {g : oG} {q1 qc1 qo1 qp1 u1 w1 : Nat} {aD1 aF1 aR1 r1 p1 : Nat → Nat} {E1 F1 G1 : Nat → Nat → Nat} {q2 qc2 qo2 qp2 u2 w2 : Nat} {aD2 aF2 aR2 r2 p2 : Nat → Nat} {E2 F2 G2 : Nat → Nat → Nat} {j : Nat} : z2 (zg g q1 qc1 qo1 qp1 u1 w1 aD1 aF1 aR1 r1 p1 E1 F1 G1 q2 qc2 qo2 qp2 u2 w2 aD2 aF2 aR2 r2 p2 E2 F2 G2) (cC g (E1 j)) [(1, j), (2, j), (3, j), (4, j), (5, j), (6, j)] := z2.cons (zP_rf rfl) (z2.cons (zP_rf rfl) (z2.cons (zP_rf rfl) (z2.cons (zP_rf rfl) (z2.cons (zP_rf rfl) (z2.cons (zP_rf rfl) z2.nil)))))
theorem z_O1 {g : oG} {q1 qc1 qo1 qp1 u1 w1 : Nat} {aD1 aF1 aR1 r1 p1 : Nat → Nat} {E1 F1 G1 : Nat → Nat → Nat} {q2 qc2 qo2 qp2 u2 w2 : Nat} {aD2 aF2 aR2 r2 p2 : Nat → Nat} {E2 F2 G2 : Nat → Nat → Nat} {j : Nat} : z2 (zg g q1 qc1 qo1 qp1 u1 w1 aD1 aF1 aR1 r1 p1 E1 F1 G1 q2 qc2 qo2 qp2 u2 w2 aD2 aF2 aR2 r2 p2 E2 F2 G2) (cO g (F1 j)) [(7, j)] := z2.cons (zP_rf rfl) z2.nil
theorem z_P1 {g : oG} {q1 qc1 qo1 qp1 u1 w1 : Nat} {aD1 aF1 aR1 r1 p1 : Nat → Nat} {E1 F1 G1 : Nat → Nat → Nat} {q2 qc2 qo2 qp2 u2 w2 : Nat} {aD2 aF2 aR2 r2 p2 : Nat → Nat} {E2 F2 G2 : Nat → Nat → Nat} {j : Nat} (hj : j < 10) : z2 (zg g q1 qc1 qo1 qp1 u1 w1 aD1 aF1 aR1 r1 p1 E1 F1 G1 q2 qc2 qo2 qp2 u2 w2 aD2 aF2 aR2 r2 p2 E2 F2 G2) (cP g (G1 j)) [(8, j), (9, j)] := by
  have h : ¬ j = 10 := by omega
  refine z2.cons (zP_rf ?_) (z2.cons (zP_rf ?_) z2.nil)
  · show (G1 j 8, (Sum.inr (3, [Value.ref (G1 j 9), oi 0]) : va_E)) = ((if j = 10 then aD1 8 else G1 j 8), Sum.inr (3, [Value.ref (if j = 10 then aD1 9 else G1 j 9), oi 0]))
    rw [if_neg h, if_neg h]
  · show (G1 j 9, (Sum.inl (g.2.2 0, 15, Sum.inl (fun _ => 0)) : va_E)) = ((if j = 10 then aD1 9 else G1 j 9), Sum.inl (g.2.2 0, 15, Sum.inl (fun _ => 0)))
    rw [if_neg h]
theorem z_W1 {g : oG} {q1 qc1 qo1 qp1 u1 w1 : Nat} {aD1 aF1 aR1 r1 p1 : Nat → Nat} {E1 F1 G1 : Nat → Nat → Nat} {q2 qc2 qo2 qp2 u2 w2 : Nat} {aD2 aF2 aR2 r2 p2 : Nat → Nat} {E2 F2 G2 : Nat → Nat → Nat} : z2 (zg g q1 qc1 qo1 qp1 u1 w1 aD1 aF1 aR1 r1 p1 E1 F1 G1 q2 qc2 qo2 qp2 u2 w2 aD2 aF2 aR2 r2 p2 E2 F2 G2) (cW g q1 qc1 qo1 qp1 u1 w1 aD1 aF1 aR1 r1 p1 E1 F1 G1) ((0, 0) :: (19, 0) :: (20, 0) :: (21, 0) :: (((([(8, 10), (9, 10)] ++ ([(17, 0), (18, 0)] ++ ([(10, 0), (11, 0), (12, 0)] ++ ((13, 0) :: (((([] ++ [(22, 0)]) ++ (List.range 8).map (fun i => (14, i))) ++ [(23, 0)]) ++ (List.range 8).map (fun i => (15, i)) ++ [(16, 0)]))))) ++ (List.range 20).flatMap (fun j => [(1, j), (2, j), (3, j), (4, j), (5, j), (6, j)])) ++ (List.range 12).flatMap (fun j => [(7, j)])) ++ (List.range 10).flatMap (fun j => [(8, j), (9, j)]))) := by
  refine z2.cons (zP_rf rfl) (z2.cons (zP_ref rfl rfl (fun j hj => if_pos hj)) (z2.cons (zP_ref rfl rfl (fun j hj => if_pos hj)) (z2.cons (zP_ref rfl rfl (fun j hj => ?_)) (z2.app (z2.app (z2.app (z2.app z_D1 (z2.app (z2.cons (zP_rf rfl) (z2.cons (zP_rf rfl) z2.nil)) (z2.app z_F1 z_R1))) (z2.flat _ (fun j _ => z_C1))) (z2.flat _ (fun j _ => z_O1))) (z2.flat _ (fun j hj => z_P1 (List.mem_range.mp hj)))))))
  show aG G1 8 10 j = some (if j = 10 then aD1 8 else G1 j 8)
  rw [if_neg (by omega)]
  exact if_pos hj
theorem z_D2 {g : oG} {q1 qc1 qo1 qp1 u1 w1 : Nat} {aD1 aF1 aR1 r1 p1 : Nat → Nat} {E1 F1 G1 : Nat → Nat → Nat} {q2 qc2 qo2 qp2 u2 w2 : Nat} {aD2 aF2 aR2 r2 p2 : Nat → Nat} {E2 F2 G2 : Nat → Nat → Nat} : z2 (zg g q1 qc1 qo1 qp1 u1 w1 aD1 aF1 aR1 r1 p1 E1 F1 G1 q2 qc2 qo2 qp2 u2 w2 aD2 aF2 aR2 r2 p2 E2 F2 G2) (cP g aD2) [(32, 10), (33, 10)] := z2.cons (zP_rf rfl) (z2.cons (zP_rf rfl) z2.nil)
theorem z_F2 {g : oG} {q1 qc1 qo1 qp1 u1 w1 : Nat} {aD1 aF1 aR1 r1 p1 : Nat → Nat} {E1 F1 G1 : Nat → Nat → Nat} {q2 qc2 qo2 qp2 u2 w2 : Nat} {aD2 aF2 aR2 r2 p2 : Nat → Nat} {E2 F2 G2 : Nat → Nat → Nat} : z2 (zg g q1 qc1 qo1 qp1 u1 w1 aD1 aF1 aR1 r1 p1 E1 F1 G1 q2 qc2 qo2 qp2 u2 w2 aD2 aF2 aR2 r2 p2 E2 F2 G2) (cF g aF2) [(34, 0), (35, 0), (36, 0)] := z2.cons (zP_rf rfl) (z2.cons (zP_rf rfl) (z2.cons (zP_rf rfl) z2.nil))
theorem z_R2 {g : oG} {q1 qc1 qo1 qp1 u1 w1 : Nat} {aD1 aF1 aR1 r1 p1 : Nat → Nat} {E1 F1 G1 : Nat → Nat → Nat} {q2 qc2 qo2 qp2 u2 w2 : Nat} {aD2 aF2 aR2 r2 p2 : Nat → Nat} {E2 F2 G2 : Nat → Nat → Nat} : z2 (zg g q1 qc1 qo1 qp1 u1 w1 aD1 aF1 aR1 r1 p1 E1 F1 G1 q2 qc2 qo2 qp2 u2 w2 aD2 aF2 aR2 r2 p2 E2 F2 G2) (cR g aR2 r2 p2) ((37, 0) :: (((([] ++ [(46, 0)]) ++ (List.range 8).map (fun i => (38, i))) ++ [(47, 0)]) ++ (List.range 8).map (fun i => (39, i)) ++ [(40, 0)])) :=
  z2.cons (zP_rf rfl) (z2.app (z2.app (z2.app (z2.app (z2.app z2.nil (z2.cons (zP_ref rfl rfl (fun j hj => if_pos hj)) z2.nil)) (z2.map _ (fun j _ => zP_rf rfl))) (z2.cons (zP_ref rfl rfl (fun j hj => if_pos hj)) z2.nil)) (z2.map _ (fun j _ => zP_rf rfl))) (z2.cons (zP_rf rfl) z2.nil))
theorem z_C2 {g : oG} {q1 qc1 qo1 qp1 u1 w1 : Nat} {aD1 aF1 aR1 r1 p1 : Nat → Nat} {E1 F1 G1 : Nat → Nat → Nat} {q2 qc2 qo2 qp2 u2 w2 : Nat} {aD2 aF2 aR2 r2 p2 : Nat → Nat} {E2 F2 G2 : Nat → Nat → Nat} {j : Nat} : z2 (zg g q1 qc1 qo1 qp1 u1 w1 aD1 aF1 aR1 r1 p1 E1 F1 G1 q2 qc2 qo2 qp2 u2 w2 aD2 aF2 aR2 r2 p2 E2 F2 G2) (cC g (E2 j)) [(25, j), (26, j), (27, j), (28, j), (29, j), (30, j)] := z2.cons (zP_rf rfl) (z2.cons (zP_rf rfl) (z2.cons (zP_rf rfl) (z2.cons (zP_rf rfl) (z2.cons (zP_rf rfl) (z2.cons (zP_rf rfl) z2.nil)))))
theorem z_O2 {g : oG} {q1 qc1 qo1 qp1 u1 w1 : Nat} {aD1 aF1 aR1 r1 p1 : Nat → Nat} {E1 F1 G1 : Nat → Nat → Nat} {q2 qc2 qo2 qp2 u2 w2 : Nat} {aD2 aF2 aR2 r2 p2 : Nat → Nat} {E2 F2 G2 : Nat → Nat → Nat} {j : Nat} : z2 (zg g q1 qc1 qo1 qp1 u1 w1 aD1 aF1 aR1 r1 p1 E1 F1 G1 q2 qc2 qo2 qp2 u2 w2 aD2 aF2 aR2 r2 p2 E2 F2 G2) (cO g (F2 j)) [(31, j)] := z2.cons (zP_rf rfl) z2.nil
theorem z_P2 {g : oG} {q1 qc1 qo1 qp1 u1 w1 : Nat} {aD1 aF1 aR1 r1 p1 : Nat → Nat} {E1 F1 G1 : Nat → Nat → Nat} {q2 qc2 qo2 qp2 u2 w2 : Nat} {aD2 aF2 aR2 r2 p2 : Nat → Nat} {E2 F2 G2 : Nat → Nat → Nat} {j : Nat} (hj : j < 10) : z2 (zg g q1 qc1 qo1 qp1 u1 w1 aD1 aF1 aR1 r1 p1 E1 F1 G1 q2 qc2 qo2 qp2 u2 w2 aD2 aF2 aR2 r2 p2 E2 F2 G2) (cP g (G2 j)) [(32, j), (33, j)] := by
  have h : ¬ j = 10 := by omega
  refine z2.cons (zP_rf ?_) (z2.cons (zP_rf ?_) z2.nil)
  · show (G2 j 8, (Sum.inr (3, [Value.ref (G2 j 9), oi 0]) : va_E)) = ((if j = 10 then aD2 8 else G2 j 8), Sum.inr (3, [Value.ref (if j = 10 then aD2 9 else G2 j 9), oi 0]))
    rw [if_neg h, if_neg h]
  · show (G2 j 9, (Sum.inl (g.2.2 0, 15, Sum.inl (fun _ => 0)) : va_E)) = ((if j = 10 then aD2 9 else G2 j 9), Sum.inl (g.2.2 0, 15, Sum.inl (fun _ => 0)))
    rw [if_neg h]
theorem z_W2 {g : oG} {q1 qc1 qo1 qp1 u1 w1 : Nat} {aD1 aF1 aR1 r1 p1 : Nat → Nat} {E1 F1 G1 : Nat → Nat → Nat} {q2 qc2 qo2 qp2 u2 w2 : Nat} {aD2 aF2 aR2 r2 p2 : Nat → Nat} {E2 F2 G2 : Nat → Nat → Nat} : z2 (zg g q1 qc1 qo1 qp1 u1 w1 aD1 aF1 aR1 r1 p1 E1 F1 G1 q2 qc2 qo2 qp2 u2 w2 aD2 aF2 aR2 r2 p2 E2 F2 G2) (cW g q2 qc2 qo2 qp2 u2 w2 aD2 aF2 aR2 r2 p2 E2 F2 G2) ((24, 0) :: (43, 0) :: (44, 0) :: (45, 0) :: (((([(32, 10), (33, 10)] ++ ([(41, 0), (42, 0)] ++ ([(34, 0), (35, 0), (36, 0)] ++ ((37, 0) :: (((([] ++ [(46, 0)]) ++ (List.range 8).map (fun i => (38, i))) ++ [(47, 0)]) ++ (List.range 8).map (fun i => (39, i)) ++ [(40, 0)]))))) ++ (List.range 20).flatMap (fun j => [(25, j), (26, j), (27, j), (28, j), (29, j), (30, j)])) ++ (List.range 12).flatMap (fun j => [(31, j)])) ++ (List.range 10).flatMap (fun j => [(32, j), (33, j)]))) := by
  refine z2.cons (zP_rf rfl) (z2.cons (zP_ref rfl rfl (fun j hj => if_pos hj)) (z2.cons (zP_ref rfl rfl (fun j hj => if_pos hj)) (z2.cons (zP_ref rfl rfl (fun j hj => ?_)) (z2.app (z2.app (z2.app (z2.app z_D2 (z2.app (z2.cons (zP_rf rfl) (z2.cons (zP_rf rfl) z2.nil)) (z2.app z_F2 z_R2))) (z2.flat _ (fun j _ => z_C2))) (z2.flat _ (fun j _ => z_O2))) (z2.flat _ (fun j hj => z_P2 (List.mem_range.mp hj)))))))
  show aG G2 8 10 j = some (if j = 10 then aD2 8 else G2 j 8)
  rw [if_neg (by omega)]
  exact if_pos hj
theorem z_all {g : oG} {q1 qc1 qo1 qp1 u1 w1 : Nat} {aD1 aF1 aR1 r1 p1 : Nat → Nat} {E1 F1 G1 : Nat → Nat → Nat} {q2 qc2 qo2 qp2 u2 w2 : Nat} {aD2 aF2 aR2 r2 p2 : Nat → Nat} {E2 F2 G2 : Nat → Nat → Nat} : z2 (zg g q1 qc1 qo1 qp1 u1 w1 aD1 aF1 aR1 r1 p1 E1 F1 G1 q2 qc2 qo2 qp2 u2 w2 aD2 aF2 aR2 r2 p2 E2 F2 G2) (cW g q1 qc1 qo1 qp1 u1 w1 aD1 aF1 aR1 r1 p1 E1 F1 G1 ++ cW g q2 qc2 qo2 qp2 u2 w2 aD2 aF2 aR2 r2 p2 E2 F2 G2) zL := z2.app z_W1 z_W2
theorem z_lt (c : Nat) : ¬ ((c : Int) < 0) := by omega
theorem z_XI : XI sz := ⟨by decide, by decide, by decide, by decide, by decide, by decide, fun c h => absurd h (z_lt c), fun c h => absurd h (z_lt c), fun c h => absurd h (z_lt c), ⟨by decide, by decide, fun j h => absurd h (z_lt j)⟩, fun i h => absurd h (z_lt i), ⟨rfl, fun u _ => ⟨(by decide : (0 : Int) ≤ 0), (by decide : (0 : Int) ≤ 16)⟩⟩, ⟨fun b r _ _ => ⟨(by decide : (0 : Int) ≤ 0), (by decide : (0 : Int) ≤ 16)⟩, fun b s _ _ => ⟨(by decide : (0 : Int) ≤ 0), (by decide : (0 : Int) ≤ 128)⟩, fun b _ => rfl⟩⟩
theorem z_QI : QI sz := ⟨z_XI, fun c _ => ⟨rfl, rfl⟩, fun r _ => ⟨rfl, rfl⟩⟩
theorem z_sw (K : Nat) (hK : K < 24) : sw sz K = sz K := by
  rw [sw_lo hK]
  unfold sz
  rw [if_neg (by omega), if_pos hK, Nat.add_sub_cancel]
theorem z_Tw : Tw sz sz := by
  refine ⟨fun _ _ => rfl, fun c j => ?_, fun r j => ?_, fun _ _ _ _ => rfl, fun _ => rfl, fun _ _ _ => rfl, fun _ _ => rfl⟩
  · by_cases q : j = 3
    · subst q; rfl
    · rw [if_neg q]
  · by_cases q : j = 3
    · subst q; rfl
    · rw [if_neg q]
theorem z_J : J sz := ⟨Tw_cong (fun _ _ => rfl) z_sw z_Tw, z_QI, QI_cong z_sw z_QI⟩
