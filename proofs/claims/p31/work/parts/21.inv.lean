/-! THE OFFICE'S INVARIANT, and that a run keeps it -/
def SB (σ : oMem) (c : Nat) : Prop := (-1 ≤ σ 1 c 10 ∧ σ 1 c 10 ≤ 15) ∧ ∀ j : Nat, (j : Int) < σ 1 c 10 → InR (σ 4 c j) ∧ InR (σ 5 c j) ∧ InR (σ 6 c j)
def XI (σ : oMem) : Prop := (0 ≤ σ 0 0 1 ∧ σ 0 0 1 ≤ 20) ∧ (0 ≤ σ 0 0 3 ∧ σ 0 0 3 ≤ 12) ∧ (0 ≤ σ 0 0 5 ∧ σ 0 0 5 ≤ 10) ∧ ((0 ≤ σ 0 0 7 ∧ σ 0 0 7 ≤ 100) ∧ (0 ≤ σ 0 0 8 ∧ σ 0 0 8 ≤ 500) ∧ (2 ≤ σ 0 0 9 ∧ σ 0 0 9 ≤ 16)) ∧ (-1 ≤ σ 0 0 10 ∧ σ 0 0 10 < σ 0 0 5) ∧ (0 ≤ σ 0 0 14 ∧ σ 0 0 14 ≤ 7) ∧ (∀ c : Nat, (c : Int) < σ 0 0 1 → CB σ c ∧ SB σ c) ∧ (∀ r : Nat, (r : Int) < σ 0 0 3 → OO σ r) ∧ (∀ p : Nat, (p : Int) < σ 0 0 5 → PB σ p) ∧ PB σ 10 ∧ (∀ i : Nat, (i : Int) < σ 0 0 14 → (0 ≤ σ 17 0 i ∧ σ 17 0 i < σ 0 0 1) ∧ (0 ≤ σ 18 0 i ∧ σ 18 0 i < σ 0 0 5)) ∧ TB σ ∧ OM σ
theorem o_cut_0 {σ μ : oMem} (h1 : μ 1 = σ 1) (h2 : μ 2 = σ 2) (h3 : μ 3 = σ 3) (h9 : μ 9 = σ 9) (c : Nat) (a : Int) (p : Nat) : o_inner μ c a = o_inner σ c a ∧ o_cut μ c a = o_cut σ c a ∧ o_net μ c a = o_net σ c a ∧ o_wt μ c a p = o_wt σ c a p := by
  have e1 : o_inner μ c a = o_inner σ c a := by unfold o_inner; rw [h1]
  have e2 : o_cut μ c a = o_cut σ c a := by unfold o_cut o_cutl; rw [e1, h1, h2, h3]
  have e3 : o_net μ c a = o_net σ c a := by unfold o_net; rw [e1, e2, h1]
  refine ⟨e1, e2, e3, ?_⟩
  funext j
  unfold o_wt
  rw [e3, h9, h1]
/-- what a run leaves -/
theorem sc_k {σ : oMem} {c p K : Nat} (h0 : K ≠ 0) (h1 : K ≠ 1) (h4 : K ≠ 4) (h5 : K ≠ 5) : o_sc σ c p K = σ K := by
  unfold o_sc
  rw [slit_k h1 h4 h5, o_up_k h0, o_up_k h0]
theorem sc_0 {σ : oMem} {c p : Nat} (i j : Nat) : o_sc σ c p 0 i j = if i = 0 ∧ j = 10 then (p : Int) else if i = 0 ∧ j = 11 then σ 0 0 11 + oMb σ (σ 0 0 10) p else σ 0 i j := by
  unfold o_sc
  rw [slit_k (by decide) (by decide) (by decide)]
  simp [o_up]
theorem sc_1 {σ : oMem} {c p : Nat} (i j : Nat) : o_sc σ c p 1 i j = if i = c ∧ j = 10 then σ 8 p 1 else if i = c ∧ j = 13 then o_net σ c (σ 0 0 8) - o_sum (o_wt σ c (σ 0 0 8) p) (σ 8 p 1).toNat else if i = c ∧ j = 12 then o_cut σ c (σ 0 0 8) else if i = c ∧ j = 11 then o_inner σ c (σ 0 0 8) else σ 1 i j := by
  unfold o_sc
  rw [slit_1]
  have e := o_cut_0 (σ := σ) (μ := o_up (o_up σ 0 0 11 (σ 0 0 11 + oMb σ (σ 0 0 10) p)) 0 0 10 p) (by rw [o_up_k (by decide), o_up_k (by decide)]) (by rw [o_up_k (by decide), o_up_k (by decide)]) (by rw [o_up_k (by decide), o_up_k (by decide)]) (by rw [o_up_k (by decide), o_up_k (by decide)]) c (σ 0 0 8) p
  rw [e.1, e.2.1, e.2.2.1, e.2.2.2, o_up_k (by decide), o_up_k (by decide), o_up_k (by decide), o_up_k (by decide)]
theorem sc_4 {σ : oMem} {c p : Nat} (i j : Nat) : o_sc σ c p 4 i j = if i = c ∧ j < (σ 8 p 1).toNat then σ 9 p j else σ 4 i j := by
  unfold o_sc
  rw [slit_4, o_up_k (by decide), o_up_k (by decide), o_up_k (by decide), o_up_k (by decide)]
theorem sc_5 {σ : oMem} {c p : Nat} (i j : Nat) : o_sc σ c p 5 i j = if i = c ∧ j < (σ 8 p 1).toNat then o_wt σ c (σ 0 0 8) p j else σ 5 i j := by
  unfold o_sc
  rw [slit_5]
  have e := o_cut_0 (σ := σ) (μ := o_up (o_up σ 0 0 11 (σ 0 0 11 + oMb σ (σ 0 0 10) p)) 0 0 10 p) (by rw [o_up_k (by decide), o_up_k (by decide)]) (by rw [o_up_k (by decide), o_up_k (by decide)]) (by rw [o_up_k (by decide), o_up_k (by decide)]) (by rw [o_up_k (by decide), o_up_k (by decide)]) c (σ 0 0 8) p
  rw [e.2.2.2, o_up_k (by decide), o_up_k (by decide)]
theorem run_k {σ : oMem} {c p K : Nat} (h6 : K ≠ 6) (h7 : K ≠ 7) : (o_run σ c p).1 K = o_sc σ c p K := dl_k h6 h7 _
theorem run_o {σ : oMem} {c p : Nat} (h : XI σ) (hc : (c : Int) < σ 0 0 1) (hp : (p : Int) < σ 0 0 5) (hf : o_fit σ p c) : ∀ j : Nat, j ≤ (σ 8 p 1).toNat → (∀ r : Nat, (r : Int) < σ 0 0 3 → OO (o_dl (o_sc σ c p) c j).1 r) ∧ (∀ r : Nat, (o_dl (o_sc σ c p) c j).1 7 r 0 = σ 7 r 0 ∧ (o_dl (o_sc σ c p) c j).1 7 r 1 = σ 7 r 1) ∧ (∀ r : Nat, σ 0 0 3 ≤ r → (o_dl (o_sc σ c p) c j).1 7 r = σ 7 r) ∧ (∀ i q : Nat, i ≠ c ∨ j ≤ q → (o_dl (o_sc σ c p) c j).1 6 i q = σ 6 i q) ∧ ∀ q : Nat, q < j → -1 ≤ (o_dl (o_sc σ c p) c j).1 6 c q ∧ ((o_dl (o_sc σ c p) c j).1 6 c q = -1 ∨ (o_dl (o_sc σ c p) c j).1 6 c q < σ 0 0 3) := by
  obtain ⟨x1, x3, x5, ⟨x7, x8, x9⟩, x10, x14, xC, xO, xP, xD, xW, xT, xM⟩ := h
  have hC := (xC c hc).1
  have hP := xP p hp
  have s03 : o_sc σ c p 0 0 3 = σ 0 0 3 := by rw [sc_0]; simp
  have s7 : o_sc σ c p 7 = σ 7 := sc_k (by decide) (by decide) (by decide) (by decide)
  have s6 : o_sc σ c p 6 = σ 6 := sc_k (by decide) (by decide) (by decide) (by decide)
  intro j hj
  have hw : o_tw σ p ≤ σ 1 c 0 := by have := hf.1; omega
  have := dl_o (σ := o_sc σ c p) (c := c) (n := (σ 8 p 1).toNat) (fun q hq => by
    rw [sc_5, if_pos ⟨rfl, hq⟩]
    exact o_wt_bd hC hP (by omega) (by omega) hw q (by omega)) (by rw [sc_1]; simp; have := hC.2.2.2.1; omega) (fun r hr => by rw [OO_cong s7]; exact xO r (by rw [s03] at hr; exact hr)) j hj
  rw [s03, s7, s6] at this
  exact this
theorem XI_run {σ : oMem} {c p : Nat} (h : XI σ) (hc : (c : Int) < σ 0 0 1) (hp : (p : Int) < σ 0 0 5) (hf : o_fit σ p c) : XI (o_run σ c p).1 := by
  have ho := run_o h hc hp hf (σ 8 p 1).toNat (Nat.le_refl _)
  obtain ⟨x1, x3, x5, ⟨x7, x8, x9⟩, x10, x14, xC, xO, xP, xD, xW, xT, xM⟩ := h
  have hC := (xC c hc).1
  have hP := xP p hp
  have k : ∀ K, K ≠ 0 → K ≠ 1 → K ≠ 4 → K ≠ 5 → K ≠ 6 → K ≠ 7 → (o_run σ c p).1 K = σ K := fun K h0 h1 h4 h5 h6 h7 => by rw [run_k h6 h7, sc_k h0 h1 h4 h5]
  have k0 : ∀ j, j ≠ 10 → j ≠ 11 → (o_run σ c p).1 0 0 j = σ 0 0 j := fun j h1 h2 => by rw [run_k (by decide) (by decide), sc_0]; simp [h1, h2]
  have k010 : (o_run σ c p).1 0 0 10 = p := by rw [run_k (by decide) (by decide), sc_0]; simp
  have k1 : ∀ i j, j ≠ 10 → j ≠ 11 → j ≠ 12 → j ≠ 13 → (o_run σ c p).1 1 i j = σ 1 i j := fun i j h1 h2 h3 h4 => by rw [run_k (by decide) (by decide), sc_1]; simp [h1, h2, h3, h4]
  have k110 : ∀ i, (o_run σ c p).1 1 i 10 = if i = c then σ 8 p 1 else σ 1 i 10 := fun i => by rw [run_k (by decide) (by decide), sc_1]; simp
  have eC : ∀ i, CB (o_run σ c p).1 i = CB σ i := fun i => by
    unfold CB DB
    rw [k1 i 0 (by decide) (by decide) (by decide) (by decide), k1 i 1 (by decide) (by decide) (by decide) (by decide), k1 i 2 (by decide) (by decide) (by decide) (by decide), k1 i 3 (by decide) (by decide) (by decide) (by decide), k1 i 6 (by decide) (by decide) (by decide) (by decide), k 2 (by decide) (by decide) (by decide) (by decide) (by decide) (by decide), k 3 (by decide) (by decide) (by decide) (by decide) (by decide) (by decide)]
  have eP : ∀ q, PB (o_run σ c p).1 q = PB σ q := fun q => PB_cong (k 8 (by decide) (by decide) (by decide) (by decide) (by decide) (by decide)) (k 9 (by decide) (by decide) (by decide) (by decide) (by decide) (by decide)) q
  have hw : o_tw σ p ≤ σ 1 c 0 := by have := hf.1; omega
  unfold XI
  rw [k0 1 (by decide) (by decide), k0 3 (by decide) (by decide), k0 5 (by decide) (by decide), k0 7 (by decide) (by decide), k0 8 (by decide) (by decide), k0 9 (by decide) (by decide), k010, k0 14 (by decide) (by decide), k 17 (by decide) (by decide) (by decide) (by decide) (by decide) (by decide), k 18 (by decide) (by decide) (by decide) (by decide) (by decide) (by decide)]
  refine ⟨x1, x3, x5, ⟨x7, x8, x9⟩, by omega, x14, fun i hi => ⟨by rw [eC]; exact (xC i hi).1, ?_⟩, ho.1, fun q hq => by rw [eP]; exact xP q hq, by rw [eP]; exact xD, xW, ?_, ?_⟩
  · have hS := (xC i hi).2
    unfold SB
    rw [k110]
    have p0 := hP.1
    have p1 := hP.2.1
    by_cases e : i = c
    · rw [if_pos e]
      refine ⟨by omega, fun j hj => ?_⟩
      have hwd := hP.2.2 j hj
      have hwt := o_wt_bd (a := σ 0 0 8) hC hP (by omega) (by omega) hw j hj
      have h6 := ho.2.2.2.2 j (by omega)
      refine ⟨?_, ?_, ?_⟩
      · rw [run_k (by decide) (by decide), sc_4, if_pos ⟨e, by omega⟩]; omega
      · rw [run_k (by decide) (by decide), sc_5, if_pos ⟨e, by omega⟩]; omega
      · rw [e]
        show InR ((o_dl (o_sc σ c p) c (σ 8 p 1).toNat).1 6 c j)
        omega
    · rw [if_neg e]
      refine ⟨hS.1, fun j hj => ?_⟩
      have hs := hS.2 j hj
      refine ⟨?_, ?_, ?_⟩
      · rw [run_k (by decide) (by decide), sc_4, if_neg (fun q => e q.1)]; exact hs.1
      · rw [run_k (by decide) (by decide), sc_5, if_neg (fun q => e q.1)]; exact hs.2.1
      · show InR ((o_dl (o_sc σ c p) c (σ 8 p 1).toNat).1 6 i j)
        rw [ho.2.2.2.1 i j (Or.inl e)]; exact hs.2.2
  · unfold TB
    rw [k 12 (by decide) (by decide) (by decide) (by decide) (by decide) (by decide)]; exact xT
  · unfold OM
    rw [k 14 (by decide) (by decide) (by decide) (by decide) (by decide) (by decide), k 15 (by decide) (by decide) (by decide) (by decide) (by decide) (by decide)]; exact xM
/-- the moves between the waiting runs -/
def mvX (σ : oMem) (b r : Nat) : Int := if b = 7 then oMb σ (σ 0 0 10) (σ 18 0 r) else oMb σ (σ 18 0 b) (σ 18 0 r)
theorem isLst_cong {P P' : Nat → Prop} {n r : Nat} (hP : ∀ q, q < n → (P q ↔ P' q)) (h : isLst P n r) : isLst P' n r :=
  ⟨h.1, (hP r h.1).mp h.2.1, fun q hq z => h.2.2 q hq ((hP q (by have := h.1; omega)).mpr z)⟩
theorem isBest_cong {mv mv' : Nat → Nat → Int} {n : Nat} {q : Nat → Nat} (hn : n < 8) (hmv : ∀ b r, b < n ∨ b = 7 → r < n → mv b r = mv' b r) (h : isBest mv n q) : isBest mv' n q := by
  obtain ⟨S, s0, s1⟩ := h
  have hS := isBest_S hn s0 s1
  refine ⟨S, s0, fun i hi => ⟨isLst_cong (fun r hr => ?_) (s1 i hi).1, (s1 i hi).2⟩⟩
  have hbn : (if i = 0 then 7 else q (i - 1)) < n ∨ (if i = 0 then 7 else q (i - 1)) = 7 := by
    by_cases c : i = 0
    · rw [if_pos c]; exact Or.inr rfl
    · rw [if_neg c]; exact Or.inl (s1 (i - 1) (by omega)).1.1
  have hs := (hS i (by omega)).1
  have c1 := oFC_cong hn (fun b r hb hr => hmv b r (Or.inl hb) hr) (cd (S i)) _ (S i) (fun r hr => hmv _ r hbn hr) hs rfl
  have c2 : oFC mv n r (wo (S i) r) = oFC mv' n r (wo (S i) r) := oFC_cong hn (fun b r hb hr => hmv b r (Or.inl hb) hr) _ _ _ (fun r' hr' => hmv r r' (Or.inl hr) hr') (wo_n n hn _ hs r (by omega)) rfl
  unfold oNx
  rw [c1, c2, hmv _ r hbn hr]
theorem isBest_lt {mv : Nat → Nat → Int} {n : Nat} {q : Nat → Nat} (h : isBest mv n q) : ∀ i, i < n → q i < n := by
  obtain ⟨S, s0, s1⟩ := h
  exact fun i hi => (s1 i hi).1.1
/-- the waiting runs are run in their order -/
def o_raS (μ : oMem) (c p : Nat) : oMem × Int := if μ 1 c 10 = -1 ∧ o_fit μ p c then ((o_run μ c p).1, 1) else (μ, 0)
def o_ra (σ : oMem) (q : Nat → Nat) : Nat → oMem × Int
  | 0 => (σ, 0)
  | t + 1 => ((o_raS (o_ra σ q t).1 (σ 17 0 (q t)).toNat (σ 18 0 (q t)).toNat).1, (o_ra σ q t).2 + (o_raS (o_ra σ q t).1 (σ 17 0 (q t)).toNat (σ 18 0 (q t)).toNat).2)
theorem ra_k {σ : oMem} {q : Nat → Nat} {K : Nat} (h0 : K ≠ 0) (h1 : K ≠ 1) (h4 : K ≠ 4) (h5 : K ≠ 5) (h6 : K ≠ 6) (h7 : K ≠ 7) : ∀ t : Nat, (o_ra σ q t).1 K = σ K
  | 0 => rfl
  | t + 1 => by
    show (o_raS _ _ _).1 K = _
    unfold o_raS
    split
    · show (o_run _ _ _).1 K = _
      rw [run_k h6 h7, sc_k h0 h1 h4 h5, ra_k h0 h1 h4 h5 h6 h7 t]
    · exact ra_k h0 h1 h4 h5 h6 h7 t
theorem ra_0 {σ : oMem} {q : Nat → Nat} {j : Nat} (h0 : j ≠ 10) (h1 : j ≠ 11) : ∀ t : Nat, (o_ra σ q t).1 0 0 j = σ 0 0 j
  | 0 => rfl
  | t + 1 => by
    show (o_raS _ _ _).1 0 0 j = _
    unfold o_raS
    split
    · show (o_run _ _ _).1 0 0 j = _
      rw [run_k (by decide) (by decide), sc_0, if_neg (by omega), if_neg (by omega), ra_0 h0 h1 t]
    · exact ra_0 h0 h1 t
theorem XI_ra {σ : oMem} {q : Nat → Nat} {n : Nat} (h : XI σ) (hn : (n : Int) = σ 0 0 14) (hq : ∀ i, i < n → q i < n) : ∀ t : Nat, t ≤ n → XI (o_ra σ q t).1 := by
  intro t
  induction t with
  | zero => intro _; exact h
  | succ t ih =>
    intro ht
    have hx := ih (by omega)
    have hw := h.2.2.2.2.2.2.2.2.2.2.1 (q t) (by have := hq t (by omega); omega)
    show XI (o_raS _ _ _).1
    unfold o_raS
    split
    · rename_i hc
      exact XI_run hx (by rw [ra_0 (by decide) (by decide)]; omega) (by rw [ra_0 (by decide) (by decide)]; omega) hc.2
    · exact hx
