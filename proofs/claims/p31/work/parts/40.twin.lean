/-! TWO OFFICES: the other has other heats, unlike ones where the first has unlike ones -/
def hf (h : Int) : Int := if 0 < h then 100 - h else h
theorem hf_iff {a b : Int} (ha : -1 ≤ a ∧ a ≤ 99) (hb : 1 ≤ b ∧ b ≤ 99) : (hf a = -1 ∨ hf a = hf b) ↔ (a = -1 ∨ a = b) := by
  unfold hf
  split <;> split <;> omega
theorem hf_in {a : Int} (ha : 1 ≤ a ∧ a ≤ 99) : hf a = 100 - a := by
  unfold hf
  rw [if_pos (by omega)]
def Tw (σ τ : oMem) : Prop := (∀ i j, τ 0 i j = σ 0 i j) ∧ (∀ c j, τ 1 c j = if j = 3 then hf (σ 1 c j) else σ 1 c j) ∧ (∀ r j, τ 7 r j = if j = 3 then hf (σ 7 r j) else σ 7 r j) ∧ (∀ K i j, K = 2 ∨ K = 3 ∨ K = 4 ∨ K = 5 ∨ K = 6 ∨ K = 17 ∨ K = 18 → τ K i j = σ K i j) ∧ (∀ p, τ 8 p 1 = σ 8 p 1) ∧ (∀ p j, p ≠ 10 → τ 9 p j = σ 9 p j) ∧ ∀ j : Nat, (j : Int) < σ 8 10 1 → τ 9 10 j = σ 9 10 j
theorem Tw.z {σ τ : oMem} (h : Tw σ τ) : τ 0 = σ 0 := funext fun i => funext fun j => h.1 i j
theorem Tw.k {σ τ : oMem} (h : Tw σ τ) {K : Nat} (hK : K = 2 ∨ K = 3 ∨ K = 4 ∨ K = 5 ∨ K = 6 ∨ K = 17 ∨ K = 18) : τ K = σ K := funext fun i => funext fun j => h.2.2.2.1 K i j hK
theorem Tw.c {σ τ : oMem} (h : Tw σ τ) {c j : Nat} (hj : j ≠ 3) : τ 1 c j = σ 1 c j := by rw [h.2.1, if_neg hj]
theorem Tw.c3 {σ τ : oMem} (h : Tw σ τ) {c : Nat} : τ 1 c 3 = hf (σ 1 c 3) := by rw [h.2.1, if_pos rfl]
theorem Tw.o {σ τ : oMem} (h : Tw σ τ) {r j : Nat} (hj : j ≠ 3) : τ 7 r j = σ 7 r j := by rw [h.2.2.1, if_neg hj]
theorem Tw.o3 {σ τ : oMem} (h : Tw σ τ) {r : Nat} : τ 7 r 3 = hf (σ 7 r 3) := by rw [h.2.2.1, if_pos rfl]
theorem Tw.p {σ τ : oMem} (h : Tw σ τ) {p : Nat} : τ 8 p 1 = σ 8 p 1 := h.2.2.2.2.1 p
theorem Tw.w {σ τ : oMem} (h : Tw σ τ) {p : Nat} (hp : p ≠ 10) : τ 9 p = σ 9 p := funext fun j => h.2.2.2.2.2.1 p j hp
theorem Tw.d {σ τ : oMem} (h : Tw σ τ) {j : Nat} (hj : (j : Int) < σ 8 10 1) : τ 9 10 j = σ 9 10 j := h.2.2.2.2.2.2 j hj
/-- it depends on the office's own kinds alone -/
theorem Tw_cong {σ τ σ' τ' : oMem} (hs : ∀ K, K < 24 → σ' K = σ K) (ht : ∀ K, K < 24 → τ' K = τ K) (h : Tw σ τ) : Tw σ' τ' := by
  unfold Tw
  rw [hs 0 (by decide), hs 1 (by decide), hs 7 (by decide), hs 8 (by decide), hs 9 (by decide), ht 0 (by decide), ht 1 (by decide), ht 7 (by decide), ht 8 (by decide), ht 9 (by decide)]
  refine ⟨h.1, h.2.1, h.2.2.1, fun K i j hK => ?_, h.2.2.2.2.1, h.2.2.2.2.2.1, h.2.2.2.2.2.2⟩
  rw [hs K (by omega), ht K (by omega)]
  exact h.2.2.2.1 K i j hK
theorem Tw_up {σ τ : oMem} (h : Tw σ τ) (K i j : Nat) {v w : Int} (h8 : K ≠ 8) (h9 : K ≠ 9) (hw : w = if (K = 1 ∨ K = 7) ∧ j = 3 then hf v else v) : Tw (o_up σ K i j v) (o_up τ K i j w) := by
  obtain ⟨t0, t1, t7, tk, t8, t9, td⟩ := h
  refine ⟨fun i' j' => ?_, fun c' j' => ?_, fun r' j' => ?_, fun K' i' j' hK => ?_, fun p' => ?_, fun p' j' hp => ?_, fun j' hj => ?_⟩
  · rw [o_up_at, o_up_at]
    split
    · rename_i q
      rw [hw, if_neg (by omega)]
    · exact t0 i' j'
  · rw [o_up_at, o_up_at]
    split
    · rename_i q
      rw [hw]
      by_cases q3 : j' = 3
      · rw [if_pos q3, if_pos (by omega)]
      · rw [if_neg q3, if_neg (by omega)]
    · exact t1 c' j'
  · rw [o_up_at, o_up_at]
    split
    · rename_i q
      rw [hw]
      by_cases q3 : j' = 3
      · rw [if_pos q3, if_pos (by omega)]
      · rw [if_neg q3, if_neg (by omega)]
    · exact t7 r' j'
  · rw [o_up_at, o_up_at]
    split
    · rename_i q
      rw [hw, if_neg (by omega)]
    · exact tk K' i' j' hK
  · rw [o_up_k (Ne.symm h8), o_up_k (Ne.symm h8)]; exact t8 p'
  · rw [o_up_k (Ne.symm h9), o_up_k (Ne.symm h9)]; exact t9 p' j' hp
  · rw [o_up_k (Ne.symm h8)] at hj
    rw [o_up_k (Ne.symm h9), o_up_k (Ne.symm h9)]; exact td j' hj
theorem Tw_up0 {σ τ : oMem} (h : Tw σ τ) (K i j : Nat) {v w : Int} (h8 : K ≠ 8) (h9 : K ≠ 9) (hj : ¬ ((K = 1 ∨ K = 7) ∧ j = 3)) (hw : w = v) : Tw (o_up σ K i j v) (o_up τ K i j w) := Tw_up h K i j h8 h9 (by rw [if_neg hj]; exact hw)
/-- what else changes rows: any two that agree so -/
theorem Tw_ch {σ τ σ' τ' : oMem} (h : Tw σ τ) (h0 : ∀ i j, (σ' 0 i j = σ 0 i j ∧ τ' 0 i j = τ 0 i j) ∨ τ' 0 i j = σ' 0 i j) (h1 : ∀ c j, (σ' 1 c j = σ 1 c j ∧ τ' 1 c j = τ 1 c j) ∨ (j ≠ 3 ∧ τ' 1 c j = σ' 1 c j)) (h7 : ∀ r j, σ' 7 r j = σ 7 r j ∧ τ' 7 r j = τ 7 r j) (hk : ∀ K i j, K = 2 ∨ K = 3 ∨ K = 4 ∨ K = 5 ∨ K = 6 ∨ K = 17 ∨ K = 18 → (σ' K i j = σ K i j ∧ τ' K i j = τ K i j) ∨ τ' K i j = σ' K i j) (h8 : ∀ p, (σ' 8 p 1 = σ 8 p 1 ∧ τ' 8 p 1 = τ 8 p 1) ∨ τ' 8 p 1 = σ' 8 p 1) (h9 : ∀ p j, p ≠ 10 → (σ' 9 p j = σ 9 p j ∧ τ' 9 p j = τ 9 p j) ∨ τ' 9 p j = σ' 9 p j) (hd : ∀ j : Nat, (j : Int) < σ' 8 10 1 → ((j : Int) < σ 8 10 1 ∧ σ' 9 10 j = σ 9 10 j ∧ τ' 9 10 j = τ 9 10 j) ∨ τ' 9 10 j = σ' 9 10 j) : Tw σ' τ' := by
  obtain ⟨t0, t1, t7, tk, t8, t9, td⟩ := h
  refine ⟨fun i j => ?_, fun c j => ?_, fun r j => ?_, fun K i j hK => ?_, fun p => ?_, fun p j hp => ?_, fun j hj => ?_⟩
  · rcases h0 i j with ⟨a, b⟩ | a
    · rw [a, b]; exact t0 i j
    · exact a
  · rcases h1 c j with ⟨a, b⟩ | ⟨a, b⟩
    · rw [a, b]; exact t1 c j
    · rw [if_neg a]; exact b
  · rw [(h7 r j).1, (h7 r j).2]; exact t7 r j
  · rcases hk K i j hK with ⟨a, b⟩ | a
    · rw [a, b]; exact tk K i j hK
    · exact a
  · rcases h8 p with ⟨a, b⟩ | a
    · rw [a, b]; exact t8 p
    · exact a
  · rcases h9 p j hp with ⟨a, b⟩ | a
    · rw [a, b]; exact t9 p j hp
    · exact a
  · rcases hd j hj with ⟨q, a, b⟩ | a
    · rw [a, b]; exact td j q
    · exact a
theorem Tw_bl {σ τ : oMem} (h : Tw σ τ) (K i n : Nat) {f f' : Nat → Int} (hK : K = 4 ∨ K = 5) (hf : f' = f) : Tw (o_bl σ K i n f) (o_bl τ K i n f') := by
  subst hf
  refine Tw_ch h (fun i' j => Or.inl ?_) (fun c j => Or.inl ?_) (fun r j => ?_) (fun K' i' j hK' => ?_) (fun p => Or.inl ?_) (fun p j hp => Or.inl ?_) (fun j hj => Or.inl ?_)
  · rw [o_bl_k (by omega), o_bl_k (by omega)]; exact ⟨rfl, rfl⟩
  · rw [o_bl_k (by omega), o_bl_k (by omega)]; exact ⟨rfl, rfl⟩
  · rw [o_bl_k (by omega), o_bl_k (by omega)]; exact ⟨rfl, rfl⟩
  · unfold o_bl
    split
    · exact Or.inr rfl
    · exact Or.inl ⟨rfl, rfl⟩
  · rw [o_bl_k (by omega), o_bl_k (by omega)]; exact ⟨rfl, rfl⟩
  · rw [o_bl_k (by omega), o_bl_k (by omega)]; exact ⟨rfl, rfl⟩
  · rw [o_bl_k (by omega)] at hj
    rw [o_bl_k (by omega), o_bl_k (by omega)]; exact ⟨hj, rfl, rfl⟩
/-! what is the same of both -/
theorem Tw.tw {σ τ : oMem} (h : Tw σ τ) {p : Nat} (hp : p ≠ 10) : o_tw τ p = o_tw σ p := by
  unfold o_tw; rw [h.w hp, h.p]
theorem Tw.fit {σ τ : oMem} (h : Tw σ τ) {p c : Nat} (hp : p ≠ 10) : o_fit τ p c ↔ o_fit σ p c := by
  unfold o_fit; rw [h.tw hp, h.c (by decide), h.z, h.p]
theorem Tw.kn {σ τ : oMem} (h : Tw σ τ) {p q : Nat} (hp : p ≠ 10) (hq : q ≠ 10) : o_kn τ q p = o_kn σ q p := by
  unfold o_kn; rw [h.w hp, h.w hq, h.p, h.p]
theorem Tw.mb {σ τ : oMem} (h : Tw σ τ) (h5 : σ 0 0 5 ≤ 10) (a b : Int) : oMb τ a b = oMb σ a b := by
  unfold oMb okP
  rw [h.z]
  by_cases qb : 0 ≤ b ∧ b < σ 0 0 5
  · rw [if_pos qb, if_pos qb]
    by_cases qa : 0 ≤ a ∧ a < σ 0 0 5
    · rw [if_pos qa, if_pos qa]; exact h.kn (by omega) (by omega)
    · rw [if_neg qa, if_neg qa, h.p]
  · rw [if_neg qb, if_neg qb]
theorem Tw.cutl {σ τ : oMem} (h : Tw σ τ) (c : Nat) : o_cutl τ c = o_cutl σ c := by
  unfold o_cutl; rw [h.k (by decide), h.k (by decide), h.c (by decide)]
theorem Tw.wts {σ τ : oMem} (h : Tw σ τ) {p : Nat} (hp : p ≠ 10) (c : Nat) (a : Int) : o_inner τ c a = o_inner σ c a ∧ o_cut τ c a = o_cut σ c a ∧ o_net τ c a = o_net σ c a ∧ o_wt τ c a p = o_wt σ c a p := by
  have e1 : o_inner τ c a = o_inner σ c a := by unfold o_inner; rw [h.c (by decide)]
  have e2 : o_cut τ c a = o_cut σ c a := by unfold o_cut; rw [e1, h.cutl, h.c (by decide), h.c (by decide)]
  have e3 : o_net τ c a = o_net σ c a := by unfold o_net; rw [e1, e2, h.c (by decide)]
  exact ⟨e1, e2, e3, by funext j; unfold o_wt; rw [e3, h.w hp, h.c (by decide)]⟩
theorem Tw.slit {σ τ : oMem} (h : Tw σ τ) {c p n : Nat} {a : Int} (hp : p ≠ 10) : Tw (o_slit σ c a p n) (o_slit τ c a p n) := by
  obtain ⟨e1, e2, e3, e4⟩ := h.wts hp c a
  unfold o_slit
  refine Tw_up0 (Tw_up0 (Tw_up0 (Tw_up0 (Tw_bl (Tw_bl h 4 c n (Or.inl rfl) (h.w hp)) 5 c n (Or.inr rfl) e4) 1 c 11 (by decide) (by decide) (by decide) e1) 1 c 12 (by decide) (by decide) (by decide) e2) 1 c 13 (by decide) (by decide) (by decide) ?_) 1 c 10 (by decide) (by decide) (by decide) h.p
  rw [e3, e4]
theorem Tw.sc {σ τ : oMem} (h : Tw σ τ) {c p : Nat} (hp : p ≠ 10) (h5 : σ 0 0 5 ≤ 10) : Tw (o_sc σ c p) (o_sc τ c p) := by
  unfold o_sc
  rw [h.z, h.p, h.mb h5]
  exact Tw.slit (Tw_up0 (Tw_up0 h 0 0 11 (by decide) (by decide) (by decide) rfl) 0 0 10 (by decide) (by decide) (by decide) rfl) hp
theorem Tw.tk {σ τ : oMem} (h : Tw σ τ) {r : Nat} {t : Int} (hO : OO σ r) (ht : 1 ≤ t ∧ t ≤ 99) : o_tk τ r (hf t) ↔ o_tk σ r t := by
  unfold o_tk
  rw [h.o (by decide), h.o (by decide), h.o3, hf_iff hO.2.2.2 ht]
theorem Tw.taker {σ τ : oMem} (h : Tw σ τ) {w t : Int} (hO : ∀ r : Nat, (r : Int) < σ 0 0 3 → OO σ r) (ht : 1 ≤ t ∧ t ≤ 99) : o_taker τ w (hf t) = o_taker σ w t := by
  unfold o_taker
  rw [h.z]
  refine o_fs_cong (fun j hj => ?_)
  unfold o_tkb
  rw [h.o (by decide)]
  exact decide_eq_decide.mpr (and_congr Iff.rfl (h.tk (hO j (by omega)) ht))
theorem Tw.dlS {σ τ : oMem} (h : Tw σ τ) {c j : Nat} {t : Int} : Tw (o_dlS σ c j t) (o_dlS τ c j t) := by
  unfold o_dlS
  split
  · exact Tw_up0 h 6 c j (by decide) (by decide) (by omega) rfl
  · refine Tw_up (Tw_up0 (Tw_up0 h 6 c j (by decide) (by decide) (by omega) rfl) 7 _ 2 (by decide) (by decide) (by decide) ?_) 7 _ 3 (by decide) (by decide) ?_
    · rw [h.o (by decide), h.k (by decide)]
    · rw [if_pos ⟨Or.inr rfl, rfl⟩, h.c3]
theorem Tw.dl {σ τ : oMem} (h : Tw σ τ) {c n : Nat} (hh : 1 ≤ σ 1 c 3 ∧ σ 1 c 3 ≤ 99) (hO : ∀ j, j ≤ n → ∀ r : Nat, (r : Int) < σ 0 0 3 → OO (o_dl σ c j).1 r) : ∀ j : Nat, j ≤ n → Tw (o_dl σ c j).1 (o_dl τ c j).1 ∧ (o_dl τ c j).2 = (o_dl σ c j).2 := by
  intro j
  induction j with
  | zero => intro _; exact ⟨h, rfl⟩
  | succ j ih =>
    intro hj
    obtain ⟨i1, i2⟩ := ih (by omega)
    have e1 : (o_dl σ c j).1 1 = σ 1 := dl_k (by decide) (by decide) j
    have e2 : (o_dl τ c j).1 1 = τ 1 := dl_k (by decide) (by decide) j
    have e0 : (o_dl σ c j).1 0 = σ 0 := dl_k (by decide) (by decide) j
    have et : o_taker (o_dl τ c j).1 ((o_dl τ c j).1 4 c j) ((o_dl τ c j).1 1 c 3) = o_taker (o_dl σ c j).1 ((o_dl σ c j).1 4 c j) ((o_dl σ c j).1 1 c 3) := by
      rw [e2, h.c3, e1, i1.k (by decide)]
      exact i1.taker (fun r hr => hO j (by omega) r (by rw [e0] at hr; exact hr)) hh
    show Tw (o_dlS _ _ _ _) (o_dlS _ _ _ _) ∧ (if _ then _ else _) = (if _ then _ else _)
    rw [et, i2]
    exact ⟨i1.dlS, rfl⟩
theorem Tw.run {σ τ : oMem} (h : Tw σ τ) (hX : XI σ) {c p : Nat} (hc : (c : Int) < σ 0 0 1) (hp : (p : Int) < σ 0 0 5) (hft : o_fit σ p c) : Tw (o_run σ c p).1 (o_run τ c p).1 ∧ (o_run τ c p).2 = (o_run σ c p).2 := by
  have h5 : σ 0 0 5 ≤ 10 := hX.2.2.1.2
  have hT := h.sc (c := c) (p := p) (by omega) h5
  have e1 : o_sc σ c p 1 c 3 = σ 1 c 3 := by rw [sc_1]; simp
  have e0 : o_sc σ c p 0 0 3 = σ 0 0 3 := by rw [sc_0]; simp
  have hC := ((hX.2.2.2.2.2.2.1 c hc).1).2.2.2.1
  unfold o_run
  rw [h.p]
  exact hT.dl (n := (σ 8 p 1).toNat) (by rw [e1]; exact hC) (fun j hj r hr => (run_o hX hc hp hft j hj).1 r (by rw [e0] at hr; exact hr)) _ (Nat.le_refl _)
theorem Tw.wt {σ τ : oMem} (h : Tw σ τ) {t : Int} (hO : ∀ r : Nat, (r : Int) < σ 0 0 3 → OO σ r) (ht : 1 ≤ t ∧ t ≤ 99) (v : Int) : oWt τ (hf t) v ↔ oWt σ t v := by
  unfold oWt
  rw [h.z]
  constructor
  · rintro ⟨r, a, b, d⟩
    exact ⟨r, a, by rw [← b, h.o (by decide)], (h.tk (hO r a) ht).mp d⟩
  · rintro ⟨r, a, b, d⟩
    exact ⟨r, a, by rw [h.o (by decide), b], (h.tk (hO r a) ht).mpr d⟩
theorem Tw.mv {σ τ : oMem} (h : Tw σ τ) (h5 : σ 0 0 5 ≤ 10) (b r : Nat) : mvX σ b r = mvX τ b r := by
  unfold mvX
  rw [h.z, h.k (by decide), h.mb h5, h.mb h5]
theorem Tw.ra {σ τ : oMem} (h : Tw σ τ) (hX : XI σ) {q q' : Nat → Nat} {n : Nat} (hn : (n : Int) = σ 0 0 14) (hq : ∀ i, i < n → q i < n) (he : ∀ i, i < n → q' i = q i) : ∀ t : Nat, t ≤ n → Tw (o_ra σ q t).1 (o_ra τ q' t).1 ∧ (o_ra τ q' t).2 = (o_ra σ q t).2 := by
  intro t
  induction t with
  | zero => intro _; exact ⟨h, rfl⟩
  | succ t ih =>
    intro ht
    obtain ⟨i1, i2⟩ := ih (by omega)
    have hx := XI_ra hX hn hq t (by omega)
    have hw := hX.2.2.2.2.2.2.2.2.2.2.1 (q t) (by have := hq t (by omega); omega)
    have h5 := hX.2.2.1.2
    show Tw (o_raS _ _ _).1 (o_raS _ _ _).1 ∧ _ + (o_raS _ _ _).2 = _ + (o_raS _ _ _).2
    rw [he t (by omega), i2, h.k (by decide), h.k (by decide)]
    have hp : (σ 18 0 (q t)).toNat ≠ 10 := by omega
    unfold o_raS
    by_cases hc : (o_ra σ q t).1 1 (σ 17 0 (q t)).toNat 10 = -1 ∧ o_fit (o_ra σ q t).1 (σ 18 0 (q t)).toNat (σ 17 0 (q t)).toNat
    · have hc' : (o_ra τ q' t).1 1 (σ 17 0 (q t)).toNat 10 = -1 ∧ o_fit (o_ra τ q' t).1 (σ 18 0 (q t)).toNat (σ 17 0 (q t)).toNat := ⟨by rw [i1.c (by decide)]; exact hc.1, (i1.fit hp).mpr hc.2⟩
      rw [if_pos hc, if_pos hc']
      have hr := i1.run hx (c := (σ 17 0 (q t)).toNat) (p := (σ 18 0 (q t)).toNat) (by rw [ra_0 (by decide) (by decide)]; omega) (by rw [ra_0 (by decide) (by decide)]; omega) hc.2
      exact ⟨hr.1, rfl⟩
    · have hc' : ¬ ((o_ra τ q' t).1 1 (σ 17 0 (q t)).toNat 10 = -1 ∧ o_fit (o_ra τ q' t).1 (σ 18 0 (q t)).toNat (σ 17 0 (q t)).toNat) := fun k => hc ⟨by rw [← i1.c (by decide)]; exact k.1, (i1.fit hp).mp k.2⟩
      rw [if_neg hc, if_neg hc']
      exact ⟨i1, rfl⟩
theorem Tw.st {σ τ : oMem} (h : Tw σ τ) (w : Int) : o_st τ w = o_st σ w := by
  funext c
  unfold o_st
  rw [h.k (by decide), h.k (by decide), h.k (by decide), h.c (by decide)]
theorem Tw.draft0 {σ τ : oMem} (h : Tw σ τ) : Tw (o_up σ 8 10 1 0) (o_up τ 8 10 1 0) := by
  refine Tw_ch h (fun i' j => Or.inl ?_) (fun c j => Or.inl ?_) (fun r j => ?_) (fun K' i' j hK' => Or.inl ?_) (fun p => ?_) (fun p j hp => Or.inl ?_) (fun j hj => ?_)
  · rw [o_up_k (by omega), o_up_k (by omega)]; exact ⟨rfl, rfl⟩
  · rw [o_up_k (by omega), o_up_k (by omega)]; exact ⟨rfl, rfl⟩
  · rw [o_up_k (by omega), o_up_k (by omega)]; exact ⟨rfl, rfl⟩
  · rw [o_up_k (by omega), o_up_k (by omega)]; exact ⟨rfl, rfl⟩
  · rw [o_up_at, o_up_at]
    split
    · exact Or.inr rfl
    · exact Or.inl ⟨rfl, rfl⟩
  · rw [o_up_k (by omega), o_up_k (by omega)]; exact ⟨rfl, rfl⟩
  · rw [o_up_s] at hj
    omega
theorem Tw.addSlit {σ τ : oMem} (h : Tw σ τ) {n : Nat} (hn : σ 8 10 1 = n) (a v : Int) (hv : v = (n : Int) + 1) : Tw (o_up (o_up σ 9 10 n a) 8 10 1 v) (o_up (o_up τ 9 10 n a) 8 10 1 v) := by
  refine Tw_ch h (fun i' j => Or.inl ?_) (fun c j => Or.inl ?_) (fun r j => ?_) (fun K' i' j hK' => Or.inl ?_) (fun p => ?_) (fun p j hp => Or.inl ?_) (fun j hj => ?_)
  · rw [o_up_k (by omega), o_up_k (by omega), o_up_k (by omega), o_up_k (by omega)]; exact ⟨rfl, rfl⟩
  · rw [o_up_k (by omega), o_up_k (by omega), o_up_k (by omega), o_up_k (by omega)]; exact ⟨rfl, rfl⟩
  · rw [o_up_k (by omega), o_up_k (by omega), o_up_k (by omega), o_up_k (by omega)]; exact ⟨rfl, rfl⟩
  · rw [o_up_k (by omega), o_up_k (by omega), o_up_k (by omega), o_up_k (by omega)]; exact ⟨rfl, rfl⟩
  · by_cases q : p = 10
    · subst q; rw [o_up_s, o_up_s]; exact Or.inr rfl
    · rw [o_up_ij (fun w => q w.1), o_up_k (by decide), o_up_ij (fun w => q w.1), o_up_k (by decide)]; exact Or.inl ⟨rfl, rfl⟩
  · rw [o_up_k (by decide), o_up_ij (fun w => hp w.1), o_up_k (by decide), o_up_ij (fun w => hp w.1)]; exact ⟨rfl, rfl⟩
  · rw [o_up_s] at hj
    by_cases q : j = n
    · subst q; rw [o_up_k (by decide), o_up_s, o_up_k (by decide), o_up_s]; exact Or.inr rfl
    · rw [o_up_k (by decide), o_up_j q, o_up_k (by decide), o_up_j q]; exact Or.inl ⟨by omega, rfl, rfl⟩
theorem Tw.keep {σ τ : oMem} (h : Tw σ τ) {n m : Nat} (hm : σ 8 10 1 = m) (hn : n ≠ 10) (u v : Int) : Tw (o_up (o_up (o_up (o_bl σ 9 n m (σ 9 10)) 8 n 1 v) 8 10 1 0) 0 0 5 u) (o_up (o_up (o_up (o_bl τ 9 n m (τ 9 10)) 8 n 1 v) 8 10 1 0) 0 0 5 u) := by
  refine Tw_up0 (Tw.draft0 ?_) 0 0 5 (by decide) (by decide) (by decide) rfl
  refine Tw_ch h (fun i' j => Or.inl ?_) (fun c j => Or.inl ?_) (fun r j => ?_) (fun K' i' j hK' => Or.inl ?_) (fun p => ?_) (fun p j hp => ?_) (fun j hj => Or.inl ?_)
  · rw [o_up_k (by omega), o_up_k (by omega), o_bl_k (by omega), o_bl_k (by omega)]; exact ⟨rfl, rfl⟩
  · rw [o_up_k (by omega), o_up_k (by omega), o_bl_k (by omega), o_bl_k (by omega)]; exact ⟨rfl, rfl⟩
  · rw [o_up_k (by omega), o_up_k (by omega), o_bl_k (by omega), o_bl_k (by omega)]; exact ⟨rfl, rfl⟩
  · rw [o_up_k (by omega), o_up_k (by omega), o_bl_k (by omega), o_bl_k (by omega)]; exact ⟨rfl, rfl⟩
  · rw [o_up_at, o_up_at]
    split
    · exact Or.inr rfl
    · rw [o_bl_k (by omega), o_bl_k (by omega)]; exact Or.inl ⟨rfl, rfl⟩
  · rw [o_up_k (by omega), o_up_k (by omega)]
    unfold o_bl
    split
    · rename_i q
      exact Or.inr (h.d (by omega))
    · exact Or.inl ⟨rfl, rfl⟩
  · rw [o_up_ij (by omega), o_bl_k (by omega)] at hj
    rw [o_up_k (by omega), o_up_k (by omega)]
    unfold o_bl
    rw [if_neg (by omega), if_neg (by omega)]
    exact ⟨hj, rfl, rfl⟩
theorem Tw.rw {σ τ : oMem} (h : Tw σ τ) (K i : Nat) {f f' : Nat → Int} (hK : K = 2 ∨ K = 3) (hf : f' = f) : Tw (o_rw σ K i f) (o_rw τ K i f') := by
  subst hf
  refine Tw_ch h (fun i' j => Or.inl ?_) (fun c j => Or.inl ?_) (fun r j => ?_) (fun K' i' j hK' => ?_) (fun p => Or.inl ?_) (fun p j hp => Or.inl ?_) (fun j hj => Or.inl ?_)
  · rw [o_rw_k (by omega), o_rw_k (by omega)]; exact ⟨rfl, rfl⟩
  · rw [o_rw_k (by omega), o_rw_k (by omega)]; exact ⟨rfl, rfl⟩
  · rw [o_rw_k (by omega), o_rw_k (by omega)]; exact ⟨rfl, rfl⟩
  · unfold o_rw
    split
    · exact Or.inr rfl
    · exact Or.inl ⟨rfl, rfl⟩
  · rw [o_rw_k (by omega), o_rw_k (by omega)]; exact ⟨rfl, rfl⟩
  · rw [o_rw_k (by omega), o_rw_k (by omega)]; exact ⟨rfl, rfl⟩
  · rw [o_rw_k (by omega)] at hj
    rw [o_rw_k (by omega), o_rw_k (by omega)]; exact ⟨hj, rfl, rfl⟩
