/-! THE SAME CALL OF BOTH OFFICES: the same answer, and they stay alike -/
def PC (z y : Int) (σ1 τ1 : oMem) : Prop := y = z ∧ Tw σ1 τ1 ∧ QI σ1 ∧ QI τ1
theorem L_pair {N N' P P' C : Prop} {z y : Int} {σ σ1 τ τ1 : oMem} (hN : N' ↔ N) (A : (N ∧ P) ∨ (¬ N ∧ z = -9 ∧ σ1 = σ)) (B : (N' ∧ P') ∨ (¬ N' ∧ y = -9 ∧ τ1 = τ)) (hp : N → P → P' → C) (he : z = -9 → y = -9 → σ1 = σ → τ1 = τ → C) : C := by
  rcases A with ⟨n, a⟩ | ⟨n, a1, a2⟩
  · rcases B with ⟨m, b⟩ | ⟨m, b1, b2⟩
    · exact hp n a b
    · exact absurd (hN.mpr n) m
  · rcases B with ⟨m, b⟩ | ⟨m, b1, b2⟩
    · exact absurd (hN.mp m) n
    · exact he a1 b1 a2 b2
theorem PC_no {σ τ σ1 τ1 : oMem} {z y : Int} (h : Tw σ τ) (hq : QI σ) (hr : QI τ) (hz : z = -9) (hy : y = -9) (hs : σ1 = σ) (ht : τ1 = τ) : PC z y σ1 τ1 := by
  subst hs ht
  exact ⟨by rw [hz, hy], h, hq, hr⟩
theorem PC_eq {σ τ σ1 τ1 : oMem} {z y : Int} (h : Tw σ τ) (hq : QI σ) (hr : QI τ) (hz : y = z) (hs : σ1 = σ) (ht : τ1 = τ) : PC z y σ1 τ1 := by
  subst hs ht
  exact ⟨hz, h, hq, hr⟩
theorem nat_of {v : Int} (h : 0 ≤ v) : ∃ n : Nat, v = n := ⟨v.toNat, by omega⟩
theorem PR_coil {σ τ σ1 τ1 : oMem} {a b d e z y : Int} (h : Tw σ τ) (hq : QI σ) (hr : QI τ) (he : 1 ≤ e ∧ e ≤ 99) (A : L5_coil σ a b d e z σ1) (B : L5_coil τ a b d (100 - e) y τ1) : PC z y σ1 τ1 := by
  refine L_pair (N := N5_coil σ a b d e) (N' := N5_coil τ a b d (100 - e)) (by unfold N5_coil; rw [h.z]; omega) A B (fun n A B => ?_) (fun hz hy hs ht => PC_no h hq hr hz hy hs ht)
  obtain ⟨z1, -, -, s1⟩ := A
  obtain ⟨y1, nb, -, t1⟩ := B
  obtain ⟨k, hk⟩ := nat_of hq.1.1.1
  have hk' : τ 0 0 1 = k := by rw [h.z]; exact hk
  rw [hk, Int.toNat_natCast] at s1
  rw [hk', Int.toNat_natCast] at t1
  have hlt : k < 20 := by have := n.2; omega
  refine ⟨by rw [y1, z1, hk, hk'], ?_, Q_coil hq hk n.1 hlt s1, Q_coil hr hk' nb hlt t1⟩
  subst s1 t1
  exact Tw_up0 (Tw_up (Tw_up0 (Tw_up0 (Tw_up0 h 1 k 0 (by decide) (by decide) (by decide) rfl) 1 k 1 (by decide) (by decide) (by decide) rfl) 1 k 2 (by decide) (by decide) (by decide) rfl) 1 k 3 (by decide) (by decide) (by rw [if_pos ⟨Or.inl rfl, rfl⟩, hf_in he])) 0 0 1 (by decide) (by decide) (by decide) rfl
theorem FR_coil {σ σ' : oMem} {a b d e z : Int} (h : L5_coil σ a b d e z σ') (K : Nat) (hK : 24 ≤ K) : σ' K = σ K := by
  rcases h with ⟨-, -, -, -, h⟩ | ⟨-, -, h⟩
  · rw [h, o_up_k (by omega), o_up_k (by omega), o_up_k (by omega), o_up_k (by omega), o_up_k (by omega)]
  · rw [h]
theorem PR_defect {σ τ σ1 τ1 : oMem} {a b d z y : Int} (h : Tw σ τ) (hq : QI σ) (hr : QI τ) (A : L5_defect σ a b d z σ1) (B : L5_defect τ a b d y τ1) : PC z y σ1 τ1 := by
  refine L_pair (N := N5_defect σ a b d) (N' := N5_defect τ a b d) (by unfold N5_defect okC; rw [h.z, h.c (j := 2) (by decide), h.c (j := 10) (by decide), h.c (j := 6) (by decide)]) A B (fun n A B => ?_) (fun hz hy hs ht => PC_no h hq hr hz hy hs ht)
  obtain ⟨-, -, -, z1, p, p1, p2, p3, s1⟩ := A
  obtain ⟨nb1, nb2, nb3, y1, q, q1, q2, q3, t1⟩ := B
  rw [h.c (j := 6) (by decide)] at q1 q3 t1
  rw [h.k (K := 2) (by decide)] at q2 q3 t1
  rw [h.k (K := 3) (by decide)] at t1
  obtain ⟨n1, n2, n3⟩ := n
  have hc : (a.toNat : Int) < σ 0 0 1 := by have := n1; omega
  have hC := (hq.1.2.2.2.2.2.2.1 _ hc).1
  obtain ⟨k, hk⟩ := nat_of hC.2.2.2.2.1.1
  have hk' : τ 1 a.toNat 6 = k := by rw [h.c (by decide)]; exact hk
  have e : q = p := by
    rcases Nat.lt_trichotomy p q with l | l | l
    · have v1 := q2 (by omega)
      have v2 := p3 (q - 1) (by omega) (by omega)
      omega
    · exact l.symm
    · have v1 := p2 (by omega)
      have v2 := q3 (p - 1) (by omega) (by omega)
      omega
  subst e
  have hT : Tw σ1 τ1 := by
    rw [s1, t1]
    exact Tw_up0 (Tw.rw (Tw.rw h 2 _ (Or.inl rfl) rfl) 3 _ (Or.inr rfl) rfl) 1 _ 6 (by decide) (by decide) (by decide) rfl
  rw [hk, Int.toNat_natCast] at s1 t1
  refine ⟨by rw [y1, z1]; exact hT.cutl _, hT, Q_defect (pl := q) hq hc hk (by omega) n2 (by omega) s1, Q_defect (pl := q) hr (by rw [h.z]; exact hc) hk' (by omega) nb2 (by omega) (by rw [h.k (K := 2) (by decide), h.k (K := 3) (by decide)]; exact t1)⟩
theorem FR_defect {σ σ' : oMem} {a b d z : Int} (h : L5_defect σ a b d z σ') (K : Nat) (hK : 24 ≤ K) : σ' K = σ K := by
  rcases h with ⟨-, -, -, -, -, p, -, -, -, h⟩ | ⟨-, -, h⟩
  · rw [h, o_up_k (by omega), o_rw_k (by omega), o_rw_k (by omega)]
  · rw [h]
theorem PR_setRules {σ τ σ1 τ1 : oMem} {a b d z y : Int} (h : Tw σ τ) (hq : QI σ) (hr : QI τ) (A : L5_setRules σ a b d z σ1) (B : L5_setRules τ a b d y τ1) : PC z y σ1 τ1 := by
  refine L_pair (N := N5_setRules σ a b d) (N' := N5_setRules τ a b d) Iff.rfl A B (fun n A B => ?_) (fun hz hy hs ht => PC_no h hq hr hz hy hs ht)
  obtain ⟨z1, -, s1⟩ := A
  obtain ⟨y1, -, t1⟩ := B
  refine ⟨by rw [y1, z1, h.z], ?_, Q_rules hq n s1, Q_rules hr n t1⟩
  subst s1 t1
  exact Tw_up0 (Tw_up0 (Tw_up0 h 0 0 7 (by decide) (by decide) (by decide) rfl) 0 0 8 (by decide) (by decide) (by decide) rfl) 0 0 9 (by decide) (by decide) (by decide) rfl
theorem FR_setRules {σ σ' : oMem} {a b d z : Int} (h : L5_setRules σ a b d z σ') (K : Nat) (hK : 24 ≤ K) : σ' K = σ K := by
  rcases h with ⟨-, -, -, h⟩ | ⟨-, -, h⟩
  · rw [h, o_up_k (by omega), o_up_k (by omega), o_up_k (by omega)]
  · rw [h]
theorem PR_order {σ τ σ1 τ1 : oMem} {a b z y : Int} (h : Tw σ τ) (hq : QI σ) (hr : QI τ) (A : L5_order σ a b z σ1) (B : L5_order τ a b y τ1) : PC z y σ1 τ1 := by
  refine L_pair (N := N5_order σ a b) (N' := N5_order τ a b) (by unfold N5_order; rw [h.z]) A B (fun n A B => ?_) (fun hz hy hs ht => PC_no h hq hr hz hy hs ht)
  obtain ⟨z1, -, -, s1⟩ := A
  obtain ⟨y1, nb, -, t1⟩ := B
  obtain ⟨k, hk⟩ := nat_of hq.1.2.1.1
  have hk' : τ 0 0 3 = k := by rw [h.z]; exact hk
  rw [hk, Int.toNat_natCast] at s1
  rw [hk', Int.toNat_natCast] at t1
  have hlt : k < 12 := by have := n.2; omega
  refine ⟨by rw [y1, z1, hk, hk'], ?_, Q_order hq hk n.1 hlt s1, Q_order hr hk' nb hlt t1⟩
  subst s1 t1
  exact Tw_up0 (Tw_up0 (Tw_up0 h 7 k 0 (by decide) (by decide) (by decide) rfl) 7 k 1 (by decide) (by decide) (by decide) rfl) 0 0 3 (by decide) (by decide) (by decide) rfl
theorem FR_order {σ σ' : oMem} {a b z : Int} (h : L5_order σ a b z σ') (K : Nat) (hK : 24 ≤ K) : σ' K = σ K := by
  rcases h with ⟨-, -, -, -, h⟩ | ⟨-, -, h⟩
  · rw [h, o_up_k (by omega), o_up_k (by omega), o_up_k (by omega)]
  · rw [h]
theorem PR_addSlit {σ τ σ1 τ1 : oMem} {a z y : Int} (h : Tw σ τ) (hq : QI σ) (hr : QI τ) (A : L5_addSlit σ a z σ1) (B : L5_addSlit τ a y τ1) : PC z y σ1 τ1 := by
  refine L_pair (N := N5_addSlit σ a) (N' := N5_addSlit τ a) (by unfold N5_addSlit; rw [h.p]) A B (fun n A B => ?_) (fun hz hy hs ht => PC_no h hq hr hz hy hs ht)
  obtain ⟨z1, -, -, s1⟩ := A
  obtain ⟨y1, nb, -, t1⟩ := B
  obtain ⟨k, hk⟩ := nat_of hq.1.2.2.2.2.2.2.2.2.2.1.1
  have hk' : τ 8 10 1 = k := by rw [h.p]; exact hk
  rw [hk, Int.toNat_natCast] at s1
  rw [hk', Int.toNat_natCast] at t1
  have hlt : k < 15 := by have := n.2; omega
  refine ⟨by rw [y1, z1, hk, hk'], ?_, Q_addSlit hq hk n.1 hlt s1, Q_addSlit hr hk' nb hlt t1⟩
  subst s1 t1
  exact Tw.addSlit h hk a _ rfl
theorem FR_addSlit {σ σ' : oMem} {a z : Int} (h : L5_addSlit σ a z σ') (K : Nat) (hK : 24 ≤ K) : σ' K = σ K := by
  rcases h with ⟨-, -, -, -, h⟩ | ⟨-, -, h⟩
  · rw [h, o_up_k (by omega), o_up_k (by omega)]
  · rw [h]
theorem PR_keep {σ τ σ1 τ1 : oMem} {z y : Int} (h : Tw σ τ) (hq : QI σ) (hr : QI τ) (A : L5_keep σ z σ1) (B : L5_keep τ y τ1) : PC z y σ1 τ1 := by
  refine L_pair (N := N5_keep σ) (N' := N5_keep τ) (by unfold N5_keep; rw [h.p, h.z]) A B (fun n A B => ?_) (fun hz hy hs ht => PC_no h hq hr hz hy hs ht)
  obtain ⟨z1, -, s1⟩ := A
  obtain ⟨y1, -, t1⟩ := B
  obtain ⟨k, hk⟩ := nat_of hq.1.2.2.2.2.2.2.2.2.2.1.1
  have hk' : τ 8 10 1 = k := by rw [h.p]; exact hk
  obtain ⟨w, hw⟩ := nat_of hq.1.2.2.1.1
  have hw' : τ 0 0 5 = w := by rw [h.z]; exact hw
  rw [hk, hw, Int.toNat_natCast, Int.toNat_natCast] at s1
  rw [hk', hw', Int.toNat_natCast, Int.toNat_natCast] at t1
  have hlt : w < 10 := by have := n.2; omega
  refine ⟨by rw [y1, z1, hw, hw'], ?_, Q_keep hq hw hlt hk s1, Q_keep hr hw' hlt hk' t1⟩
  subst s1 t1
  exact Tw.keep h hk (by omega) _ _
theorem FR_keep {σ σ' : oMem} {z : Int} (h : L5_keep σ z σ') (K : Nat) (hK : 24 ≤ K) : σ' K = σ K := by
  rcases h with ⟨-, -, -, h⟩ | ⟨-, -, h⟩
  · rw [h, o_up_k (by omega), o_up_k (by omega), o_up_k (by omega), o_bl_k (by omega)]
  · rw [h]
theorem PB_new {W : Int → Prop} {σ : oMem} {z : Int} {n : Nat} (hW : ∀ v, W v → 20 ≤ v ∧ v ≤ 1000) (hn : n ≤ 15) (h8 : σ 8 10 1 = n) (hF : isF W z n (σ 9 10)) : PB σ 10 :=
  ⟨by omega, by omega, fun j hj => hW _ (hF.2 j (by omega)).1⟩
theorem PR_fill {σ τ σ1 τ1 : oMem} {a z y : Int} (h : Tw σ τ) (hq : QI σ) (hr : QI τ) (A : L5_fill σ a z σ1) (B : L5_fill τ a y τ1) : PC z y σ1 τ1 := by
  refine L_pair (N := N5_fill σ a) (N' := N5_fill τ a) (by unfold N5_fill okC; rw [h.z]) A B (fun n A B => ?_) (fun hz hy hs ht => PC_no h hq hr hz hy hs ht)
  obtain ⟨-, a1, ⟨na, a2, a3, a4⟩, a5, a6, a7⟩ := A
  obtain ⟨-, b1, ⟨nb, b2, b3, b4⟩, b5, b6, b7⟩ := B
  have hc : (a.toNat : Int) < σ 0 0 1 := by have : okC σ a := n; omega
  have hC := (hq.1.2.2.2.2.2.2.1 _ hc).1
  have hO := hq.1.2.2.2.2.2.2.2.1
  have hw : ∀ v, oWt τ (τ 1 a.toNat 3) v ↔ oWt σ (σ 1 a.toNat 3) v := fun v => by rw [h.c3]; exact h.wt hO hC.2.2.2.1 v
  have hb : ∀ v, oWt σ (σ 1 a.toNat 3) v → 20 ≤ v ∧ v ≤ 1000 := fun v ⟨r, r1, r2, _⟩ => by have := (hO r r1).1; omega
  have b1' := isG_cong hw b1
  rw [h.z, h.c (by decide)] at b1'
  have e := isG_uniq b1' a1
  subst e
  obtain ⟨u1, u2⟩ := isF_uniq (isF_cong hw b4) a4
  subst u1
  have hM : ∀ (σ σ1 : oMem), QI σ → (∀ K, K ≠ 8 → K ≠ 9 → K ≠ 10 → K ≠ 11 → K ≠ 12 → σ1 K = σ K) → OM σ1 := fun σ σ1 hq k => by unfold OM; rw [k 14 (by decide) (by decide) (by decide) (by decide) (by decide), k 15 (by decide) (by decide) (by decide) (by decide) (by decide)]; exact hq.1.2.2.2.2.2.2.2.2.2.2.2.2
  refine ⟨rfl, ?_, Q_draft hq (PB_new hb a2 a3 a4) a5 (hM σ σ1 hq a6) (fun K hK => a6 K (by omega) (by omega) (by omega) (by omega) (by omega)) a7 (a6 17 (by decide) (by decide) (by decide) (by decide) (by decide)) (a6 18 (by decide) (by decide) (by decide) (by decide) (by decide)), Q_draft hr (PB_new (fun v hv => hb v ((hw v).mp hv)) b2 b3 b4) b5 (hM τ τ1 hr b6) (fun K hK => b6 K (by omega) (by omega) (by omega) (by omega) (by omega)) b7 (b6 17 (by decide) (by decide) (by decide) (by decide) (by decide)) (b6 18 (by decide) (by decide) (by decide) (by decide) (by decide))⟩
  refine Tw_ch h (fun i j => Or.inl ?_) (fun c j => Or.inl ?_) (fun r j => ?_) (fun K i j hK => Or.inl ?_) (fun p => ?_) (fun p j hp => Or.inl ?_) (fun j hj => Or.inr ?_)
  · rw [a6 0 (by decide) (by decide) (by decide) (by decide) (by decide), b6 0 (by decide) (by decide) (by decide) (by decide) (by decide)]; exact ⟨rfl, rfl⟩
  · rw [a6 1 (by decide) (by decide) (by decide) (by decide) (by decide), b6 1 (by decide) (by decide) (by decide) (by decide) (by decide)]; exact ⟨rfl, rfl⟩
  · rw [a6 7 (by decide) (by decide) (by decide) (by decide) (by decide), b6 7 (by decide) (by decide) (by decide) (by decide) (by decide)]; exact ⟨rfl, rfl⟩
  · rw [a6 K (by omega) (by omega) (by omega) (by omega) (by omega), b6 K (by omega) (by omega) (by omega) (by omega) (by omega)]; exact ⟨rfl, rfl⟩
  · by_cases q : p = 10
    · subst q; exact Or.inr (by rw [a3, b3])
    · rw [(a7 p q).1, (b7 p q).1]; exact Or.inl ⟨rfl, rfl⟩
  · rw [(a7 p hp).2, (b7 p hp).2]; exact ⟨rfl, rfl⟩
  · exact u2 j (by omega)
theorem FR_fill {σ σ' : oMem} {a z : Int} (h : L5_fill σ a z σ') (K : Nat) (hK : 24 ≤ K) : σ' K = σ K := by
  rcases h with ⟨-, -, -, -, -, h, -⟩ | ⟨-, -, h⟩
  · exact h K (by omega) (by omega) (by omega) (by omega) (by omega)
  · rw [h]
theorem Tw_same {σ τ σ1 τ1 : oMem} (h : Tw σ τ) (hs : ∀ K, K < 10 ∨ K = 17 ∨ K = 18 → σ1 K = σ K) (ht : ∀ K, K < 10 ∨ K = 17 ∨ K = 18 → τ1 K = τ K) : Tw σ1 τ1 := by
  unfold Tw
  rw [hs 0 (by decide), hs 1 (by decide), hs 7 (by decide), hs 8 (by decide), hs 9 (by decide), ht 0 (by decide), ht 1 (by decide), ht 7 (by decide), ht 8 (by decide), ht 9 (by decide)]
  refine ⟨h.1, h.2.1, h.2.2.1, fun K i j hK => ?_, h.2.2.2.2.1, h.2.2.2.2.2.1, h.2.2.2.2.2.2⟩
  rw [hs K (by omega), ht K (by omega)]
  exact h.2.2.2.1 K i j hK
theorem Q_same {σ σ1 : oMem} (h : QI σ) (hs : ∀ K, K ≠ 10 → K ≠ 11 → σ1 K = σ K) : QI σ1 := by
  unfold QI QU XI CB DB SB OO PB TB OM
  rw [hs 0 (by decide) (by decide), hs 1 (by decide) (by decide), hs 2 (by decide) (by decide), hs 3 (by decide) (by decide), hs 4 (by decide) (by decide), hs 5 (by decide) (by decide), hs 6 (by decide) (by decide), hs 7 (by decide) (by decide), hs 8 (by decide) (by decide), hs 9 (by decide) (by decide), hs 12 (by decide) (by decide), hs 14 (by decide) (by decide), hs 15 (by decide) (by decide), hs 17 (by decide) (by decide), hs 18 (by decide) (by decide)]
  exact h
theorem PR_fullestByTrying {σ τ σ1 τ1 : oMem} {a z y : Int} (h : Tw σ τ) (hq : QI σ) (hr : QI τ) (A : L5_fullestByTrying σ a z σ1) (B : L5_fullestByTrying τ a y τ1) : PC z y σ1 τ1 := by
  refine L_pair (N := N5_fullestByTrying σ a) (N' := N5_fullestByTrying τ a) (by unfold N5_fullestByTrying okC; rw [h.z]) A B (fun n A B => ?_) (fun hz hy hs ht => PC_no h hq hr hz hy hs ht)
  obtain ⟨-, -, a1, a2⟩ := A
  obtain ⟨-, -, b1, b2⟩ := B
  have hc : (a.toNat : Int) < σ 0 0 1 := by have := n.1; omega
  have hC := (hq.1.2.2.2.2.2.2.1 _ hc).1
  have hO := hq.1.2.2.2.2.2.2.2.1
  have hw : ∀ v, oWt τ (τ 1 a.toNat 3) v ↔ oWt σ (σ 1 a.toNat 3) v := fun v => by rw [h.c3]; exact h.wt hO hC.2.2.2.1 v
  have b1' := isG_cong hw b1
  rw [h.z, h.c (by decide)] at b1'
  exact ⟨isG_uniq b1' a1, Tw_same h (fun K hK => a2 K (by omega) (by omega)) (fun K hK => b2 K (by omega) (by omega)), Q_same hq a2, Q_same hr b2⟩
theorem FR_fullestByTrying {σ σ' : oMem} {a z : Int} (h : L5_fullestByTrying σ a z σ') (K : Nat) (hK : 24 ≤ K) : σ' K = σ K := by
  rcases h with ⟨-, -, -, -, h⟩ | ⟨-, -, h⟩
  · exact h K (by omega) (by omega)
  · rw [h]
theorem NT_run {σ τ : oMem} {a b : Int} (h : Tw σ τ) (hq : QI σ) : N5_run τ a b ↔ N5_run σ a b := by
  have h5 := hq.1.2.2.1.2
  unfold N5_run okC okP
  rw [h.z, h.c (by decide)]
  constructor
  · rintro ⟨n1, n2, n3⟩
    exact ⟨n1, n2, (h.fit (by omega)).mp n3⟩
  · rintro ⟨n1, n2, n3⟩
    exact ⟨n1, n2, (h.fit (by omega)).mpr n3⟩
theorem PR_run {σ τ σ1 τ1 : oMem} {a b z y : Int} (h : Tw σ τ) (hq : QI σ) (hr : QI τ) (A : L5_run σ a b z σ1) (B : L5_run τ a b y τ1) : PC z y σ1 τ1 := by
  refine L_pair (N := N5_run σ a b) (N' := N5_run τ a b) (NT_run h hq) A B (fun n A B => ?_) (fun hz hy hs ht => PC_no h hq hr hz hy hs ht)
  obtain ⟨-, -, z1, s1⟩ := A
  obtain ⟨-, nb, y1, t1⟩ := B
  obtain ⟨⟨n1, n2⟩, n3⟩ := n
  have hc : (a.toNat : Int) < σ 0 0 1 := by omega
  have hp : (b.toNat : Int) < σ 0 0 5 := by omega
  obtain ⟨e1, e2⟩ := h.run hq.1 hc hp n3.2
  exact ⟨by rw [y1, z1, e2], by rw [s1, t1]; exact e1, by rw [s1]; exact Q_run hq hc hp n3.2, by rw [t1]; exact Q_run hr (by rw [h.z]; exact hc) (by rw [h.z]; exact hp) nb.2⟩
theorem FR_run {σ σ' : oMem} {a b z : Int} (h : L5_run σ a b z σ') (K : Nat) (hK : 24 ≤ K) : σ' K = σ K := by
  rcases h with ⟨-, -, -, -, h⟩ | ⟨-, -, h⟩
  · rw [h, run_k (by omega) (by omega), sc_k (by omega) (by omega) (by omega) (by omega)]
  · rw [h]
theorem PR_moves {σ τ σ1 τ1 : oMem} {a z y : Int} (h : Tw σ τ) (hq : QI σ) (hr : QI τ) (A : L5_moves σ a z σ1) (B : L5_moves τ a y τ1) : PC z y σ1 τ1 := by
  refine L_pair (N := N5_moves σ a) (N' := N5_moves τ a) (by unfold N5_moves okP; rw [h.z]) A B (fun n A B => ?_) (fun hz hy hs ht => PC_no h hq hr hz hy hs ht)
  exact PC_eq h hq hr (by rw [A.1, B.1, h.z, h.mb hq.1.2.2.1.2]) A.2.2 B.2.2
theorem FR_moves {σ σ' : oMem} {a z : Int} (h : L5_moves σ a z σ') : σ' = σ := by
  rcases h with ⟨-, -, -, h⟩ | ⟨-, -, h⟩ <;> exact h
theorem PR_plan {σ τ σ1 τ1 : oMem} {a b z y : Int} (h : Tw σ τ) (hq : QI σ) (hr : QI τ) (A : L5_plan σ a b z σ1) (B : L5_plan τ a b y τ1) : PC z y σ1 τ1 := by
  have h5 := hq.1.2.2.1.2
  refine L_pair (N := N5_plan σ a b) (N' := N5_plan τ a b) (by
    unfold N5_plan okC okP
    rw [h.z, h.c (by decide), h.k (by decide)]
    constructor
    · rintro ⟨n1, n2, n3, n4⟩
      exact ⟨n1, n2, (h.fit (by omega)).mp n3, n4⟩
    · rintro ⟨n1, n2, n3, n4⟩
      exact ⟨n1, n2, (h.fit (by omega)).mpr n3, n4⟩) A B (fun n A B => ?_) (fun hz hy hs ht => PC_no h hq hr hz hy hs ht)
  obtain ⟨-, -, z1, s1⟩ := A
  obtain ⟨nb, -, y1, t1⟩ := B
  obtain ⟨k, hk⟩ := nat_of hq.1.2.2.2.2.2.1.1
  have hk' : τ 0 0 14 = k := by rw [h.z]; exact hk
  rw [hk, Int.toNat_natCast] at s1
  rw [hk', Int.toNat_natCast] at t1
  have hlt : k < 7 := by have := n.2.2.2.2; omega
  refine ⟨by rw [y1, z1, hk, hk'], ?_, Q_plan hq hk n.1.1 n.1.2 hlt s1, Q_plan hr hk' nb.1 nb.2 hlt t1⟩
  subst s1 t1
  exact Tw_up0 (Tw_up0 (Tw_up0 h 17 0 k (by decide) (by decide) (by omega) rfl) 18 0 k (by decide) (by decide) (by omega) rfl) 0 0 14 (by decide) (by decide) (by decide) rfl
theorem FR_plan {σ σ' : oMem} {a b z : Int} (h : L5_plan σ a b z σ') (K : Nat) (hK : 24 ≤ K) : σ' K = σ K := by
  rcases h with ⟨-, -, -, -, h⟩ | ⟨-, -, h⟩
  · rw [h, o_up_k (by omega), o_up_k (by omega), o_up_k (by omega)]
  · rw [h]
theorem Tw.mvx {σ τ : oMem} (h : Tw σ τ) (hq : QI σ) : mvX τ = mvX σ := funext fun b => funext fun r => (h.mv hq.1.2.2.1.2 b r).symm
theorem PR_nextAt {σ τ σ1 τ1 : oMem} {a z y : Int} (h : Tw σ τ) (hq : QI σ) (hr : QI τ) (A : L5_nextAt σ a z σ1) (B : L5_nextAt τ a y τ1) : PC z y σ1 τ1 := by
  refine L_pair (N := N5_nextAt σ a) (N' := N5_nextAt τ a) (by unfold N5_nextAt; rw [h.z]) A B (fun n A B => ?_) (fun hz hy hs ht => PC_no h hq hr hz hy hs ht)
  obtain ⟨-, ⟨q, a1, a2⟩, a3, a4⟩ := A
  obtain ⟨-, ⟨q', b1, b2⟩, b3, b4⟩ := B
  have h14 := hq.1.2.2.2.2.2.1
  rw [h.mvx hq, h.z] at b1
  unfold N5_nextAt at n
  have e := isBest_uniq (n := (σ 0 0 14).toNat) (by omega) (fun _ _ _ _ => rfl) b1 a1 a.toNat (by omega)
  exact ⟨by rw [a2, b2, e], Tw_same h (fun K hK => a4 K (by omega) (by omega) (by omega)) (fun K hK => b4 K (by omega) (by omega) (by omega)), Q_ord hq a4 a3, Q_ord hr b4 b3⟩
theorem FR_nextAt {σ σ' : oMem} {a z : Int} (h : L5_nextAt σ a z σ') (K : Nat) (hK : K ≠ 14 ∧ K ≠ 15 ∧ K ≠ 16) : σ' K = σ K := by
  rcases h with ⟨-, -, -, -, h⟩ | ⟨-, -, h⟩
  · exact h K hK.1 hK.2.1 hK.2.2
  · rw [h]
theorem PR_slits {σ τ σ1 τ1 : oMem} {a z y : Int} (h : Tw σ τ) (hq : QI σ) (hr : QI τ) (A : L5_slits σ a z σ1) (B : L5_slits τ a y τ1) : PC z y σ1 τ1 := by
  refine L_pair (N := N5_slits σ a) (N' := N5_slits τ a) (by unfold N5_slits okC; rw [h.z]) A B (fun n A B => ?_) (fun hz hy hs ht => PC_no h hq hr hz hy hs ht)
  exact PC_eq h hq hr (by rw [A.1, B.1, h.c (by decide)]) A.2.2 B.2.2
theorem FR_slits {σ σ' : oMem} {a z : Int} (h : L5_slits σ a z σ') : σ' = σ := by
  rcases h with ⟨-, -, -, h⟩ | ⟨-, -, h⟩ <;> exact h
theorem PR_slitWeight {σ τ σ1 τ1 : oMem} {a b z y : Int} (h : Tw σ τ) (hq : QI σ) (hr : QI τ) (A : L5_slitWeight σ a b z σ1) (B : L5_slitWeight τ a b y τ1) : PC z y σ1 τ1 := by
  refine L_pair (N := N5_slitWeight σ a b) (N' := N5_slitWeight τ a b) (by unfold N5_slitWeight okC; rw [h.z, h.c (by decide)]) A B (fun n A B => ?_) (fun hz hy hs ht => PC_no h hq hr hz hy hs ht)
  exact PC_eq h hq hr (by rw [A.1, B.1, h.k (by decide)]) A.2.2 B.2.2
theorem FR_slitWeight {σ σ' : oMem} {a b z : Int} (h : L5_slitWeight σ a b z σ') : σ' = σ := by
  rcases h with ⟨-, -, -, h⟩ | ⟨-, -, h⟩ <;> exact h
theorem PR_slitOrder {σ τ σ1 τ1 : oMem} {a b z y : Int} (h : Tw σ τ) (hq : QI σ) (hr : QI τ) (A : L5_slitOrder σ a b z σ1) (B : L5_slitOrder τ a b y τ1) : PC z y σ1 τ1 := by
  refine L_pair (N := N5_slitOrder σ a b) (N' := N5_slitOrder τ a b) (by unfold N5_slitOrder okC; rw [h.z, h.c (by decide)]) A B (fun n A B => ?_) (fun hz hy hs ht => PC_no h hq hr hz hy hs ht)
  exact PC_eq h hq hr (by rw [A.1, B.1, h.k (by decide)]) A.2.2 B.2.2
theorem FR_slitOrder {σ σ' : oMem} {a b z : Int} (h : L5_slitOrder σ a b z σ') : σ' = σ := by
  rcases h with ⟨-, -, -, h⟩ | ⟨-, -, h⟩ <;> exact h
theorem PR_lost {σ τ σ1 τ1 : oMem} {a b z y : Int} (h : Tw σ τ) (hq : QI σ) (hr : QI τ) (A : L5_lost σ a b z σ1) (B : L5_lost τ a b y τ1) : PC z y σ1 τ1 := by
  refine L_pair (N := N5_lost σ a b) (N' := N5_lost τ a b) (by unfold N5_lost okC; rw [h.z]) A B (fun n A B => ?_) (fun hz hy hs ht => PC_no h hq hr hz hy hs ht)
  exact PC_eq h hq hr (by rw [A.1, B.1, h.c (by omega)]) A.2.2 B.2.2
theorem FR_lost {σ σ' : oMem} {a b z : Int} (h : L5_lost σ a b z σ') : σ' = σ := by
  rcases h with ⟨-, -, -, h⟩ | ⟨-, -, h⟩ <;> exact h
theorem PR_delivered {σ τ σ1 τ1 : oMem} {a z y : Int} (h : Tw σ τ) (hq : QI σ) (hr : QI τ) (A : L5_delivered σ a z σ1) (B : L5_delivered τ a y τ1) : PC z y σ1 τ1 := by
  refine L_pair (N := N5_delivered σ a) (N' := N5_delivered τ a) (by unfold N5_delivered okO; rw [h.z]) A B (fun n A B => ?_) (fun hz hy hs ht => PC_no h hq hr hz hy hs ht)
  exact PC_eq h hq hr (by rw [A.1, B.1, h.o (by decide)]) A.2.2 B.2.2
theorem FR_delivered {σ σ' : oMem} {a z : Int} (h : L5_delivered σ a z σ') : σ' = σ := by
  rcases h with ⟨-, -, -, h⟩ | ⟨-, -, h⟩ <;> exact h
theorem PR_draftWidth {σ τ σ1 τ1 : oMem} {a z y : Int} (h : Tw σ τ) (hq : QI σ) (hr : QI τ) (A : L5_draftWidth σ a z σ1) (B : L5_draftWidth τ a y τ1) : PC z y σ1 τ1 := by
  refine L_pair (N := N5_draftWidth σ a) (N' := N5_draftWidth τ a) (by unfold N5_draftWidth; rw [h.p]) A B (fun n A B => ?_) (fun hz hy hs ht => PC_no h hq hr hz hy hs ht)
  unfold N5_draftWidth at n
  exact PC_eq h hq hr (by rw [A.1, B.1, h.d (by omega)]) A.2.2 B.2.2
theorem FR_draftWidth {σ σ' : oMem} {a z : Int} (h : L5_draftWidth σ a z σ') : σ' = σ := by
  rcases h with ⟨-, -, -, h⟩ | ⟨-, -, h⟩ <;> exact h
/-- the heats alone are told apart: as the first's heat was, so the other's is -/
theorem PR_heatOf {σ σ0 τ σ1 τ1 : oMem} {a z y : Int} (h : Tw σ τ) (h0 : σ 0 = σ0 0) (h7 : σ 7 = σ0 7) (A : L5_heatOf σ0 a z σ1) (B : L5_heatOf τ a y τ1) : y = hf z ∧ τ1 = τ := by
  refine L_pair (N := N5_heatOf σ0 a) (N' := N5_heatOf τ a) (by unfold N5_heatOf okO; rw [h.z, h0]) A B (fun n A B => ?_) (fun hz hy hs ht => ?_)
  · exact ⟨by rw [A.1, B.1, h.o3, h7], B.2.2⟩
  · rw [hz, hy]; exact ⟨rfl, ht⟩
theorem FR_heatOf {σ σ' : oMem} {a z : Int} (h : L5_heatOf σ a z σ') : σ' = σ := by
  rcases h with ⟨-, -, -, h⟩ | ⟨-, -, h⟩ <;> exact h
theorem PR_draftSlits {σ τ σ1 τ1 : oMem} {z y : Int} (h : Tw σ τ) (hq : QI σ) (hr : QI τ) (A : P5_draftSlits σ z σ1) (B : P5_draftSlits τ y τ1) : PC z y σ1 τ1 := PC_eq h hq hr (by rw [A.1, B.1, h.p]) A.2 B.2
theorem PR_moved {σ τ σ1 τ1 : oMem} {z y : Int} (h : Tw σ τ) (hq : QI σ) (hr : QI τ) (A : P5_moved σ z σ1) (B : P5_moved τ y τ1) : PC z y σ1 τ1 := PC_eq h hq hr (by rw [A.1, B.1, h.z]) A.2 B.2
theorem PR_waiting {σ τ σ1 τ1 : oMem} {z y : Int} (h : Tw σ τ) (hq : QI σ) (hr : QI τ) (A : P5_waiting σ z σ1) (B : P5_waiting τ y τ1) : PC z y σ1 τ1 := PC_eq h hq hr (by rw [A.1, B.1, h.z]) A.2 B.2
theorem PR_stock {σ τ σ1 τ1 : oMem} {a z y : Int} (h : Tw σ τ) (hq : QI σ) (hr : QI τ) (A : P5_stock σ a z σ1) (B : P5_stock τ a y τ1) : PC z y σ1 τ1 := PC_eq h hq hr (by rw [A.1, B.1, h.z, h.st]) A.2 B.2
theorem PR_fewestMoves {σ τ σ1 τ1 : oMem} {z y : Int} (h : Tw σ τ) (hq : QI σ) (hr : QI τ) (A : P5_fewestMoves σ z σ1) (B : P5_fewestMoves τ y τ1) : PC z y σ1 τ1 := by
  obtain ⟨a1, a2, a3⟩ := A
  obtain ⟨b1, b2, b3⟩ := B
  exact ⟨by rw [a1, b1, h.mvx hq, h.z], Tw_same h (fun K hK => a3 K (by omega) (by omega)) (fun K hK => b3 K (by omega) (by omega)), Q_ord hq (fun K k1 k2 _ => a3 K k1 k2) a2, Q_ord hr (fun K k1 k2 _ => b3 K k1 k2) b2⟩
theorem PR_runAll {σ τ σ1 τ1 : oMem} {z y : Int} (h : Tw σ τ) (hq : QI σ) (hr : QI τ) (A : P5_runAll σ z σ1) (B : P5_runAll τ y τ1) : PC z y σ1 τ1 := by
  obtain ⟨q, μ, a1, a2, a3, a4, a5⟩ := A
  obtain ⟨q', ν, b1, b2, b3, b4, b5⟩ := B
  have h14 := hq.1.2.2.2.2.2.1
  obtain ⟨n, hn⟩ := nat_of h14.1
  rw [h.mvx hq, h.z] at b1
  rw [h.z] at b4 b5
  have hn' : (σ 0 0 14).toNat = n := by omega
  rw [hn'] at a1 a4 a5 b1 b4 b5
  have hT : Tw μ ν := Tw_same h (fun K hK => a2 K (by omega) (by omega) (by omega)) (fun K hK => b2 K (by omega) (by omega) (by omega))
  have hQ := Q_ord hq a2 a3
  have hR := Q_ord hr b2 b3
  have m14 : (n : Int) = μ 0 0 14 := by rw [a2 0 (by decide) (by decide) (by decide)]; omega
  have v14 : (n : Int) = ν 0 0 14 := by rw [hT.z]; exact m14
  have e : ∀ i, i < n → q' i = q i := isBest_uniq (by omega) (fun _ _ _ _ => rfl) b1 a1
  obtain ⟨t1, t2⟩ := hT.ra hQ.1 m14 (isBest_lt a1) e n (Nat.le_refl _)
  refine ⟨by rw [a4, b4, t2], by rw [a5, b5]; exact Tw_up0 t1 0 0 14 (by decide) (by decide) (by decide) rfl, Q_done (Q_ra hQ m14 (isBest_lt a1) n (Nat.le_refl _)) a5, Q_done (Q_ra hR v14 (isBest_lt b1) n (Nat.le_refl _)) b5⟩
theorem FR_runAll {σ σ' : oMem} {z : Int} (h : P5_runAll σ z σ') (K : Nat) (hK : 24 ≤ K) : σ' K = σ K := by
  obtain ⟨q, μ, a1, a2, a3, a4, a5⟩ := h
  rw [a5, o_up_k (by omega), ra_k (by omega) (by omega) (by omega) (by omega) (by omega) (by omega), a2 K (by omega) (by omega) (by omega)]
