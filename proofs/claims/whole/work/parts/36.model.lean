/-- the model's invariant -/
def MI (σ : oMem) : Prop := (0 ≤ σ 24 0 4 ∧ σ 24 0 4 ≤ 20) ∧ (0 ≤ σ 24 0 15 ∧ σ 24 0 15 ≤ 12) ∧ (0 ≤ σ 24 0 18 ∧ σ 24 0 18 ≤ 10) ∧ ((0 ≤ σ 24 0 8 ∧ σ 24 0 8 ≤ 100) ∧ (0 ≤ σ 24 0 9 ∧ σ 24 0 9 ≤ 500) ∧ (2 ≤ σ 24 0 10 ∧ σ 24 0 10 ≤ 16)) ∧ (-1 ≤ σ 24 0 23 ∧ σ 24 0 23 < σ 24 0 18) ∧ (0 ≤ σ 24 0 27 ∧ σ 24 0 27 ≤ 7) ∧ (∀ c : Nat, (c : Int) < σ 24 0 4 → mC σ c ∧ (-1 ≤ σ 38 0 c ∧ σ 38 0 c < σ 24 0 18) ∧ ∀ j : Nat, 0 ≤ σ 38 0 c → (j : Int) < σ 37 0 (σ 38 0 c).toNat → InR (σ 39 0 (15 * c + j)) ∧ InR (σ 40 0 (15 * c + j))) ∧ (∀ r : Nat, (r : Int) < σ 24 0 15 → mO σ r) ∧ (∀ p : Nat, (p : Int) < σ 24 0 18 → mP σ p) ∧ mP σ 10 ∧ ∀ i : Nat, (i : Int) < σ 24 0 27 → (0 ≤ σ 42 0 i ∧ σ 42 0 i < σ 24 0 4) ∧ (0 ≤ σ 43 0 i ∧ σ 43 0 i < σ 24 0 18)
/-- the model's numbers but for 'thrown' -/
theorem MI_thr {σ : oMem} {v : Int} (h : MI σ) : MI (o_up σ 24 0 31 v) := by
  obtain ⟨h1, h2, h3, h4, h5, h6, h7, h8, h9, h10, h11⟩ := h
  have e : ∀ j, j ≠ 31 → o_up σ 24 0 31 v 24 0 j = σ 24 0 j := fun j hj => o_up_j hj
  have k : ∀ K, K ≠ 24 → o_up σ 24 0 31 v K = σ K := fun K hK => o_up_k hK
  have eC : ∀ c, mC (o_up σ 24 0 31 v) c = mC σ c := fun c => by unfold mC mD; rw [k 25 (by decide), k 26 (by decide), k 27 (by decide), k 28 (by decide), k 29 (by decide), k 30 (by decide), k 31 (by decide)]
  have eO : ∀ c, mO (o_up σ 24 0 31 v) c = mO σ c := fun c => by unfold mO; rw [k 32 (by decide), k 33 (by decide), k 34 (by decide), k 35 (by decide)]
  have eP : ∀ c, mP (o_up σ 24 0 31 v) c = mP σ c := fun c => by unfold mP mW; rw [k 36 (by decide), k 37 (by decide)]
  unfold MI
  rw [e 4 (by decide), e 15 (by decide), e 18 (by decide), e 8 (by decide), e 9 (by decide), e 10 (by decide), e 23 (by decide), e 27 (by decide), k 37 (by decide), k 38 (by decide), k 39 (by decide), k 40 (by decide), k 42 (by decide), k 43 (by decide)]
  exact ⟨h1, h2, h3, h4, h5, h6, fun c hc => by rw [eC]; exact h7 c hc, fun r hr => by rw [eO]; exact h8 r hr, fun p hp => by rw [eP]; exact h9 p hp, by rw [eP]; exact h10, h11⟩
set_option maxRecDepth 100000 in
set_option maxHeartbeats 1000000 in
theorem c_X6_run {l : Launch} {g : oG} {σ : oMem} {a b : Int} (hM : MI σ) (h1 : InR a) (h2 : InR b) : oMi l g yX6_run (.code yX6_run cX6_run 4 (some .int)) 5 0 [.ref (g.2.1 24 0), oi a, oi b] σ (fun z σ' => if (mkC σ a ∧ mkP σ b) ∧ ((mkC σ a ∧ mkP σ b) ∧ σ 38 0 a.toNat = -1 ∧ mFit σ b.toNat a.toNat) then z = (mRun (o_up σ 24 0 31 0) a.toNat b.toNat).2 ∧ σ' = (mRun (o_up σ 24 0 31 0) a.toNat b.toNat).1 else σ' = o_up σ 24 0 31 (if (mkC σ a ∧ mkP σ b) then (if ((mkC σ a ∧ mkP σ b) ∧ σ 38 0 a.toNat = -1 ∧ mFit σ b.toNat a.toNat) then 0 else 2) else 1)) := by
  refine oMi_of (own := RX6) (by decide +kernel) rfl (by simp [oi, Value.category]) (by simp) (fun x C E => ?_)
  show oW l g x σ 0 [some (.ref (g.2.1 24 0)), some (oi a), some (oi b), none] [] 0
  obtain ⟨y1, y3, y5, ⟨y7, y8, y9⟩, y10, y14, yC, yO, yP, yD, yW⟩ := id hM
  have K52 : ∀ (v w : Int), v = b2i (mkC σ a ∧ mkP σ b) → w = b2i ((mkC σ a ∧ mkP σ b) ∧ σ 38 0 a.toNat = -1 ∧ mFit σ b.toNat a.toNat) → oW l g x σ 52 [some (.ref (g.2.1 24 0)), some (oi a), some (oi b), some (oi v)] [oi w, oi v, .ref (g.2.1 24 0)] 0 := by
    intro v w hv hw
    subst hv hw
    refine cl_X6_102 (pc := 52) C (c_X6_asked_ (P := (mkC σ a ∧ mkP σ b)) (Q := ((mkC σ a ∧ mkP σ b) ∧ σ 38 0 a.toNat = -1 ∧ mFit σ b.toNat a.toNat))) (by omega) (by omega) (Nat.le_of_ble_eq_true rfl) dX6_run_52 (fun z σ2 hq => ?_)
    obtain ⟨rfl, hq⟩ := hq
    rw [hq]; clear hq
    refine o_if_eq (pc := 55) C (tgt := 67) dX6_run_55 (by decide) (by unfold b2i; split <;> omega) (fun h55 => ?_) (fun h55 => ?_)
    · refine o_iconst (pc := 67) C dX6_run_67 ?_
      first
      | (have y := hft; exact E _ _ _ _ _ dX6_run_68 rfl (by rw [if_pos hq]; exact ⟨rfl, rfl⟩) (by omega))
      | exact E _ _ _ _ _ dX6_run_68 rfl (by rw [if_neg (o_f h55)]) (by omega)
    · have hq := o_t h55
      rw [if_pos hq.1, if_pos hq.2]
      have ea : (a.toNat : Int) = a := by omega
      have eb : (b.toNat : Int) = b := by omega
      have hM2 := MI_thr (v := 0) hM
      obtain ⟨z1, z3, z5, ⟨z7, z8, z9⟩, z10, z14, zC, zO, zP, zD, zW⟩ := id hM2
      have t4 : o_up σ 24 0 31 0 24 0 4 = σ 24 0 4 := o_up_j (by decide)
      have t18 : o_up σ 24 0 31 0 24 0 18 = σ 24 0 18 := o_up_j (by decide)
      rw [t18] at zP z10
      have hcc := zC a.toNat (by rw [t4]; omega)
      have hft : o_sum (mW (o_up σ 24 0 31 0) b.toNat) (o_up σ 24 0 31 0 37 0 b.toNat).toNat ≤ o_up σ 24 0 31 0 25 0 a.toNat := by
        have := hq.2.2.2.1
        have e : mW (o_up σ 24 0 31 0) b.toNat = mW σ b.toNat := by unfold mW; rw [o_up_k (by decide)]
        rw [e, o_up_k (by decide), o_up_k (by decide)]
        omega
      refine o_aload_n (pc := 58) C dX6_run_58 rfl ?_
      refine o_iload_n (pc := 59) C dX6_run_59 rfl ?_
      refine o_iload_n (pc := 60) C dX6_run_60 rfl ?_
      rw [show oi a = oi (a.toNat : Int) by rw [ea], show oi b = oi (b.toNat : Int) by rw [eb]]
      refine cl_X6_154 (pc := 61) C (c_X6_runs (c := a.toNat) (p := b.toNat) (by omega) (by omega) hcc.1 (zP _ (by omega)) z8 (by omega) (fun z => zP _ (by omega)) hft z3 zO) (by omega) (by omega) (Nat.le_of_ble_eq_true rfl) dX6_run_61 (fun z σ2 hq => ?_)
      obtain ⟨rfl, hq⟩ := hq
      rw [hq]; clear hq
      refine o_goto (pc := 64) C (tgt := 68) dX6_run_64 (by decide) ?_
      first
      | (have y := hft; exact E _ _ _ _ _ dX6_run_68 rfl (by rw [if_pos hq]; exact ⟨rfl, rfl⟩) (by omega))
      | exact E _ _ _ _ _ dX6_run_68 rfl (by rw [if_neg (o_f h55)]) (by omega)
  have K21 : ∀ v : Int, v = b2i (mkC σ a ∧ mkP σ b) → oW l g x σ 21 [some (.ref (g.2.1 24 0)), some (oi a), some (oi b), none] [oi v] 0 := by
    intro v hv
    refine sti_3 (pc := 21) C dX6_run_21 ?_
    refine o_aload_n (pc := 22) C dX6_run_22 rfl ?_
    refine o_iload_n (pc := 23) C dX6_run_23 rfl ?_
    refine o_iload_n (pc := 24) C dX6_run_24 rfl ?_
    refine o_if_eq (pc := 25) C (tgt := 51) dX6_run_25 (by decide) (by rw [hv]; unfold b2i; split <;> omega) (fun h25 => ?_) (fun h25 => ?_)
    · refine o_iconst (pc := 51) C dX6_run_51 ?_
      first
      | (have y := h44
         rw [ea, eb]
         first
         | exact K52 _ _ hv (b2i_t ⟨hp, h35, o_t h44⟩)
         | exact K52 _ _ hv (b2i_f (fun z => o_f h44 z.2.2)))
      | (have y := hp; exact K52 _ _ hv (b2i_f (fun z => h35 z.2.1)))
      | (rw [hv] at h25; exact K52 _ _ hv (b2i_f (fun z => o_f h25 z.1)))
    · rw [hv] at h25
      have hp := o_t h25
      have hcc := yC a.toNat (by omega)
      have hb38 := hcc.2.1
      have ea : (a.toNat : Int) = a := by omega
      have eb : (b.toNat : Int) = b := by omega
      refine o_aload_n (pc := 28) C dX6_run_28 rfl ?_
      refine gf_X6_59 (pc := 29) C dX6_run_29 ?_
      refine o_iload_n (pc := 32) C dX6_run_32 rfl ?_
      refine ia_38 (pc := 33) C (by omega) (by omega) dX6_run_33 ?_
      refine o_iconst (pc := 34) C dX6_run_34 ?_
      refine o_icmp_ne (pc := 35) C (tgt := 51) dX6_run_35 (by decide) (by omega) (by omega) (fun h35 => ?_) (fun h35 => ?_)
      · refine o_iconst (pc := 51) C dX6_run_51 ?_
        first
        | (have y := h44
           rw [ea, eb]
           first
           | exact K52 _ _ hv (b2i_t ⟨hp, h35, o_t h44⟩)
           | exact K52 _ _ hv (b2i_f (fun z => o_f h44 z.2.2)))
        | (have y := hp; exact K52 _ _ hv (b2i_f (fun z => h35 z.2.1)))
        | (rw [hv] at h25; exact K52 _ _ hv (b2i_f (fun z => o_f h25 z.1)))
      · refine o_aload_n (pc := 38) C dX6_run_38 rfl ?_
        refine o_iload_n (pc := 39) C dX6_run_39 rfl ?_
        refine o_iload_n (pc := 40) C dX6_run_40 rfl ?_
        rw [show oi a = oi (a.toNat : Int) by rw [ea], show oi b = oi (b.toNat : Int) by rw [eb]]
        refine cl_X6_134 (pc := 41) C (c_X6_canRun (p := b.toNat) (c := a.toNat) (by omega) (by omega) (yP _ (by omega)) y7 (by have := hcc.1.1; omega) (by omega)) (by omega) (by omega) (Nat.le_of_ble_eq_true rfl) dX6_run_41 (fun z σ2 hq => ?_)
        obtain ⟨rfl, hq⟩ := hq
        rw [hq]; clear hq
        refine o_if_eq (pc := 44) C (tgt := 51) dX6_run_44 (by decide) (by unfold b2i; split <;> omega) (fun h44 => ?_) (fun h44 => ?_)
        · refine o_iconst (pc := 51) C dX6_run_51 ?_
          first
          | (have y := h44
             rw [ea, eb]
             first
             | exact K52 _ _ hv (b2i_t ⟨hp, h35, o_t h44⟩)
             | exact K52 _ _ hv (b2i_f (fun z => o_f h44 z.2.2)))
          | (have y := hp; exact K52 _ _ hv (b2i_f (fun z => h35 z.2.1)))
          | (rw [hv] at h25; exact K52 _ _ hv (b2i_f (fun z => o_f h25 z.1)))
        · refine o_iconst (pc := 47) C dX6_run_47 ?_
          refine o_goto (pc := 48) C (tgt := 52) dX6_run_48 (by decide) ?_
          first
          | (have y := h44
             rw [ea, eb]
             first
             | exact K52 _ _ hv (b2i_t ⟨hp, h35, o_t h44⟩)
             | exact K52 _ _ hv (b2i_f (fun z => o_f h44 z.2.2)))
          | (have y := hp; exact K52 _ _ hv (b2i_f (fun z => h35 z.2.1)))
          | (rw [hv] at h25; exact K52 _ _ hv (b2i_f (fun z => o_f h25 z.1)))
  refine o_aload_n (pc := 0) C dX6_run_0 rfl ?_
  refine o_iload_n (pc := 1) C dX6_run_1 rfl ?_
  refine cl_X6_106 (pc := 2) C (c_X6_isCoil h1 y1) (by omega) (by omega) (Nat.le_of_ble_eq_true rfl) dX6_run_2 (fun z σ2 hq => ?_)
  obtain ⟨rfl, hq⟩ := hq
  rw [hq]; clear hq
  refine o_if_eq (pc := 5) C (tgt := 20) dX6_run_5 (by decide) (by unfold b2i; split <;> omega) (fun h5 => ?_) (fun h5 => ?_)
  · refine o_iconst (pc := 20) C dX6_run_20 ?_
    first
    | exact K21 _ (b2i_t ⟨o_t h5, o_t h13⟩)
    | exact K21 _ (b2i_f (fun z => o_f h5 z.1))
    | exact K21 _ (b2i_f (fun z => o_f h13 z.2))
  · refine o_aload_n (pc := 8) C dX6_run_8 rfl ?_
    refine o_iload_n (pc := 9) C dX6_run_9 rfl ?_
    refine cl_X6_131 (pc := 10) C (c_X6_isPattern h2 y5) (by omega) (by omega) (Nat.le_of_ble_eq_true rfl) dX6_run_10 (fun z σ2 hq => ?_)
    obtain ⟨rfl, hq⟩ := hq
    rw [hq]; clear hq
    refine o_if_eq (pc := 13) C (tgt := 20) dX6_run_13 (by decide) (by unfold b2i; split <;> omega) (fun h13 => ?_) (fun h13 => ?_)
    · refine o_iconst (pc := 20) C dX6_run_20 ?_
      first
      | exact K21 _ (b2i_t ⟨o_t h5, o_t h13⟩)
      | exact K21 _ (b2i_f (fun z => o_f h5 z.1))
      | exact K21 _ (b2i_f (fun z => o_f h13 z.2))
    · refine o_iconst (pc := 16) C dX6_run_16 ?_
      refine o_goto (pc := 17) C (tgt := 21) dX6_run_17 (by decide) ?_
      first
      | exact K21 _ (b2i_t ⟨o_t h5, o_t h13⟩)
      | exact K21 _ (b2i_f (fun z => o_f h5 z.1))
      | exact K21 _ (b2i_f (fun z => o_f h13 z.2))
set_option maxRecDepth 100000 in
set_option maxHeartbeats 1000000 in
theorem c_X6_plan {l : Launch} {g : oG} {σ : oMem} {a b : Int} (hM : MI σ) (h1 : InR a) (h2 : InR b) : oMi l g yX6_plan (.code yX6_plan cX6_plan 6 (some .int)) 5 0 [.ref (g.2.1 24 0), oi a, oi b] σ (fun z σ' => ((mkC σ a ∧ mkP σ b) ∧ (((mkC σ a ∧ mkP σ b) ∧ σ 38 0 a.toNat = -1 ∧ mFit σ b.toNat a.toNat ∧ σ 24 0 27 < 7) ∧ ∀ k : Nat, (k : Int) < σ 24 0 27 → σ 42 0 k ≠ a) → z = σ 24 0 27 ∧ σ' = o_up (o_up (o_up (o_up σ 24 0 31 0) 42 0 (σ 24 0 27).toNat a) 43 0 (σ 24 0 27).toNat b) 24 0 27 (σ 24 0 27 + 1)) ∧ (¬ (mkC σ a ∧ mkP σ b) → σ' = o_up σ 24 0 31 1) ∧ ((mkC σ a ∧ mkP σ b) → ¬ (((mkC σ a ∧ mkP σ b) ∧ σ 38 0 a.toNat = -1 ∧ mFit σ b.toNat a.toNat ∧ σ 24 0 27 < 7) ∧ ∀ k : Nat, (k : Int) < σ 24 0 27 → σ 42 0 k ≠ a) → σ' = o_up σ 24 0 31 2)) := by
  refine oMi_of (own := RX6) (by decide +kernel) rfl (by simp [oi, Value.category]) (by simp) (fun x C E => ?_)
  show oW l g x σ 0 [some (.ref (g.2.1 24 0)), some (oi a), some (oi b), none, none, none] [] 0
  obtain ⟨y1, y3, y5, ⟨y7, y8, y9⟩, y10, y14, yC, yO, yP, yD, yW⟩ := id hM
  have L : ∀ (u : Int), u = b2i (mkC σ a ∧ mkP σ b) → ∀ (n t : Nat) (v i : Int), σ 24 0 27 < t + n → (t : Int) ≤ σ 24 0 27 → i = t → (v = 1 ∧ (((mkC σ a ∧ mkP σ b) ∧ σ 38 0 a.toNat = -1 ∧ mFit σ b.toNat a.toNat ∧ σ 24 0 27 < 7) ∧ ∀ k : Nat, k < t → σ 42 0 k ≠ a) ∨ v = 0 ∧ ¬ (((mkC σ a ∧ mkP σ b) ∧ σ 38 0 a.toNat = -1 ∧ mFit σ b.toNat a.toNat ∧ σ 24 0 27 < 7) ∧ ∀ k : Nat, k < t → σ 42 0 k ≠ a)) → oW l g x σ 64 [some (.ref (g.2.1 24 0)), some (oi a), some (oi b), some (oi u), some (oi v), some (oi i)] [] 0 := by
    intro u hu n
    induction n with
    | zero => intro t v i a1 a2; omega
    | succ n ih =>
      intro t v i a1 a2 a3 a4
      subst a3
      have et : ((t : Int)).toNat = t := by omega
      have hfin : t = (σ 24 0 27).toNat → ∀ (dec : Decidable (((mkC σ a ∧ mkP σ b) ∧ σ 38 0 a.toNat = -1 ∧ mFit σ b.toNat a.toNat ∧ σ 24 0 27 < 7) ∧ ∀ k : Nat, (k : Int) < σ 24 0 27 → σ 42 0 k ≠ a)), v = b2i (((mkC σ a ∧ mkP σ b) ∧ σ 38 0 a.toNat = -1 ∧ mFit σ b.toNat a.toNat ∧ σ 24 0 27 < 7) ∧ ∀ k : Nat, (k : Int) < σ 24 0 27 → σ 42 0 k ≠ a) := fun e _ => by
        rcases a4 with ⟨v1, v2, v3⟩ | ⟨v1, v2⟩
        · rw [v1]; exact b2i_t ⟨v2, fun k hk => v3 k (by omega)⟩
        · rw [v1]; exact b2i_f (fun q => v2 ⟨q.1, fun k hk => q.2 k (by omega)⟩)
      have hx42 : (t : Int) < σ 24 0 27 → InR (σ 42 0 t) := fun hh => by have := yW t hh; omega
      refine o_iload (pc := 64) C dX6_plan_64 rfl ?_
      refine o_aload_n (pc := 66) C dX6_plan_66 rfl ?_
      refine gf_X6_157 (pc := 67) C dX6_plan_67 ?_
      try simp (disch := decide) only [o_up_s, o_up_k, o_up_j, o_bl_k, o_rw_k]
      refine o_icmp_ge (pc := 70) C (tgt := 102) dX6_plan_70 (by decide) (by omega) (by omega) (fun h70 => ?_) (fun h70 => ?_)
      · have dec : Decidable (∀ k : Nat, (k : Int) < σ 24 0 27 → σ 42 0 k ≠ a) := Classical.propDecidable _
        have hv2 := hfin (by omega) inferInstance
        subst hu hv2
        refine o_aload_n (pc := 102) C dX6_plan_102 rfl ?_
        refine o_iload_n (pc := 103) C dX6_plan_103 rfl ?_
        refine o_iload (pc := 104) C dX6_plan_104 rfl ?_
        refine cl_X6_102 (pc := 106) C (c_X6_asked_ (P := (mkC σ a ∧ mkP σ b)) (Q := (((mkC σ a ∧ mkP σ b) ∧ σ 38 0 a.toNat = -1 ∧ mFit σ b.toNat a.toNat ∧ σ 24 0 27 < 7) ∧ ∀ k : Nat, (k : Int) < σ 24 0 27 → σ 42 0 k ≠ a))) (by omega) (by omega) (Nat.le_of_ble_eq_true rfl) dX6_plan_106 (fun z σ2 hq => ?_)
        obtain ⟨rfl, hq⟩ := hq
        rw [hq]; clear hq
        refine o_if_ne (pc := 109) C (tgt := 114) dX6_plan_109 (by decide) (by unfold b2i; split <;> omega) (fun h109 => ?_) (fun h109 => ?_)
        · have hq := o_t h109
          rw [if_pos hq.1, if_pos hq.2]
          refine o_aload_n (pc := 114) C dX6_plan_114 rfl ?_
          refine gf_X6_74 (pc := 115) C dX6_plan_115 ?_
          refine o_aload_n (pc := 118) C dX6_plan_118 rfl ?_
          refine gf_X6_157 (pc := 119) C dX6_plan_119 ?_
          try simp (disch := decide) only [o_up_s, o_up_k, o_up_j, o_bl_k, o_rw_k]
          refine o_iload_n (pc := 122) C dX6_plan_122 rfl ?_
          refine is_42 (pc := 123) C (by omega) (by omega) dX6_plan_123 ?_
          refine o_aload_n (pc := 124) C dX6_plan_124 rfl ?_
          refine gf_X6_77 (pc := 125) C dX6_plan_125 ?_
          refine o_aload_n (pc := 128) C dX6_plan_128 rfl ?_
          refine gf_X6_157 (pc := 129) C dX6_plan_129 ?_
          try simp (disch := decide) only [o_up_s, o_up_k, o_up_j, o_bl_k, o_rw_k]
          refine o_iload_n (pc := 132) C dX6_plan_132 rfl ?_
          refine is_43 (pc := 133) C (by omega) (by omega) dX6_plan_133 ?_
          refine o_aload_n (pc := 134) C dX6_plan_134 rfl ?_
          refine o_dup (pc := 135) C dX6_plan_135 rfl ?_
          refine gf_X6_157 (pc := 136) C dX6_plan_136 ?_
          try simp (disch := decide) only [o_up_s, o_up_k, o_up_j, o_bl_k, o_rw_k]
          refine o_iconst (pc := 139) C dX6_plan_139 ?_
          refine o_iadd (pc := 140) C dX6_plan_140 ?_
          refine pf_X6_157 (pc := 141) C dX6_plan_141 ?_
          refine o_aload_n (pc := 144) C dX6_plan_144 rfl ?_
          refine gf_X6_157 (pc := 145) C dX6_plan_145 ?_
          try simp (disch := decide) only [o_up_s, o_up_k, o_up_j, o_bl_k, o_rw_k]
          refine o_iconst (pc := 148) C dX6_plan_148 ?_
          refine o_isub (pc := 149) C dX6_plan_149 ?_
          first
          | (have y := hq; exact E _ _ _ _ _ dX6_plan_150 rfl ⟨fun _ => ⟨by omega, rfl⟩, fun q => absurd hq.1 q, fun _ q => absurd hq.2 q⟩ (by omega))
          | (have y := o_f h109; exact E _ _ _ _ _ dX6_plan_150 rfl ⟨fun q => absurd q y, fun q => by rw [if_neg q], fun q q2 => by rw [if_pos q, if_neg q2]⟩ (by omega))
        · refine o_iconst (pc := 112) C dX6_plan_112 ?_
          first
          | (have y := hq; exact E _ _ _ _ _ dX6_plan_113 rfl ⟨fun _ => ⟨by omega, rfl⟩, fun q => absurd hq.1 q, fun _ q => absurd hq.2 q⟩ (by omega))
          | (have y := o_f h109; exact E _ _ _ _ _ dX6_plan_113 rfl ⟨fun q => absurd q y, fun q => by rw [if_neg q], fun q q2 => by rw [if_pos q, if_neg q2]⟩ (by omega))
      · refine o_iload (pc := 73) C dX6_plan_73 rfl ?_
        refine o_if_eq (pc := 75) C (tgt := 93) dX6_plan_75 (by decide) (by omega) (fun h75 => ?_) (fun h75 => ?_)
        · refine o_iconst (pc := 93) C dX6_plan_93 ?_
          refine sti_4 (pc := 94) C dX6_plan_94 ?_
          refine inc_5 (pc := 96) C dX6_plan_96 ?_
          refine o_goto (pc := 99) C (tgt := 64) dX6_plan_99 (by decide) ?_
          first
          | (have y := h86
             refine ih (t + 1) _ _ (by omega) (by omega) (by omega) ?_
             rw [et] at h86
             first
             | (refine Or.inl ⟨rfl, ?_⟩
                rcases a4 with ⟨v1, v2, v3⟩ | ⟨v1, v2⟩
                · refine ⟨v2, fun k hk => ?_⟩
                  rcases Nat.lt_succ_iff_lt_or_eq.mp hk with z | z
                  · exact v3 k z
                  · rw [z]; exact h86
                · exact absurd v1 h75)
             | exact Or.inr ⟨rfl, fun q => q.2 t (by omega) h86⟩)
          | (refine ih (t + 1) _ _ (by omega) (by omega) (by omega) (Or.inr ⟨rfl, fun q => ?_⟩)
             rcases a4 with ⟨v1, v2, v3⟩ | ⟨v1, v2⟩
             · omega
             · exact v2 ⟨q.1, fun k hk => q.2 k (by omega)⟩)
        · refine o_aload_n (pc := 78) C dX6_plan_78 rfl ?_
          refine gf_X6_74 (pc := 79) C dX6_plan_79 ?_
          refine o_iload (pc := 82) C dX6_plan_82 rfl ?_
          refine ia_42 (pc := 84) C (by omega) (by omega) dX6_plan_84 ?_
          try simp (disch := decide) only [o_up_s, o_up_k, o_up_j, o_bl_k, o_rw_k]
          refine o_iload_n (pc := 85) C dX6_plan_85 rfl ?_
          refine o_icmp_eq (pc := 86) C (tgt := 93) dX6_plan_86 (by decide) (by rw [et]; exact hx42 (by omega)) (by omega) (fun h86 => ?_) (fun h86 => ?_)
          · refine o_iconst (pc := 93) C dX6_plan_93 ?_
            refine sti_4 (pc := 94) C dX6_plan_94 ?_
            refine inc_5 (pc := 96) C dX6_plan_96 ?_
            refine o_goto (pc := 99) C (tgt := 64) dX6_plan_99 (by decide) ?_
            first
            | (have y := h86
               refine ih (t + 1) _ _ (by omega) (by omega) (by omega) ?_
               rw [et] at h86
               first
               | (refine Or.inl ⟨rfl, ?_⟩
                  rcases a4 with ⟨v1, v2, v3⟩ | ⟨v1, v2⟩
                  · refine ⟨v2, fun k hk => ?_⟩
                    rcases Nat.lt_succ_iff_lt_or_eq.mp hk with z | z
                    · exact v3 k z
                    · rw [z]; exact h86
                  · exact absurd v1 h75)
               | exact Or.inr ⟨rfl, fun q => q.2 t (by omega) h86⟩)
            | (refine ih (t + 1) _ _ (by omega) (by omega) (by omega) (Or.inr ⟨rfl, fun q => ?_⟩)
               rcases a4 with ⟨v1, v2, v3⟩ | ⟨v1, v2⟩
               · omega
               · exact v2 ⟨q.1, fun k hk => q.2 k (by omega)⟩)
          · refine o_iconst (pc := 89) C dX6_plan_89 ?_
            refine o_goto (pc := 90) C (tgt := 94) dX6_plan_90 (by decide) ?_
            refine sti_4 (pc := 94) C dX6_plan_94 ?_
            refine inc_5 (pc := 96) C dX6_plan_96 ?_
            refine o_goto (pc := 99) C (tgt := 64) dX6_plan_99 (by decide) ?_
            first
            | (have y := h86
               refine ih (t + 1) _ _ (by omega) (by omega) (by omega) ?_
               rw [et] at h86
               first
               | (refine Or.inl ⟨rfl, ?_⟩
                  rcases a4 with ⟨v1, v2, v3⟩ | ⟨v1, v2⟩
                  · refine ⟨v2, fun k hk => ?_⟩
                    rcases Nat.lt_succ_iff_lt_or_eq.mp hk with z | z
                    · exact v3 k z
                    · rw [z]; exact h86
                  · exact absurd v1 h75)
               | exact Or.inr ⟨rfl, fun q => q.2 t (by omega) h86⟩)
            | (refine ih (t + 1) _ _ (by omega) (by omega) (by omega) (Or.inr ⟨rfl, fun q => ?_⟩)
               rcases a4 with ⟨v1, v2, v3⟩ | ⟨v1, v2⟩
               · omega
               · exact v2 ⟨q.1, fun k hk => q.2 k (by omega)⟩)
  have K59 : ∀ (u v : Int), u = b2i (mkC σ a ∧ mkP σ b) → v = b2i ((mkC σ a ∧ mkP σ b) ∧ σ 38 0 a.toNat = -1 ∧ mFit σ b.toNat a.toNat ∧ σ 24 0 27 < 7) → oW l g x σ 59 [some (.ref (g.2.1 24 0)), some (oi a), some (oi b), some (oi u), none, none] [oi v] 0 := by
    intro u v hu hv
    refine sti_4 (pc := 59) C dX6_plan_59 ?_
    refine o_iconst (pc := 61) C dX6_plan_61 ?_
    refine sti_5 (pc := 62) C dX6_plan_62 ?_
    refine L u hu 8 0 _ _ (by omega) (by omega) rfl ?_
    by_cases q : ((mkC σ a ∧ mkP σ b) ∧ σ 38 0 a.toNat = -1 ∧ mFit σ b.toNat a.toNat ∧ σ 24 0 27 < 7)
    · exact Or.inl ⟨by rw [hv]; exact if_pos q, q, fun k hk => absurd hk (Nat.not_lt_zero k)⟩
    · exact Or.inr ⟨by rw [hv]; exact if_neg q, fun z => q z.1⟩
  have K21 : ∀ v : Int, v = b2i (mkC σ a ∧ mkP σ b) → oW l g x σ 21 [some (.ref (g.2.1 24 0)), some (oi a), some (oi b), none, none, none] [oi v] 0 := by
    intro v hv
    refine sti_3 (pc := 21) C dX6_plan_21 ?_
    refine o_iload_n (pc := 22) C dX6_plan_22 rfl ?_
    refine o_if_eq (pc := 23) C (tgt := 58) dX6_plan_23 (by decide) (by rw [hv]; unfold b2i; split <;> omega) (fun h23 => ?_) (fun h23 => ?_)
    · refine o_iconst (pc := 58) C dX6_plan_58 ?_
      first
      | (have y := h51
         first
         | exact K59 _ _ hv (b2i_t ⟨hp, h33, o_t h42, h51⟩)
         | exact K59 _ _ hv (b2i_f (fun z => by have := z.2.2.2; omega)))
      | (have y := h42
         first
         | exact K59 _ _ hv (b2i_f (fun z => o_f h42 z.2.2.1))
         | (rw [ea, eb]; exact K59 _ _ hv (b2i_f (fun z => o_f h42 z.2.2.1))))
      | (have y := hp; exact K59 _ _ hv (b2i_f (fun z => h33 z.2.1)))
      | (rw [hv] at h23; exact K59 _ _ hv (b2i_f (fun z => o_f h23 z.1)))
    · rw [hv] at h23
      have hp := o_t h23
      have hcc := yC a.toNat (by omega)
      have hb38 := hcc.2.1
      have ea : (a.toNat : Int) = a := by omega
      have eb : (b.toNat : Int) = b := by omega
      refine o_aload_n (pc := 26) C dX6_plan_26 rfl ?_
      refine gf_X6_59 (pc := 27) C dX6_plan_27 ?_
      refine o_iload_n (pc := 30) C dX6_plan_30 rfl ?_
      refine ia_38 (pc := 31) C (by omega) (by omega) dX6_plan_31 ?_
      refine o_iconst (pc := 32) C dX6_plan_32 ?_
      refine o_icmp_ne (pc := 33) C (tgt := 58) dX6_plan_33 (by decide) (by omega) (by omega) (fun h33 => ?_) (fun h33 => ?_)
      · refine o_iconst (pc := 58) C dX6_plan_58 ?_
        first
        | (have y := h51
           first
           | exact K59 _ _ hv (b2i_t ⟨hp, h33, o_t h42, h51⟩)
           | exact K59 _ _ hv (b2i_f (fun z => by have := z.2.2.2; omega)))
        | (have y := h42
           first
           | exact K59 _ _ hv (b2i_f (fun z => o_f h42 z.2.2.1))
           | (rw [ea, eb]; exact K59 _ _ hv (b2i_f (fun z => o_f h42 z.2.2.1))))
        | (have y := hp; exact K59 _ _ hv (b2i_f (fun z => h33 z.2.1)))
        | (rw [hv] at h23; exact K59 _ _ hv (b2i_f (fun z => o_f h23 z.1)))
      · refine o_aload_n (pc := 36) C dX6_plan_36 rfl ?_
        refine o_iload_n (pc := 37) C dX6_plan_37 rfl ?_
        refine o_iload_n (pc := 38) C dX6_plan_38 rfl ?_
        rw [show oi a = oi (a.toNat : Int) by rw [ea], show oi b = oi (b.toNat : Int) by rw [eb]]
        refine cl_X6_134 (pc := 39) C (c_X6_canRun (p := b.toNat) (c := a.toNat) (by omega) (by omega) (yP _ (by omega)) y7 (by have := hcc.1.1; omega) (by omega)) (by omega) (by omega) (Nat.le_of_ble_eq_true rfl) dX6_plan_39 (fun z σ2 hq => ?_)
        obtain ⟨rfl, hq⟩ := hq
        rw [hq]; clear hq
        refine o_if_eq (pc := 42) C (tgt := 58) dX6_plan_42 (by decide) (by unfold b2i; split <;> omega) (fun h42 => ?_) (fun h42 => ?_)
        · refine o_iconst (pc := 58) C dX6_plan_58 ?_
          first
          | (have y := h51
             first
             | exact K59 _ _ hv (b2i_t ⟨hp, h33, o_t h42, h51⟩)
             | exact K59 _ _ hv (b2i_f (fun z => by have := z.2.2.2; omega)))
          | (have y := h42
             first
             | exact K59 _ _ hv (b2i_f (fun z => o_f h42 z.2.2.1))
             | (rw [ea, eb]; exact K59 _ _ hv (b2i_f (fun z => o_f h42 z.2.2.1))))
          | (have y := hp; exact K59 _ _ hv (b2i_f (fun z => h33 z.2.1)))
          | (rw [hv] at h23; exact K59 _ _ hv (b2i_f (fun z => o_f h23 z.1)))
        · try rw [ea]
          try rw [eb]
          refine o_aload_n (pc := 45) C dX6_plan_45 rfl ?_
          refine gf_X6_157 (pc := 46) C dX6_plan_46 ?_
          refine o_bipush (pc := 49) C dX6_plan_49 rfl ?_
          refine o_icmp_ge (pc := 51) C (tgt := 58) dX6_plan_51 (by decide) (by omega) (by omega) (fun h51 => ?_) (fun h51 => ?_)
          · refine o_iconst (pc := 58) C dX6_plan_58 ?_
            first
            | (have y := h51
               first
               | exact K59 _ _ hv (b2i_t ⟨hp, h33, o_t h42, h51⟩)
               | exact K59 _ _ hv (b2i_f (fun z => by have := z.2.2.2; omega)))
            | (have y := h42
               first
               | exact K59 _ _ hv (b2i_f (fun z => o_f h42 z.2.2.1))
               | (rw [ea, eb]; exact K59 _ _ hv (b2i_f (fun z => o_f h42 z.2.2.1))))
            | (have y := hp; exact K59 _ _ hv (b2i_f (fun z => h33 z.2.1)))
            | (rw [hv] at h23; exact K59 _ _ hv (b2i_f (fun z => o_f h23 z.1)))
          · refine o_iconst (pc := 54) C dX6_plan_54 ?_
            refine o_goto (pc := 55) C (tgt := 59) dX6_plan_55 (by decide) ?_
            first
            | (have y := h51
               first
               | exact K59 _ _ hv (b2i_t ⟨hp, h33, o_t h42, h51⟩)
               | exact K59 _ _ hv (b2i_f (fun z => by have := z.2.2.2; omega)))
            | (have y := h42
               first
               | exact K59 _ _ hv (b2i_f (fun z => o_f h42 z.2.2.1))
               | (rw [ea, eb]; exact K59 _ _ hv (b2i_f (fun z => o_f h42 z.2.2.1))))
            | (have y := hp; exact K59 _ _ hv (b2i_f (fun z => h33 z.2.1)))
            | (rw [hv] at h23; exact K59 _ _ hv (b2i_f (fun z => o_f h23 z.1)))
  refine o_aload_n (pc := 0) C dX6_plan_0 rfl ?_
  refine o_iload_n (pc := 1) C dX6_plan_1 rfl ?_
  refine cl_X6_106 (pc := 2) C (c_X6_isCoil h1 y1) (by omega) (by omega) (Nat.le_of_ble_eq_true rfl) dX6_plan_2 (fun z σ2 hq => ?_)
  obtain ⟨rfl, hq⟩ := hq
  rw [hq]; clear hq
  refine o_if_eq (pc := 5) C (tgt := 20) dX6_plan_5 (by decide) (by unfold b2i; split <;> omega) (fun h5 => ?_) (fun h5 => ?_)
  · refine o_iconst (pc := 20) C dX6_plan_20 ?_
    first
    | exact K21 _ (b2i_t ⟨o_t h5, o_t h13⟩)
    | exact K21 _ (b2i_f (fun z => o_f h5 z.1))
    | exact K21 _ (b2i_f (fun z => o_f h13 z.2))
  · refine o_aload_n (pc := 8) C dX6_plan_8 rfl ?_
    refine o_iload_n (pc := 9) C dX6_plan_9 rfl ?_
    refine cl_X6_131 (pc := 10) C (c_X6_isPattern h2 y5) (by omega) (by omega) (Nat.le_of_ble_eq_true rfl) dX6_plan_10 (fun z σ2 hq => ?_)
    obtain ⟨rfl, hq⟩ := hq
    rw [hq]; clear hq
    refine o_if_eq (pc := 13) C (tgt := 20) dX6_plan_13 (by decide) (by unfold b2i; split <;> omega) (fun h13 => ?_) (fun h13 => ?_)
    · refine o_iconst (pc := 20) C dX6_plan_20 ?_
      first
      | exact K21 _ (b2i_t ⟨o_t h5, o_t h13⟩)
      | exact K21 _ (b2i_f (fun z => o_f h5 z.1))
      | exact K21 _ (b2i_f (fun z => o_f h13 z.2))
    · refine o_iconst (pc := 16) C dX6_plan_16 ?_
      refine o_goto (pc := 17) C (tgt := 21) dX6_plan_17 (by decide) ?_
      first
      | exact K21 _ (b2i_t ⟨o_t h5, o_t h13⟩)
      | exact K21 _ (b2i_f (fun z => o_f h5 z.1))
      | exact K21 _ (b2i_f (fun z => o_f h13 z.2))
set_option maxRecDepth 100000 in
set_option maxHeartbeats 1000000 in
theorem c_X6_moves {l : Launch} {g : oG} {σ : oMem} {a : Int} (hM : MI σ) (h1 : InR a) : oMi l g yX6_moves (.code yX6_moves cX6_moves 2 (some .int)) 4 0 [.ref (g.2.1 24 0), oi a] σ (fun z σ' => ((mkP σ a) → z = mMv σ (σ 24 0 23) a.toNat) ∧ σ' = o_up σ 24 0 31 (if (mkP σ a) then 0 else 1)) := by
  refine oMi_of (own := RX6) (by decide +kernel) rfl (by simp [oi, Value.category]) (by simp) (fun x C E => ?_)
  show oW l g x σ 0 [some (.ref (g.2.1 24 0)), some (oi a)] [] 0
  obtain ⟨y1, y3, y5, ⟨y7, y8, y9⟩, y10, y14, yC, yO, yP, yD, yW⟩ := id hM
  refine o_aload_n (pc := 0) C dX6_moves_0 rfl ?_
  refine o_aload_n (pc := 1) C dX6_moves_1 rfl ?_
  refine o_iload_n (pc := 2) C dX6_moves_2 rfl ?_
  refine cl_X6_131 (pc := 3) C (c_X6_isPattern h1 y5) (by omega) (by omega) (Nat.le_of_ble_eq_true rfl) dX6_moves_3 (fun z σ2 hq => ?_)
  obtain ⟨rfl, hq⟩ := hq
  rw [hq]; clear hq
  refine cl_X6_117 (pc := 6) C (c_X6_asked (P := (mkP σ a))) (by omega) (by omega) (Nat.le_of_ble_eq_true rfl) dX6_moves_6 (fun z σ2 hq => ?_)
  obtain ⟨rfl, hq⟩ := hq
  rw [hq]; clear hq
  refine o_if_eq (pc := 9) C (tgt := 24) dX6_moves_9 (by decide) (by unfold b2i; split <;> omega) (fun h9 => ?_) (fun h9 => ?_)
  · refine o_iconst (pc := 24) C dX6_moves_24 ?_
    first
    | (have y := hq; exact E _ _ _ _ _ dX6_moves_25 rfl ⟨fun _ => by unfold mMv mW; rw [o_up_k (by decide), o_up_k (by decide)], rfl⟩ (by omega))
    | exact E _ _ _ _ _ dX6_moves_25 rfl ⟨fun q => absurd q (o_f h9), rfl⟩ (by omega)
  · have hq := o_t h9
    have ea : (a.toNat : Int) = a := by omega
    have hM2 := MI_thr (v := if mkP σ a then 0 else 1) hM
    obtain ⟨z1, z3, z5, ⟨z7, z8, z9⟩, z10, z14, zC, zO, zP, zD, zW⟩ := id hM2
    rw [show o_up σ 24 0 31 (if mkP σ a then 0 else 1) 24 0 18 = σ 24 0 18 from o_up_j (by decide)] at zP
    refine o_aload_n (pc := 12) C dX6_moves_12 rfl ?_
    refine o_aload_n (pc := 13) C dX6_moves_13 rfl ?_
    refine gf_X6_71 (pc := 14) C dX6_moves_14 ?_
    try simp (disch := decide) only [o_up_s, o_up_k, o_up_j, o_bl_k, o_rw_k]
    refine o_iload_n (pc := 17) C dX6_moves_17 rfl ?_
    rw [show oi a = oi (a.toNat : Int) by rw [ea]]
    refine cl_X6_150 (pc := 18) C (c_X6_movesFrom (p := a.toNat) (by omega) (zP _ (by omega)) (by omega) (fun z => zP _ (by omega))) (by omega) (by omega) (Nat.le_of_ble_eq_true rfl) dX6_moves_18 (fun z σ2 hq => ?_)
    obtain ⟨rfl, hq⟩ := hq
    rw [hq]; clear hq
    refine o_goto (pc := 21) C (tgt := 25) dX6_moves_21 (by decide) ?_
    first
    | (have y := hq; exact E _ _ _ _ _ dX6_moves_25 rfl ⟨fun _ => by unfold mMv mW; rw [o_up_k (by decide), o_up_k (by decide)], rfl⟩ (by omega))
    | exact E _ _ _ _ _ dX6_moves_25 rfl ⟨fun q => absurd q (o_f h9), rfl⟩ (by omega)
set_option maxRecDepth 100000 in
set_option maxHeartbeats 1000000 in
theorem c_X6_moved {l : Launch} {g : oG} {σ : oMem}   : oMi l g yX6_moved (.code yX6_moved cX6_moved 1 (some .int)) 2 0 [.ref (g.2.1 24 0)] σ (fun z σ' => z = σ 24 0 24 ∧ σ' = o_up σ 24 0 31 0) := by
  refine oMi_of (own := RX6) (by decide +kernel) rfl (by simp [oi, Value.category]) (by simp) (fun x C E => ?_)
  show oW l g x σ 0 [some (.ref (g.2.1 24 0))] [] 0
  refine o_aload_n (pc := 0) C dX6_moved_0 rfl ?_
  refine o_aload_n (pc := 1) C dX6_moved_1 rfl ?_
  refine gf_X6_147 (pc := 2) C dX6_moved_2 ?_
  refine cl_X6_128 (pc := 5) C (c_X6_told) (by omega) (by omega) (Nat.le_of_ble_eq_true rfl) dX6_moved_5 (fun z σ2 hq => ?_)
  obtain ⟨rfl, hq⟩ := hq
  rw [hq]; clear hq
  exact E _ _ _ _ _ dX6_moved_8 rfl ⟨rfl, rfl⟩ (by omega)
set_option maxRecDepth 100000 in
set_option maxHeartbeats 1000000 in
theorem c_X6_waiting {l : Launch} {g : oG} {σ : oMem}   : oMi l g yX6_waiting (.code yX6_waiting cX6_waiting 1 (some .int)) 2 0 [.ref (g.2.1 24 0)] σ (fun z σ' => z = σ 24 0 27 ∧ σ' = o_up σ 24 0 31 0) := by
  refine oMi_of (own := RX6) (by decide +kernel) rfl (by simp [oi, Value.category]) (by simp) (fun x C E => ?_)
  show oW l g x σ 0 [some (.ref (g.2.1 24 0))] [] 0
  refine o_aload_n (pc := 0) C dX6_waiting_0 rfl ?_
  refine o_aload_n (pc := 1) C dX6_waiting_1 rfl ?_
  refine gf_X6_157 (pc := 2) C dX6_waiting_2 ?_
  refine cl_X6_128 (pc := 5) C (c_X6_told) (by omega) (by omega) (Nat.le_of_ble_eq_true rfl) dX6_waiting_5 (fun z σ2 hq => ?_)
  obtain ⟨rfl, hq⟩ := hq
  rw [hq]; clear hq
  exact E _ _ _ _ _ dX6_waiting_8 rfl ⟨rfl, rfl⟩ (by omega)
