/-- the widths that open orders would take of this heat -/
def oWt (σ : oMem) (h v : Int) : Prop := ∃ r : Nat, (r : Int) < σ 0 0 3 ∧ σ 7 r 0 = v ∧ o_tk σ r h
theorem OO_cong {σ μ : oMem} (h7 : μ 7 = σ 7) (r : Nat) : OO μ r = OO σ r := by unfold OO; rw [h7]
set_option maxRecDepth 100000 in
set_option maxHeartbeats 4000000 in
theorem c_X5_offerWidthsFor {l : Launch} {g : oG} {σ : oMem} {c : Nat} (hc : c < 20) (hh : InR (σ 1 c 3)) (hn : 0 ≤ σ 0 0 3 ∧ σ 0 0 3 ≤ 12) (hO : ∀ r : Nat, (r : Int) < σ 0 0 3 → OO σ r) : oMv l g yX5_offerWidthsFor (.code yX5_offerWidthsFor cX5_offerWidthsFor 3 none) 2 0 [.ref (g.2.1 0 0), .ref (g.2.1 1 c)] σ (fun σ' => FW σ' ∧ (∀ v, FM σ' v ↔ oWt σ (σ 1 c 3) v) ∧ ∀ K, K ≠ 10 → K ≠ 11 → σ' K = σ K) := by
  refine oMv_of (own := RX5) (by decide +kernel) rfl (by simp [oi, Value.category]) (by simp) (fun x C E => ?_)
  show oW l g x σ 0 [some (.ref (g.2.1 0 0)), some (.ref (g.2.1 1 c)), none] [] 0
  have L : ∀ (n t : Nat) (μ : oMem) (i : Int), σ 0 0 3 < t + n → (t : Int) ≤ σ 0 0 3 → i = t → (∀ K, K ≠ 10 → K ≠ 11 → μ K = σ K) → FW μ → μ 10 0 1 ≤ t → (∀ v, FM μ v ↔ ∃ r : Nat, r < t ∧ σ 7 r 0 = v ∧ o_tk σ r (σ 1 c 3)) → oW l g x μ 9 [some (.ref (g.2.1 0 0)), some (.ref (g.2.1 1 c)), some (oi i)] [] 0 := by
    intro n
    induction n with
    | zero => intro t μ i a1 a2; omega
    | succ n ih =>
      intro t μ i a1 a2 a3 a4 a5 a6 a7
      subst a3
      have k0 : μ 0 = σ 0 := a4 0 (by decide) (by decide)
      have k1 : μ 1 = σ 1 := a4 1 (by decide) (by decide)
      have k7 : μ 7 = σ 7 := a4 7 (by decide) (by decide)
      have hM1 : ¬ (o_tk σ t (σ 1 c 3)) → ∀ v, FM μ v ↔ ∃ r : Nat, r < t + 1 ∧ σ 7 r 0 = v ∧ o_tk σ r (σ 1 c 3) := fun hno v => by
        rw [a7]
        constructor
        · rintro ⟨r, r1, r2⟩; exact ⟨r, by omega, r2⟩
        · rintro ⟨r, r1, r2, r3⟩
          rcases Nat.lt_succ_iff_lt_or_eq.mp r1 with y | y
          · exact ⟨r, y, r2, r3⟩
          · subst y; exact absurd r3 hno
      refine o_iload_n (pc := 9) C dX5_offerWidthsFor_9 rfl ?_
      refine o_aload_n (pc := 10) C dX5_offerWidthsFor_10 rfl ?_
      refine gf_X5_25 (pc := 11) C dX5_offerWidthsFor_11 ?_
      rw [k0]
      refine o_icmp_ge (pc := 14) C (tgt := 55) dX5_offerWidthsFor_14 (by decide) (by omega) (by omega) (fun h14 => ?_) (fun h14 => ?_)
      · exact E _ _ _ _ dX5_offerWidthsFor_55 ⟨a5, fun v => by
          rw [a7]
          exact ⟨fun ⟨r, r1, r2⟩ => ⟨r, by omega, r2⟩, fun ⟨r, r1, r2⟩ => ⟨r, by omega, r2⟩⟩, a4⟩ (by omega)
      · have ho := hO t (by omega)
        refine o_aload_n (pc := 17) C dX5_offerWidthsFor_17 rfl ?_
        refine gf_X5_21 (pc := 18) C dX5_offerWidthsFor_18 ?_
        refine o_iload_n (pc := 21) C dX5_offerWidthsFor_21 rfl ?_
        refine aa_20 (pc := 22) C (by omega) (by omega) dX5_offerWidthsFor_22 ?_
        rw [show ((t : Int)).toNat = t by omega]
        refine o_aload_n (pc := 23) C dX5_offerWidthsFor_23 rfl ?_
        refine gf_X5_287 (pc := 24) C (by omega) dX5_offerWidthsFor_24 ?_
        rw [k1]
        refine cl_X5_288 (pc := 27) C (c_X2_wouldTakeHeat (by omega) (OO.ob (by rw [OO_cong k7]; exact ho)) hh) (by omega) (by omega) (by omega) (Nat.le_of_ble_eq_true rfl) dX5_offerWidthsFor_27 (fun z σ2 hq => ?_)
        obtain ⟨rfl, hq⟩ := hq
        rw [hq]; clear hq
        unfold o_tk
        rw [k7]
        refine o_if_eq (pc := 30) C (tgt := 49) dX5_offerWidthsFor_30 (by decide) (by split <;> omega) (fun h30 => ?_) (fun h30 => ?_)
        · refine inc_2 (pc := 49) C dX5_offerWidthsFor_49 ?_
          refine o_goto (pc := 52) C (tgt := 9) dX5_offerWidthsFor_52 (by decide) ?_
          first
          | (have q9 := q2
             refine ih (t + 1) σ2 _ (by omega) (by omega) (by omega) (fun K k10 k11 => by rw [q4 K k10 k11, a4 K k10 k11]) q1 (by omega) (fun v => ?_)
             rw [q2, a7]
             constructor
             · rintro (⟨r, r1, r2⟩ | rfl)
               · exact ⟨r, by omega, r2⟩
               · exact ⟨t, by omega, rfl, o_t h30⟩
             · rintro ⟨r, r1, r2, r3⟩
               rcases Nat.lt_succ_iff_lt_or_eq.mp r1 with y | y
               · exact Or.inl ⟨r, y, r2, r3⟩
               · subst y; exact Or.inr r2.symm)
          | exact ih (t + 1) μ _ (by omega) (by omega) (by omega) a4 a5 (by omega) (hM1 (o_f h30))
        · refine o_aload_n (pc := 33) C dX5_offerWidthsFor_33 rfl ?_
          refine gf_X5_70 (pc := 34) C dX5_offerWidthsFor_34 ?_
          refine o_aload_n (pc := 37) C dX5_offerWidthsFor_37 rfl ?_
          refine gf_X5_21 (pc := 38) C dX5_offerWidthsFor_38 ?_
          refine o_iload_n (pc := 41) C dX5_offerWidthsFor_41 rfl ?_
          refine aa_20 (pc := 42) C (by omega) (by omega) dX5_offerWidthsFor_42 ?_
          rw [show ((t : Int)).toNat = t by omega]
          refine gf_X5_291 (pc := 43) C (by omega) dX5_offerWidthsFor_43 ?_
          rw [k7]
          refine cl_X5_292 (pc := 46) C (c_X1_offerWidth a5 (by omega) (by have := ho.1; omega) (by have := ho.1; omega)) (by omega) (by omega) (Nat.le_of_ble_eq_true rfl) dX5_offerWidthsFor_46 (fun σ2 hq => ?_)
          obtain ⟨q1, q2, q3, q4⟩ := hq
          refine inc_2 (pc := 49) C dX5_offerWidthsFor_49 ?_
          refine o_goto (pc := 52) C (tgt := 9) dX5_offerWidthsFor_52 (by decide) ?_
          first
          | (have q9 := q2
             refine ih (t + 1) σ2 _ (by omega) (by omega) (by omega) (fun K k10 k11 => by rw [q4 K k10 k11, a4 K k10 k11]) q1 (by omega) (fun v => ?_)
             rw [q2, a7]
             constructor
             · rintro (⟨r, r1, r2⟩ | rfl)
               · exact ⟨r, by omega, r2⟩
               · exact ⟨t, by omega, rfl, o_t h30⟩
             · rintro ⟨r, r1, r2, r3⟩
               rcases Nat.lt_succ_iff_lt_or_eq.mp r1 with y | y
               · exact Or.inl ⟨r, y, r2, r3⟩
               · subst y; exact Or.inr r2.symm)
          | exact ih (t + 1) μ _ (by omega) (by omega) (by omega) a4 a5 (by omega) (hM1 (o_f h30))
  refine o_aload_n (pc := 0) C dX5_offerWidthsFor_0 rfl ?_
  refine gf_X5_70 (pc := 1) C dX5_offerWidthsFor_1 ?_
  refine cl_X5_284 (pc := 4) C (c_X1_forgetWidths) (by omega) (by omega) (Nat.le_of_ble_eq_true rfl) dX5_offerWidthsFor_4 (fun σ2 hq => ?_)
  rw [hq]; clear hq
  refine o_iconst (pc := 7) C dX5_offerWidthsFor_7 ?_
  refine sti_2 (pc := 8) C dX5_offerWidthsFor_8 ?_
  refine L 13 0 _ _ (by omega) (by omega) rfl (fun K k10 k11 => o_up_k k10) ⟨by rw [o_up_s]; omega, by rw [o_up_s]; omega, fun j hj => by rw [o_up_s] at hj; omega, fun i j _ hj => by rw [o_up_s] at hj; omega⟩ (by rw [o_up_s]; omega) (fun v => ⟨fun ⟨j, j1, _⟩ => by rw [o_up_s] at j1; omega, fun ⟨r, r1, _⟩ => absurd r1 (Nat.not_lt_zero r)⟩)
/-- the table of moves: by whom it is filled -/
def MVok (σ μ : oMem) (n : Nat) : Prop := (∀ K, K ≠ 14 → μ K = σ K) ∧ ∀ b r : Nat, b < 8 → r < 7 → 0 ≤ μ 14 b r ∧ μ 14 b r ≤ 16
theorem MVok_up {σ μ : oMem} {n b r : Nat} {v : Int} (h : MVok σ μ n) (h0 : 0 ≤ v ∧ v ≤ 16) : MVok σ (o_up μ 14 b r v) n := by
  refine ⟨fun K hK => by rw [o_up_k hK, h.1 K hK], fun b' r' c1 c2 => ?_⟩
  rw [o_up_at]
  split
  · exact h0
  · exact h.2 b' r' c1 c2
set_option maxRecDepth 100000 in
set_option maxHeartbeats 4000000 in
theorem c_X5_readMoves {l : Launch} {g : oG} {σ : oMem}  (hw : 0 ≤ σ 0 0 14 ∧ σ 0 0 14 ≤ 7) (hp1 : 0 ≤ σ 0 0 5 ∧ σ 0 0 5 ≤ 10) (hP : ∀ p : Nat, (p : Int) < σ 0 0 5 → PB σ p) (hs : InR (σ 0 0 10)) (hq : ∀ i : Nat, (i : Int) < σ 0 0 14 → InR (σ 18 0 i)) (hM : ∀ b r : Nat, b < 8 → r < 7 → 0 ≤ σ 14 b r ∧ σ 14 b r ≤ 16) : oMv l g yX5_readMoves (.code yX5_readMoves cX5_readMoves 3 none) 4 0 [.ref (g.2.1 0 0)] σ (fun σ' => (∀ K, K ≠ 14 → σ' K = σ K) ∧ (∀ b r : Nat, b < 8 → r < 7 → 0 ≤ σ' 14 b r ∧ σ' 14 b r ≤ 16) ∧ (∀ r : Nat, (r : Int) < σ 0 0 14 → σ' 14 7 r = oMb σ (σ 0 0 10) (σ 18 0 r)) ∧ ∀ b r : Nat, (b : Int) < σ 0 0 14 → (r : Int) < σ 0 0 14 → σ' 14 b r = oMb σ (σ 18 0 b) (σ 18 0 r)) := by
  refine oMv_of (own := RX5) (by decide +kernel) rfl (by simp [oi, Value.category]) (by simp) (fun x C E => ?_)
  show oW l g x σ 0 [some (.ref (g.2.1 0 0)), none, none] [] 0
  have hbd : ∀ a b, 0 ≤ oMb σ a b ∧ oMb σ a b ≤ 16 := fun a b => oMb_bd (fun q => hP _ (by omega))
  have L2 : ∀ (t : Nat), (t : Int) < σ 0 0 14 → ∀ (n b : Nat) (μ : oMem) (i : Int), σ 0 0 14 < b + n → (b : Int) ≤ σ 0 0 14 → i = b → MVok σ μ 0 → (∀ r : Nat, r < t + 1 → μ 14 7 r = oMb σ (σ 0 0 10) (σ 18 0 r)) → (∀ b' r : Nat, (b' : Int) < σ 0 0 14 → r < t ∨ (r = t ∧ b' < b) → μ 14 b' r = oMb σ (σ 18 0 b') (σ 18 0 r)) → (∀ (μ' : oMem) (r' : Option Value), MVok σ μ' 0 → (∀ r : Nat, r < t + 1 → μ' 14 7 r = oMb σ (σ 0 0 10) (σ 18 0 r)) → (∀ b' r : Nat, (b' : Int) < σ 0 0 14 → r < t + 1 → μ' 14 b' r = oMb σ (σ 18 0 b') (σ 18 0 r)) → oW l g x μ' 2 [some (.ref (g.2.1 0 0)), some (oi ((t : Int) + 1)), r'] [] 0) → oW l g x μ 38 [some (.ref (g.2.1 0 0)), some (oi (t : Int)), some (oi i)] [] 0 := by
    intro t ht n
    induction n with
    | zero => intro b μ i a1 a2; omega
    | succ n ih =>
      intro b μ i a1 a2 a3 a4 a5 a6 kk
      subst a3
      have k0 : μ 0 = σ 0 := a4.1 0 (by decide)
      have k8 : μ 8 = σ 8 := a4.1 8 (by decide)
      have k9 : μ 9 = σ 9 := a4.1 9 (by decide)
      have k18 : μ 18 = σ 18 := a4.1 18 (by decide)
      have hqb := hq b
      have hqt := hq t ht
      refine o_iload_n (pc := 38) C dX5_readMoves_38 rfl ?_
      refine o_aload_n (pc := 39) C dX5_readMoves_39 rfl ?_
      refine gf_X5_64 (pc := 40) C dX5_readMoves_40 ?_
      rw [k0]
      refine o_icmp_ge (pc := 43) C (tgt := 79) dX5_readMoves_43 (by decide) (by omega) (by omega) (fun h43 => ?_) (fun h43 => ?_)
      · refine inc_1 (pc := 79) C dX5_readMoves_79 ?_
        refine o_goto (pc := 82) C (tgt := 2) dX5_readMoves_82 (by decide) ?_
        exact kk _ _ a4 a5 (fun b' r h1 h2 => a6 b' r h1 (by omega))
      · have hqb := hqb (by omega)
        refine o_aload_n (pc := 46) C dX5_readMoves_46 rfl ?_
        refine gf_X5_77 (pc := 47) C dX5_readMoves_47 ?_
        refine gf_X5_315 (pc := 50) C dX5_readMoves_50 ?_
        refine o_iload_n (pc := 53) C dX5_readMoves_53 rfl ?_
        refine aa_22 (pc := 54) C (by omega) (by omega) dX5_readMoves_54 ?_
        rw [show ((b : Int)).toNat = b by omega]
        refine o_iload_n (pc := 55) C dX5_readMoves_55 rfl ?_
        refine o_aload_n (pc := 56) C dX5_readMoves_56 rfl ?_
        refine o_aload_n (pc := 57) C dX5_readMoves_57 rfl ?_
        refine gf_X5_61 (pc := 58) C dX5_readMoves_58 ?_
        refine o_iload_n (pc := 61) C dX5_readMoves_61 rfl ?_
        refine ia_18 (pc := 62) C (by omega) (by omega) dX5_readMoves_62 ?_
        rw [show ((b : Int)).toNat = b by omega, k18]
        refine o_aload_n (pc := 63) C dX5_readMoves_63 rfl ?_
        refine gf_X5_61 (pc := 64) C dX5_readMoves_64 ?_
        refine o_iload_n (pc := 67) C dX5_readMoves_67 rfl ?_
        refine ia_18 (pc := 68) C (by omega) (by omega) dX5_readMoves_68 ?_
        rw [show ((t : Int)).toNat = t by omega, k18]
        refine cl_X5_196 (pc := 69) C (c_X5_movesBetween hqb hqt (by rw [k0]; omega) (fun p hp => by rw [PB_cong k8 k9]; exact hP p (by rw [k0] at hp; exact hp))) (by omega) (by omega) (Nat.le_of_ble_eq_true rfl) dX5_readMoves_69 (fun z σ2 hq => ?_)
        obtain ⟨rfl, hq9⟩ := hq
        rw [hq9, oMb_cong (by rw [k0]) k8 k9]; clear hq9
        refine is_14 (pc := 72) C (by omega) (by omega) (by omega) dX5_readMoves_72 ?_
        refine inc_2 (pc := 73) C dX5_readMoves_73 ?_
        refine o_goto (pc := 76) C (tgt := 38) dX5_readMoves_76 (by decide) ?_
        rw [show ((t : Int)).toNat = t by omega]
        refine ih (b + 1) _ _ (by omega) (by omega) (by omega) (MVok_up a4 (hbd _ _)) (fun r hr => ?_) (fun b' r h1 h2 => ?_) kk
        · rw [o_up_at, if_neg (by omega)]; exact a5 r hr
        · rw [o_up_at]
          split
          · rename_i e; rw [e.2.1, e.2.2]
          · exact a6 b' r h1 (by omega)
  have L1 : ∀ (n t : Nat) (μ : oMem) (i : Int) (r' : Option Value), σ 0 0 14 < t + n → (t : Int) ≤ σ 0 0 14 → i = t → MVok σ μ 0 → (∀ r : Nat, r < t → μ 14 7 r = oMb σ (σ 0 0 10) (σ 18 0 r)) → (∀ b' r : Nat, (b' : Int) < σ 0 0 14 → r < t → μ 14 b' r = oMb σ (σ 18 0 b') (σ 18 0 r)) → oW l g x μ 2 [some (.ref (g.2.1 0 0)), some (oi i), r'] [] 0 := by
    intro n
    induction n with
    | zero => intro t μ i r' a1 a2; omega
    | succ n ih =>
      intro t μ i r' a1 a2 a3 a4 a5 a6
      subst a3
      have k0 : μ 0 = σ 0 := a4.1 0 (by decide)
      have k8 : μ 8 = σ 8 := a4.1 8 (by decide)
      have k9 : μ 9 = σ 9 := a4.1 9 (by decide)
      have k18 : μ 18 = σ 18 := a4.1 18 (by decide)
      have hqt := hq t
      refine o_iload_n (pc := 2) C dX5_readMoves_2 rfl ?_
      refine o_aload_n (pc := 3) C dX5_readMoves_3 rfl ?_
      refine gf_X5_64 (pc := 4) C dX5_readMoves_4 ?_
      rw [k0]
      refine o_icmp_ge (pc := 7) C (tgt := 85) dX5_readMoves_7 (by decide) (by omega) (by omega) (fun h7 => ?_) (fun h7 => ?_)
      · exact E _ _ _ _ dX5_readMoves_85 ⟨a4.1, a4.2, fun r hr => a5 r (by omega), fun b r h1 h2 => a6 b r h1 (by omega)⟩ (by omega)
      · have hqt := hqt (by omega)
        refine o_aload_n (pc := 10) C dX5_readMoves_10 rfl ?_
        refine gf_X5_77 (pc := 11) C dX5_readMoves_11 ?_
        refine gf_X5_315 (pc := 14) C dX5_readMoves_14 ?_
        refine o_bipush (pc := 17) C dX5_readMoves_17 rfl ?_
        refine aa_22 (pc := 19) C (by omega) (by omega) dX5_readMoves_19 ?_
        refine o_iload_n (pc := 20) C dX5_readMoves_20 rfl ?_
        refine o_aload_n (pc := 21) C dX5_readMoves_21 rfl ?_
        refine o_aload_n (pc := 22) C dX5_readMoves_22 rfl ?_
        refine gf_X5_51 (pc := 23) C dX5_readMoves_23 ?_
        rw [k0]
        refine o_aload_n (pc := 26) C dX5_readMoves_26 rfl ?_
        refine gf_X5_61 (pc := 27) C dX5_readMoves_27 ?_
        refine o_iload_n (pc := 30) C dX5_readMoves_30 rfl ?_
        refine ia_18 (pc := 31) C (by omega) (by omega) dX5_readMoves_31 ?_
        rw [show ((t : Int)).toNat = t by omega, k18]
        refine cl_X5_196 (pc := 32) C (c_X5_movesBetween hs hqt (by rw [k0]; omega) (fun p hp => by rw [PB_cong k8 k9]; exact hP p (by rw [k0] at hp; exact hp))) (by omega) (by omega) (Nat.le_of_ble_eq_true rfl) dX5_readMoves_32 (fun z σ2 hq => ?_)
        obtain ⟨rfl, hq9⟩ := hq
        rw [hq9, oMb_cong (by rw [k0]) k8 k9]; clear hq9
        refine is_14 (pc := 35) C (by omega) (by omega) (by omega) dX5_readMoves_35 ?_
        refine o_iconst (pc := 36) C dX5_readMoves_36 ?_
        refine sti_2 (pc := 37) C dX5_readMoves_37 ?_
        rw [show ((t : Int)).toNat = t by omega, show Int.toNat 7 = 7 from rfl]
        refine L2 t (by omega) 8 0 _ _ (by omega) (by omega) rfl (MVok_up a4 (hbd _ _)) (fun r hr => ?_) (fun b' r h1 h2 => ?_) (fun μ' r'' c1 c2 c3 => ih (t + 1) μ' _ r'' (by omega) (by omega) (by omega) c1 c2 c3)
        · rw [o_up_at]
          split
          · rename_i e; rw [e.2.2]
          · exact a5 r (by omega)
        · rw [o_up_at, if_neg (by omega)]; exact a6 b' r h1 (by omega)
  refine o_iconst (pc := 0) C dX5_readMoves_0 ?_
  refine sti_1 (pc := 1) C dX5_readMoves_1 ?_
  exact L1 8 0 σ _ _ (by omega) (by omega) rfl ⟨fun _ _ => rfl, hM⟩ (fun r hr => absurd hr (Nat.not_lt_zero r)) (fun b' r _ hr => absurd hr (Nat.not_lt_zero r))
