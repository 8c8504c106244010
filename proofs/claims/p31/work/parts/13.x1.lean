theorem o_sum_cong {f h : Nat → Int} : ∀ (n : Nat), (∀ j, j < n → f j = h j) → o_sum f n = o_sum h n
  | 0, _ => rfl
  | n + 1, e => by rw [o_sum, o_sum, o_sum_cong n (fun j hj => e j (by omega)), e n (by omega)]
/-- the widths that are offered -/
def FM (σ : oMem) (v : Int) : Prop := ∃ j : Nat, (j : Int) < σ 10 0 1 ∧ σ 11 0 j = v
def FW (σ : oMem) : Prop := 0 ≤ σ 10 0 1 ∧ σ 10 0 1 ≤ 12 ∧ (∀ j : Nat, (j : Int) < σ 10 0 1 → 20 ≤ σ 11 0 j ∧ σ 11 0 j ≤ 1000) ∧ ∀ i j : Nat, i < j → (j : Int) < σ 10 0 1 → σ 11 0 j < σ 11 0 i
theorem FM_cong {σ σ' : oMem} (h0 : σ' 10 = σ 10) (h1 : σ' 11 = σ 11) : FM σ' = FM σ := by unfold FM; rw [h0, h1]
theorem FW_cong {σ σ' : oMem} (h0 : σ' 10 = σ 10) (h1 : σ' 11 = σ 11) : FW σ' = FW σ := by unfold FW; rw [h0, h1]
theorem FM_ok {σ : oMem} (h : FW σ) : (∀ w, FM σ w ↔ ∃ j : Nat, j < (σ 10 0 1).toNat ∧ (fun _ : Nat => true) j = true ∧ σ 11 0 j = w) ∧ ∀ w, FM σ w → 0 < w := by
  refine ⟨fun w => ⟨fun ⟨j, a, b⟩ => ⟨j, by omega, rfl, b⟩, fun ⟨j, a, _, b⟩ => ⟨j, by omega, b⟩⟩, fun w ⟨j, a, b⟩ => ?_⟩
  have := h.2.2.1 j a
  omega
/-- the table's bounds -/
def TB (σ : oMem) : Prop := σ 12 0 0 = 0 ∧ ∀ u : Nat, u ≤ 2000 → 0 ≤ σ 12 0 u ∧ σ 12 0 u ≤ 16
set_option maxRecDepth 100000 in
set_option maxHeartbeats 4000000 in
theorem c_X1_forgetWidths {l : Launch} {g : oG} {σ : oMem}   : oMv l g yX1_forgetWidths (.code yX1_forgetWidths cX1_forgetWidths 1 none) 1 0 [.ref (g.2.1 10 0)] σ (fun σ' => σ' = o_up σ 10 0 1 0) := by
  refine oMv_of (own := RX1) (by decide +kernel) rfl (by simp [oi, Value.category]) (by simp) (fun x C E => ?_)
  show oW l g x σ 0 [some (.ref (g.2.1 10 0))] [] 0
  refine o_aload_n (pc := 0) C dX1_forgetWidths_0 rfl ?_
  refine o_iconst (pc := 1) C dX1_forgetWidths_1 ?_
  refine pf_X1_15 (pc := 2) C dX1_forgetWidths_2 ?_
  exact E _ _ _ _ dX1_forgetWidths_5 rfl (by omega)
theorem FW_ins {σ : oMem} {m pl : Nat} {a : Int} (h : FW σ) (hm : (m : Int) = σ 10 0 1) (hm2 : m < 12) (hpl : pl ≤ m) (h1 : ∀ j, j < pl → a < σ 11 0 j) (h2 : pl < m → σ 11 0 pl < a) (ha : 20 ≤ a ∧ a ≤ 1000) : FW (o_up (o_rw σ 11 0 (o_ins (σ 11 0) m pl a)) 10 0 1 (m + 1)) ∧ (∀ v, FM (o_up (o_rw σ 11 0 (o_ins (σ 11 0) m pl a)) 10 0 1 (m + 1)) v ↔ FM σ v ∨ v = a) ∧ ∀ K, K ≠ 10 → K ≠ 11 → o_up (o_rw σ 11 0 (o_ins (σ 11 0) m pl a)) 10 0 1 (m + 1) K = σ K := by
  obtain ⟨g0, g1, g2, g3⟩ := h
  have e0 : o_up (o_rw σ 11 0 (o_ins (σ 11 0) m pl a)) 10 0 1 (m + 1) 10 0 1 = m + 1 := by simp [o_up]
  have e1 : ∀ j, o_up (o_rw σ 11 0 (o_ins (σ 11 0) m pl a)) 10 0 1 (m + 1) 11 0 j = o_ins (σ 11 0) m pl a j := fun j => by simp [o_up, o_rw]
  refine ⟨⟨by rw [e0]; omega, by rw [e0]; omega, fun j hj => ?_, fun i j hij hj => ?_⟩, fun v => ?_, fun K k0 k1 => by funext i j; simp [o_up, o_rw, k0, k1]⟩
  · rw [e0] at hj
    rw [e1]
    unfold o_ins
    split
    · exact g2 j (by omega)
    · split
      · exact ha
      · rw [if_pos (by omega)]; exact g2 (j - 1) (by omega)
  · rw [e0] at hj
    rw [e1, e1]
    unfold o_ins
    by_cases c1 : j < pl
    · rw [if_pos c1, if_pos (by omega)]; exact g3 i j hij (by omega)
    · by_cases c2 : j = pl
      · rw [if_neg c1, if_pos c2, if_pos (by omega)]; exact h1 i (by omega)
      · rw [if_neg c1, if_neg c2, if_pos (by omega)]
        by_cases c3 : i < pl
        · rw [if_pos c3]; exact g3 i (j - 1) (by omega) (by omega)
        · by_cases c4 : i = pl
          · rw [if_neg c3, if_pos c4]
            have := h2 (by omega)
            by_cases c5 : j - 1 = pl
            · rw [c5]; exact this
            · have := g3 pl (j - 1) (by omega) (by omega); omega
          · rw [if_neg c3, if_neg c4, if_pos (by omega)]; exact g3 (i - 1) (j - 1) (by omega) (by omega)
  · constructor
    · rintro ⟨j, j1, j2⟩
      rw [e0] at j1
      rw [e1] at j2
      unfold o_ins at j2
      by_cases c1 : j < pl
      · rw [if_pos c1] at j2; exact Or.inl ⟨j, by omega, j2⟩
      · by_cases c2 : j = pl
        · rw [if_neg c1, if_pos c2] at j2; exact Or.inr j2.symm
        · rw [if_neg c1, if_neg c2, if_pos (by omega)] at j2; exact Or.inl ⟨j - 1, by omega, j2⟩
    · rintro (⟨j, j1, j2⟩ | rfl)
      · by_cases c1 : j < pl
        · exact ⟨j, by rw [e0]; omega, by rw [e1]; unfold o_ins; rw [if_pos c1]; exact j2⟩
        · exact ⟨j + 1, by rw [e0]; omega, by rw [e1]; unfold o_ins; rw [if_neg (by omega), if_neg (by omega), if_pos (by omega)]; exact j2⟩
      · exact ⟨pl, by rw [e0]; omega, by rw [e1]; unfold o_ins; rw [if_neg (by omega), if_pos rfl]⟩
theorem o_shf_start {σ : oMem} {K i m : Nat} : σ = o_rw σ K i (o_shf (σ K i) m m) := by
  funext K' i' j
  simp only [o_rw, o_shf]
  grind
theorem o_shf_step {σ : oMem} {K i m pl : Nat} (h0 : 0 < pl) (h1 : pl ≤ m) : o_up (o_rw σ K i (o_shf (σ K i) m pl)) K i pl (o_rw σ K i (o_shf (σ K i) m pl) K i (pl - 1)) = o_rw σ K i (o_shf (σ K i) m (pl - 1)) := by
  funext K' i' j
  simp only [o_up, o_rw, o_shf]
  grind
theorem o_shf_end {σ : oMem} {m pl : Nat} {a v : Int} (h1 : pl ≤ m) : o_up (o_up (o_rw σ 11 0 (o_shf (σ 11 0) m pl)) 11 0 pl a) 10 0 1 v = o_up (o_rw σ 11 0 (o_ins (σ 11 0) m pl a)) 10 0 1 v := by
  funext K' i' j
  simp only [o_up, o_rw, o_shf, o_ins]
  grind
set_option maxRecDepth 100000 in
set_option maxHeartbeats 4000000 in
theorem c_X1_offerWidth {l : Launch} {g : oG} {σ : oMem} {a : Int} (hF : FW σ) (hm : σ 10 0 1 < 12) (ha0 : 20 ≤ a) (ha1 : a ≤ 1000) : oMv l g yX1_offerWidth (.code yX1_offerWidth cX1_offerWidth 5 none) 1 0 [.ref (g.2.1 10 0), oi a] σ (fun σ' => FW σ' ∧ (∀ v, FM σ' v ↔ FM σ v ∨ v = a) ∧ σ' 10 0 1 ≤ σ 10 0 1 + 1 ∧ ∀ K, K ≠ 10 → K ≠ 11 → σ' K = σ K) := by
  refine oMv_of (own := RX1) (by decide +kernel) rfl (by simp [oi, Value.category]) (by simp) (fun x C E => ?_)
  show oW l g x σ 0 [some (.ref (g.2.1 10 0)), some (oi a), none, none, none] [] 0
  obtain ⟨g0, g1, g2, g3⟩ := id hF
  obtain ⟨m, hm0⟩ : ∃ m : Nat, (m : Int) = σ 10 0 1 := ⟨(σ 10 0 1).toNat, by omega⟩
  -- the shift and what follows
  have L2 : ∀ (pl : Nat), pl ≤ m → (∀ j, j < pl → a < σ 11 0 j) → (pl < m → σ 11 0 pl < a) → ∀ (n i : Nat) (b1 b2 : Int) (r : Option Value), i = pl + n → i ≤ m → b1 = pl → b2 = i → oW l g x (o_rw σ 11 0 (o_shf (σ 11 0) m i)) 73 [some (.ref (g.2.1 10 0)), some (oi a), some (oi b1), r, some (oi b2)] [] 0 := by
    intro pl hpl p1 p2 n
    induction n with
    | zero =>
      intro i b1 b2 r a1 a2 a3 a4
      have e0 : o_rw σ 11 0 (o_shf (σ 11 0) m i) 10 0 1 = m := by simp [o_rw, hm0]
      have eb : b1.toNat = pl := by omega
      refine o_iload (pc := 73) C dX1_offerWidth_73 rfl ?_
      refine o_iload_n (pc := 75) C dX1_offerWidth_75 rfl ?_
      refine o_icmp_le (pc := 76) C (tgt := 101) dX1_offerWidth_76 (by decide) (by omega) (by omega) (fun h76 => ?_) (fun h76 => ?_)
      · refine o_aload_n (pc := 101) C dX1_offerWidth_101 rfl ?_
        refine gf_X1_9 (pc := 102) C dX1_offerWidth_102 ?_
        refine o_iload_n (pc := 105) C dX1_offerWidth_105 rfl ?_
        refine o_iload_n (pc := 106) C dX1_offerWidth_106 rfl ?_
        refine is_11 (pc := 107) C (by omega) (by omega) dX1_offerWidth_107 ?_
        refine o_aload_n (pc := 108) C dX1_offerWidth_108 rfl ?_
        refine o_dup (pc := 109) C dX1_offerWidth_109 rfl ?_
        refine gf_X1_15 (pc := 110) C dX1_offerWidth_110 ?_
        rw [show o_up (o_rw σ 11 0 (o_shf (σ 11 0) m i)) 11 0 b1.toNat a 10 0 1 = m from by simp [o_up, o_rw, hm0]]
        refine o_iconst (pc := 113) C dX1_offerWidth_113 ?_
        refine o_iadd (pc := 114) C dX1_offerWidth_114 ?_
        refine pf_X1_15 (pc := 115) C dX1_offerWidth_115 ?_
        rw [show o_up (o_up (o_rw σ 11 0 (o_shf (σ 11 0) m i)) 11 0 b1.toNat a) 10 0 1 ((m : Int) + 1) = o_up (o_rw σ 11 0 (o_ins (σ 11 0) m pl a)) 10 0 1 (m + 1) from by rw [eb, show i = pl by omega]; exact o_shf_end (by omega)]
        obtain ⟨q1, q2, q3⟩ := FW_ins hF hm0 (by omega) hpl p1 p2 ⟨ha0, ha1⟩
        exact E _ _ _ _ dX1_offerWidth_118 ⟨q1, q2, by simp [o_up]; omega, q3⟩ (by omega)
      · omega
    | succ n ih =>
      intro i b1 b2 r a1 a2 a3 a4
      have e0 : o_rw σ 11 0 (o_shf (σ 11 0) m i) 10 0 1 = m := by simp [o_rw, hm0]
      have e1 : b2.toNat = i := by omega
      have e2 : (b2 - 1).toNat = i - 1 := by omega
      refine o_iload (pc := 73) C dX1_offerWidth_73 rfl ?_
      refine o_iload_n (pc := 75) C dX1_offerWidth_75 rfl ?_
      refine o_icmp_le (pc := 76) C (tgt := 101) dX1_offerWidth_76 (by decide) (by omega) (by omega) (fun h76 => ?_) (fun h76 => ?_)
      · omega
      · refine o_aload_n (pc := 79) C dX1_offerWidth_79 rfl ?_
        refine gf_X1_9 (pc := 80) C dX1_offerWidth_80 ?_
        refine o_iload (pc := 83) C dX1_offerWidth_83 rfl ?_
        refine o_aload_n (pc := 85) C dX1_offerWidth_85 rfl ?_
        refine gf_X1_9 (pc := 86) C dX1_offerWidth_86 ?_
        refine o_iload (pc := 89) C dX1_offerWidth_89 rfl ?_
        refine o_iconst (pc := 91) C dX1_offerWidth_91 ?_
        refine o_isub (pc := 92) C dX1_offerWidth_92 ?_
        refine ia_11 (pc := 93) C (by omega) (by omega) dX1_offerWidth_93 ?_
        refine is_11 (pc := 94) C (by omega) (by omega) dX1_offerWidth_94 ?_
        refine inc_4 (pc := 95) C dX1_offerWidth_95 ?_
        refine o_goto (pc := 98) C (tgt := 73) dX1_offerWidth_98 (by decide) ?_
        rw [e1, e2, show o_up (o_rw σ 11 0 (o_shf (σ 11 0) m i)) 11 0 i (o_rw σ 11 0 (o_shf (σ 11 0) m i) 11 0 (i - 1)) = o_rw σ 11 0 (o_shf (σ 11 0) m (i - 1)) from o_shf_step (by omega) (by omega)]
        exact ih (i - 1) _ _ _ (by omega) (by omega) a3 (by omega)
  have L1 : ∀ (n t : Nat) (b : Int) (r1 r2 : Option Value), m < t + n → t ≤ m → b = t → (∀ j, j < t → a < σ 11 0 j) → oW l g x σ 2 [some (.ref (g.2.1 10 0)), some (oi a), some (oi b), r1, r2] [] 0 := by
    intro n
    induction n with
    | zero => intro t b r1 r2 a1 a2; omega
    | succ n ih =>
      intro t b r1 r2 a1 a2 a3 a4
      have eb : b.toNat = t := by omega
      refine o_iload_n (pc := 2) C dX1_offerWidth_2 rfl ?_
      refine o_aload_n (pc := 3) C dX1_offerWidth_3 rfl ?_
      refine gf_X1_15 (pc := 4) C dX1_offerWidth_4 ?_
      refine o_icmp_ge (pc := 7) C (tgt := 26) dX1_offerWidth_7 (by decide) (by omega) (by omega) (fun h7 => ?_) (fun h7 => ?_)
      · refine o_iload_n (pc := 26) C dX1_offerWidth_26 rfl ?_
        refine o_aload_n (pc := 27) C dX1_offerWidth_27 rfl ?_
        refine gf_X1_15 (pc := 28) C dX1_offerWidth_28 ?_
        refine o_icmp_ge (pc := 31) C (tgt := 48) dX1_offerWidth_31 (by decide) (by omega) (by omega) (fun h31 => ?_) (fun h31 => ?_)
        · refine o_iconst (pc := 48) C dX1_offerWidth_48 ?_
          refine sti_3 (pc := 49) C dX1_offerWidth_49 ?_
          refine o_iload_n (pc := 50) C dX1_offerWidth_50 rfl ?_
          refine o_if_ne (pc := 51) C (tgt := 66) dX1_offerWidth_51 (by decide) (by omega) (fun h51 => ?_) (fun h51 => ?_)
          · first
            | exact E _ _ _ _ dX1_offerWidth_66 ⟨hF, fun v => ⟨Or.inl, fun q => q.elim id (fun q => ⟨t, by omega, by rw [q, ← eb]; omega⟩)⟩, by omega, fun _ _ _ => rfl⟩ (by omega)
            | (exfalso; omega)
          · refine o_aload_n (pc := 54) C dX1_offerWidth_54 rfl ?_
            refine gf_X1_15 (pc := 55) C dX1_offerWidth_55 ?_
            refine o_aload_n (pc := 58) C dX1_offerWidth_58 rfl ?_
            refine gf_X1_9 (pc := 59) C dX1_offerWidth_59 ?_
            refine al_11 (pc := 62) C dX1_offerWidth_62 ?_
            refine o_icmp_lt (pc := 63) C (tgt := 67) dX1_offerWidth_63 (by decide) (by omega) (by omega) (fun h63 => ?_) (fun h63 => ?_)
            · refine o_aload_n (pc := 67) C dX1_offerWidth_67 rfl ?_
              refine gf_X1_15 (pc := 68) C dX1_offerWidth_68 ?_
              refine sti_4 (pc := 71) C dX1_offerWidth_71 ?_
              rw [show σ = o_rw σ 11 0 (o_shf (σ 11 0) m m) from o_shf_start]
              exact L2 t a2 a4 (fun q => by rw [eb] at *; omega) (m - t) m _ _ _ (by omega) (Nat.le_refl m) a3 (by simp [o_rw, o_shf, hm0])
            · first
              | exact E _ _ _ _ dX1_offerWidth_66 ⟨hF, fun v => ⟨Or.inl, fun q => q.elim id (fun q => ⟨t, by omega, by rw [q, ← eb]; omega⟩)⟩, by omega, fun _ _ _ => rfl⟩ (by omega)
              | (exfalso; omega)
        · have hb := g2 t (by omega)
          refine o_aload_n (pc := 34) C dX1_offerWidth_34 rfl ?_
          refine gf_X1_9 (pc := 35) C dX1_offerWidth_35 ?_
          refine o_iload_n (pc := 38) C dX1_offerWidth_38 rfl ?_
          refine ia_11 (pc := 39) C (by omega) (by omega) dX1_offerWidth_39 ?_
          refine o_iload_n (pc := 40) C dX1_offerWidth_40 rfl ?_
          refine o_icmp_ne (pc := 41) C (tgt := 48) dX1_offerWidth_41 (by decide) (by rw [eb]; omega) (by omega) (fun h41 => ?_) (fun h41 => ?_)
          · refine o_iconst (pc := 48) C dX1_offerWidth_48 ?_
            refine sti_3 (pc := 49) C dX1_offerWidth_49 ?_
            refine o_iload_n (pc := 50) C dX1_offerWidth_50 rfl ?_
            refine o_if_ne (pc := 51) C (tgt := 66) dX1_offerWidth_51 (by decide) (by omega) (fun h51 => ?_) (fun h51 => ?_)
            · first
              | exact E _ _ _ _ dX1_offerWidth_66 ⟨hF, fun v => ⟨Or.inl, fun q => q.elim id (fun q => ⟨t, by omega, by rw [q, ← eb]; omega⟩)⟩, by omega, fun _ _ _ => rfl⟩ (by omega)
              | (exfalso; omega)
            · refine o_aload_n (pc := 54) C dX1_offerWidth_54 rfl ?_
              refine gf_X1_15 (pc := 55) C dX1_offerWidth_55 ?_
              refine o_aload_n (pc := 58) C dX1_offerWidth_58 rfl ?_
              refine gf_X1_9 (pc := 59) C dX1_offerWidth_59 ?_
              refine al_11 (pc := 62) C dX1_offerWidth_62 ?_
              refine o_icmp_lt (pc := 63) C (tgt := 67) dX1_offerWidth_63 (by decide) (by omega) (by omega) (fun h63 => ?_) (fun h63 => ?_)
              · refine o_aload_n (pc := 67) C dX1_offerWidth_67 rfl ?_
                refine gf_X1_15 (pc := 68) C dX1_offerWidth_68 ?_
                refine sti_4 (pc := 71) C dX1_offerWidth_71 ?_
                rw [show σ = o_rw σ 11 0 (o_shf (σ 11 0) m m) from o_shf_start]
                exact L2 t a2 a4 (fun q => by rw [eb] at *; omega) (m - t) m _ _ _ (by omega) (Nat.le_refl m) a3 (by simp [o_rw, o_shf, hm0])
              · first
                | exact E _ _ _ _ dX1_offerWidth_66 ⟨hF, fun v => ⟨Or.inl, fun q => q.elim id (fun q => ⟨t, by omega, by rw [q, ← eb]; omega⟩)⟩, by omega, fun _ _ _ => rfl⟩ (by omega)
                | (exfalso; omega)
          · refine o_iconst (pc := 44) C dX1_offerWidth_44 ?_
            refine o_goto (pc := 45) C (tgt := 49) dX1_offerWidth_45 (by decide) ?_
            refine sti_3 (pc := 49) C dX1_offerWidth_49 ?_
            refine o_iload_n (pc := 50) C dX1_offerWidth_50 rfl ?_
            refine o_if_ne (pc := 51) C (tgt := 66) dX1_offerWidth_51 (by decide) (by omega) (fun h51 => ?_) (fun h51 => ?_)
            · first
              | exact E _ _ _ _ dX1_offerWidth_66 ⟨hF, fun v => ⟨Or.inl, fun q => q.elim id (fun q => ⟨t, by omega, by rw [q, ← eb]; omega⟩)⟩, by omega, fun _ _ _ => rfl⟩ (by omega)
              | (exfalso; omega)
            · refine o_aload_n (pc := 54) C dX1_offerWidth_54 rfl ?_
              refine gf_X1_15 (pc := 55) C dX1_offerWidth_55 ?_
              refine o_aload_n (pc := 58) C dX1_offerWidth_58 rfl ?_
              refine gf_X1_9 (pc := 59) C dX1_offerWidth_59 ?_
              refine al_11 (pc := 62) C dX1_offerWidth_62 ?_
              refine o_icmp_lt (pc := 63) C (tgt := 67) dX1_offerWidth_63 (by decide) (by omega) (by omega) (fun h63 => ?_) (fun h63 => ?_)
              · refine o_aload_n (pc := 67) C dX1_offerWidth_67 rfl ?_
                refine gf_X1_15 (pc := 68) C dX1_offerWidth_68 ?_
                refine sti_4 (pc := 71) C dX1_offerWidth_71 ?_
                rw [show σ = o_rw σ 11 0 (o_shf (σ 11 0) m m) from o_shf_start]
                exact L2 t a2 a4 (fun q => by rw [eb] at *; omega) (m - t) m _ _ _ (by omega) (Nat.le_refl m) a3 (by simp [o_rw, o_shf, hm0])
              · first
                | exact E _ _ _ _ dX1_offerWidth_66 ⟨hF, fun v => ⟨Or.inl, fun q => q.elim id (fun q => ⟨t, by omega, by rw [q, ← eb]; omega⟩)⟩, by omega, fun _ _ _ => rfl⟩ (by omega)
                | (exfalso; omega)
      · have hb := g2 t (by omega)
        refine o_aload_n (pc := 10) C dX1_offerWidth_10 rfl ?_
        refine gf_X1_9 (pc := 11) C dX1_offerWidth_11 ?_
        refine o_iload_n (pc := 14) C dX1_offerWidth_14 rfl ?_
        refine ia_11 (pc := 15) C (by omega) (by omega) dX1_offerWidth_15 ?_
        refine o_iload_n (pc := 16) C dX1_offerWidth_16 rfl ?_
        refine o_icmp_le (pc := 17) C (tgt := 26) dX1_offerWidth_17 (by decide) (by rw [eb]; omega) (by omega) (fun h17 => ?_) (fun h17 => ?_)
        · refine o_iload_n (pc := 26) C dX1_offerWidth_26 rfl ?_
          refine o_aload_n (pc := 27) C dX1_offerWidth_27 rfl ?_
          refine gf_X1_15 (pc := 28) C dX1_offerWidth_28 ?_
          refine o_icmp_ge (pc := 31) C (tgt := 48) dX1_offerWidth_31 (by decide) (by omega) (by omega) (fun h31 => ?_) (fun h31 => ?_)
          · refine o_iconst (pc := 48) C dX1_offerWidth_48 ?_
            refine sti_3 (pc := 49) C dX1_offerWidth_49 ?_
            refine o_iload_n (pc := 50) C dX1_offerWidth_50 rfl ?_
            refine o_if_ne (pc := 51) C (tgt := 66) dX1_offerWidth_51 (by decide) (by omega) (fun h51 => ?_) (fun h51 => ?_)
            · first
              | exact E _ _ _ _ dX1_offerWidth_66 ⟨hF, fun v => ⟨Or.inl, fun q => q.elim id (fun q => ⟨t, by omega, by rw [q, ← eb]; omega⟩)⟩, by omega, fun _ _ _ => rfl⟩ (by omega)
              | (exfalso; omega)
            · refine o_aload_n (pc := 54) C dX1_offerWidth_54 rfl ?_
              refine gf_X1_15 (pc := 55) C dX1_offerWidth_55 ?_
              refine o_aload_n (pc := 58) C dX1_offerWidth_58 rfl ?_
              refine gf_X1_9 (pc := 59) C dX1_offerWidth_59 ?_
              refine al_11 (pc := 62) C dX1_offerWidth_62 ?_
              refine o_icmp_lt (pc := 63) C (tgt := 67) dX1_offerWidth_63 (by decide) (by omega) (by omega) (fun h63 => ?_) (fun h63 => ?_)
              · refine o_aload_n (pc := 67) C dX1_offerWidth_67 rfl ?_
                refine gf_X1_15 (pc := 68) C dX1_offerWidth_68 ?_
                refine sti_4 (pc := 71) C dX1_offerWidth_71 ?_
                rw [show σ = o_rw σ 11 0 (o_shf (σ 11 0) m m) from o_shf_start]
                exact L2 t a2 a4 (fun q => by rw [eb] at *; omega) (m - t) m _ _ _ (by omega) (Nat.le_refl m) a3 (by simp [o_rw, o_shf, hm0])
              · first
                | exact E _ _ _ _ dX1_offerWidth_66 ⟨hF, fun v => ⟨Or.inl, fun q => q.elim id (fun q => ⟨t, by omega, by rw [q, ← eb]; omega⟩)⟩, by omega, fun _ _ _ => rfl⟩ (by omega)
                | (exfalso; omega)
          · have hb := g2 t (by omega)
            refine o_aload_n (pc := 34) C dX1_offerWidth_34 rfl ?_
            refine gf_X1_9 (pc := 35) C dX1_offerWidth_35 ?_
            refine o_iload_n (pc := 38) C dX1_offerWidth_38 rfl ?_
            refine ia_11 (pc := 39) C (by omega) (by omega) dX1_offerWidth_39 ?_
            refine o_iload_n (pc := 40) C dX1_offerWidth_40 rfl ?_
            refine o_icmp_ne (pc := 41) C (tgt := 48) dX1_offerWidth_41 (by decide) (by rw [eb]; omega) (by omega) (fun h41 => ?_) (fun h41 => ?_)
            · refine o_iconst (pc := 48) C dX1_offerWidth_48 ?_
              refine sti_3 (pc := 49) C dX1_offerWidth_49 ?_
              refine o_iload_n (pc := 50) C dX1_offerWidth_50 rfl ?_
              refine o_if_ne (pc := 51) C (tgt := 66) dX1_offerWidth_51 (by decide) (by omega) (fun h51 => ?_) (fun h51 => ?_)
              · first
                | exact E _ _ _ _ dX1_offerWidth_66 ⟨hF, fun v => ⟨Or.inl, fun q => q.elim id (fun q => ⟨t, by omega, by rw [q, ← eb]; omega⟩)⟩, by omega, fun _ _ _ => rfl⟩ (by omega)
                | (exfalso; omega)
              · refine o_aload_n (pc := 54) C dX1_offerWidth_54 rfl ?_
                refine gf_X1_15 (pc := 55) C dX1_offerWidth_55 ?_
                refine o_aload_n (pc := 58) C dX1_offerWidth_58 rfl ?_
                refine gf_X1_9 (pc := 59) C dX1_offerWidth_59 ?_
                refine al_11 (pc := 62) C dX1_offerWidth_62 ?_
                refine o_icmp_lt (pc := 63) C (tgt := 67) dX1_offerWidth_63 (by decide) (by omega) (by omega) (fun h63 => ?_) (fun h63 => ?_)
                · refine o_aload_n (pc := 67) C dX1_offerWidth_67 rfl ?_
                  refine gf_X1_15 (pc := 68) C dX1_offerWidth_68 ?_
                  refine sti_4 (pc := 71) C dX1_offerWidth_71 ?_
                  rw [show σ = o_rw σ 11 0 (o_shf (σ 11 0) m m) from o_shf_start]
                  exact L2 t a2 a4 (fun q => by rw [eb] at *; omega) (m - t) m _ _ _ (by omega) (Nat.le_refl m) a3 (by simp [o_rw, o_shf, hm0])
                · first
                  | exact E _ _ _ _ dX1_offerWidth_66 ⟨hF, fun v => ⟨Or.inl, fun q => q.elim id (fun q => ⟨t, by omega, by rw [q, ← eb]; omega⟩)⟩, by omega, fun _ _ _ => rfl⟩ (by omega)
                  | (exfalso; omega)
            · refine o_iconst (pc := 44) C dX1_offerWidth_44 ?_
              refine o_goto (pc := 45) C (tgt := 49) dX1_offerWidth_45 (by decide) ?_
              refine sti_3 (pc := 49) C dX1_offerWidth_49 ?_
              refine o_iload_n (pc := 50) C dX1_offerWidth_50 rfl ?_
              refine o_if_ne (pc := 51) C (tgt := 66) dX1_offerWidth_51 (by decide) (by omega) (fun h51 => ?_) (fun h51 => ?_)
              · first
                | exact E _ _ _ _ dX1_offerWidth_66 ⟨hF, fun v => ⟨Or.inl, fun q => q.elim id (fun q => ⟨t, by omega, by rw [q, ← eb]; omega⟩)⟩, by omega, fun _ _ _ => rfl⟩ (by omega)
                | (exfalso; omega)
              · refine o_aload_n (pc := 54) C dX1_offerWidth_54 rfl ?_
                refine gf_X1_15 (pc := 55) C dX1_offerWidth_55 ?_
                refine o_aload_n (pc := 58) C dX1_offerWidth_58 rfl ?_
                refine gf_X1_9 (pc := 59) C dX1_offerWidth_59 ?_
                refine al_11 (pc := 62) C dX1_offerWidth_62 ?_
                refine o_icmp_lt (pc := 63) C (tgt := 67) dX1_offerWidth_63 (by decide) (by omega) (by omega) (fun h63 => ?_) (fun h63 => ?_)
                · refine o_aload_n (pc := 67) C dX1_offerWidth_67 rfl ?_
                  refine gf_X1_15 (pc := 68) C dX1_offerWidth_68 ?_
                  refine sti_4 (pc := 71) C dX1_offerWidth_71 ?_
                  rw [show σ = o_rw σ 11 0 (o_shf (σ 11 0) m m) from o_shf_start]
                  exact L2 t a2 a4 (fun q => by rw [eb] at *; omega) (m - t) m _ _ _ (by omega) (Nat.le_refl m) a3 (by simp [o_rw, o_shf, hm0])
                · first
                  | exact E _ _ _ _ dX1_offerWidth_66 ⟨hF, fun v => ⟨Or.inl, fun q => q.elim id (fun q => ⟨t, by omega, by rw [q, ← eb]; omega⟩)⟩, by omega, fun _ _ _ => rfl⟩ (by omega)
                  | (exfalso; omega)
        · refine inc_2 (pc := 20) C dX1_offerWidth_20 ?_
          refine o_goto (pc := 23) C (tgt := 2) dX1_offerWidth_23 (by decide) ?_
          exact ih (t + 1) _ _ _ (by omega) (by omega) (by omega) (fun j hj => by rcases Nat.lt_succ_iff_lt_or_eq.mp hj with q | q; exact a4 j q; subst q; rw [eb] at h17; omega)
  refine o_iconst (pc := 0) C dX1_offerWidth_0 ?_
  refine sti_2 (pc := 1) C dX1_offerWidth_1 ?_
  exact L1 13 0 _ _ _ (by omega) (by omega) rfl (fun j hj => absurd hj (Nat.not_lt_zero j))
set_option maxRecDepth 100000 in
set_option maxHeartbeats 4000000 in
theorem c_X1_fewestSlitsFor {l : Launch} {g : oG} {σ : oMem} {a : Int} (hF : FW σ) (ha0 : 0 ≤ a) (ha1 : a ≤ 2000) (hT : TB σ) : oMi l g yX1_fewestSlitsFor (.code yX1_fewestSlitsFor cX1_fewestSlitsFor 4 (some .int)) 1 0 [.ref (g.2.1 10 0), oi a] σ (fun z σ' => z = o_ff (σ 11 0) (fun _ => true) (σ 12 0) a 16 (σ 10 0 1).toNat ∧ σ' = σ) := by
  refine oMi_of (own := RX1) (by decide +kernel) rfl (by simp [oi, Value.category]) (by simp) (fun x C E => ?_)
  show oW l g x σ 0 [some (.ref (g.2.1 10 0)), some (oi a), none, none] [] 0
  obtain ⟨g0, g1, g2, g3⟩ := id hF
  have L : ∀ (n t : Nat) (c b : Int), σ 10 0 1 < t + n → (t : Int) ≤ σ 10 0 1 → c = o_ff (σ 11 0) (fun _ => true) (σ 12 0) a 16 t → b = t → 0 ≤ c → c ≤ 16 → oW l g x σ 5 [some (.ref (g.2.1 10 0)), some (oi a), some (oi c), some (oi b)] [] 0 := by
    intro n
    induction n with
    | zero => intro t c b a1 a2; omega
    | succ n ih =>
      intro t c b a1 a2 a3 a4 a5 a6
      have eb : b.toNat = t := by omega
      refine o_iload_n (pc := 5) C dX1_fewestSlitsFor_5 rfl ?_
      refine o_aload_n (pc := 6) C dX1_fewestSlitsFor_6 rfl ?_
      refine gf_X1_15 (pc := 7) C dX1_fewestSlitsFor_7 ?_
      refine o_icmp_ge (pc := 10) C (tgt := 49) dX1_fewestSlitsFor_10 (by decide) (by omega) (by omega) (fun h10 => ?_) (fun h10 => ?_)
      · refine o_iload_n (pc := 49) C dX1_fewestSlitsFor_49 rfl ?_
        exact E _ _ _ _ _ dX1_fewestSlitsFor_50 rfl ⟨by rw [a3, show (σ 10 0 1).toNat = t by omega], rfl⟩ (by omega)
      · have hb := g2 t (by omega)
        rw [← eb] at hb
        refine o_aload_n (pc := 13) C dX1_fewestSlitsFor_13 rfl ?_
        refine gf_X1_9 (pc := 14) C dX1_fewestSlitsFor_14 ?_
        refine o_iload_n (pc := 17) C dX1_fewestSlitsFor_17 rfl ?_
        refine ia_11 (pc := 18) C (by omega) (by omega) dX1_fewestSlitsFor_18 ?_
        refine o_iload_n (pc := 19) C dX1_fewestSlitsFor_19 rfl ?_
        refine o_icmp_gt (pc := 20) C (tgt := 43) dX1_fewestSlitsFor_20 (by decide) (by omega) (by omega) (fun h20 => ?_) (fun h20 => ?_)
        · refine inc_3 (pc := 43) C dX1_fewestSlitsFor_43 ?_
          refine o_goto (pc := 46) C (tgt := 5) dX1_fewestSlitsFor_46 (by decide) ?_
          exact ih (t + 1) _ _ (by omega) (by omega) (by rw [o_ff]; simp only [true_and]; rw [eb] at *; grind) (by omega) (by first | omega | (split <;> omega)) (by first | omega | (split <;> omega))
        · have ht := hT.2 (a - σ 11 0 b.toNat).toNat (by omega)
          refine o_iload_n (pc := 23) C dX1_fewestSlitsFor_23 rfl ?_
          refine o_aload_n (pc := 24) C dX1_fewestSlitsFor_24 rfl ?_
          refine gf_X1_19 (pc := 25) C dX1_fewestSlitsFor_25 ?_
          refine o_iload_n (pc := 28) C dX1_fewestSlitsFor_28 rfl ?_
          refine o_aload_n (pc := 29) C dX1_fewestSlitsFor_29 rfl ?_
          refine gf_X1_9 (pc := 30) C dX1_fewestSlitsFor_30 ?_
          refine o_iload_n (pc := 33) C dX1_fewestSlitsFor_33 rfl ?_
          refine ia_11 (pc := 34) C (by omega) (by omega) dX1_fewestSlitsFor_34 ?_
          refine o_isub (pc := 35) C dX1_fewestSlitsFor_35 ?_
          refine ia_12 (pc := 36) C (by omega) (by omega) dX1_fewestSlitsFor_36 ?_
          refine o_iconst (pc := 37) C dX1_fewestSlitsFor_37 ?_
          refine o_iadd (pc := 38) C dX1_fewestSlitsFor_38 ?_
          refine o_min (pc := 39) C kw_9_20 kw_9_21 kw_8_11 kw_9_22 (by omega) (by omega) (Nat.le_of_ble_eq_true rfl) (by omega) dX1_fewestSlitsFor_39 ?_
          refine sti_2 (pc := 42) C dX1_fewestSlitsFor_42 ?_
          refine inc_3 (pc := 43) C dX1_fewestSlitsFor_43 ?_
          refine o_goto (pc := 46) C (tgt := 5) dX1_fewestSlitsFor_46 (by decide) ?_
          exact ih (t + 1) _ _ (by omega) (by omega) (by rw [o_ff]; simp only [true_and]; rw [eb] at *; grind) (by omega) (by first | omega | (split <;> omega)) (by first | omega | (split <;> omega))
  refine o_bipush (pc := 0) C dX1_fewestSlitsFor_0 rfl ?_
  refine sti_2 (pc := 2) C dX1_fewestSlitsFor_2 ?_
  refine o_iconst (pc := 3) C dX1_fewestSlitsFor_3 ?_
  refine sti_3 (pc := 4) C dX1_fewestSlitsFor_4 ?_
  exact L 13 0 _ _ (by omega) (by omega) rfl rfl (by omega) (by omega)
