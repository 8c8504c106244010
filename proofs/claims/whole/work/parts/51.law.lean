set_option maxRecDepth 100000 in
set_option maxHeartbeats 2000000 in
theorem law_loop {l : Launch} {g : oG} {mc : Nat} {x : oCtx} {b L k0 : Nat} {xs : Nat → Int32} (hfl : l.stackTraces = false) (C : oK l g RL cL_law 30 mc x) (S : oScr b L xs x) (hN : oNCx x) (hL : L ≤ 2560) (hk0 : k0 + 8 * 600 ≤ mc) (hE : ∀ (σ : oMem) (vs : List (Option Value)) (k : Nat), k ≤ mc → oW l g x σ 1570 vs [oi 1] k) : ∀ (n t i k : Nat) (σ : oMem) (v5 v6 : Option Value), L < 5 * t + 5 * n → i = 5 * t → i ≤ 2565 → k ≤ k0 + 8 * t → Rel σ σ → oW l g x σ 23 [some (.ref b), some (.ref (g.2.1 0 0)), some (.ref (g.2.1 24 0)), some (.ref (g.2.1 47 0)), some (oi (i : Int)), v5, v6] [] k := by
  intro n
  induction n with
  | zero =>
    intro t i k σ v5 v6 a1 a2 a3 a4 h
    refine o_iload (pc := 23) C dL_law_23 rfl ?_
    refine o_aload_n (pc := 25) C dL_law_25 rfl ?_
    refine o_slen (pc := 26) S C dL_law_26 ?_
    refine o_iconst (pc := 27) C dL_law_27 ?_
    refine o_isub (pc := 28) C dL_law_28 ?_
    refine o_icmp_gt (pc := 29) C (tgt := 1569) dL_law_29 (by decide) (by omega) (by omega) (fun h29 => ?_) (fun h29 => ?_)
    · refine o_iconst (pc := 1569) C dL_law_1569 ?_
      exact hE _ _ _ (by omega)
    · omega
  | succ n ih =>
    intro t i k σ v5 v6 a1 a2 a3 a4 h
    refine o_iload (pc := 23) C dL_law_23 rfl ?_
    refine o_aload_n (pc := 25) C dL_law_25 rfl ?_
    refine o_slen (pc := 26) S C dL_law_26 ?_
    refine o_iconst (pc := 27) C dL_law_27 ?_
    refine o_isub (pc := 28) C dL_law_28 ?_
    refine o_icmp_gt (pc := 29) C (tgt := 1569) dL_law_29 (by decide) (by omega) (by omega) (fun h29 => ?_) (fun h29 => ?_)
    · refine o_iconst (pc := 1569) C dL_law_1569 ?_
      exact hE _ _ _ (by omega)
    · have hi : i + 5 ≤ L := by omega
      have K : ∀ (σ2 : oMem) (v5 v6 : Option Value) (k2 : Nat), Rel σ2 σ2 → k2 ≤ k + 8 → oW l g x σ2 1563 [some (.ref b), some (.ref (g.2.1 0 0)), some (.ref (g.2.1 24 0)), some (.ref (g.2.1 47 0)), some (oi (i : Int)), v5, v6] [] k2 := by
        intro σ2 v5 v6 k2 h2 hk2
        refine inc_4 (pc := 1563) C dL_law_1563 ?_
        refine o_goto (pc := 1566) C (tgt := 23) dL_law_1566 (by decide) ?_
        exact ih (t + 1) (i + 5) k2 σ2 v5 v6 (by omega) (by omega) (by omega) (by omega) h2
      refine o_aload_n (pc := 32) C dL_law_32 rfl ?_
      refine o_iload (pc := 33) C dL_law_33 rfl ?_
      refine o_sld (pc := 35) (j := i) S C rfl (by omega) hL dL_law_35 ?_
      refine o_bipush (pc := 36) C dL_law_36 rfl ?_
      obtain ⟨r, r1, r2⟩ := x_31 (xs i)
      refine o_iand (pc := 38) (v := (r : Int)) C dL_law_38 (by rw [Int32.ofInt_toInt]; exact r2) ?_
      rcases (show r = 0 ∨ r = 1 ∨ r = 2 ∨ r = 3 ∨ r = 4 ∨ r = 5 ∨ r = 6 ∨ r = 7 ∨ r = 8 ∨ r = 9 ∨ r = 10 ∨ r = 11 ∨ r = 12 ∨ r = 13 ∨ r = 14 ∨ r = 15 ∨ r = 16 ∨ r = 17 ∨ r = 18 ∨ r = 19 ∨ r = 20 ∨ r = 21 ∨ r = 22 ∨ r = 23 ∨ r = 24 ∨ r = 25 ∨ r = 26 ∨ r = 27 ∨ 28 ≤ r by omega) with rfl | rfl | rfl | rfl | rfl | rfl | rfl | rfl | rfl | rfl | rfl | rfl | rfl | rfl | rfl | rfl | rfl | rfl | rfl | rfl | rfl | rfl | rfl | rfl | rfl | rfl | rfl | rfl | h28
      · exact o_tabIn (pc := 39) (tgt := 164) C dL_law_39 (by decide) (by decide) (by decide) rfl (by decide) (law_0 hfl C S hN hL hi h (by omega) K)
      · exact o_tabIn (pc := 39) (tgt := 256) C dL_law_39 (by decide) (by decide) (by decide) rfl (by decide) (law_1 hfl C S hN hL hi h (by omega) K)
      · exact o_tabIn (pc := 39) (tgt := 336) C dL_law_39 (by decide) (by decide) (by decide) rfl (by decide) (law_2 hfl C S hN hL hi h (by omega) K)
      · exact o_tabIn (pc := 39) (tgt := 416) C dL_law_39 (by decide) (by decide) (by decide) rfl (by decide) (law_3 hfl C S hN hL hi h (by omega) K)
      · exact o_tabIn (pc := 39) (tgt := 484) C dL_law_39 (by decide) (by decide) (by decide) rfl (by decide) (law_4 hfl C S hN hL hi h (by omega) K)
      · exact o_tabIn (pc := 39) (tgt := 540) C dL_law_39 (by decide) (by decide) (by decide) rfl (by decide) (law_5 hfl C S hN hL hi h (by omega) K)
      · exact o_tabIn (pc := 39) (tgt := 553) C dL_law_39 (by decide) (by decide) (by decide) rfl (by decide) (law_6 hfl C S hN hL hi h (by omega) K)
      · exact o_tabIn (pc := 39) (tgt := 566) C dL_law_39 (by decide) (by decide) (by decide) rfl (by decide) (law_7 hfl C S hN hL hi h (by omega) K)
      · exact o_tabIn (pc := 39) (tgt := 622) C dL_law_39 (by decide) (by decide) (by decide) rfl (by decide) (law_8 hfl C S hN hL hi h (by omega) K)
      · exact o_tabIn (pc := 39) (tgt := 666) C dL_law_39 (by decide) (by decide) (by decide) rfl (by decide) (law_9 hfl C S hN hL hi h (by omega) K)
      · exact o_tabIn (pc := 39) (tgt := 741) C dL_law_39 (by decide) (by decide) (by decide) rfl (by decide) (law_10 hfl C S hN hL hi h (by omega) K)
      · exact o_tabIn (pc := 39) (tgt := 797) C dL_law_39 (by decide) (by decide) (by decide) rfl (by decide) (law_11 hfl C S hN hL hi h (by omega) K)
      · exact o_tabIn (pc := 39) (tgt := 853) C dL_law_39 (by decide) (by decide) (by decide) rfl (by decide) (law_12 hfl C S hN hL hi h (by omega) K)
      · exact o_tabIn (pc := 39) (tgt := 921) C dL_law_39 (by decide) (by decide) (by decide) rfl (by decide) (law_13 hfl C S hN hL hi h (by omega) K)
      · exact o_tabIn (pc := 39) (tgt := 977) C dL_law_39 (by decide) (by decide) (by decide) rfl (by decide) (law_14 hfl C S hN hL hi h (by omega) K)
      · exact o_tabIn (pc := 39) (tgt := 990) C dL_law_39 (by decide) (by decide) (by decide) rfl (by decide) (law_15 hfl C S hN hL hi h (by omega) K)
      · exact o_tabIn (pc := 39) (tgt := 1058) C dL_law_39 (by decide) (by decide) (by decide) rfl (by decide) (law_16 hfl C S hN hL hi h (by omega) K)
      · exact o_tabIn (pc := 39) (tgt := 1071) C dL_law_39 (by decide) (by decide) (by decide) rfl (by decide) (law_17 hfl C S hN hL hi h (by omega) K)
      · exact o_tabIn (pc := 39) (tgt := 1084) C dL_law_39 (by decide) (by decide) (by decide) rfl (by decide) (law_18 hfl C S hN hL hi h (by omega) K)
      · exact o_tabIn (pc := 39) (tgt := 1097) C dL_law_39 (by decide) (by decide) (by decide) rfl (by decide) (law_19 hfl C S hN hL hi h (by omega) K)
      · exact o_tabIn (pc := 39) (tgt := 1153) C dL_law_39 (by decide) (by decide) (by decide) rfl (by decide) (law_20 hfl C S hN hL hi h (by omega) K)
      · exact o_tabIn (pc := 39) (tgt := 1166) C dL_law_39 (by decide) (by decide) (by decide) rfl (by decide) (law_21 hfl C S hN hL hi h (by omega) K)
      · exact o_tabIn (pc := 39) (tgt := 1222) C dL_law_39 (by decide) (by decide) (by decide) rfl (by decide) (law_22 hfl C S hN hL hi h (by omega) K)
      · exact o_tabIn (pc := 39) (tgt := 1290) C dL_law_39 (by decide) (by decide) (by decide) rfl (by decide) (law_23 hfl C S hN hL hi h (by omega) K)
      · exact o_tabIn (pc := 39) (tgt := 1358) C dL_law_39 (by decide) (by decide) (by decide) rfl (by decide) (law_24 hfl C S hN hL hi h (by omega) K)
      · exact o_tabIn (pc := 39) (tgt := 1426) C dL_law_39 (by decide) (by decide) (by decide) rfl (by decide) (law_25 hfl C S hN hL hi h (by omega) K)
      · exact o_tabIn (pc := 39) (tgt := 1482) C dL_law_39 (by decide) (by decide) (by decide) rfl (by decide) (law_26 hfl C S hN hL hi h (by omega) K)
      · exact o_tabIn (pc := 39) (tgt := 1538) C dL_law_39 (by decide) (by decide) (by decide) rfl (by decide) (law_27 hfl C S hN hL hi h (by omega) K)
      · exact o_tabOut (pc := 39) (tgt := 1563) C dL_law_39 (by omega) (Or.inr (by omega)) (by decide) (K σ v5 v6 k h (by omega))
