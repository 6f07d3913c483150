set_option maxRecDepth 100000 in
set_option maxHeartbeats 4000000 in
theorem lp {l : Launch} {G : GG} {nm : String} (hl : l.stackTraces = false) (hL : G.2.2.2.2.2.2.1 ≤ 2560) : ∀ (N i : Nat) (σ τ : ST) (b : Nat → Nat) (ce sl : Nat), G.2.2.2.2.2.2.1 + 5 < i + N → i ≤ G.2.2.2.2.2.2.1 + 5 → INV σ b → ce + N ≤ 601024 ∧ sl + 6 * N ≤ 7293033 → LW l G nm 23 (L0 i) [] σ τ (PB b) ce sl := by
  intro N
  induction N with
  | zero => intro i σ τ b ce sl h1 h2; exact absurd h1 (by omega)
  | succ N ih =>
    intro i σ τ b ce sl h1 h2 hv hc
    refine rL_iload dL_law_23 (by rfl) ?_
    refine rL_aload_n dL_law_25 rfl (by rfl) ?_
    refine rL_slen dL_law_26 ?_
    refine rL_iconst dL_law_27 ?_
    refine rL_isub dL_law_28 ?_
    refine rL_icmp_gt (tgt := 1780) dL_law_29 (by rfl) (by unfold inR; omega) (by unfold inR; omega) (fun _ => ?_) (fun h => ?_)
    · refine rL_iconst dL_law_1780 ?_
      exact rL_ret (v := some (.int (iI 1))) rfl (fun w h => by cases h; rfl) ⟨by show ce ≤ 601024; omega, by show sl ≤ 7293033; omega⟩ (Or.inl ⟨_, rfl, rfl, dL_law_1781, _, rfl, rfl⟩)
    · have hi : i + 5 ≤ G.2.2.2.2.2.2.1 := by omega
      have kt : ∀ (σ' τ' : ST) (b' : Nat → Nat), INV σ' b' → LW l G nm 1774 (L0 i) [] σ' τ' (PB b') (ce + 1) (sl + 6) := fun σ' τ' b' hv' => by
        refine rL_iinc dL_law_1774 (by rfl) (Nat.le_of_ble_eq_true rfl) (L' := L0 (i + 5)) (by rfl) ?_
        refine rL_goto dL_law_1777 (tgt := 23) (by rfl) ?_
        exact ih (i + 5) σ' τ' b' (ce + 1) (sl + 6) (by omega) (by omega) hv' ⟨by omega, by omega⟩
      have hc' : ce + 1 ≤ 601024 ∧ sl + 6 ≤ 7293033 := ⟨by omega, by omega⟩
      refine rL_aload_n dL_law_32 rfl (by rfl) ?_
      refine rL_iload dL_law_33 (by rfl) ?_
      refine rL_sald (j := i) dL_law_35 rfl (by omega) (by omega) ?_
      refine rL_bipush dL_law_36 (by decide) ?_
      refine rL_iand dL_law_38 ?_
      obtain ⟨k, hk⟩ : ∃ k, k = (iI (G.2.2.2.2.2.2.2 i).toInt &&& iI 31).toInt := ⟨_, rfl⟩
      have hR : inR k := by rw [hk]; exact inR_of _
      rw [← hk]
      rcases (show (k < 0 ∨ 27 < k) ∨ k = 0 ∨ k = 1 ∨ k = 2 ∨ k = 3 ∨ k = 4 ∨ k = 5 ∨ k = 6 ∨ k = 7 ∨ k = 8 ∨ k = 9 ∨ k = 10 ∨ k = 11 ∨ k = 12 ∨ k = 13 ∨ k = 14 ∨ k = 15 ∨ k = 16 ∨ k = 17 ∨ k = 18 ∨ k = 19 ∨ k = 20 ∨ k = 21 ∨ k = 22 ∨ k = 23 ∨ k = 24 ∨ k = 25 ∨ k = 26 ∨ k = 27 by omega) with h | h | h | h | h | h | h | h | h | h | h | h | h | h | h | h | h | h | h | h | h | h | h | h | h | h | h | h | h
      · refine rL_tsd dL_law_39 hR h (tgt := 1774) (by rfl) ?_
        exact rL_wide ⟨Nat.le_succ _, Nat.le_add_right _ _⟩ (kt _ _ _ hv)
      · refine rL_tsw dL_law_39 hR (by omega) (by omega) (tgt := 164) (by rw [h]; rfl) (by rfl) ?_
        exact cs_0 hl hi hL hv hc' kt
      · refine rL_tsw dL_law_39 hR (by omega) (by omega) (tgt := 232) (by rw [h]; rfl) (by rfl) ?_
        exact cs_1 hl hi hL hv hc' kt
      · refine rL_tsw dL_law_39 hR (by omega) (by omega) (tgt := 312) (by rw [h]; rfl) (by rfl) ?_
        exact cs_2 hl hi hL hv hc' kt
      · refine rL_tsw dL_law_39 hR (by omega) (by omega) (tgt := 380) (by rw [h]; rfl) (by rfl) ?_
        exact cs_3 hl hi hL hv hc' kt
      · refine rL_tsw dL_law_39 hR (by omega) (by omega) (tgt := 448) (by rw [h]; rfl) (by rfl) ?_
        exact cs_4 hl hi hL hv hc' kt
      · refine rL_tsw dL_law_39 hR (by omega) (by omega) (tgt := 492) (by rw [h]; rfl) (by rfl) ?_
        exact cs_5 hl hi hL hv hc' kt
      · refine rL_tsw dL_law_39 hR (by omega) (by omega) (tgt := 548) (by rw [h]; rfl) (by rfl) ?_
        exact cs_6 hl hi hL hv hc' kt
      · refine rL_tsw dL_law_39 hR (by omega) (by omega) (tgt := 640) (by rw [h]; rfl) (by rfl) ?_
        exact cs_7 hl hi hL hv hc' kt
      · refine rL_tsw dL_law_39 hR (by omega) (by omega) (tgt := 696) (by rw [h]; rfl) (by rfl) ?_
        exact cs_8 hl hi hL hv hc' kt
      · refine rL_tsw dL_law_39 hR (by omega) (by omega) (tgt := 752) (by rw [h]; rfl) (by rfl) ?_
        exact cs_9 hl hi hL hv hc' kt
      · refine rL_tsw dL_law_39 hR (by omega) (by omega) (tgt := 820) (by rw [h]; rfl) (by rfl) ?_
        exact cs_10 hl hi hL hv hc' kt
      · refine rL_tsw dL_law_39 hR (by omega) (by omega) (tgt := 876) (by rw [h]; rfl) (by rfl) ?_
        exact cs_11 hl hi hL hv hc' kt
      · refine rL_tsw dL_law_39 hR (by omega) (by omega) (tgt := 932) (by rw [h]; rfl) (by rfl) ?_
        exact cs_12 hl hi hL hv hc' kt
      · refine rL_tsw dL_law_39 hR (by omega) (by omega) (tgt := 945) (by rw [h]; rfl) (by rfl) ?_
        exact cs_13 hl hi hL hv hc' kt
      · refine rL_tsw dL_law_39 hR (by omega) (by omega) (tgt := 958) (by rw [h]; rfl) (by rfl) ?_
        exact cs_14 hl hi hL hv hc' kt
      · refine rL_tsw dL_law_39 hR (by omega) (by omega) (tgt := 1002) (by rw [h]; rfl) (by rfl) ?_
        exact cs_15 hl hi hL hv hc' kt
      · refine rL_tsw dL_law_39 hR (by omega) (by omega) (tgt := 1046) (by rw [h]; rfl) (by rfl) ?_
        exact cs_16 hl hi hL hv hc' kt
      · refine rL_tsw dL_law_39 hR (by omega) (by omega) (tgt := 1126) (by rw [h]; rfl) (by rfl) ?_
        exact cs_17 hl hi hL hv hc' kt
      · refine rL_tsw dL_law_39 hR (by omega) (by omega) (tgt := 1206) (by rw [h]; rfl) (by rfl) ?_
        exact cs_18 hl hi hL hv hc' kt
      · refine rL_tsw dL_law_39 hR (by omega) (by omega) (tgt := 1286) (by rw [h]; rfl) (by rfl) ?_
        exact cs_19 hl hi hL hv hc' kt
      · refine rL_tsw dL_law_39 hR (by omega) (by omega) (tgt := 1354) (by rw [h]; rfl) (by rfl) ?_
        exact cs_20 hl hi hL hv hc' kt
      · refine rL_tsw dL_law_39 hR (by omega) (by omega) (tgt := 1422) (by rw [h]; rfl) (by rfl) ?_
        exact cs_21 hl hi hL hv hc' kt
      · refine rL_tsw dL_law_39 hR (by omega) (by omega) (tgt := 1478) (by rw [h]; rfl) (by rfl) ?_
        exact cs_22 hl hi hL hv hc' kt
      · refine rL_tsw dL_law_39 hR (by omega) (by omega) (tgt := 1546) (by rw [h]; rfl) (by rfl) ?_
        exact cs_23 hl hi hL hv hc' kt
      · refine rL_tsw dL_law_39 hR (by omega) (by omega) (tgt := 1626) (by rw [h]; rfl) (by rfl) ?_
        exact cs_24 hl hi hL hv hc' kt
      · refine rL_tsw dL_law_39 hR (by omega) (by omega) (tgt := 1639) (by rw [h]; rfl) (by rfl) ?_
        exact cs_25 hl hi hL hv hc' kt
      · refine rL_tsw dL_law_39 hR (by omega) (by omega) (tgt := 1719) (by rw [h]; rfl) (by rfl) ?_
        exact cs_26 hl hi hL hv hc' kt
      · refine rL_tsw dL_law_39 hR (by omega) (by omega) (tgt := 1760) (by rw [h]; rfl) (by rfl) ?_
        exact cs_27 hl hi hL hv hc' kt
set_option maxRecDepth 100000 in
set_option maxHeartbeats 4000000 in
theorem st {l : Launch} {G : GG} {nm : String} (hl : l.stackTraces = false) (hL : G.2.2.2.2.2.2.1 ≤ 2560) : WPL l G "ShapedRowsLaw" (mLaw nm) (10, 601024, 7293033) KL noX 0 0 [some (.ref 1000), none, none, none, none, none, none, none, none] [] 0 (kdN 0) Z0 Z0 R0 0 0 := by
  refine rL_new cl_5 nl_L_8 dL_law_0 KD_0 (by omega) (by omega) rfl rfl rfl rfl rfl ⟨Nat.le_of_ble_eq_true rfl, Nat.le_of_ble_eq_true rfl⟩ ?_
  refine rL_dup dL_law_3 rfl ?_
  refine rL_callA ci_X5 fX5_init qL_89 dL_law_4 (by omega) (by omega) (by omega) rfl rfl ⟨Nat.le_of_ble_eq_true rfl, Nat.le_of_ble_eq_true rfl⟩ ⟨Nat.le_of_ble_eq_true rfl, Nat.le_of_ble_eq_true rfl⟩ (Nat.le_of_ble_eq_true rfl) ?_
  refine rL_astore_n dL_law_7 rfl (Nat.le_of_ble_eq_true rfl) (L' := [some (.ref 1000), some (.ref 0), none, none, none, none, none, none, none]) (by rfl) ?_
  refine rL_new cl_6 nl_L_90 dL_law_8 KD_110 (by omega) (by omega) (z5_hi (by omega)) rfl (r5_hi (by omega)) rfl rfl ⟨Nat.le_of_ble_eq_true rfl, Nat.le_of_ble_eq_true rfl⟩ ?_
  refine rL_dup dL_law_11 rfl ?_
  refine rL_callI (ci_X6 (fun p hp => z5_hi (by omega)) (fun p hp => r5_hi (by omega))) fX6_init qL_92 dL_law_12 (by omega) (by omega) (by omega) rfl rfl ⟨Nat.le_of_ble_eq_true rfl, Nat.le_of_ble_eq_true rfl⟩ ⟨Nat.le_of_ble_eq_true rfl, Nat.le_of_ble_eq_true rfl⟩ (Nat.le_of_ble_eq_true rfl) ?_
  refine rL_astore_n dL_law_15 rfl (Nat.le_of_ble_eq_true rfl) (L' := [some (.ref 1000), some (.ref 0), some (.ref 110), none, none, none, none, none, none]) (by rfl) ?_
  refine rL_iconst dL_law_16 ?_
  refine rL_newJ (len := 1) dL_law_17 KD_116 (by decide) (by omega) (by omega) rfl (by unfold sR6; rw [upR_off _ (by omega), upR_off _ (by omega), upR_off _ (by omega), upR_off _ (by omega), upR_off _ (by omega)]; exact r5_hi (by omega)) rfl rfl ⟨Nat.le_of_ble_eq_true rfl, Nat.le_of_ble_eq_true rfl⟩ ?_
  refine rL_astore_n dL_law_19 rfl (Nat.le_of_ble_eq_true rfl) (L' := [some (.ref 1000), some (.ref 0), some (.ref 110), some (.ref 116), none, none, none, none, none]) (by rfl) ?_
  refine rL_iconst dL_law_20 ?_
  refine rL_istore dL_law_21 (Nat.le_of_ble_eq_true rfl) (L' := L0 0) (by rfl) ?_
  have h := lp (l := l) (G := G) (nm := nm) hl hL (G.2.2.2.2.2.2.1 + 6) 0 z7 Z0 b0 117 6195 (by omega) (by omega) INV_0 ⟨by omega, by omega⟩
  unfold LW at h
  rw [← r7_eq, ← kdN_117] at h
  exact h

