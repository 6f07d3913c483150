/-! the face: methods that change -/
theorem svF_row {σ : ST} {b : Nat → Nat} (hB : okB b) (hN : 0 ≤ σ 16 1 ∧ σ 16 1 ≤ 6) {p : Nat} (hp : p < 16 ∨ 108 ≤ p) : svF σ b p = σ p := by
  unfold svF
  by_cases h : σ 16 1 < 6
  · have q := hB (σ 16 1).toNat (by omega)
    have q4 := q.1
    have q5 := q.2
    unfold blkP at q4
    rw [if_pos h, up2_off _ (by omega), tkSt_off σ (Or.inl rfl) q.1 p (by omega)]
  · have q := hB 0 (by omega)
    have q4 := q.1
    have q5 := q.2
    unfold blkP at q4
    rw [if_neg h, up2_off _ (by omega), tkSt_off _ (Or.inl rfl) q.1 p (by omega), up2_off _ (by omega)]

theorem sv_2 {σ : ST} {b : Nat → Nat} (hB : okB b) (hN : 0 ≤ σ 16 1 ∧ σ 16 1 ≤ 6) : svF σ b 2 = σ 2 := svF_row hB hN (by decide)
theorem sv_3 {σ : ST} {b : Nat → Nat} (hB : okB b) (hN : 0 ≤ σ 16 1 ∧ σ 16 1 ≤ 6) : svF σ b 3 = σ 3 := svF_row hB hN (by decide)
theorem sv_4 {σ : ST} {b : Nat → Nat} (hB : okB b) (hN : 0 ≤ σ 16 1 ∧ σ 16 1 ≤ 6) : svF σ b 4 = σ 4 := svF_row hB hN (by decide)
theorem sv_5 {σ : ST} {b : Nat → Nat} (hB : okB b) (hN : 0 ≤ σ 16 1 ∧ σ 16 1 ≤ 6) : svF σ b 5 = σ 5 := svF_row hB hN (by decide)
theorem sv_6 {σ : ST} {b : Nat → Nat} (hB : okB b) (hN : 0 ≤ σ 16 1 ∧ σ 16 1 ≤ 6) : svF σ b 6 = σ 6 := svF_row hB hN (by decide)
theorem sv_7 {σ : ST} {b : Nat → Nat} (hB : okB b) (hN : 0 ≤ σ 16 1 ∧ σ 16 1 ≤ 6) : svF σ b 7 = σ 7 := svF_row hB hN (by decide)
theorem sv_8 {σ : ST} {b : Nat → Nat} (hB : okB b) (hN : 0 ≤ σ 16 1 ∧ σ 16 1 ≤ 6) : svF σ b 8 = σ 8 := svF_row hB hN (by decide)
theorem sv_9 {σ : ST} {b : Nat → Nat} (hB : okB b) (hN : 0 ≤ σ 16 1 ∧ σ 16 1 ≤ 6) : svF σ b 9 = σ 9 := svF_row hB hN (by decide)
theorem sv_10 {σ : ST} {b : Nat → Nat} (hB : okB b) (hN : 0 ≤ σ 16 1 ∧ σ 16 1 ≤ 6) : svF σ b 10 = σ 10 := svF_row hB hN (by decide)
theorem sv_11 {σ : ST} {b : Nat → Nat} (hB : okB b) (hN : 0 ≤ σ 16 1 ∧ σ 16 1 ≤ 6) : svF σ b 11 = σ 11 := svF_row hB hN (by decide)
theorem sv_12 {σ : ST} {b : Nat → Nat} (hB : okB b) (hN : 0 ≤ σ 16 1 ∧ σ 16 1 ≤ 6) : svF σ b 12 = σ 12 := svF_row hB hN (by decide)
theorem sv_13 {σ : ST} {b : Nat → Nat} (hB : okB b) (hN : 0 ≤ σ 16 1 ∧ σ 16 1 ≤ 6) : svF σ b 13 = σ 13 := svF_row hB hN (by decide)
theorem sv_14 {σ : ST} {b : Nat → Nat} (hB : okB b) (hN : 0 ≤ σ 16 1 ∧ σ 16 1 ≤ 6) : svF σ b 14 = σ 14 := svF_row hB hN (by decide)
theorem sv_15 {σ : ST} {b : Nat → Nat} (hB : okB b) (hN : 0 ≤ σ 16 1 ∧ σ 16 1 ≤ 6) : svF σ b 15 = σ 15 := svF_row hB hN (by decide)
theorem sv_108 {σ : ST} {b : Nat → Nat} (hB : okB b) (hN : 0 ≤ σ 16 1 ∧ σ 16 1 ≤ 6) : svF σ b 108 = σ 108 := svF_row hB hN (by decide)
theorem sv_109 {σ : ST} {b : Nat → Nat} (hB : okB b) (hN : 0 ≤ σ 16 1 ∧ σ 16 1 ≤ 6) : svF σ b 109 = σ 109 := svF_row hB hN (by decide)
theorem sv_110 {σ : ST} {b : Nat → Nat} (hB : okB b) (hN : 0 ≤ σ 16 1 ∧ σ 16 1 ≤ 6) : svF σ b 110 = σ 110 := svF_row hB hN (by decide)
theorem sv_111 {σ : ST} {b : Nat → Nat} (hB : okB b) (hN : 0 ≤ σ 16 1 ∧ σ 16 1 ≤ 6) : svF σ b 111 = σ 111 := svF_row hB hN (by decide)
theorem CI_sv {σ : ST} {b : Nat → Nat} (hB : okB b) (hN : 0 ≤ σ 16 1 ∧ σ 16 1 ≤ 6) (h : CI σ) : CI (svF σ b) := by
  unfold CI at h ⊢
  simp only [sv_2 hB hN, sv_3 hB hN, sv_4 hB hN, sv_5 hB hN, sv_6 hB hN, sv_7 hB hN, sv_8 hB hN, sv_9 hB hN, sv_10 hB hN, sv_11 hB hN, sv_12 hB hN, sv_13 hB hN, sv_14 hB hN]
  exact h
theorem TI_sv {σ : ST} {b : Nat → Nat} (hB : okB b) (hN : 0 ≤ σ 16 1 ∧ σ 16 1 ≤ 6) (h : TI σ) : TI (svF σ b) := by
  unfold TI at h ⊢
  simp only [sv_108 hB hN, sv_109 hB hN]
  exact h
theorem plc_sv {σ : ST} {b : Nat → Nat} (hB : okB b) (hN : 0 ≤ σ 16 1 ∧ σ 16 1 ≤ 6) (s : Nat) (a : Int) : plc (svF σ b) s a = plc σ s a := by unfold plc; rw [sv_9 hB hN, sv_7 hB hN]
theorem pcl_sv {σ : ST} {b : Nat → Nat} (hB : okB b) (hN : 0 ≤ σ 16 1 ∧ σ 16 1 ≤ 6) (s : Nat) (a : Int) : pcl (svF σ b) s a = pcl σ s a := by unfold pcl; rw [sv_8 hB hN, sv_7 hB hN]
theorem colL_sv {σ : ST} {b : Nat → Nat} (hB : okB b) (hN : 0 ≤ σ 16 1 ∧ σ 16 1 ≤ 6) (s : Nat) (a : Int) : colL (svF σ b) s a = colL σ s a := by unfold colL; rw [plc_sv hB hN, sv_8 hB hN]
theorem WI_sv {σ : ST} {b : Nat → Nat} (hB : okB b) (hN : 0 ≤ σ 16 1 ∧ σ 16 1 ≤ 6) (h : WI σ) : WI (svF σ b) := by
  unfold WI at h ⊢
  simp only [plc_sv hB hN, sv_2 hB hN, sv_7 hB hN]
  exact h

set_option maxRecDepth 100000 in
set_option maxHeartbeats 4000000 in
theorem ct_X5_addNumber {l : Launch} {G : GG} {σ τ : ST} (hI : CI σ) (b : Nat → Nat) (hB : okB b) (hN : 0 ≤ σ 16 1 ∧ σ 16 1 ≤ 6) (hW : WI σ) (a : Int) (m : Int) (hE0 : 0 ≤ a ∧ a < 8 ∧ 0 ≤ m ∧ m ≤ 99) (hE1 : σ 2 0 < 12 ∧ plc σ (σ 2 0 - 1).toNat a = -1) : Ct l G mX5_addNumber (6, 0, 0) [.ref 0, .int (iI a), .int (iI m)] 110 KD σ τ (RHO (PB b)) (KSP (some (.int (iI (svF σ b 2 0)))) (exN (svF σ b) a m) τ (PB (svB σ b)) (fun _ => True)) := by
  have hz := hI.sz
  have hr0 := hI.ro
  have hm0 := hI.mk
  have h16 := svF_row hB hN (p := 2) (by decide)
  refine ct_intro (own := "ShapedRows") rfl (by decide +kernel) (Nat.le_of_ble_eq_true rfl) (L := _) rfl ?_
  refine r_iload_n dX5_addNumber_0 rfl (by rfl) ?_
  refine r_callS1 (ct_X5_isLetter _ (by first | exact hB | exact hN | omega | (unfold inR; omega) | (simp only [sv_2 hB hN, sv_3 hB hN, sv_4 hB hN, sv_5 hB hN, sv_6 hB hN, sv_7 hB hN, sv_8 hB hN, sv_9 hB hN, sv_10 hB hN, sv_11 hB hN, sv_12 hB hN, sv_13 hB hN, sv_14 hB hN, sv_15 hB hN, sv_108 hB hN, sv_109 hB hN, sv_110 hB hN, sv_111 hB hN, plc_sv hB hN, pcl_sv hB hN, colL_sv hB hN]; omega) | (simp only [sv_2 hB hN, sv_3 hB hN, sv_4 hB hN, sv_5 hB hN, sv_6 hB hN, sv_7 hB hN, sv_8 hB hN, sv_9 hB hN, sv_10 hB hN, sv_11 hB hN, sv_12 hB hN, sv_13 hB hN, sv_14 hB hN, sv_15 hB hN, sv_108 hB hN, sv_109 hB hN, sv_110 hB hN, sv_111 hB hN, plc_sv hB hN, pcl_sv hB hN, colL_sv hB hN]; exact hW a (by omega) (by omega) (by omega)))) fX5_isLetter qX5_30 dX5_addNumber_1 (by decide) ⟨Nat.zero_le _, Nat.zero_le _⟩ (Nat.le_of_ble_eq_true rfl) ?_
  refine r_ifeq_b (tgt := 14) dX5_addNumber_4 (by decide) (fun c_1 => ?_) (fun c_1 => ?_)
  · exfalso; omega
  · refine r_iload_n dX5_addNumber_7 rfl (by rfl) ?_
    refine r_callS1 (ct_X5_isNumber _ (by first | exact hB | exact hN | omega | (unfold inR; omega) | (simp only [sv_2 hB hN, sv_3 hB hN, sv_4 hB hN, sv_5 hB hN, sv_6 hB hN, sv_7 hB hN, sv_8 hB hN, sv_9 hB hN, sv_10 hB hN, sv_11 hB hN, sv_12 hB hN, sv_13 hB hN, sv_14 hB hN, sv_15 hB hN, sv_108 hB hN, sv_109 hB hN, sv_110 hB hN, sv_111 hB hN, plc_sv hB hN, pcl_sv hB hN, colL_sv hB hN]; omega) | (simp only [sv_2 hB hN, sv_3 hB hN, sv_4 hB hN, sv_5 hB hN, sv_6 hB hN, sv_7 hB hN, sv_8 hB hN, sv_9 hB hN, sv_10 hB hN, sv_11 hB hN, sv_12 hB hN, sv_13 hB hN, sv_14 hB hN, sv_15 hB hN, sv_108 hB hN, sv_109 hB hN, sv_110 hB hN, sv_111 hB hN, plc_sv hB hN, pcl_sv hB hN, colL_sv hB hN]; exact hW a (by omega) (by omega) (by omega)))) fX5_isNumber qX5_34 dX5_addNumber_8 (by decide) ⟨Nat.zero_le _, Nat.zero_le _⟩ (Nat.le_of_ble_eq_true rfl) ?_
    refine r_ifne_b (tgt := 24) dX5_addNumber_11 (by decide) (fun c_2 => ?_) (fun c_2 => ?_)
    · refine r_aload_n dX5_addNumber_24 rfl (by rfl) ?_
      refine r_get_r kX5_10 dX5_addNumber_25 KD_0 (RHO_0_0 _) ?_
      refine r_get_r kX5_44 dX5_addNumber_28 KD_1 (RHO_1_0 _) ?_
      refine r_iload_n dX5_addNumber_31 rfl (by rfl) ?_
      refine r_callV1 (ct_X2_canAdd hI _ (by first | exact hB | exact hN | omega | (unfold inR; omega) | (simp only [sv_2 hB hN, sv_3 hB hN, sv_4 hB hN, sv_5 hB hN, sv_6 hB hN, sv_7 hB hN, sv_8 hB hN, sv_9 hB hN, sv_10 hB hN, sv_11 hB hN, sv_12 hB hN, sv_13 hB hN, sv_14 hB hN, sv_15 hB hN, sv_108 hB hN, sv_109 hB hN, sv_110 hB hN, sv_111 hB hN, plc_sv hB hN, pcl_sv hB hN, colL_sv hB hN]; omega) | (simp only [sv_2 hB hN, sv_3 hB hN, sv_4 hB hN, sv_5 hB hN, sv_6 hB hN, sv_7 hB hN, sv_8 hB hN, sv_9 hB hN, sv_10 hB hN, sv_11 hB hN, sv_12 hB hN, sv_13 hB hN, sv_14 hB hN, sv_15 hB hN, sv_108 hB hN, sv_109 hB hN, sv_110 hB hN, sv_111 hB hN, plc_sv hB hN, pcl_sv hB hN, colL_sv hB hN]; exact hW a (by omega) (by omega) (by omega)))) fX2_canAdd qX5_48 dX5_addNumber_32 KD_2 (by decide) ⟨Nat.zero_le _, Nat.zero_le _⟩ (Nat.le_of_ble_eq_true rfl) ?_
      refine r_ifne_b (tgt := 48) dX5_addNumber_35 (by decide) (fun c_3 => ?_) (fun c_3 => ?_)
      · refine r_aload_n dX5_addNumber_48 rfl (by rfl) ?_
        refine r_get_r kX5_19 dX5_addNumber_49 KD_0 (RHO_0_1 _) ?_
        refine r_aload_n dX5_addNumber_52 rfl (by rfl) ?_
        refine r_get_r kX5_10 dX5_addNumber_53 KD_0 (RHO_0_0 _) ?_
        refine r_callV1 (ct_X0_save _ (by first | exact hB | exact hN | omega | (unfold inR; omega) | (simp only [sv_2 hB hN, sv_3 hB hN, sv_4 hB hN, sv_5 hB hN, sv_6 hB hN, sv_7 hB hN, sv_8 hB hN, sv_9 hB hN, sv_10 hB hN, sv_11 hB hN, sv_12 hB hN, sv_13 hB hN, sv_14 hB hN, sv_15 hB hN, sv_108 hB hN, sv_109 hB hN, sv_110 hB hN, sv_111 hB hN, plc_sv hB hN, pcl_sv hB hN, colL_sv hB hN]; omega) | (simp only [sv_2 hB hN, sv_3 hB hN, sv_4 hB hN, sv_5 hB hN, sv_6 hB hN, sv_7 hB hN, sv_8 hB hN, sv_9 hB hN, sv_10 hB hN, sv_11 hB hN, sv_12 hB hN, sv_13 hB hN, sv_14 hB hN, sv_15 hB hN, sv_108 hB hN, sv_109 hB hN, sv_110 hB hN, sv_111 hB hN, plc_sv hB hN, pcl_sv hB hN, colL_sv hB hN]; exact hW a (by omega) (by omega) (by omega))) (by first | exact hB | exact hN | omega | (unfold inR; omega) | (simp only [sv_2 hB hN, sv_3 hB hN, sv_4 hB hN, sv_5 hB hN, sv_6 hB hN, sv_7 hB hN, sv_8 hB hN, sv_9 hB hN, sv_10 hB hN, sv_11 hB hN, sv_12 hB hN, sv_13 hB hN, sv_14 hB hN, sv_15 hB hN, sv_108 hB hN, sv_109 hB hN, sv_110 hB hN, sv_111 hB hN, plc_sv hB hN, pcl_sv hB hN, colL_sv hB hN]; omega) | (simp only [sv_2 hB hN, sv_3 hB hN, sv_4 hB hN, sv_5 hB hN, sv_6 hB hN, sv_7 hB hN, sv_8 hB hN, sv_9 hB hN, sv_10 hB hN, sv_11 hB hN, sv_12 hB hN, sv_13 hB hN, sv_14 hB hN, sv_15 hB hN, sv_108 hB hN, sv_109 hB hN, sv_110 hB hN, sv_111 hB hN, plc_sv hB hN, pcl_sv hB hN, colL_sv hB hN]; exact hW a (by omega) (by omega) (by omega)))) fX0_save qX5_58 dX5_addNumber_56 KD_16 (by decide) ⟨Nat.zero_le _, Nat.zero_le _⟩ (Nat.le_of_ble_eq_true rfl) ?_
        refine r_aload_n dX5_addNumber_59 rfl (by rfl) ?_
        refine r_get_r kX5_10 dX5_addNumber_60 KD_0 (RHO_0_0 _) ?_
        refine r_get_r kX5_44 dX5_addNumber_63 KD_1 (RHO_1_0 _) ?_
        refine r_iload_n dX5_addNumber_66 rfl (by rfl) ?_
        refine r_iload_n dX5_addNumber_67 rfl (by rfl) ?_
        refine r_callV2 (ct_X2_extendByNumber (CI_sv hB hN hI) (by first | exact hB | exact hN | omega | (unfold inR; omega) | (simp only [sv_2 hB hN, sv_3 hB hN, sv_4 hB hN, sv_5 hB hN, sv_6 hB hN, sv_7 hB hN, sv_8 hB hN, sv_9 hB hN, sv_10 hB hN, sv_11 hB hN, sv_12 hB hN, sv_13 hB hN, sv_14 hB hN, sv_15 hB hN, sv_108 hB hN, sv_109 hB hN, sv_110 hB hN, sv_111 hB hN, plc_sv hB hN, pcl_sv hB hN, colL_sv hB hN]; omega) | (simp only [sv_2 hB hN, sv_3 hB hN, sv_4 hB hN, sv_5 hB hN, sv_6 hB hN, sv_7 hB hN, sv_8 hB hN, sv_9 hB hN, sv_10 hB hN, sv_11 hB hN, sv_12 hB hN, sv_13 hB hN, sv_14 hB hN, sv_15 hB hN, sv_108 hB hN, sv_109 hB hN, sv_110 hB hN, sv_111 hB hN, plc_sv hB hN, pcl_sv hB hN, colL_sv hB hN]; exact hW a (by omega) (by omega) (by omega))) (by first | exact hB | exact hN | omega | (unfold inR; omega) | (simp only [sv_2 hB hN, sv_3 hB hN, sv_4 hB hN, sv_5 hB hN, sv_6 hB hN, sv_7 hB hN, sv_8 hB hN, sv_9 hB hN, sv_10 hB hN, sv_11 hB hN, sv_12 hB hN, sv_13 hB hN, sv_14 hB hN, sv_15 hB hN, sv_108 hB hN, sv_109 hB hN, sv_110 hB hN, sv_111 hB hN, plc_sv hB hN, pcl_sv hB hN, colL_sv hB hN]; omega) | (simp only [sv_2 hB hN, sv_3 hB hN, sv_4 hB hN, sv_5 hB hN, sv_6 hB hN, sv_7 hB hN, sv_8 hB hN, sv_9 hB hN, sv_10 hB hN, sv_11 hB hN, sv_12 hB hN, sv_13 hB hN, sv_14 hB hN, sv_15 hB hN, sv_108 hB hN, sv_109 hB hN, sv_110 hB hN, sv_111 hB hN, plc_sv hB hN, pcl_sv hB hN, colL_sv hB hN]; exact hW a (by omega) (by omega) (by omega))) _ _) fX2_extendByNumber qX5_62 dX5_addNumber_68 KD_2 (by decide) ⟨Nat.zero_le _, Nat.zero_le _⟩ (Nat.le_of_ble_eq_true rfl) ?_
        exact r_ret_is dX5_addNumber_71 rfl ⟨Nat.zero_le _, Nat.zero_le _⟩ (by first | rfl | omega | (split <;> omega)) (by first | rfl | exact (sr_self _ _).symm) (by exact trivial)
      · exfalso; omega
    · exfalso; omega

set_option maxRecDepth 100000 in
set_option maxHeartbeats 4000000 in
theorem ct_X5_addCopy {l : Launch} {G : GG} {σ τ : ST} (hI : CI σ) (b : Nat → Nat) (hB : okB b) (hN : 0 ≤ σ 16 1 ∧ σ 16 1 ≤ 6) (hW : WI σ) (a : Int) (c : Int) (e : Int) (hE0 : 0 ≤ a ∧ a < 8 ∧ 0 ≤ c ∧ c < 8 ∧ (e = -1 ∨ 0 ≤ e ∧ e < 8)) (hE1 : σ 2 0 < 12 ∧ plc σ (σ 2 0 - 1).toNat a = -1 ∧ plc σ (σ 2 0 - 1).toNat c ≠ -1 ∧ (e = -1 ∨ plc σ (σ 2 0 - 1).toNat e ≠ -1)) : Ct l G mX5_addCopy (6, 0, 0) [.ref 0, .int (iI a), .int (iI c), .int (iI e)] 110 KD σ τ (RHO (PB b)) (KSP (some (.int (iI (svF σ b 2 0)))) (exC (svF σ b) a c e) τ (PB (svB σ b)) (fun _ => True)) := by
  have hz := hI.sz
  have hr0 := hI.ro
  have hm0 := hI.mk
  have h16 := svF_row hB hN (p := 2) (by decide)
  refine ct_intro (own := "ShapedRows") rfl (by decide +kernel) (Nat.le_of_ble_eq_true rfl) (L := _) rfl ?_
  refine r_iload_n dX5_addCopy_0 rfl (by rfl) ?_
  refine r_callS1 (ct_X5_isLetter _ (by first | exact hB | exact hN | omega | (unfold inR; omega) | (simp only [sv_2 hB hN, sv_3 hB hN, sv_4 hB hN, sv_5 hB hN, sv_6 hB hN, sv_7 hB hN, sv_8 hB hN, sv_9 hB hN, sv_10 hB hN, sv_11 hB hN, sv_12 hB hN, sv_13 hB hN, sv_14 hB hN, sv_15 hB hN, sv_108 hB hN, sv_109 hB hN, sv_110 hB hN, sv_111 hB hN, plc_sv hB hN, pcl_sv hB hN, colL_sv hB hN]; omega) | (simp only [sv_2 hB hN, sv_3 hB hN, sv_4 hB hN, sv_5 hB hN, sv_6 hB hN, sv_7 hB hN, sv_8 hB hN, sv_9 hB hN, sv_10 hB hN, sv_11 hB hN, sv_12 hB hN, sv_13 hB hN, sv_14 hB hN, sv_15 hB hN, sv_108 hB hN, sv_109 hB hN, sv_110 hB hN, sv_111 hB hN, plc_sv hB hN, pcl_sv hB hN, colL_sv hB hN]; exact hW a (by omega) (by omega) (by omega)))) fX5_isLetter qX5_30 dX5_addCopy_1 (by decide) ⟨Nat.zero_le _, Nat.zero_le _⟩ (Nat.le_of_ble_eq_true rfl) ?_
  refine r_ifeq_b (tgt := 21) dX5_addCopy_4 (by decide) (fun c_1 => ?_) (fun c_1 => ?_)
  · exfalso; omega
  · refine r_iload_n dX5_addCopy_7 rfl (by rfl) ?_
    refine r_callS1 (ct_X5_isLetter _ (by first | exact hB | exact hN | omega | (unfold inR; omega) | (simp only [sv_2 hB hN, sv_3 hB hN, sv_4 hB hN, sv_5 hB hN, sv_6 hB hN, sv_7 hB hN, sv_8 hB hN, sv_9 hB hN, sv_10 hB hN, sv_11 hB hN, sv_12 hB hN, sv_13 hB hN, sv_14 hB hN, sv_15 hB hN, sv_108 hB hN, sv_109 hB hN, sv_110 hB hN, sv_111 hB hN, plc_sv hB hN, pcl_sv hB hN, colL_sv hB hN]; omega) | (simp only [sv_2 hB hN, sv_3 hB hN, sv_4 hB hN, sv_5 hB hN, sv_6 hB hN, sv_7 hB hN, sv_8 hB hN, sv_9 hB hN, sv_10 hB hN, sv_11 hB hN, sv_12 hB hN, sv_13 hB hN, sv_14 hB hN, sv_15 hB hN, sv_108 hB hN, sv_109 hB hN, sv_110 hB hN, sv_111 hB hN, plc_sv hB hN, pcl_sv hB hN, colL_sv hB hN]; exact hW a (by omega) (by omega) (by omega)))) fX5_isLetter qX5_30 dX5_addCopy_8 (by decide) ⟨Nat.zero_le _, Nat.zero_le _⟩ (Nat.le_of_ble_eq_true rfl) ?_
    refine r_ifeq_b (tgt := 21) dX5_addCopy_11 (by decide) (fun c_2 => ?_) (fun c_2 => ?_)
    · exfalso; omega
    · refine r_iload_n dX5_addCopy_14 rfl (by rfl) ?_
      refine r_callS1 (ct_X5_isLetterOrNone _ (by first | exact hB | exact hN | omega | (unfold inR; omega) | (simp only [sv_2 hB hN, sv_3 hB hN, sv_4 hB hN, sv_5 hB hN, sv_6 hB hN, sv_7 hB hN, sv_8 hB hN, sv_9 hB hN, sv_10 hB hN, sv_11 hB hN, sv_12 hB hN, sv_13 hB hN, sv_14 hB hN, sv_15 hB hN, sv_108 hB hN, sv_109 hB hN, sv_110 hB hN, sv_111 hB hN, plc_sv hB hN, pcl_sv hB hN, colL_sv hB hN]; omega) | (simp only [sv_2 hB hN, sv_3 hB hN, sv_4 hB hN, sv_5 hB hN, sv_6 hB hN, sv_7 hB hN, sv_8 hB hN, sv_9 hB hN, sv_10 hB hN, sv_11 hB hN, sv_12 hB hN, sv_13 hB hN, sv_14 hB hN, sv_15 hB hN, sv_108 hB hN, sv_109 hB hN, sv_110 hB hN, sv_111 hB hN, plc_sv hB hN, pcl_sv hB hN, colL_sv hB hN]; exact hW a (by omega) (by omega) (by omega)))) fX5_isLetterOrNone qX5_66 dX5_addCopy_15 (by decide) ⟨Nat.zero_le _, Nat.zero_le _⟩ (Nat.le_of_ble_eq_true rfl) ?_
      refine r_ifne_b (tgt := 31) dX5_addCopy_18 (by decide) (fun c_3 => ?_) (fun c_3 => ?_)
      · refine r_aload_n dX5_addCopy_31 rfl (by rfl) ?_
        refine r_get_r kX5_10 dX5_addCopy_32 KD_0 (RHO_0_0 _) ?_
        refine r_get_r kX5_44 dX5_addCopy_35 KD_1 (RHO_1_0 _) ?_
        refine r_iload_n dX5_addCopy_38 rfl (by rfl) ?_
        refine r_iload_n dX5_addCopy_39 rfl (by rfl) ?_
        refine r_iload_n dX5_addCopy_40 rfl (by rfl) ?_
        refine r_callV3 (ct_X2_canAddFrom hI _ (by first | exact hB | exact hN | omega | (unfold inR; omega) | (simp only [sv_2 hB hN, sv_3 hB hN, sv_4 hB hN, sv_5 hB hN, sv_6 hB hN, sv_7 hB hN, sv_8 hB hN, sv_9 hB hN, sv_10 hB hN, sv_11 hB hN, sv_12 hB hN, sv_13 hB hN, sv_14 hB hN, sv_15 hB hN, sv_108 hB hN, sv_109 hB hN, sv_110 hB hN, sv_111 hB hN, plc_sv hB hN, pcl_sv hB hN, colL_sv hB hN]; omega) | (simp only [sv_2 hB hN, sv_3 hB hN, sv_4 hB hN, sv_5 hB hN, sv_6 hB hN, sv_7 hB hN, sv_8 hB hN, sv_9 hB hN, sv_10 hB hN, sv_11 hB hN, sv_12 hB hN, sv_13 hB hN, sv_14 hB hN, sv_15 hB hN, sv_108 hB hN, sv_109 hB hN, sv_110 hB hN, sv_111 hB hN, plc_sv hB hN, pcl_sv hB hN, colL_sv hB hN]; exact hW a (by omega) (by omega) (by omega))) _ (by first | exact hB | exact hN | omega | (unfold inR; omega) | (simp only [sv_2 hB hN, sv_3 hB hN, sv_4 hB hN, sv_5 hB hN, sv_6 hB hN, sv_7 hB hN, sv_8 hB hN, sv_9 hB hN, sv_10 hB hN, sv_11 hB hN, sv_12 hB hN, sv_13 hB hN, sv_14 hB hN, sv_15 hB hN, sv_108 hB hN, sv_109 hB hN, sv_110 hB hN, sv_111 hB hN, plc_sv hB hN, pcl_sv hB hN, colL_sv hB hN]; omega) | (simp only [sv_2 hB hN, sv_3 hB hN, sv_4 hB hN, sv_5 hB hN, sv_6 hB hN, sv_7 hB hN, sv_8 hB hN, sv_9 hB hN, sv_10 hB hN, sv_11 hB hN, sv_12 hB hN, sv_13 hB hN, sv_14 hB hN, sv_15 hB hN, sv_108 hB hN, sv_109 hB hN, sv_110 hB hN, sv_111 hB hN, plc_sv hB hN, pcl_sv hB hN, colL_sv hB hN]; exact hW a (by omega) (by omega) (by omega))) _ (by first | exact hB | exact hN | omega | (unfold inR; omega) | (simp only [sv_2 hB hN, sv_3 hB hN, sv_4 hB hN, sv_5 hB hN, sv_6 hB hN, sv_7 hB hN, sv_8 hB hN, sv_9 hB hN, sv_10 hB hN, sv_11 hB hN, sv_12 hB hN, sv_13 hB hN, sv_14 hB hN, sv_15 hB hN, sv_108 hB hN, sv_109 hB hN, sv_110 hB hN, sv_111 hB hN, plc_sv hB hN, pcl_sv hB hN, colL_sv hB hN]; omega) | (simp only [sv_2 hB hN, sv_3 hB hN, sv_4 hB hN, sv_5 hB hN, sv_6 hB hN, sv_7 hB hN, sv_8 hB hN, sv_9 hB hN, sv_10 hB hN, sv_11 hB hN, sv_12 hB hN, sv_13 hB hN, sv_14 hB hN, sv_15 hB hN, sv_108 hB hN, sv_109 hB hN, sv_110 hB hN, sv_111 hB hN, plc_sv hB hN, pcl_sv hB hN, colL_sv hB hN]; exact hW a (by omega) (by omega) (by omega)))) fX2_canAddFrom qX5_71 dX5_addCopy_41 KD_2 (by decide) ⟨Nat.zero_le _, Nat.zero_le _⟩ (Nat.le_of_ble_eq_true rfl) ?_
        refine r_ifne_b (tgt := 57) dX5_addCopy_44 (by decide) (fun c_4 => ?_) (fun c_4 => ?_)
        · refine r_aload_n dX5_addCopy_57 rfl (by rfl) ?_
          refine r_get_r kX5_19 dX5_addCopy_58 KD_0 (RHO_0_1 _) ?_
          refine r_aload_n dX5_addCopy_61 rfl (by rfl) ?_
          refine r_get_r kX5_10 dX5_addCopy_62 KD_0 (RHO_0_0 _) ?_
          refine r_callV1 (ct_X0_save _ (by first | exact hB | exact hN | omega | (unfold inR; omega) | (simp only [sv_2 hB hN, sv_3 hB hN, sv_4 hB hN, sv_5 hB hN, sv_6 hB hN, sv_7 hB hN, sv_8 hB hN, sv_9 hB hN, sv_10 hB hN, sv_11 hB hN, sv_12 hB hN, sv_13 hB hN, sv_14 hB hN, sv_15 hB hN, sv_108 hB hN, sv_109 hB hN, sv_110 hB hN, sv_111 hB hN, plc_sv hB hN, pcl_sv hB hN, colL_sv hB hN]; omega) | (simp only [sv_2 hB hN, sv_3 hB hN, sv_4 hB hN, sv_5 hB hN, sv_6 hB hN, sv_7 hB hN, sv_8 hB hN, sv_9 hB hN, sv_10 hB hN, sv_11 hB hN, sv_12 hB hN, sv_13 hB hN, sv_14 hB hN, sv_15 hB hN, sv_108 hB hN, sv_109 hB hN, sv_110 hB hN, sv_111 hB hN, plc_sv hB hN, pcl_sv hB hN, colL_sv hB hN]; exact hW a (by omega) (by omega) (by omega))) (by first | exact hB | exact hN | omega | (unfold inR; omega) | (simp only [sv_2 hB hN, sv_3 hB hN, sv_4 hB hN, sv_5 hB hN, sv_6 hB hN, sv_7 hB hN, sv_8 hB hN, sv_9 hB hN, sv_10 hB hN, sv_11 hB hN, sv_12 hB hN, sv_13 hB hN, sv_14 hB hN, sv_15 hB hN, sv_108 hB hN, sv_109 hB hN, sv_110 hB hN, sv_111 hB hN, plc_sv hB hN, pcl_sv hB hN, colL_sv hB hN]; omega) | (simp only [sv_2 hB hN, sv_3 hB hN, sv_4 hB hN, sv_5 hB hN, sv_6 hB hN, sv_7 hB hN, sv_8 hB hN, sv_9 hB hN, sv_10 hB hN, sv_11 hB hN, sv_12 hB hN, sv_13 hB hN, sv_14 hB hN, sv_15 hB hN, sv_108 hB hN, sv_109 hB hN, sv_110 hB hN, sv_111 hB hN, plc_sv hB hN, pcl_sv hB hN, colL_sv hB hN]; exact hW a (by omega) (by omega) (by omega)))) fX0_save qX5_58 dX5_addCopy_65 KD_16 (by decide) ⟨Nat.zero_le _, Nat.zero_le _⟩ (Nat.le_of_ble_eq_true rfl) ?_
          refine r_aload_n dX5_addCopy_68 rfl (by rfl) ?_
          refine r_get_r kX5_10 dX5_addCopy_69 KD_0 (RHO_0_0 _) ?_
          refine r_get_r kX5_44 dX5_addCopy_72 KD_1 (RHO_1_0 _) ?_
          refine r_iload_n dX5_addCopy_75 rfl (by rfl) ?_
          refine r_iload_n dX5_addCopy_76 rfl (by rfl) ?_
          refine r_iload_n dX5_addCopy_77 rfl (by rfl) ?_
          refine r_callV3 (ct_X2_extendFrom (CI_sv hB hN hI) (by first | exact hB | exact hN | omega | (unfold inR; omega) | (simp only [sv_2 hB hN, sv_3 hB hN, sv_4 hB hN, sv_5 hB hN, sv_6 hB hN, sv_7 hB hN, sv_8 hB hN, sv_9 hB hN, sv_10 hB hN, sv_11 hB hN, sv_12 hB hN, sv_13 hB hN, sv_14 hB hN, sv_15 hB hN, sv_108 hB hN, sv_109 hB hN, sv_110 hB hN, sv_111 hB hN, plc_sv hB hN, pcl_sv hB hN, colL_sv hB hN]; omega) | (simp only [sv_2 hB hN, sv_3 hB hN, sv_4 hB hN, sv_5 hB hN, sv_6 hB hN, sv_7 hB hN, sv_8 hB hN, sv_9 hB hN, sv_10 hB hN, sv_11 hB hN, sv_12 hB hN, sv_13 hB hN, sv_14 hB hN, sv_15 hB hN, sv_108 hB hN, sv_109 hB hN, sv_110 hB hN, sv_111 hB hN, plc_sv hB hN, pcl_sv hB hN, colL_sv hB hN]; exact hW a (by omega) (by omega) (by omega))) (by first | exact hB | exact hN | omega | (unfold inR; omega) | (simp only [sv_2 hB hN, sv_3 hB hN, sv_4 hB hN, sv_5 hB hN, sv_6 hB hN, sv_7 hB hN, sv_8 hB hN, sv_9 hB hN, sv_10 hB hN, sv_11 hB hN, sv_12 hB hN, sv_13 hB hN, sv_14 hB hN, sv_15 hB hN, sv_108 hB hN, sv_109 hB hN, sv_110 hB hN, sv_111 hB hN, plc_sv hB hN, pcl_sv hB hN, colL_sv hB hN]; omega) | (simp only [sv_2 hB hN, sv_3 hB hN, sv_4 hB hN, sv_5 hB hN, sv_6 hB hN, sv_7 hB hN, sv_8 hB hN, sv_9 hB hN, sv_10 hB hN, sv_11 hB hN, sv_12 hB hN, sv_13 hB hN, sv_14 hB hN, sv_15 hB hN, sv_108 hB hN, sv_109 hB hN, sv_110 hB hN, sv_111 hB hN, plc_sv hB hN, pcl_sv hB hN, colL_sv hB hN]; exact hW a (by omega) (by omega) (by omega))) _ _ _ (by first | exact hB | exact hN | omega | (unfold inR; omega) | (simp only [sv_2 hB hN, sv_3 hB hN, sv_4 hB hN, sv_5 hB hN, sv_6 hB hN, sv_7 hB hN, sv_8 hB hN, sv_9 hB hN, sv_10 hB hN, sv_11 hB hN, sv_12 hB hN, sv_13 hB hN, sv_14 hB hN, sv_15 hB hN, sv_108 hB hN, sv_109 hB hN, sv_110 hB hN, sv_111 hB hN, plc_sv hB hN, pcl_sv hB hN, colL_sv hB hN]; omega) | (simp only [sv_2 hB hN, sv_3 hB hN, sv_4 hB hN, sv_5 hB hN, sv_6 hB hN, sv_7 hB hN, sv_8 hB hN, sv_9 hB hN, sv_10 hB hN, sv_11 hB hN, sv_12 hB hN, sv_13 hB hN, sv_14 hB hN, sv_15 hB hN, sv_108 hB hN, sv_109 hB hN, sv_110 hB hN, sv_111 hB hN, plc_sv hB hN, pcl_sv hB hN, colL_sv hB hN]; exact hW a (by omega) (by omega) (by omega))) (by first | exact hB | exact hN | omega | (unfold inR; omega) | (simp only [sv_2 hB hN, sv_3 hB hN, sv_4 hB hN, sv_5 hB hN, sv_6 hB hN, sv_7 hB hN, sv_8 hB hN, sv_9 hB hN, sv_10 hB hN, sv_11 hB hN, sv_12 hB hN, sv_13 hB hN, sv_14 hB hN, sv_15 hB hN, sv_108 hB hN, sv_109 hB hN, sv_110 hB hN, sv_111 hB hN, plc_sv hB hN, pcl_sv hB hN, colL_sv hB hN]; omega) | (simp only [sv_2 hB hN, sv_3 hB hN, sv_4 hB hN, sv_5 hB hN, sv_6 hB hN, sv_7 hB hN, sv_8 hB hN, sv_9 hB hN, sv_10 hB hN, sv_11 hB hN, sv_12 hB hN, sv_13 hB hN, sv_14 hB hN, sv_15 hB hN, sv_108 hB hN, sv_109 hB hN, sv_110 hB hN, sv_111 hB hN, plc_sv hB hN, pcl_sv hB hN, colL_sv hB hN]; exact hW a (by omega) (by omega) (by omega)))) fX2_extendFrom qX5_77 dX5_addCopy_78 KD_2 (by decide) ⟨Nat.zero_le _, Nat.zero_le _⟩ (Nat.le_of_ble_eq_true rfl) ?_
          exact r_ret_is dX5_addCopy_81 rfl ⟨Nat.zero_le _, Nat.zero_le _⟩ (by first | rfl | omega | (split <;> omega)) (by first | rfl | exact (sr_self _ _).symm) (by exact trivial)
        · exfalso; omega
      · exfalso; omega

set_option maxRecDepth 100000 in
set_option maxHeartbeats 4000000 in
theorem ct_X5_drop {l : Launch} {G : GG} {σ τ : ST} (hI : CI σ) (b : Nat → Nat) (hB : okB b) (hN : 0 ≤ σ 16 1 ∧ σ 16 1 ≤ 6) (a : Int) (m : Int) (hE0 : 0 ≤ a ∧ a < 8 ∧ 0 ≤ m ∧ m ≤ 99) (hE1 : σ 2 0 < 12 ∧ plc σ (σ 2 0 - 1).toNat a ≠ -1) : Ct l G mX5_drop (6, 0, 0) [.ref 0, .int (iI a), .int (iI m)] 110 KD σ τ (RHO (PB b)) (KSP (some (.int (iI (svF σ b 2 0)))) (lvO (svF σ b) a m) τ (PB (svB σ b)) (fun _ => True)) := by
  have hz := hI.sz
  have hr0 := hI.ro
  have hm0 := hI.mk
  have h16 := svF_row hB hN (p := 2) (by decide)
  refine ct_intro (own := "ShapedRows") rfl (by decide +kernel) (Nat.le_of_ble_eq_true rfl) (L := _) rfl ?_
  refine r_iload_n dX5_drop_0 rfl (by rfl) ?_
  refine r_callS1 (ct_X5_isLetter _ (by first | exact hB | exact hN | omega | (unfold inR; omega) | (simp only [sv_2 hB hN, sv_3 hB hN, sv_4 hB hN, sv_5 hB hN, sv_6 hB hN, sv_7 hB hN, sv_8 hB hN, sv_9 hB hN, sv_10 hB hN, sv_11 hB hN, sv_12 hB hN, sv_13 hB hN, sv_14 hB hN, sv_15 hB hN, sv_108 hB hN, sv_109 hB hN, sv_110 hB hN, sv_111 hB hN, plc_sv hB hN, pcl_sv hB hN, colL_sv hB hN]; omega) | (simp only [sv_2 hB hN, sv_3 hB hN, sv_4 hB hN, sv_5 hB hN, sv_6 hB hN, sv_7 hB hN, sv_8 hB hN, sv_9 hB hN, sv_10 hB hN, sv_11 hB hN, sv_12 hB hN, sv_13 hB hN, sv_14 hB hN, sv_15 hB hN, sv_108 hB hN, sv_109 hB hN, sv_110 hB hN, sv_111 hB hN, plc_sv hB hN, pcl_sv hB hN, colL_sv hB hN]; exact hW a (by omega) (by omega) (by omega)))) fX5_isLetter qX5_30 dX5_drop_1 (by decide) ⟨Nat.zero_le _, Nat.zero_le _⟩ (Nat.le_of_ble_eq_true rfl) ?_
  refine r_ifeq_b (tgt := 14) dX5_drop_4 (by decide) (fun c_1 => ?_) (fun c_1 => ?_)
  · exfalso; omega
  · refine r_iload_n dX5_drop_7 rfl (by rfl) ?_
    refine r_callS1 (ct_X5_isNumber _ (by first | exact hB | exact hN | omega | (unfold inR; omega) | (simp only [sv_2 hB hN, sv_3 hB hN, sv_4 hB hN, sv_5 hB hN, sv_6 hB hN, sv_7 hB hN, sv_8 hB hN, sv_9 hB hN, sv_10 hB hN, sv_11 hB hN, sv_12 hB hN, sv_13 hB hN, sv_14 hB hN, sv_15 hB hN, sv_108 hB hN, sv_109 hB hN, sv_110 hB hN, sv_111 hB hN, plc_sv hB hN, pcl_sv hB hN, colL_sv hB hN]; omega) | (simp only [sv_2 hB hN, sv_3 hB hN, sv_4 hB hN, sv_5 hB hN, sv_6 hB hN, sv_7 hB hN, sv_8 hB hN, sv_9 hB hN, sv_10 hB hN, sv_11 hB hN, sv_12 hB hN, sv_13 hB hN, sv_14 hB hN, sv_15 hB hN, sv_108 hB hN, sv_109 hB hN, sv_110 hB hN, sv_111 hB hN, plc_sv hB hN, pcl_sv hB hN, colL_sv hB hN]; exact hW a (by omega) (by omega) (by omega)))) fX5_isNumber qX5_34 dX5_drop_8 (by decide) ⟨Nat.zero_le _, Nat.zero_le _⟩ (Nat.le_of_ble_eq_true rfl) ?_
    refine r_ifne_b (tgt := 24) dX5_drop_11 (by decide) (fun c_2 => ?_) (fun c_2 => ?_)
    · refine r_aload_n dX5_drop_24 rfl (by rfl) ?_
      refine r_get_r kX5_10 dX5_drop_25 KD_0 (RHO_0_0 _) ?_
      refine r_get_r kX5_44 dX5_drop_28 KD_1 (RHO_1_0 _) ?_
      refine r_iload_n dX5_drop_31 rfl (by rfl) ?_
      refine r_callV1 (ct_X2_canDrop hI _ (by first | exact hB | exact hN | omega | (unfold inR; omega) | (simp only [sv_2 hB hN, sv_3 hB hN, sv_4 hB hN, sv_5 hB hN, sv_6 hB hN, sv_7 hB hN, sv_8 hB hN, sv_9 hB hN, sv_10 hB hN, sv_11 hB hN, sv_12 hB hN, sv_13 hB hN, sv_14 hB hN, sv_15 hB hN, sv_108 hB hN, sv_109 hB hN, sv_110 hB hN, sv_111 hB hN, plc_sv hB hN, pcl_sv hB hN, colL_sv hB hN]; omega) | (simp only [sv_2 hB hN, sv_3 hB hN, sv_4 hB hN, sv_5 hB hN, sv_6 hB hN, sv_7 hB hN, sv_8 hB hN, sv_9 hB hN, sv_10 hB hN, sv_11 hB hN, sv_12 hB hN, sv_13 hB hN, sv_14 hB hN, sv_15 hB hN, sv_108 hB hN, sv_109 hB hN, sv_110 hB hN, sv_111 hB hN, plc_sv hB hN, pcl_sv hB hN, colL_sv hB hN]; exact hW a (by omega) (by omega) (by omega)))) fX2_canDrop qX5_81 dX5_drop_32 KD_2 (by decide) ⟨Nat.zero_le _, Nat.zero_le _⟩ (Nat.le_of_ble_eq_true rfl) ?_
      refine r_ifne_b (tgt := 48) dX5_drop_35 (by decide) (fun c_3 => ?_) (fun c_3 => ?_)
      · refine r_aload_n dX5_drop_48 rfl (by rfl) ?_
        refine r_get_r kX5_19 dX5_drop_49 KD_0 (RHO_0_1 _) ?_
        refine r_aload_n dX5_drop_52 rfl (by rfl) ?_
        refine r_get_r kX5_10 dX5_drop_53 KD_0 (RHO_0_0 _) ?_
        refine r_callV1 (ct_X0_save _ (by first | exact hB | exact hN | omega | (unfold inR; omega) | (simp only [sv_2 hB hN, sv_3 hB hN, sv_4 hB hN, sv_5 hB hN, sv_6 hB hN, sv_7 hB hN, sv_8 hB hN, sv_9 hB hN, sv_10 hB hN, sv_11 hB hN, sv_12 hB hN, sv_13 hB hN, sv_14 hB hN, sv_15 hB hN, sv_108 hB hN, sv_109 hB hN, sv_110 hB hN, sv_111 hB hN, plc_sv hB hN, pcl_sv hB hN, colL_sv hB hN]; omega) | (simp only [sv_2 hB hN, sv_3 hB hN, sv_4 hB hN, sv_5 hB hN, sv_6 hB hN, sv_7 hB hN, sv_8 hB hN, sv_9 hB hN, sv_10 hB hN, sv_11 hB hN, sv_12 hB hN, sv_13 hB hN, sv_14 hB hN, sv_15 hB hN, sv_108 hB hN, sv_109 hB hN, sv_110 hB hN, sv_111 hB hN, plc_sv hB hN, pcl_sv hB hN, colL_sv hB hN]; exact hW a (by omega) (by omega) (by omega))) (by first | exact hB | exact hN | omega | (unfold inR; omega) | (simp only [sv_2 hB hN, sv_3 hB hN, sv_4 hB hN, sv_5 hB hN, sv_6 hB hN, sv_7 hB hN, sv_8 hB hN, sv_9 hB hN, sv_10 hB hN, sv_11 hB hN, sv_12 hB hN, sv_13 hB hN, sv_14 hB hN, sv_15 hB hN, sv_108 hB hN, sv_109 hB hN, sv_110 hB hN, sv_111 hB hN, plc_sv hB hN, pcl_sv hB hN, colL_sv hB hN]; omega) | (simp only [sv_2 hB hN, sv_3 hB hN, sv_4 hB hN, sv_5 hB hN, sv_6 hB hN, sv_7 hB hN, sv_8 hB hN, sv_9 hB hN, sv_10 hB hN, sv_11 hB hN, sv_12 hB hN, sv_13 hB hN, sv_14 hB hN, sv_15 hB hN, sv_108 hB hN, sv_109 hB hN, sv_110 hB hN, sv_111 hB hN, plc_sv hB hN, pcl_sv hB hN, colL_sv hB hN]; exact hW a (by omega) (by omega) (by omega)))) fX0_save qX5_58 dX5_drop_56 KD_16 (by decide) ⟨Nat.zero_le _, Nat.zero_le _⟩ (Nat.le_of_ble_eq_true rfl) ?_
        refine r_aload_n dX5_drop_59 rfl (by rfl) ?_
        refine r_get_r kX5_10 dX5_drop_60 KD_0 (RHO_0_0 _) ?_
        refine r_get_r kX5_44 dX5_drop_63 KD_1 (RHO_1_0 _) ?_
        refine r_iload_n dX5_drop_66 rfl (by rfl) ?_
        refine r_iload_n dX5_drop_67 rfl (by rfl) ?_
        refine r_callV2 (ct_X2_leaveOut (CI_sv hB hN hI) (by first | exact hB | exact hN | omega | (unfold inR; omega) | (simp only [sv_2 hB hN, sv_3 hB hN, sv_4 hB hN, sv_5 hB hN, sv_6 hB hN, sv_7 hB hN, sv_8 hB hN, sv_9 hB hN, sv_10 hB hN, sv_11 hB hN, sv_12 hB hN, sv_13 hB hN, sv_14 hB hN, sv_15 hB hN, sv_108 hB hN, sv_109 hB hN, sv_110 hB hN, sv_111 hB hN, plc_sv hB hN, pcl_sv hB hN, colL_sv hB hN]; omega) | (simp only [sv_2 hB hN, sv_3 hB hN, sv_4 hB hN, sv_5 hB hN, sv_6 hB hN, sv_7 hB hN, sv_8 hB hN, sv_9 hB hN, sv_10 hB hN, sv_11 hB hN, sv_12 hB hN, sv_13 hB hN, sv_14 hB hN, sv_15 hB hN, sv_108 hB hN, sv_109 hB hN, sv_110 hB hN, sv_111 hB hN, plc_sv hB hN, pcl_sv hB hN, colL_sv hB hN]; exact hW a (by omega) (by omega) (by omega))) _ _ (by first | exact hB | exact hN | omega | (unfold inR; omega) | (simp only [sv_2 hB hN, sv_3 hB hN, sv_4 hB hN, sv_5 hB hN, sv_6 hB hN, sv_7 hB hN, sv_8 hB hN, sv_9 hB hN, sv_10 hB hN, sv_11 hB hN, sv_12 hB hN, sv_13 hB hN, sv_14 hB hN, sv_15 hB hN, sv_108 hB hN, sv_109 hB hN, sv_110 hB hN, sv_111 hB hN, plc_sv hB hN, pcl_sv hB hN, colL_sv hB hN]; omega) | (simp only [sv_2 hB hN, sv_3 hB hN, sv_4 hB hN, sv_5 hB hN, sv_6 hB hN, sv_7 hB hN, sv_8 hB hN, sv_9 hB hN, sv_10 hB hN, sv_11 hB hN, sv_12 hB hN, sv_13 hB hN, sv_14 hB hN, sv_15 hB hN, sv_108 hB hN, sv_109 hB hN, sv_110 hB hN, sv_111 hB hN, plc_sv hB hN, pcl_sv hB hN, colL_sv hB hN]; exact hW a (by omega) (by omega) (by omega))) (by first | exact hB | exact hN | omega | (unfold inR; omega) | (simp only [sv_2 hB hN, sv_3 hB hN, sv_4 hB hN, sv_5 hB hN, sv_6 hB hN, sv_7 hB hN, sv_8 hB hN, sv_9 hB hN, sv_10 hB hN, sv_11 hB hN, sv_12 hB hN, sv_13 hB hN, sv_14 hB hN, sv_15 hB hN, sv_108 hB hN, sv_109 hB hN, sv_110 hB hN, sv_111 hB hN, plc_sv hB hN, pcl_sv hB hN, colL_sv hB hN]; omega) | (simp only [sv_2 hB hN, sv_3 hB hN, sv_4 hB hN, sv_5 hB hN, sv_6 hB hN, sv_7 hB hN, sv_8 hB hN, sv_9 hB hN, sv_10 hB hN, sv_11 hB hN, sv_12 hB hN, sv_13 hB hN, sv_14 hB hN, sv_15 hB hN, sv_108 hB hN, sv_109 hB hN, sv_110 hB hN, sv_111 hB hN, plc_sv hB hN, pcl_sv hB hN, colL_sv hB hN]; exact hW a (by omega) (by omega) (by omega)))) fX2_leaveOut qX5_86 dX5_drop_68 KD_2 (by decide) ⟨Nat.zero_le _, Nat.zero_le _⟩ (Nat.le_of_ble_eq_true rfl) ?_
        exact r_ret_is dX5_drop_71 rfl ⟨Nat.zero_le _, Nat.zero_le _⟩ (by first | rfl | omega | (split <;> omega)) (by first | rfl | exact (sr_self _ _).symm) (by exact trivial)
      · exfalso; omega
    · exfalso; omega

set_option maxRecDepth 100000 in
set_option maxHeartbeats 4000000 in
theorem ct_X5_rename {l : Launch} {G : GG} {σ τ : ST} (hI : CI σ) (b : Nat → Nat) (hB : okB b) (hN : 0 ≤ σ 16 1 ∧ σ 16 1 ≤ 6) (a : Int) (c : Int) (hE0 : 0 ≤ a ∧ a < 8 ∧ 0 ≤ c ∧ c < 8) (hE1 : σ 2 0 < 12 ∧ plc σ (σ 2 0 - 1).toNat a ≠ -1 ∧ plc σ (σ 2 0 - 1).toNat c = -1) : Ct l G mX5_rename (6, 0, 0) [.ref 0, .int (iI a), .int (iI c)] 110 KD σ τ (RHO (PB b)) (KSP (some (.int (iI (svF σ b 2 0)))) (xcL (svF σ b) a c) τ (PB (svB σ b)) (fun _ => True)) := by
  have hz := hI.sz
  have hr0 := hI.ro
  have hm0 := hI.mk
  have h16 := svF_row hB hN (p := 2) (by decide)
  refine ct_intro (own := "ShapedRows") rfl (by decide +kernel) (Nat.le_of_ble_eq_true rfl) (L := _) rfl ?_
  refine r_iload_n dX5_rename_0 rfl (by rfl) ?_
  refine r_callS1 (ct_X5_isLetter _ (by first | exact hB | exact hN | omega | (unfold inR; omega) | (simp only [sv_2 hB hN, sv_3 hB hN, sv_4 hB hN, sv_5 hB hN, sv_6 hB hN, sv_7 hB hN, sv_8 hB hN, sv_9 hB hN, sv_10 hB hN, sv_11 hB hN, sv_12 hB hN, sv_13 hB hN, sv_14 hB hN, sv_15 hB hN, sv_108 hB hN, sv_109 hB hN, sv_110 hB hN, sv_111 hB hN, plc_sv hB hN, pcl_sv hB hN, colL_sv hB hN]; omega) | (simp only [sv_2 hB hN, sv_3 hB hN, sv_4 hB hN, sv_5 hB hN, sv_6 hB hN, sv_7 hB hN, sv_8 hB hN, sv_9 hB hN, sv_10 hB hN, sv_11 hB hN, sv_12 hB hN, sv_13 hB hN, sv_14 hB hN, sv_15 hB hN, sv_108 hB hN, sv_109 hB hN, sv_110 hB hN, sv_111 hB hN, plc_sv hB hN, pcl_sv hB hN, colL_sv hB hN]; exact hW a (by omega) (by omega) (by omega)))) fX5_isLetter qX5_30 dX5_rename_1 (by decide) ⟨Nat.zero_le _, Nat.zero_le _⟩ (Nat.le_of_ble_eq_true rfl) ?_
  refine r_ifeq_b (tgt := 14) dX5_rename_4 (by decide) (fun c_1 => ?_) (fun c_1 => ?_)
  · exfalso; omega
  · refine r_iload_n dX5_rename_7 rfl (by rfl) ?_
    refine r_callS1 (ct_X5_isLetter _ (by first | exact hB | exact hN | omega | (unfold inR; omega) | (simp only [sv_2 hB hN, sv_3 hB hN, sv_4 hB hN, sv_5 hB hN, sv_6 hB hN, sv_7 hB hN, sv_8 hB hN, sv_9 hB hN, sv_10 hB hN, sv_11 hB hN, sv_12 hB hN, sv_13 hB hN, sv_14 hB hN, sv_15 hB hN, sv_108 hB hN, sv_109 hB hN, sv_110 hB hN, sv_111 hB hN, plc_sv hB hN, pcl_sv hB hN, colL_sv hB hN]; omega) | (simp only [sv_2 hB hN, sv_3 hB hN, sv_4 hB hN, sv_5 hB hN, sv_6 hB hN, sv_7 hB hN, sv_8 hB hN, sv_9 hB hN, sv_10 hB hN, sv_11 hB hN, sv_12 hB hN, sv_13 hB hN, sv_14 hB hN, sv_15 hB hN, sv_108 hB hN, sv_109 hB hN, sv_110 hB hN, sv_111 hB hN, plc_sv hB hN, pcl_sv hB hN, colL_sv hB hN]; exact hW a (by omega) (by omega) (by omega)))) fX5_isLetter qX5_30 dX5_rename_8 (by decide) ⟨Nat.zero_le _, Nat.zero_le _⟩ (Nat.le_of_ble_eq_true rfl) ?_
    refine r_ifne_b (tgt := 24) dX5_rename_11 (by decide) (fun c_2 => ?_) (fun c_2 => ?_)
    · refine r_aload_n dX5_rename_24 rfl (by rfl) ?_
      refine r_get_r kX5_10 dX5_rename_25 KD_0 (RHO_0_0 _) ?_
      refine r_get_r kX5_44 dX5_rename_28 KD_1 (RHO_1_0 _) ?_
      refine r_iload_n dX5_rename_31 rfl (by rfl) ?_
      refine r_iload_n dX5_rename_32 rfl (by rfl) ?_
      refine r_callV2 (ct_X2_canRename hI _ (by first | exact hB | exact hN | omega | (unfold inR; omega) | (simp only [sv_2 hB hN, sv_3 hB hN, sv_4 hB hN, sv_5 hB hN, sv_6 hB hN, sv_7 hB hN, sv_8 hB hN, sv_9 hB hN, sv_10 hB hN, sv_11 hB hN, sv_12 hB hN, sv_13 hB hN, sv_14 hB hN, sv_15 hB hN, sv_108 hB hN, sv_109 hB hN, sv_110 hB hN, sv_111 hB hN, plc_sv hB hN, pcl_sv hB hN, colL_sv hB hN]; omega) | (simp only [sv_2 hB hN, sv_3 hB hN, sv_4 hB hN, sv_5 hB hN, sv_6 hB hN, sv_7 hB hN, sv_8 hB hN, sv_9 hB hN, sv_10 hB hN, sv_11 hB hN, sv_12 hB hN, sv_13 hB hN, sv_14 hB hN, sv_15 hB hN, sv_108 hB hN, sv_109 hB hN, sv_110 hB hN, sv_111 hB hN, plc_sv hB hN, pcl_sv hB hN, colL_sv hB hN]; exact hW a (by omega) (by omega) (by omega))) _ (by first | exact hB | exact hN | omega | (unfold inR; omega) | (simp only [sv_2 hB hN, sv_3 hB hN, sv_4 hB hN, sv_5 hB hN, sv_6 hB hN, sv_7 hB hN, sv_8 hB hN, sv_9 hB hN, sv_10 hB hN, sv_11 hB hN, sv_12 hB hN, sv_13 hB hN, sv_14 hB hN, sv_15 hB hN, sv_108 hB hN, sv_109 hB hN, sv_110 hB hN, sv_111 hB hN, plc_sv hB hN, pcl_sv hB hN, colL_sv hB hN]; omega) | (simp only [sv_2 hB hN, sv_3 hB hN, sv_4 hB hN, sv_5 hB hN, sv_6 hB hN, sv_7 hB hN, sv_8 hB hN, sv_9 hB hN, sv_10 hB hN, sv_11 hB hN, sv_12 hB hN, sv_13 hB hN, sv_14 hB hN, sv_15 hB hN, sv_108 hB hN, sv_109 hB hN, sv_110 hB hN, sv_111 hB hN, plc_sv hB hN, pcl_sv hB hN, colL_sv hB hN]; exact hW a (by omega) (by omega) (by omega)))) fX2_canRename qX5_89 dX5_rename_33 KD_2 (by decide) ⟨Nat.zero_le _, Nat.zero_le _⟩ (Nat.le_of_ble_eq_true rfl) ?_
      refine r_ifne_b (tgt := 49) dX5_rename_36 (by decide) (fun c_3 => ?_) (fun c_3 => ?_)
      · refine r_aload_n dX5_rename_49 rfl (by rfl) ?_
        refine r_get_r kX5_19 dX5_rename_50 KD_0 (RHO_0_1 _) ?_
        refine r_aload_n dX5_rename_53 rfl (by rfl) ?_
        refine r_get_r kX5_10 dX5_rename_54 KD_0 (RHO_0_0 _) ?_
        refine r_callV1 (ct_X0_save _ (by first | exact hB | exact hN | omega | (unfold inR; omega) | (simp only [sv_2 hB hN, sv_3 hB hN, sv_4 hB hN, sv_5 hB hN, sv_6 hB hN, sv_7 hB hN, sv_8 hB hN, sv_9 hB hN, sv_10 hB hN, sv_11 hB hN, sv_12 hB hN, sv_13 hB hN, sv_14 hB hN, sv_15 hB hN, sv_108 hB hN, sv_109 hB hN, sv_110 hB hN, sv_111 hB hN, plc_sv hB hN, pcl_sv hB hN, colL_sv hB hN]; omega) | (simp only [sv_2 hB hN, sv_3 hB hN, sv_4 hB hN, sv_5 hB hN, sv_6 hB hN, sv_7 hB hN, sv_8 hB hN, sv_9 hB hN, sv_10 hB hN, sv_11 hB hN, sv_12 hB hN, sv_13 hB hN, sv_14 hB hN, sv_15 hB hN, sv_108 hB hN, sv_109 hB hN, sv_110 hB hN, sv_111 hB hN, plc_sv hB hN, pcl_sv hB hN, colL_sv hB hN]; exact hW a (by omega) (by omega) (by omega))) (by first | exact hB | exact hN | omega | (unfold inR; omega) | (simp only [sv_2 hB hN, sv_3 hB hN, sv_4 hB hN, sv_5 hB hN, sv_6 hB hN, sv_7 hB hN, sv_8 hB hN, sv_9 hB hN, sv_10 hB hN, sv_11 hB hN, sv_12 hB hN, sv_13 hB hN, sv_14 hB hN, sv_15 hB hN, sv_108 hB hN, sv_109 hB hN, sv_110 hB hN, sv_111 hB hN, plc_sv hB hN, pcl_sv hB hN, colL_sv hB hN]; omega) | (simp only [sv_2 hB hN, sv_3 hB hN, sv_4 hB hN, sv_5 hB hN, sv_6 hB hN, sv_7 hB hN, sv_8 hB hN, sv_9 hB hN, sv_10 hB hN, sv_11 hB hN, sv_12 hB hN, sv_13 hB hN, sv_14 hB hN, sv_15 hB hN, sv_108 hB hN, sv_109 hB hN, sv_110 hB hN, sv_111 hB hN, plc_sv hB hN, pcl_sv hB hN, colL_sv hB hN]; exact hW a (by omega) (by omega) (by omega)))) fX0_save qX5_58 dX5_rename_57 KD_16 (by decide) ⟨Nat.zero_le _, Nat.zero_le _⟩ (Nat.le_of_ble_eq_true rfl) ?_
        refine r_aload_n dX5_rename_60 rfl (by rfl) ?_
        refine r_get_r kX5_10 dX5_rename_61 KD_0 (RHO_0_0 _) ?_
        refine r_get_r kX5_44 dX5_rename_64 KD_1 (RHO_1_0 _) ?_
        refine r_iload_n dX5_rename_67 rfl (by rfl) ?_
        refine r_iload_n dX5_rename_68 rfl (by rfl) ?_
        refine r_callV2 (ct_X2_exchangeLetter (CI_sv hB hN hI) (by first | exact hB | exact hN | omega | (unfold inR; omega) | (simp only [sv_2 hB hN, sv_3 hB hN, sv_4 hB hN, sv_5 hB hN, sv_6 hB hN, sv_7 hB hN, sv_8 hB hN, sv_9 hB hN, sv_10 hB hN, sv_11 hB hN, sv_12 hB hN, sv_13 hB hN, sv_14 hB hN, sv_15 hB hN, sv_108 hB hN, sv_109 hB hN, sv_110 hB hN, sv_111 hB hN, plc_sv hB hN, pcl_sv hB hN, colL_sv hB hN]; omega) | (simp only [sv_2 hB hN, sv_3 hB hN, sv_4 hB hN, sv_5 hB hN, sv_6 hB hN, sv_7 hB hN, sv_8 hB hN, sv_9 hB hN, sv_10 hB hN, sv_11 hB hN, sv_12 hB hN, sv_13 hB hN, sv_14 hB hN, sv_15 hB hN, sv_108 hB hN, sv_109 hB hN, sv_110 hB hN, sv_111 hB hN, plc_sv hB hN, pcl_sv hB hN, colL_sv hB hN]; exact hW a (by omega) (by omega) (by omega))) _ _ (by first | exact hB | exact hN | omega | (unfold inR; omega) | (simp only [sv_2 hB hN, sv_3 hB hN, sv_4 hB hN, sv_5 hB hN, sv_6 hB hN, sv_7 hB hN, sv_8 hB hN, sv_9 hB hN, sv_10 hB hN, sv_11 hB hN, sv_12 hB hN, sv_13 hB hN, sv_14 hB hN, sv_15 hB hN, sv_108 hB hN, sv_109 hB hN, sv_110 hB hN, sv_111 hB hN, plc_sv hB hN, pcl_sv hB hN, colL_sv hB hN]; omega) | (simp only [sv_2 hB hN, sv_3 hB hN, sv_4 hB hN, sv_5 hB hN, sv_6 hB hN, sv_7 hB hN, sv_8 hB hN, sv_9 hB hN, sv_10 hB hN, sv_11 hB hN, sv_12 hB hN, sv_13 hB hN, sv_14 hB hN, sv_15 hB hN, sv_108 hB hN, sv_109 hB hN, sv_110 hB hN, sv_111 hB hN, plc_sv hB hN, pcl_sv hB hN, colL_sv hB hN]; exact hW a (by omega) (by omega) (by omega))) (by first | exact hB | exact hN | omega | (unfold inR; omega) | (simp only [sv_2 hB hN, sv_3 hB hN, sv_4 hB hN, sv_5 hB hN, sv_6 hB hN, sv_7 hB hN, sv_8 hB hN, sv_9 hB hN, sv_10 hB hN, sv_11 hB hN, sv_12 hB hN, sv_13 hB hN, sv_14 hB hN, sv_15 hB hN, sv_108 hB hN, sv_109 hB hN, sv_110 hB hN, sv_111 hB hN, plc_sv hB hN, pcl_sv hB hN, colL_sv hB hN]; omega) | (simp only [sv_2 hB hN, sv_3 hB hN, sv_4 hB hN, sv_5 hB hN, sv_6 hB hN, sv_7 hB hN, sv_8 hB hN, sv_9 hB hN, sv_10 hB hN, sv_11 hB hN, sv_12 hB hN, sv_13 hB hN, sv_14 hB hN, sv_15 hB hN, sv_108 hB hN, sv_109 hB hN, sv_110 hB hN, sv_111 hB hN, plc_sv hB hN, pcl_sv hB hN, colL_sv hB hN]; exact hW a (by omega) (by omega) (by omega)))) fX2_exchangeLetter qX5_93 dX5_rename_69 KD_2 (by decide) ⟨Nat.zero_le _, Nat.zero_le _⟩ (Nat.le_of_ble_eq_true rfl) ?_
        exact r_ret_is dX5_rename_72 rfl ⟨Nat.zero_le _, Nat.zero_le _⟩ (by first | rfl | omega | (split <;> omega)) (by first | rfl | exact (sr_self _ _).symm) (by exact trivial)
      · exfalso; omega
    · exfalso; omega

set_option maxRecDepth 100000 in
set_option maxHeartbeats 4000000 in
theorem ct_X5_insertBy {l : Launch} {G : GG} {σ τ : ST} (hI : CI σ) (b : Nat → Nat) (hB : okB b) (hN : 0 ≤ σ 16 1 ∧ σ 16 1 ≤ 6) (s : Int) (hE0 : σ 2 1 ≤ s ∧ s < σ 2 0) (hE1 : σ 10 0 < 12) : Ct l G mX5_insertBy (6, 0, 0) [.ref 0, .int (iI s)] 110 KD σ τ (RHO (PB b)) (KSP (some (.int (iI (svF σ b 10 0)))) (adR (svF σ b) s) τ (PB (svB σ b)) (fun _ => True)) := by
  have hz := hI.sz
  have hr0 := hI.ro
  have hm0 := hI.mk
  have h16 := svF_row hB hN (p := 2) (by decide)
  refine ct_intro (own := "ShapedRows") rfl (by decide +kernel) (Nat.le_of_ble_eq_true rfl) (L := _) rfl ?_
  refine r_aload_n dX5_insertBy_0 rfl (by rfl) ?_
  refine r_get_r kX5_10 dX5_insertBy_1 KD_0 (RHO_0_0 _) ?_
  refine r_get_r kX5_44 dX5_insertBy_4 KD_1 (RHO_1_0 _) ?_
  refine r_iload_n dX5_insertBy_7 rfl (by rfl) ?_
  refine r_callV1 (ct_X2_isUsable hI _ (by first | exact hB | exact hN | omega | (unfold inR; omega) | (simp only [sv_2 hB hN, sv_3 hB hN, sv_4 hB hN, sv_5 hB hN, sv_6 hB hN, sv_7 hB hN, sv_8 hB hN, sv_9 hB hN, sv_10 hB hN, sv_11 hB hN, sv_12 hB hN, sv_13 hB hN, sv_14 hB hN, sv_15 hB hN, sv_108 hB hN, sv_109 hB hN, sv_110 hB hN, sv_111 hB hN, plc_sv hB hN, pcl_sv hB hN, colL_sv hB hN]; omega) | (simp only [sv_2 hB hN, sv_3 hB hN, sv_4 hB hN, sv_5 hB hN, sv_6 hB hN, sv_7 hB hN, sv_8 hB hN, sv_9 hB hN, sv_10 hB hN, sv_11 hB hN, sv_12 hB hN, sv_13 hB hN, sv_14 hB hN, sv_15 hB hN, sv_108 hB hN, sv_109 hB hN, sv_110 hB hN, sv_111 hB hN, plc_sv hB hN, pcl_sv hB hN, colL_sv hB hN]; exact hW a (by omega) (by omega) (by omega)))) fX2_isUsable qX5_116 dX5_insertBy_8 KD_2 (by decide) ⟨Nat.zero_le _, Nat.zero_le _⟩ (Nat.le_of_ble_eq_true rfl) ?_
  refine r_ifne_b (tgt := 24) dX5_insertBy_11 (by decide) (fun c_1 => ?_) (fun c_1 => ?_)
  · refine r_aload_n dX5_insertBy_24 rfl (by rfl) ?_
    refine r_get_r kX5_10 dX5_insertBy_25 KD_0 (RHO_0_0 _) ?_
    refine r_get_r kX5_96 dX5_insertBy_28 KD_1 (RHO_1_1 _) ?_
    refine r_callV0 (ct_X1_isFull hI) fX1_isFull qX5_100 dX5_insertBy_31 KD_10 (by decide) ⟨Nat.zero_le _, Nat.zero_le _⟩ (Nat.le_of_ble_eq_true rfl) ?_
    refine r_ifeq_b (tgt := 47) dX5_insertBy_34 (by decide) (fun c_2 => ?_) (fun c_2 => ?_)
    · refine r_aload_n dX5_insertBy_47 rfl (by rfl) ?_
      refine r_get_r kX5_19 dX5_insertBy_48 KD_0 (RHO_0_1 _) ?_
      refine r_aload_n dX5_insertBy_51 rfl (by rfl) ?_
      refine r_get_r kX5_10 dX5_insertBy_52 KD_0 (RHO_0_0 _) ?_
      refine r_callV1 (ct_X0_save _ (by first | exact hB | exact hN | omega | (unfold inR; omega) | (simp only [sv_2 hB hN, sv_3 hB hN, sv_4 hB hN, sv_5 hB hN, sv_6 hB hN, sv_7 hB hN, sv_8 hB hN, sv_9 hB hN, sv_10 hB hN, sv_11 hB hN, sv_12 hB hN, sv_13 hB hN, sv_14 hB hN, sv_15 hB hN, sv_108 hB hN, sv_109 hB hN, sv_110 hB hN, sv_111 hB hN, plc_sv hB hN, pcl_sv hB hN, colL_sv hB hN]; omega) | (simp only [sv_2 hB hN, sv_3 hB hN, sv_4 hB hN, sv_5 hB hN, sv_6 hB hN, sv_7 hB hN, sv_8 hB hN, sv_9 hB hN, sv_10 hB hN, sv_11 hB hN, sv_12 hB hN, sv_13 hB hN, sv_14 hB hN, sv_15 hB hN, sv_108 hB hN, sv_109 hB hN, sv_110 hB hN, sv_111 hB hN, plc_sv hB hN, pcl_sv hB hN, colL_sv hB hN]; exact hW a (by omega) (by omega) (by omega))) (by first | exact hB | exact hN | omega | (unfold inR; omega) | (simp only [sv_2 hB hN, sv_3 hB hN, sv_4 hB hN, sv_5 hB hN, sv_6 hB hN, sv_7 hB hN, sv_8 hB hN, sv_9 hB hN, sv_10 hB hN, sv_11 hB hN, sv_12 hB hN, sv_13 hB hN, sv_14 hB hN, sv_15 hB hN, sv_108 hB hN, sv_109 hB hN, sv_110 hB hN, sv_111 hB hN, plc_sv hB hN, pcl_sv hB hN, colL_sv hB hN]; omega) | (simp only [sv_2 hB hN, sv_3 hB hN, sv_4 hB hN, sv_5 hB hN, sv_6 hB hN, sv_7 hB hN, sv_8 hB hN, sv_9 hB hN, sv_10 hB hN, sv_11 hB hN, sv_12 hB hN, sv_13 hB hN, sv_14 hB hN, sv_15 hB hN, sv_108 hB hN, sv_109 hB hN, sv_110 hB hN, sv_111 hB hN, plc_sv hB hN, pcl_sv hB hN, colL_sv hB hN]; exact hW a (by omega) (by omega) (by omega)))) fX0_save qX5_58 dX5_insertBy_55 KD_16 (by decide) ⟨Nat.zero_le _, Nat.zero_le _⟩ (Nat.le_of_ble_eq_true rfl) ?_
      refine r_aload_n dX5_insertBy_58 rfl (by rfl) ?_
      refine r_get_r kX5_10 dX5_insertBy_59 KD_0 (RHO_0_0 _) ?_
      refine r_get_r kX5_96 dX5_insertBy_62 KD_1 (RHO_1_1 _) ?_
      refine r_iload_n dX5_insertBy_65 rfl (by rfl) ?_
      refine r_callV1 (ct_X1_addRow (CI_sv hB hN hI) (by first | exact hB | exact hN | omega | (unfold inR; omega) | (simp only [sv_2 hB hN, sv_3 hB hN, sv_4 hB hN, sv_5 hB hN, sv_6 hB hN, sv_7 hB hN, sv_8 hB hN, sv_9 hB hN, sv_10 hB hN, sv_11 hB hN, sv_12 hB hN, sv_13 hB hN, sv_14 hB hN, sv_15 hB hN, sv_108 hB hN, sv_109 hB hN, sv_110 hB hN, sv_111 hB hN, plc_sv hB hN, pcl_sv hB hN, colL_sv hB hN]; omega) | (simp only [sv_2 hB hN, sv_3 hB hN, sv_4 hB hN, sv_5 hB hN, sv_6 hB hN, sv_7 hB hN, sv_8 hB hN, sv_9 hB hN, sv_10 hB hN, sv_11 hB hN, sv_12 hB hN, sv_13 hB hN, sv_14 hB hN, sv_15 hB hN, sv_108 hB hN, sv_109 hB hN, sv_110 hB hN, sv_111 hB hN, plc_sv hB hN, pcl_sv hB hN, colL_sv hB hN]; exact hW a (by omega) (by omega) (by omega))) _) fX1_addRow qX5_112 dX5_insertBy_66 KD_10 (by decide) ⟨Nat.zero_le _, Nat.zero_le _⟩ (Nat.le_of_ble_eq_true rfl) ?_
      exact r_ret_is dX5_insertBy_69 rfl ⟨Nat.zero_le _, Nat.zero_le _⟩ (by first | rfl | omega | (split <;> omega)) (by first | rfl | exact (sr_self _ _).symm) (by exact trivial)
    · exfalso; omega
  · exfalso; omega

set_option maxRecDepth 100000 in
set_option maxHeartbeats 4000000 in
theorem ct_X5_hold {l : Launch} {G : GG} {σ τ : ST} (hI : CI σ) (b : Nat → Nat) (hB : okB b) (hN : 0 ≤ σ 16 1 ∧ σ 16 1 ≤ 6) (q : Int) (s : Int) (hE0 : 0 ≤ q ∧ q < 4) (hE1 : σ 2 1 ≤ s ∧ s < σ 2 0) : Ct l G mX5_hold (6, 0, 0) [.ref 0, .int (iI q), .int (iI s)] 110 KD σ τ (RHO (PB b)) (KSP (some (.int (iI (svF σ b 14 q.toNat)))) (up2 (svF σ b) 14 q.toNat s) τ (PB (svB σ b)) (fun _ => True)) := by
  have hz := hI.sz
  have hr0 := hI.ro
  have hm0 := hI.mk
  have h16 := svF_row hB hN (p := 2) (by decide)
  refine ct_intro (own := "ShapedRows") rfl (by decide +kernel) (Nat.le_of_ble_eq_true rfl) (L := _) rfl ?_
  refine r_iload_n dX5_hold_0 rfl (by rfl) ?_
  refine r_callS1 (ct_X5_isReader _ (by first | exact hB | exact hN | omega | (unfold inR; omega) | (simp only [sv_2 hB hN, sv_3 hB hN, sv_4 hB hN, sv_5 hB hN, sv_6 hB hN, sv_7 hB hN, sv_8 hB hN, sv_9 hB hN, sv_10 hB hN, sv_11 hB hN, sv_12 hB hN, sv_13 hB hN, sv_14 hB hN, sv_15 hB hN, sv_108 hB hN, sv_109 hB hN, sv_110 hB hN, sv_111 hB hN, plc_sv hB hN, pcl_sv hB hN, colL_sv hB hN]; omega) | (simp only [sv_2 hB hN, sv_3 hB hN, sv_4 hB hN, sv_5 hB hN, sv_6 hB hN, sv_7 hB hN, sv_8 hB hN, sv_9 hB hN, sv_10 hB hN, sv_11 hB hN, sv_12 hB hN, sv_13 hB hN, sv_14 hB hN, sv_15 hB hN, sv_108 hB hN, sv_109 hB hN, sv_110 hB hN, sv_111 hB hN, plc_sv hB hN, pcl_sv hB hN, colL_sv hB hN]; exact hW a (by omega) (by omega) (by omega)))) fX5_isReader qX5_153 dX5_hold_1 (by decide) ⟨Nat.zero_le _, Nat.zero_le _⟩ (Nat.le_of_ble_eq_true rfl) ?_
  refine r_ifeq_b (tgt := 21) dX5_hold_4 (by decide) (fun c_1 => ?_) (fun c_1 => ?_)
  · exfalso; omega
  · refine r_aload_n dX5_hold_7 rfl (by rfl) ?_
    refine r_get_r kX5_10 dX5_hold_8 KD_0 (RHO_0_0 _) ?_
    refine r_get_r kX5_44 dX5_hold_11 KD_1 (RHO_1_0 _) ?_
    refine r_iload_n dX5_hold_14 rfl (by rfl) ?_
    refine r_callV1 (ct_X2_isUsable hI _ (by first | exact hB | exact hN | omega | (unfold inR; omega) | (simp only [sv_2 hB hN, sv_3 hB hN, sv_4 hB hN, sv_5 hB hN, sv_6 hB hN, sv_7 hB hN, sv_8 hB hN, sv_9 hB hN, sv_10 hB hN, sv_11 hB hN, sv_12 hB hN, sv_13 hB hN, sv_14 hB hN, sv_15 hB hN, sv_108 hB hN, sv_109 hB hN, sv_110 hB hN, sv_111 hB hN, plc_sv hB hN, pcl_sv hB hN, colL_sv hB hN]; omega) | (simp only [sv_2 hB hN, sv_3 hB hN, sv_4 hB hN, sv_5 hB hN, sv_6 hB hN, sv_7 hB hN, sv_8 hB hN, sv_9 hB hN, sv_10 hB hN, sv_11 hB hN, sv_12 hB hN, sv_13 hB hN, sv_14 hB hN, sv_15 hB hN, sv_108 hB hN, sv_109 hB hN, sv_110 hB hN, sv_111 hB hN, plc_sv hB hN, pcl_sv hB hN, colL_sv hB hN]; exact hW a (by omega) (by omega) (by omega)))) fX2_isUsable qX5_116 dX5_hold_15 KD_2 (by decide) ⟨Nat.zero_le _, Nat.zero_le _⟩ (Nat.le_of_ble_eq_true rfl) ?_
    refine r_ifne_b (tgt := 31) dX5_hold_18 (by decide) (fun c_2 => ?_) (fun c_2 => ?_)
    · refine r_aload_n dX5_hold_31 rfl (by rfl) ?_
      refine r_get_r kX5_19 dX5_hold_32 KD_0 (RHO_0_1 _) ?_
      refine r_aload_n dX5_hold_35 rfl (by rfl) ?_
      refine r_get_r kX5_10 dX5_hold_36 KD_0 (RHO_0_0 _) ?_
      refine r_callV1 (ct_X0_save _ (by first | exact hB | exact hN | omega | (unfold inR; omega) | (simp only [sv_2 hB hN, sv_3 hB hN, sv_4 hB hN, sv_5 hB hN, sv_6 hB hN, sv_7 hB hN, sv_8 hB hN, sv_9 hB hN, sv_10 hB hN, sv_11 hB hN, sv_12 hB hN, sv_13 hB hN, sv_14 hB hN, sv_15 hB hN, sv_108 hB hN, sv_109 hB hN, sv_110 hB hN, sv_111 hB hN, plc_sv hB hN, pcl_sv hB hN, colL_sv hB hN]; omega) | (simp only [sv_2 hB hN, sv_3 hB hN, sv_4 hB hN, sv_5 hB hN, sv_6 hB hN, sv_7 hB hN, sv_8 hB hN, sv_9 hB hN, sv_10 hB hN, sv_11 hB hN, sv_12 hB hN, sv_13 hB hN, sv_14 hB hN, sv_15 hB hN, sv_108 hB hN, sv_109 hB hN, sv_110 hB hN, sv_111 hB hN, plc_sv hB hN, pcl_sv hB hN, colL_sv hB hN]; exact hW a (by omega) (by omega) (by omega))) (by first | exact hB | exact hN | omega | (unfold inR; omega) | (simp only [sv_2 hB hN, sv_3 hB hN, sv_4 hB hN, sv_5 hB hN, sv_6 hB hN, sv_7 hB hN, sv_8 hB hN, sv_9 hB hN, sv_10 hB hN, sv_11 hB hN, sv_12 hB hN, sv_13 hB hN, sv_14 hB hN, sv_15 hB hN, sv_108 hB hN, sv_109 hB hN, sv_110 hB hN, sv_111 hB hN, plc_sv hB hN, pcl_sv hB hN, colL_sv hB hN]; omega) | (simp only [sv_2 hB hN, sv_3 hB hN, sv_4 hB hN, sv_5 hB hN, sv_6 hB hN, sv_7 hB hN, sv_8 hB hN, sv_9 hB hN, sv_10 hB hN, sv_11 hB hN, sv_12 hB hN, sv_13 hB hN, sv_14 hB hN, sv_15 hB hN, sv_108 hB hN, sv_109 hB hN, sv_110 hB hN, sv_111 hB hN, plc_sv hB hN, pcl_sv hB hN, colL_sv hB hN]; exact hW a (by omega) (by omega) (by omega)))) fX0_save qX5_58 dX5_hold_39 KD_16 (by decide) ⟨Nat.zero_le _, Nat.zero_le _⟩ (Nat.le_of_ble_eq_true rfl) ?_
      refine r_aload_n dX5_hold_42 rfl (by rfl) ?_
      refine r_get_r kX5_10 dX5_hold_43 KD_0 (RHO_0_0 _) ?_
      refine r_iload_n dX5_hold_46 rfl (by rfl) ?_
      refine r_iload_n dX5_hold_47 rfl (by rfl) ?_
      refine r_callV2 (ct_X3_letHold _ (by first | exact hB | exact hN | omega | (unfold inR; omega) | (simp only [sv_2 hB hN, sv_3 hB hN, sv_4 hB hN, sv_5 hB hN, sv_6 hB hN, sv_7 hB hN, sv_8 hB hN, sv_9 hB hN, sv_10 hB hN, sv_11 hB hN, sv_12 hB hN, sv_13 hB hN, sv_14 hB hN, sv_15 hB hN, sv_108 hB hN, sv_109 hB hN, sv_110 hB hN, sv_111 hB hN, plc_sv hB hN, pcl_sv hB hN, colL_sv hB hN]; omega) | (simp only [sv_2 hB hN, sv_3 hB hN, sv_4 hB hN, sv_5 hB hN, sv_6 hB hN, sv_7 hB hN, sv_8 hB hN, sv_9 hB hN, sv_10 hB hN, sv_11 hB hN, sv_12 hB hN, sv_13 hB hN, sv_14 hB hN, sv_15 hB hN, sv_108 hB hN, sv_109 hB hN, sv_110 hB hN, sv_111 hB hN, plc_sv hB hN, pcl_sv hB hN, colL_sv hB hN]; exact hW a (by omega) (by omega) (by omega))) (by first | exact hB | exact hN | omega | (unfold inR; omega) | (simp only [sv_2 hB hN, sv_3 hB hN, sv_4 hB hN, sv_5 hB hN, sv_6 hB hN, sv_7 hB hN, sv_8 hB hN, sv_9 hB hN, sv_10 hB hN, sv_11 hB hN, sv_12 hB hN, sv_13 hB hN, sv_14 hB hN, sv_15 hB hN, sv_108 hB hN, sv_109 hB hN, sv_110 hB hN, sv_111 hB hN, plc_sv hB hN, pcl_sv hB hN, colL_sv hB hN]; omega) | (simp only [sv_2 hB hN, sv_3 hB hN, sv_4 hB hN, sv_5 hB hN, sv_6 hB hN, sv_7 hB hN, sv_8 hB hN, sv_9 hB hN, sv_10 hB hN, sv_11 hB hN, sv_12 hB hN, sv_13 hB hN, sv_14 hB hN, sv_15 hB hN, sv_108 hB hN, sv_109 hB hN, sv_110 hB hN, sv_111 hB hN, plc_sv hB hN, pcl_sv hB hN, colL_sv hB hN]; exact hW a (by omega) (by omega) (by omega))) _) fX3_letHold qX5_158 dX5_hold_48 KD_1 (by decide) ⟨Nat.zero_le _, Nat.zero_le _⟩ (Nat.le_of_ble_eq_true rfl) ?_
      exact r_ret_is dX5_hold_51 rfl ⟨Nat.zero_le _, Nat.zero_le _⟩ (by first | rfl | omega | (split <;> omega)) (by first | rfl | exact (sr_self _ _).symm) (by exact trivial)
    · exfalso; omega

set_option maxRecDepth 100000 in
set_option maxHeartbeats 4000000 in
theorem ct_X5_retire {l : Launch} {G : GG} {σ τ : ST} (hI : CI σ) (b : Nat → Nat) (hB : okB b) (hN : 0 ≤ σ 16 1 ∧ σ 16 1 ≤ 6) (s : Int) (hE0 : σ 2 1 ≤ s ∧ s < σ 2 0) (hE1 : s ≤ oldF σ) : Ct l G mX5_retire (6, 0, 0) [.ref 0, .int (iI s)] 110 KD σ τ (RHO (PB b)) (KSP (some (.int (iI (svF σ b 2 0 - s)))) (up2 (svF σ b) 2 1 s) τ (PB (svB σ b)) (fun _ => True)) := by
  have hz := hI.sz
  have hr0 := hI.ro
  have hm0 := hI.mk
  have h16 := svF_row hB hN (p := 2) (by decide)
  have ho := mnF_rng (mnF_rng (f := σ 11) (z := σ 2 0 - 1) (by omega) hI.rs (σ 10 0).toNat) hI.he 4
  have ho2 : oldF σ = mnF (σ 14) (mnF (σ 11) (σ 2 0 - 1) (σ 10 0).toNat) 4 := rfl
  rw [← ho2] at ho
  refine ct_intro (own := "ShapedRows") rfl (by decide +kernel) (Nat.le_of_ble_eq_true rfl) (L := _) rfl ?_
  refine r_aload_n dX5_retire_0 rfl (by rfl) ?_
  refine r_get_r kX5_10 dX5_retire_1 KD_0 (RHO_0_0 _) ?_
  refine r_get_r kX5_44 dX5_retire_4 KD_1 (RHO_1_0 _) ?_
  refine r_iload_n dX5_retire_7 rfl (by rfl) ?_
  refine r_callV1 (ct_X2_isUsable hI _ (by first | exact hB | exact hN | omega | (unfold inR; omega) | (simp only [sv_2 hB hN, sv_3 hB hN, sv_4 hB hN, sv_5 hB hN, sv_6 hB hN, sv_7 hB hN, sv_8 hB hN, sv_9 hB hN, sv_10 hB hN, sv_11 hB hN, sv_12 hB hN, sv_13 hB hN, sv_14 hB hN, sv_15 hB hN, sv_108 hB hN, sv_109 hB hN, sv_110 hB hN, sv_111 hB hN, plc_sv hB hN, pcl_sv hB hN, colL_sv hB hN]; omega) | (simp only [sv_2 hB hN, sv_3 hB hN, sv_4 hB hN, sv_5 hB hN, sv_6 hB hN, sv_7 hB hN, sv_8 hB hN, sv_9 hB hN, sv_10 hB hN, sv_11 hB hN, sv_12 hB hN, sv_13 hB hN, sv_14 hB hN, sv_15 hB hN, sv_108 hB hN, sv_109 hB hN, sv_110 hB hN, sv_111 hB hN, plc_sv hB hN, pcl_sv hB hN, colL_sv hB hN]; exact hW a (by omega) (by omega) (by omega)))) fX2_isUsable qX5_116 dX5_retire_8 KD_2 (by decide) ⟨Nat.zero_le _, Nat.zero_le _⟩ (Nat.le_of_ble_eq_true rfl) ?_
  refine r_ifne_b (tgt := 24) dX5_retire_11 (by decide) (fun c_1 => ?_) (fun c_1 => ?_)
  · refine r_aload_n dX5_retire_24 rfl (by rfl) ?_
    refine r_get_r kX5_10 dX5_retire_25 KD_0 (RHO_0_0 _) ?_
    refine r_callV0 (ct_X3_oldestNeeded hI) fX3_oldestNeeded qX5_161 dX5_retire_28 KD_1 (by decide) ⟨Nat.zero_le _, Nat.zero_le _⟩ (Nat.le_of_ble_eq_true rfl) ?_
    refine r_iload_n dX5_retire_31 rfl (by rfl) ?_
    refine r_icmp_ge (tgt := 45) dX5_retire_32 (by decide) (by unfold inR; omega) (by unfold inR; omega) (fun c_2 => ?_) (fun c_2 => ?_)
    · refine r_aload_n dX5_retire_45 rfl (by rfl) ?_
      refine r_get_r kX5_19 dX5_retire_46 KD_0 (RHO_0_1 _) ?_
      refine r_aload_n dX5_retire_49 rfl (by rfl) ?_
      refine r_get_r kX5_10 dX5_retire_50 KD_0 (RHO_0_0 _) ?_
      refine r_callV1 (ct_X0_save _ (by first | exact hB | exact hN | omega | (unfold inR; omega) | (simp only [sv_2 hB hN, sv_3 hB hN, sv_4 hB hN, sv_5 hB hN, sv_6 hB hN, sv_7 hB hN, sv_8 hB hN, sv_9 hB hN, sv_10 hB hN, sv_11 hB hN, sv_12 hB hN, sv_13 hB hN, sv_14 hB hN, sv_15 hB hN, sv_108 hB hN, sv_109 hB hN, sv_110 hB hN, sv_111 hB hN, plc_sv hB hN, pcl_sv hB hN, colL_sv hB hN]; omega) | (simp only [sv_2 hB hN, sv_3 hB hN, sv_4 hB hN, sv_5 hB hN, sv_6 hB hN, sv_7 hB hN, sv_8 hB hN, sv_9 hB hN, sv_10 hB hN, sv_11 hB hN, sv_12 hB hN, sv_13 hB hN, sv_14 hB hN, sv_15 hB hN, sv_108 hB hN, sv_109 hB hN, sv_110 hB hN, sv_111 hB hN, plc_sv hB hN, pcl_sv hB hN, colL_sv hB hN]; exact hW a (by omega) (by omega) (by omega))) (by first | exact hB | exact hN | omega | (unfold inR; omega) | (simp only [sv_2 hB hN, sv_3 hB hN, sv_4 hB hN, sv_5 hB hN, sv_6 hB hN, sv_7 hB hN, sv_8 hB hN, sv_9 hB hN, sv_10 hB hN, sv_11 hB hN, sv_12 hB hN, sv_13 hB hN, sv_14 hB hN, sv_15 hB hN, sv_108 hB hN, sv_109 hB hN, sv_110 hB hN, sv_111 hB hN, plc_sv hB hN, pcl_sv hB hN, colL_sv hB hN]; omega) | (simp only [sv_2 hB hN, sv_3 hB hN, sv_4 hB hN, sv_5 hB hN, sv_6 hB hN, sv_7 hB hN, sv_8 hB hN, sv_9 hB hN, sv_10 hB hN, sv_11 hB hN, sv_12 hB hN, sv_13 hB hN, sv_14 hB hN, sv_15 hB hN, sv_108 hB hN, sv_109 hB hN, sv_110 hB hN, sv_111 hB hN, plc_sv hB hN, pcl_sv hB hN, colL_sv hB hN]; exact hW a (by omega) (by omega) (by omega)))) fX0_save qX5_58 dX5_retire_53 KD_16 (by decide) ⟨Nat.zero_le _, Nat.zero_le _⟩ (Nat.le_of_ble_eq_true rfl) ?_
      refine r_aload_n dX5_retire_56 rfl (by rfl) ?_
      refine r_get_r kX5_10 dX5_retire_57 KD_0 (RHO_0_0 _) ?_
      refine r_get_r kX5_44 dX5_retire_60 KD_1 (RHO_1_0 _) ?_
      refine r_iload_n dX5_retire_63 rfl (by rfl) ?_
      refine r_callV1 (ct_X2_setMark _) fX2_setMark qX5_166 dX5_retire_64 KD_2 (by decide) ⟨Nat.zero_le _, Nat.zero_le _⟩ (Nat.le_of_ble_eq_true rfl) ?_
      exact r_ret_is dX5_retire_67 rfl ⟨Nat.zero_le _, Nat.zero_le _⟩ (by first | rfl | omega | (split <;> omega)) (by first | rfl | exact (sr_self _ _).symm) (by exact trivial)
    · exfalso; omega
  · exfalso; omega

set_option maxRecDepth 100000 in
set_option maxHeartbeats 4000000 in
theorem ct_X5_goOn {l : Launch} {G : GG} {σ τ : ST} (hI : CI σ) (b : Nat → Nat) (hB : okB b) (hN : 0 ≤ σ 16 1 ∧ σ 16 1 ≤ 6) (n : Int) (hE0 : 1 ≤ n ∧ n ≤ 12) : Ct l G mX5_goOn (6, 0, 0) [.ref 0, .int (iI n)] 110 KD σ τ (RHO (PB b)) (KSP (some (.int (iI (itS (svF σ b) n.toNat 10 2 - svF σ b 10 2)))) (itS (svF σ b) n.toNat) τ (PB (svB σ b)) (fun _ => True)) := by
  have hz := hI.sz
  have hr0 := hI.ro
  have hm0 := hI.mk
  have h16 := svF_row hB hN (p := 2) (by decide)
  refine ct_intro (own := "ShapedRows") rfl (by decide +kernel) (Nat.le_of_ble_eq_true rfl) (L := _) rfl ?_
  refine r_iload_n dX5_goOn_0 rfl (by rfl) ?_
  refine r_iconst dX5_goOn_1 ?_
  refine r_icmp_lt (tgt := 11) dX5_goOn_2 (by decide) (by unfold inR; omega) (by unfold inR; omega) (fun c_1 => ?_) (fun c_1 => ?_)
  · exfalso; omega
  · refine r_iload_n dX5_goOn_5 rfl (by rfl) ?_
    refine r_bipush dX5_goOn_6 (by decide) ?_
    refine r_icmp_le (tgt := 21) dX5_goOn_8 (by decide) (by unfold inR; omega) (by unfold inR; omega) (fun c_2 => ?_) (fun c_2 => ?_)
    · refine r_aload_n dX5_goOn_21 rfl (by rfl) ?_
      refine r_get_r kX5_19 dX5_goOn_22 KD_0 (RHO_0_1 _) ?_
      refine r_aload_n dX5_goOn_25 rfl (by rfl) ?_
      refine r_get_r kX5_10 dX5_goOn_26 KD_0 (RHO_0_0 _) ?_
      refine r_callV1 (ct_X0_save _ (by first | exact hB | exact hN | omega | (unfold inR; omega) | (simp only [sv_2 hB hN, sv_3 hB hN, sv_4 hB hN, sv_5 hB hN, sv_6 hB hN, sv_7 hB hN, sv_8 hB hN, sv_9 hB hN, sv_10 hB hN, sv_11 hB hN, sv_12 hB hN, sv_13 hB hN, sv_14 hB hN, sv_15 hB hN, sv_108 hB hN, sv_109 hB hN, sv_110 hB hN, sv_111 hB hN, plc_sv hB hN, pcl_sv hB hN, colL_sv hB hN]; omega) | (simp only [sv_2 hB hN, sv_3 hB hN, sv_4 hB hN, sv_5 hB hN, sv_6 hB hN, sv_7 hB hN, sv_8 hB hN, sv_9 hB hN, sv_10 hB hN, sv_11 hB hN, sv_12 hB hN, sv_13 hB hN, sv_14 hB hN, sv_15 hB hN, sv_108 hB hN, sv_109 hB hN, sv_110 hB hN, sv_111 hB hN, plc_sv hB hN, pcl_sv hB hN, colL_sv hB hN]; exact hW a (by omega) (by omega) (by omega))) (by first | exact hB | exact hN | omega | (unfold inR; omega) | (simp only [sv_2 hB hN, sv_3 hB hN, sv_4 hB hN, sv_5 hB hN, sv_6 hB hN, sv_7 hB hN, sv_8 hB hN, sv_9 hB hN, sv_10 hB hN, sv_11 hB hN, sv_12 hB hN, sv_13 hB hN, sv_14 hB hN, sv_15 hB hN, sv_108 hB hN, sv_109 hB hN, sv_110 hB hN, sv_111 hB hN, plc_sv hB hN, pcl_sv hB hN, colL_sv hB hN]; omega) | (simp only [sv_2 hB hN, sv_3 hB hN, sv_4 hB hN, sv_5 hB hN, sv_6 hB hN, sv_7 hB hN, sv_8 hB hN, sv_9 hB hN, sv_10 hB hN, sv_11 hB hN, sv_12 hB hN, sv_13 hB hN, sv_14 hB hN, sv_15 hB hN, sv_108 hB hN, sv_109 hB hN, sv_110 hB hN, sv_111 hB hN, plc_sv hB hN, pcl_sv hB hN, colL_sv hB hN]; exact hW a (by omega) (by omega) (by omega)))) fX0_save qX5_58 dX5_goOn_29 KD_16 (by decide) ⟨Nat.zero_le _, Nat.zero_le _⟩ (Nat.le_of_ble_eq_true rfl) ?_
      refine r_aload_n dX5_goOn_32 rfl (by rfl) ?_
      refine r_get_r kX5_10 dX5_goOn_33 KD_0 (RHO_0_0 _) ?_
      refine r_iload_n dX5_goOn_36 rfl (by rfl) ?_
      refine r_callY1 (ct_X3_stepOn (CI_sv hB hN hI) _ (by first | exact hB | exact hN | omega | (unfold inR; omega) | (simp only [sv_2 hB hN, sv_3 hB hN, sv_4 hB hN, sv_5 hB hN, sv_6 hB hN, sv_7 hB hN, sv_8 hB hN, sv_9 hB hN, sv_10 hB hN, sv_11 hB hN, sv_12 hB hN, sv_13 hB hN, sv_14 hB hN, sv_15 hB hN, sv_108 hB hN, sv_109 hB hN, sv_110 hB hN, sv_111 hB hN, plc_sv hB hN, pcl_sv hB hN, colL_sv hB hN]; omega) | (simp only [sv_2 hB hN, sv_3 hB hN, sv_4 hB hN, sv_5 hB hN, sv_6 hB hN, sv_7 hB hN, sv_8 hB hN, sv_9 hB hN, sv_10 hB hN, sv_11 hB hN, sv_12 hB hN, sv_13 hB hN, sv_14 hB hN, sv_15 hB hN, sv_108 hB hN, sv_109 hB hN, sv_110 hB hN, sv_111 hB hN, plc_sv hB hN, pcl_sv hB hN, colL_sv hB hN]; exact hW a (by omega) (by omega) (by omega))) (by first | exact hB | exact hN | omega | (unfold inR; omega) | (simp only [sv_2 hB hN, sv_3 hB hN, sv_4 hB hN, sv_5 hB hN, sv_6 hB hN, sv_7 hB hN, sv_8 hB hN, sv_9 hB hN, sv_10 hB hN, sv_11 hB hN, sv_12 hB hN, sv_13 hB hN, sv_14 hB hN, sv_15 hB hN, sv_108 hB hN, sv_109 hB hN, sv_110 hB hN, sv_111 hB hN, plc_sv hB hN, pcl_sv hB hN, colL_sv hB hN]; omega) | (simp only [sv_2 hB hN, sv_3 hB hN, sv_4 hB hN, sv_5 hB hN, sv_6 hB hN, sv_7 hB hN, sv_8 hB hN, sv_9 hB hN, sv_10 hB hN, sv_11 hB hN, sv_12 hB hN, sv_13 hB hN, sv_14 hB hN, sv_15 hB hN, sv_108 hB hN, sv_109 hB hN, sv_110 hB hN, sv_111 hB hN, plc_sv hB hN, pcl_sv hB hN, colL_sv hB hN]; exact hW a (by omega) (by omega) (by omega)))) fX3_stepOn qX5_150 dX5_goOn_37 KD_1 (by decide) ⟨Nat.zero_le _, Nat.zero_le _⟩ (Nat.le_of_ble_eq_true rfl) (fun f_3 hf_3 => ?_)
      exact r_ret_is dX5_goOn_40 rfl ⟨Nat.zero_le _, Nat.zero_le _⟩ (by first | rfl | omega | (split <;> omega)) (by first | rfl | exact (sr_self _ _).symm) (by exact trivial)
    · exfalso; omega

set_option maxRecDepth 100000 in
set_option maxHeartbeats 4000000 in
theorem ct_X5_write {l : Launch} {G : GG} {σ τ : ST} (hI : CI σ) (b : Nat → Nat) (hB : okB b) (hN : 0 ≤ σ 16 1 ∧ σ 16 1 ≤ 6) (r : Int) (s : Int) (a : Int) (v : Int) (hE0 : 0 ≤ r ∧ r < σ 10 0) (hE1 : σ 2 1 ≤ s ∧ s < σ 2 0) (hE2 : 0 ≤ a ∧ a < 8 ∧ 0 ≤ v ∧ v ≤ 99999) (hE3 : refu σ r.toNat s.toNat a = 0) : Ct l G mX5_write (6, 0, 0) [.ref 0, .int (iI r), .int (iI s), .int (iI a), .int (iI v)] 110 KD σ τ (RHO (PB b)) (KSP (some (.int (iI (wrV (svF σ b) r s a v 11 r.toNat)))) (wrV (svF σ b) r s a v) τ (PB (svB σ b)) (fun _ => True)) := by
  have hz := hI.sz
  have hr0 := hI.ro
  have hm0 := hI.mk
  have h16 := svF_row hB hN (p := 2) (by decide)
  have hcl : colL σ s.toNat a ≠ -1 := by
    have q := hE3
    unfold refu at q
    intro z
    rw [if_pos z] at q
    omega
  refine ct_intro (own := "ShapedRows") rfl (by decide +kernel) (Nat.le_of_ble_eq_true rfl) (L := _) rfl ?_
  refine r_aload_n dX5_write_0 rfl (by rfl) ?_
  refine r_get_r kX5_10 dX5_write_1 KD_0 (RHO_0_0 _) ?_
  refine r_get_r kX5_96 dX5_write_4 KD_1 (RHO_1_1 _) ?_
  refine r_iload_n dX5_write_7 rfl (by rfl) ?_
  refine r_callV1 (ct_X1_isThere hI _ (by first | exact hB | exact hN | omega | (unfold inR; omega) | (simp only [sv_2 hB hN, sv_3 hB hN, sv_4 hB hN, sv_5 hB hN, sv_6 hB hN, sv_7 hB hN, sv_8 hB hN, sv_9 hB hN, sv_10 hB hN, sv_11 hB hN, sv_12 hB hN, sv_13 hB hN, sv_14 hB hN, sv_15 hB hN, sv_108 hB hN, sv_109 hB hN, sv_110 hB hN, sv_111 hB hN, plc_sv hB hN, pcl_sv hB hN, colL_sv hB hN]; omega) | (simp only [sv_2 hB hN, sv_3 hB hN, sv_4 hB hN, sv_5 hB hN, sv_6 hB hN, sv_7 hB hN, sv_8 hB hN, sv_9 hB hN, sv_10 hB hN, sv_11 hB hN, sv_12 hB hN, sv_13 hB hN, sv_14 hB hN, sv_15 hB hN, sv_108 hB hN, sv_109 hB hN, sv_110 hB hN, sv_111 hB hN, plc_sv hB hN, pcl_sv hB hN, colL_sv hB hN]; exact hW a (by omega) (by omega) (by omega)))) fX1_isThere qX5_124 dX5_write_8 KD_10 (by decide) ⟨Nat.zero_le _, Nat.zero_le _⟩ (Nat.le_of_ble_eq_true rfl) ?_
  refine r_ifeq_b (tgt := 28) dX5_write_11 (by decide) (fun c_1 => ?_) (fun c_1 => ?_)
  · exfalso; omega
  · refine r_aload_n dX5_write_14 rfl (by rfl) ?_
    refine r_get_r kX5_10 dX5_write_15 KD_0 (RHO_0_0 _) ?_
    refine r_get_r kX5_44 dX5_write_18 KD_1 (RHO_1_0 _) ?_
    refine r_iload_n dX5_write_21 rfl (by rfl) ?_
    refine r_callV1 (ct_X2_isUsable hI _ (by first | exact hB | exact hN | omega | (unfold inR; omega) | (simp only [sv_2 hB hN, sv_3 hB hN, sv_4 hB hN, sv_5 hB hN, sv_6 hB hN, sv_7 hB hN, sv_8 hB hN, sv_9 hB hN, sv_10 hB hN, sv_11 hB hN, sv_12 hB hN, sv_13 hB hN, sv_14 hB hN, sv_15 hB hN, sv_108 hB hN, sv_109 hB hN, sv_110 hB hN, sv_111 hB hN, plc_sv hB hN, pcl_sv hB hN, colL_sv hB hN]; omega) | (simp only [sv_2 hB hN, sv_3 hB hN, sv_4 hB hN, sv_5 hB hN, sv_6 hB hN, sv_7 hB hN, sv_8 hB hN, sv_9 hB hN, sv_10 hB hN, sv_11 hB hN, sv_12 hB hN, sv_13 hB hN, sv_14 hB hN, sv_15 hB hN, sv_108 hB hN, sv_109 hB hN, sv_110 hB hN, sv_111 hB hN, plc_sv hB hN, pcl_sv hB hN, colL_sv hB hN]; exact hW a (by omega) (by omega) (by omega)))) fX2_isUsable qX5_116 dX5_write_22 KD_2 (by decide) ⟨Nat.zero_le _, Nat.zero_le _⟩ (Nat.le_of_ble_eq_true rfl) ?_
    refine r_ifne_b (tgt := 38) dX5_write_25 (by decide) (fun c_2 => ?_) (fun c_2 => ?_)
    · refine r_iload_n dX5_write_38 rfl (by rfl) ?_
      refine r_callS1 (ct_X5_isLetter _ (by first | exact hB | exact hN | omega | (unfold inR; omega) | (simp only [sv_2 hB hN, sv_3 hB hN, sv_4 hB hN, sv_5 hB hN, sv_6 hB hN, sv_7 hB hN, sv_8 hB hN, sv_9 hB hN, sv_10 hB hN, sv_11 hB hN, sv_12 hB hN, sv_13 hB hN, sv_14 hB hN, sv_15 hB hN, sv_108 hB hN, sv_109 hB hN, sv_110 hB hN, sv_111 hB hN, plc_sv hB hN, pcl_sv hB hN, colL_sv hB hN]; omega) | (simp only [sv_2 hB hN, sv_3 hB hN, sv_4 hB hN, sv_5 hB hN, sv_6 hB hN, sv_7 hB hN, sv_8 hB hN, sv_9 hB hN, sv_10 hB hN, sv_11 hB hN, sv_12 hB hN, sv_13 hB hN, sv_14 hB hN, sv_15 hB hN, sv_108 hB hN, sv_109 hB hN, sv_110 hB hN, sv_111 hB hN, plc_sv hB hN, pcl_sv hB hN, colL_sv hB hN]; exact hW a (by omega) (by omega) (by omega)))) fX5_isLetter qX5_30 dX5_write_39 (by decide) ⟨Nat.zero_le _, Nat.zero_le _⟩ (Nat.le_of_ble_eq_true rfl) ?_
      refine r_ifeq_b (tgt := 53) dX5_write_42 (by decide) (fun c_3 => ?_) (fun c_3 => ?_)
      · exfalso; omega
      · refine r_iload dX5_write_45 (by rfl) ?_
        refine r_callS1 (ct_X5_isValue _ (by first | exact hB | exact hN | omega | (unfold inR; omega) | (simp only [sv_2 hB hN, sv_3 hB hN, sv_4 hB hN, sv_5 hB hN, sv_6 hB hN, sv_7 hB hN, sv_8 hB hN, sv_9 hB hN, sv_10 hB hN, sv_11 hB hN, sv_12 hB hN, sv_13 hB hN, sv_14 hB hN, sv_15 hB hN, sv_108 hB hN, sv_109 hB hN, sv_110 hB hN, sv_111 hB hN, plc_sv hB hN, pcl_sv hB hN, colL_sv hB hN]; omega) | (simp only [sv_2 hB hN, sv_3 hB hN, sv_4 hB hN, sv_5 hB hN, sv_6 hB hN, sv_7 hB hN, sv_8 hB hN, sv_9 hB hN, sv_10 hB hN, sv_11 hB hN, sv_12 hB hN, sv_13 hB hN, sv_14 hB hN, sv_15 hB hN, sv_108 hB hN, sv_109 hB hN, sv_110 hB hN, sv_111 hB hN, plc_sv hB hN, pcl_sv hB hN, colL_sv hB hN]; exact hW a (by omega) (by omega) (by omega)))) fX5_isValue qX5_129 dX5_write_47 (by decide) ⟨Nat.zero_le _, Nat.zero_le _⟩ (Nat.le_of_ble_eq_true rfl) ?_
        refine r_ifne_b (tgt := 63) dX5_write_50 (by decide) (fun c_4 => ?_) (fun c_4 => ?_)
        · refine r_aload_n dX5_write_63 rfl (by rfl) ?_
          refine r_get_r kX5_10 dX5_write_64 KD_0 (RHO_0_0 _) ?_
          refine r_iload_n dX5_write_67 rfl (by rfl) ?_
          refine r_iload_n dX5_write_68 rfl (by rfl) ?_
          refine r_iload_n dX5_write_69 rfl (by rfl) ?_
          refine r_callV3 (ct_X3_refusal hI _ (by first | exact hB | exact hN | omega | (unfold inR; omega) | (simp only [sv_2 hB hN, sv_3 hB hN, sv_4 hB hN, sv_5 hB hN, sv_6 hB hN, sv_7 hB hN, sv_8 hB hN, sv_9 hB hN, sv_10 hB hN, sv_11 hB hN, sv_12 hB hN, sv_13 hB hN, sv_14 hB hN, sv_15 hB hN, sv_108 hB hN, sv_109 hB hN, sv_110 hB hN, sv_111 hB hN, plc_sv hB hN, pcl_sv hB hN, colL_sv hB hN]; omega) | (simp only [sv_2 hB hN, sv_3 hB hN, sv_4 hB hN, sv_5 hB hN, sv_6 hB hN, sv_7 hB hN, sv_8 hB hN, sv_9 hB hN, sv_10 hB hN, sv_11 hB hN, sv_12 hB hN, sv_13 hB hN, sv_14 hB hN, sv_15 hB hN, sv_108 hB hN, sv_109 hB hN, sv_110 hB hN, sv_111 hB hN, plc_sv hB hN, pcl_sv hB hN, colL_sv hB hN]; exact hW a (by omega) (by omega) (by omega))) (by first | exact hB | exact hN | omega | (unfold inR; omega) | (simp only [sv_2 hB hN, sv_3 hB hN, sv_4 hB hN, sv_5 hB hN, sv_6 hB hN, sv_7 hB hN, sv_8 hB hN, sv_9 hB hN, sv_10 hB hN, sv_11 hB hN, sv_12 hB hN, sv_13 hB hN, sv_14 hB hN, sv_15 hB hN, sv_108 hB hN, sv_109 hB hN, sv_110 hB hN, sv_111 hB hN, plc_sv hB hN, pcl_sv hB hN, colL_sv hB hN]; omega) | (simp only [sv_2 hB hN, sv_3 hB hN, sv_4 hB hN, sv_5 hB hN, sv_6 hB hN, sv_7 hB hN, sv_8 hB hN, sv_9 hB hN, sv_10 hB hN, sv_11 hB hN, sv_12 hB hN, sv_13 hB hN, sv_14 hB hN, sv_15 hB hN, sv_108 hB hN, sv_109 hB hN, sv_110 hB hN, sv_111 hB hN, plc_sv hB hN, pcl_sv hB hN, colL_sv hB hN]; exact hW a (by omega) (by omega) (by omega))) _ (by first | exact hB | exact hN | omega | (unfold inR; omega) | (simp only [sv_2 hB hN, sv_3 hB hN, sv_4 hB hN, sv_5 hB hN, sv_6 hB hN, sv_7 hB hN, sv_8 hB hN, sv_9 hB hN, sv_10 hB hN, sv_11 hB hN, sv_12 hB hN, sv_13 hB hN, sv_14 hB hN, sv_15 hB hN, sv_108 hB hN, sv_109 hB hN, sv_110 hB hN, sv_111 hB hN, plc_sv hB hN, pcl_sv hB hN, colL_sv hB hN]; omega) | (simp only [sv_2 hB hN, sv_3 hB hN, sv_4 hB hN, sv_5 hB hN, sv_6 hB hN, sv_7 hB hN, sv_8 hB hN, sv_9 hB hN, sv_10 hB hN, sv_11 hB hN, sv_12 hB hN, sv_13 hB hN, sv_14 hB hN, sv_15 hB hN, sv_108 hB hN, sv_109 hB hN, sv_110 hB hN, sv_111 hB hN, plc_sv hB hN, pcl_sv hB hN, colL_sv hB hN]; exact hW a (by omega) (by omega) (by omega))) (by first | exact hB | exact hN | omega | (unfold inR; omega) | (simp only [sv_2 hB hN, sv_3 hB hN, sv_4 hB hN, sv_5 hB hN, sv_6 hB hN, sv_7 hB hN, sv_8 hB hN, sv_9 hB hN, sv_10 hB hN, sv_11 hB hN, sv_12 hB hN, sv_13 hB hN, sv_14 hB hN, sv_15 hB hN, sv_108 hB hN, sv_109 hB hN, sv_110 hB hN, sv_111 hB hN, plc_sv hB hN, pcl_sv hB hN, colL_sv hB hN]; omega) | (simp only [sv_2 hB hN, sv_3 hB hN, sv_4 hB hN, sv_5 hB hN, sv_6 hB hN, sv_7 hB hN, sv_8 hB hN, sv_9 hB hN, sv_10 hB hN, sv_11 hB hN, sv_12 hB hN, sv_13 hB hN, sv_14 hB hN, sv_15 hB hN, sv_108 hB hN, sv_109 hB hN, sv_110 hB hN, sv_111 hB hN, plc_sv hB hN, pcl_sv hB hN, colL_sv hB hN]; exact hW a (by omega) (by omega) (by omega))) _ (by first | exact hB | exact hN | omega | (unfold inR; omega) | (simp only [sv_2 hB hN, sv_3 hB hN, sv_4 hB hN, sv_5 hB hN, sv_6 hB hN, sv_7 hB hN, sv_8 hB hN, sv_9 hB hN, sv_10 hB hN, sv_11 hB hN, sv_12 hB hN, sv_13 hB hN, sv_14 hB hN, sv_15 hB hN, sv_108 hB hN, sv_109 hB hN, sv_110 hB hN, sv_111 hB hN, plc_sv hB hN, pcl_sv hB hN, colL_sv hB hN]; omega) | (simp only [sv_2 hB hN, sv_3 hB hN, sv_4 hB hN, sv_5 hB hN, sv_6 hB hN, sv_7 hB hN, sv_8 hB hN, sv_9 hB hN, sv_10 hB hN, sv_11 hB hN, sv_12 hB hN, sv_13 hB hN, sv_14 hB hN, sv_15 hB hN, sv_108 hB hN, sv_109 hB hN, sv_110 hB hN, sv_111 hB hN, plc_sv hB hN, pcl_sv hB hN, colL_sv hB hN]; exact hW a (by omega) (by omega) (by omega)))) fX3_refusal qX5_134 dX5_write_70 KD_1 (by decide) ⟨Nat.zero_le _, Nat.zero_le _⟩ (Nat.le_of_ble_eq_true rfl) ?_
          refine r_if_eq (tgt := 86) dX5_write_73 (by decide) (by unfold inR; omega) (fun c_5 => ?_) (fun c_5 => ?_)
          · refine r_aload_n dX5_write_86 rfl (by rfl) ?_
            refine r_get_r kX5_19 dX5_write_87 KD_0 (RHO_0_1 _) ?_
            refine r_aload_n dX5_write_90 rfl (by rfl) ?_
            refine r_get_r kX5_10 dX5_write_91 KD_0 (RHO_0_0 _) ?_
            refine r_callV1 (ct_X0_save _ (by first | exact hB | exact hN | omega | (unfold inR; omega) | (simp only [sv_2 hB hN, sv_3 hB hN, sv_4 hB hN, sv_5 hB hN, sv_6 hB hN, sv_7 hB hN, sv_8 hB hN, sv_9 hB hN, sv_10 hB hN, sv_11 hB hN, sv_12 hB hN, sv_13 hB hN, sv_14 hB hN, sv_15 hB hN, sv_108 hB hN, sv_109 hB hN, sv_110 hB hN, sv_111 hB hN, plc_sv hB hN, pcl_sv hB hN, colL_sv hB hN]; omega) | (simp only [sv_2 hB hN, sv_3 hB hN, sv_4 hB hN, sv_5 hB hN, sv_6 hB hN, sv_7 hB hN, sv_8 hB hN, sv_9 hB hN, sv_10 hB hN, sv_11 hB hN, sv_12 hB hN, sv_13 hB hN, sv_14 hB hN, sv_15 hB hN, sv_108 hB hN, sv_109 hB hN, sv_110 hB hN, sv_111 hB hN, plc_sv hB hN, pcl_sv hB hN, colL_sv hB hN]; exact hW a (by omega) (by omega) (by omega))) (by first | exact hB | exact hN | omega | (unfold inR; omega) | (simp only [sv_2 hB hN, sv_3 hB hN, sv_4 hB hN, sv_5 hB hN, sv_6 hB hN, sv_7 hB hN, sv_8 hB hN, sv_9 hB hN, sv_10 hB hN, sv_11 hB hN, sv_12 hB hN, sv_13 hB hN, sv_14 hB hN, sv_15 hB hN, sv_108 hB hN, sv_109 hB hN, sv_110 hB hN, sv_111 hB hN, plc_sv hB hN, pcl_sv hB hN, colL_sv hB hN]; omega) | (simp only [sv_2 hB hN, sv_3 hB hN, sv_4 hB hN, sv_5 hB hN, sv_6 hB hN, sv_7 hB hN, sv_8 hB hN, sv_9 hB hN, sv_10 hB hN, sv_11 hB hN, sv_12 hB hN, sv_13 hB hN, sv_14 hB hN, sv_15 hB hN, sv_108 hB hN, sv_109 hB hN, sv_110 hB hN, sv_111 hB hN, plc_sv hB hN, pcl_sv hB hN, colL_sv hB hN]; exact hW a (by omega) (by omega) (by omega)))) fX0_save qX5_58 dX5_write_94 KD_16 (by decide) ⟨Nat.zero_le _, Nat.zero_le _⟩ (Nat.le_of_ble_eq_true rfl) ?_
            refine r_aload_n dX5_write_97 rfl (by rfl) ?_
            refine r_get_r kX5_10 dX5_write_98 KD_0 (RHO_0_0 _) ?_
            refine r_iload_n dX5_write_101 rfl (by rfl) ?_
            refine r_iload_n dX5_write_102 rfl (by rfl) ?_
            refine r_iload_n dX5_write_103 rfl (by rfl) ?_
            refine r_iload dX5_write_104 (by rfl) ?_
            refine r_callY4 (ct_X3_writeValue (CI_sv hB hN hI) _ (by first | exact hB | exact hN | omega | (unfold inR; omega) | (simp only [sv_2 hB hN, sv_3 hB hN, sv_4 hB hN, sv_5 hB hN, sv_6 hB hN, sv_7 hB hN, sv_8 hB hN, sv_9 hB hN, sv_10 hB hN, sv_11 hB hN, sv_12 hB hN, sv_13 hB hN, sv_14 hB hN, sv_15 hB hN, sv_108 hB hN, sv_109 hB hN, sv_110 hB hN, sv_111 hB hN, plc_sv hB hN, pcl_sv hB hN, colL_sv hB hN]; omega) | (simp only [sv_2 hB hN, sv_3 hB hN, sv_4 hB hN, sv_5 hB hN, sv_6 hB hN, sv_7 hB hN, sv_8 hB hN, sv_9 hB hN, sv_10 hB hN, sv_11 hB hN, sv_12 hB hN, sv_13 hB hN, sv_14 hB hN, sv_15 hB hN, sv_108 hB hN, sv_109 hB hN, sv_110 hB hN, sv_111 hB hN, plc_sv hB hN, pcl_sv hB hN, colL_sv hB hN]; exact hW a (by omega) (by omega) (by omega))) (by first | exact hB | exact hN | omega | (unfold inR; omega) | (simp only [sv_2 hB hN, sv_3 hB hN, sv_4 hB hN, sv_5 hB hN, sv_6 hB hN, sv_7 hB hN, sv_8 hB hN, sv_9 hB hN, sv_10 hB hN, sv_11 hB hN, sv_12 hB hN, sv_13 hB hN, sv_14 hB hN, sv_15 hB hN, sv_108 hB hN, sv_109 hB hN, sv_110 hB hN, sv_111 hB hN, plc_sv hB hN, pcl_sv hB hN, colL_sv hB hN]; omega) | (simp only [sv_2 hB hN, sv_3 hB hN, sv_4 hB hN, sv_5 hB hN, sv_6 hB hN, sv_7 hB hN, sv_8 hB hN, sv_9 hB hN, sv_10 hB hN, sv_11 hB hN, sv_12 hB hN, sv_13 hB hN, sv_14 hB hN, sv_15 hB hN, sv_108 hB hN, sv_109 hB hN, sv_110 hB hN, sv_111 hB hN, plc_sv hB hN, pcl_sv hB hN, colL_sv hB hN]; exact hW a (by omega) (by omega) (by omega))) _ (by first | exact hB | exact hN | omega | (unfold inR; omega) | (simp only [sv_2 hB hN, sv_3 hB hN, sv_4 hB hN, sv_5 hB hN, sv_6 hB hN, sv_7 hB hN, sv_8 hB hN, sv_9 hB hN, sv_10 hB hN, sv_11 hB hN, sv_12 hB hN, sv_13 hB hN, sv_14 hB hN, sv_15 hB hN, sv_108 hB hN, sv_109 hB hN, sv_110 hB hN, sv_111 hB hN, plc_sv hB hN, pcl_sv hB hN, colL_sv hB hN]; omega) | (simp only [sv_2 hB hN, sv_3 hB hN, sv_4 hB hN, sv_5 hB hN, sv_6 hB hN, sv_7 hB hN, sv_8 hB hN, sv_9 hB hN, sv_10 hB hN, sv_11 hB hN, sv_12 hB hN, sv_13 hB hN, sv_14 hB hN, sv_15 hB hN, sv_108 hB hN, sv_109 hB hN, sv_110 hB hN, sv_111 hB hN, plc_sv hB hN, pcl_sv hB hN, colL_sv hB hN]; exact hW a (by omega) (by omega) (by omega))) (by first | exact hB | exact hN | omega | (unfold inR; omega) | (simp only [sv_2 hB hN, sv_3 hB hN, sv_4 hB hN, sv_5 hB hN, sv_6 hB hN, sv_7 hB hN, sv_8 hB hN, sv_9 hB hN, sv_10 hB hN, sv_11 hB hN, sv_12 hB hN, sv_13 hB hN, sv_14 hB hN, sv_15 hB hN, sv_108 hB hN, sv_109 hB hN, sv_110 hB hN, sv_111 hB hN, plc_sv hB hN, pcl_sv hB hN, colL_sv hB hN]; omega) | (simp only [sv_2 hB hN, sv_3 hB hN, sv_4 hB hN, sv_5 hB hN, sv_6 hB hN, sv_7 hB hN, sv_8 hB hN, sv_9 hB hN, sv_10 hB hN, sv_11 hB hN, sv_12 hB hN, sv_13 hB hN, sv_14 hB hN, sv_15 hB hN, sv_108 hB hN, sv_109 hB hN, sv_110 hB hN, sv_111 hB hN, plc_sv hB hN, pcl_sv hB hN, colL_sv hB hN]; exact hW a (by omega) (by omega) (by omega))) _ (by first | exact hB | exact hN | omega | (unfold inR; omega) | (simp only [sv_2 hB hN, sv_3 hB hN, sv_4 hB hN, sv_5 hB hN, sv_6 hB hN, sv_7 hB hN, sv_8 hB hN, sv_9 hB hN, sv_10 hB hN, sv_11 hB hN, sv_12 hB hN, sv_13 hB hN, sv_14 hB hN, sv_15 hB hN, sv_108 hB hN, sv_109 hB hN, sv_110 hB hN, sv_111 hB hN, plc_sv hB hN, pcl_sv hB hN, colL_sv hB hN]; omega) | (simp only [sv_2 hB hN, sv_3 hB hN, sv_4 hB hN, sv_5 hB hN, sv_6 hB hN, sv_7 hB hN, sv_8 hB hN, sv_9 hB hN, sv_10 hB hN, sv_11 hB hN, sv_12 hB hN, sv_13 hB hN, sv_14 hB hN, sv_15 hB hN, sv_108 hB hN, sv_109 hB hN, sv_110 hB hN, sv_111 hB hN, plc_sv hB hN, pcl_sv hB hN, colL_sv hB hN]; exact hW a (by omega) (by omega) (by omega))) _ (by rw [colL_sv hB hN]; exact hcl)) fX3_writeValue qX5_139 dX5_write_106 KD_1 (by decide) ⟨Nat.zero_le _, Nat.zero_le _⟩ (Nat.le_of_ble_eq_true rfl) (fun f_6 hf_6 => ?_)
            exact r_ret_is dX5_write_109 rfl ⟨Nat.zero_le _, Nat.zero_le _⟩ (by first | rfl | omega | (split <;> omega)) (by first | rfl | exact (sr_self _ _).symm) (by exact trivial)
          · exfalso; omega
        · exfalso; omega
    · exfalso; omega

set_option maxRecDepth 100000 in
set_option maxHeartbeats 4000000 in
theorem ct_X5_remove {l : Launch} {G : GG} {σ τ : ST} (hI : CI σ) (b : Nat → Nat) (hB : okB b) (hN : 0 ≤ σ 16 1 ∧ σ 16 1 ≤ 6) (r : Int) (hE0 : 0 ≤ r ∧ r < σ 10 0) : Ct l G mX5_remove (6, 0, 0) [.ref 0, .int (iI r)] 110 KD σ τ (RHO (PB b)) (KSP (some (.int (iI (svF σ b 10 0 - 1)))) (tkF (svF σ b) r) τ (PB (svB σ b)) (fun _ => True)) := by
  have hz := hI.sz
  have hr0 := hI.ro
  have hm0 := hI.mk
  have h16 := svF_row hB hN (p := 2) (by decide)
  refine ct_intro (own := "ShapedRows") rfl (by decide +kernel) (Nat.le_of_ble_eq_true rfl) (L := _) rfl ?_
  refine r_aload_n dX5_remove_0 rfl (by rfl) ?_
  refine r_get_r kX5_10 dX5_remove_1 KD_0 (RHO_0_0 _) ?_
  refine r_get_r kX5_96 dX5_remove_4 KD_1 (RHO_1_1 _) ?_
  refine r_iload_n dX5_remove_7 rfl (by rfl) ?_
  refine r_callV1 (ct_X1_isThere hI _ (by first | exact hB | exact hN | omega | (unfold inR; omega) | (simp only [sv_2 hB hN, sv_3 hB hN, sv_4 hB hN, sv_5 hB hN, sv_6 hB hN, sv_7 hB hN, sv_8 hB hN, sv_9 hB hN, sv_10 hB hN, sv_11 hB hN, sv_12 hB hN, sv_13 hB hN, sv_14 hB hN, sv_15 hB hN, sv_108 hB hN, sv_109 hB hN, sv_110 hB hN, sv_111 hB hN, plc_sv hB hN, pcl_sv hB hN, colL_sv hB hN]; omega) | (simp only [sv_2 hB hN, sv_3 hB hN, sv_4 hB hN, sv_5 hB hN, sv_6 hB hN, sv_7 hB hN, sv_8 hB hN, sv_9 hB hN, sv_10 hB hN, sv_11 hB hN, sv_12 hB hN, sv_13 hB hN, sv_14 hB hN, sv_15 hB hN, sv_108 hB hN, sv_109 hB hN, sv_110 hB hN, sv_111 hB hN, plc_sv hB hN, pcl_sv hB hN, colL_sv hB hN]; exact hW a (by omega) (by omega) (by omega)))) fX1_isThere qX5_124 dX5_remove_8 KD_10 (by decide) ⟨Nat.zero_le _, Nat.zero_le _⟩ (Nat.le_of_ble_eq_true rfl) ?_
  refine r_ifne_b (tgt := 24) dX5_remove_11 (by decide) (fun c_1 => ?_) (fun c_1 => ?_)
  · refine r_aload_n dX5_remove_24 rfl (by rfl) ?_
    refine r_get_r kX5_19 dX5_remove_25 KD_0 (RHO_0_1 _) ?_
    refine r_aload_n dX5_remove_28 rfl (by rfl) ?_
    refine r_get_r kX5_10 dX5_remove_29 KD_0 (RHO_0_0 _) ?_
    refine r_callV1 (ct_X0_save _ (by first | exact hB | exact hN | omega | (unfold inR; omega) | (simp only [sv_2 hB hN, sv_3 hB hN, sv_4 hB hN, sv_5 hB hN, sv_6 hB hN, sv_7 hB hN, sv_8 hB hN, sv_9 hB hN, sv_10 hB hN, sv_11 hB hN, sv_12 hB hN, sv_13 hB hN, sv_14 hB hN, sv_15 hB hN, sv_108 hB hN, sv_109 hB hN, sv_110 hB hN, sv_111 hB hN, plc_sv hB hN, pcl_sv hB hN, colL_sv hB hN]; omega) | (simp only [sv_2 hB hN, sv_3 hB hN, sv_4 hB hN, sv_5 hB hN, sv_6 hB hN, sv_7 hB hN, sv_8 hB hN, sv_9 hB hN, sv_10 hB hN, sv_11 hB hN, sv_12 hB hN, sv_13 hB hN, sv_14 hB hN, sv_15 hB hN, sv_108 hB hN, sv_109 hB hN, sv_110 hB hN, sv_111 hB hN, plc_sv hB hN, pcl_sv hB hN, colL_sv hB hN]; exact hW a (by omega) (by omega) (by omega))) (by first | exact hB | exact hN | omega | (unfold inR; omega) | (simp only [sv_2 hB hN, sv_3 hB hN, sv_4 hB hN, sv_5 hB hN, sv_6 hB hN, sv_7 hB hN, sv_8 hB hN, sv_9 hB hN, sv_10 hB hN, sv_11 hB hN, sv_12 hB hN, sv_13 hB hN, sv_14 hB hN, sv_15 hB hN, sv_108 hB hN, sv_109 hB hN, sv_110 hB hN, sv_111 hB hN, plc_sv hB hN, pcl_sv hB hN, colL_sv hB hN]; omega) | (simp only [sv_2 hB hN, sv_3 hB hN, sv_4 hB hN, sv_5 hB hN, sv_6 hB hN, sv_7 hB hN, sv_8 hB hN, sv_9 hB hN, sv_10 hB hN, sv_11 hB hN, sv_12 hB hN, sv_13 hB hN, sv_14 hB hN, sv_15 hB hN, sv_108 hB hN, sv_109 hB hN, sv_110 hB hN, sv_111 hB hN, plc_sv hB hN, pcl_sv hB hN, colL_sv hB hN]; exact hW a (by omega) (by omega) (by omega)))) fX0_save qX5_58 dX5_remove_32 KD_16 (by decide) ⟨Nat.zero_le _, Nat.zero_le _⟩ (Nat.le_of_ble_eq_true rfl) ?_
    refine r_aload_n dX5_remove_35 rfl (by rfl) ?_
    refine r_get_r kX5_10 dX5_remove_36 KD_0 (RHO_0_0 _) ?_
    refine r_get_r kX5_96 dX5_remove_39 KD_1 (RHO_1_1 _) ?_
    refine r_iload_n dX5_remove_42 rfl (by rfl) ?_
    refine r_callV1 (ct_X1_takeOut (CI_sv hB hN hI) _ (by first | exact hB | exact hN | omega | (unfold inR; omega) | (simp only [sv_2 hB hN, sv_3 hB hN, sv_4 hB hN, sv_5 hB hN, sv_6 hB hN, sv_7 hB hN, sv_8 hB hN, sv_9 hB hN, sv_10 hB hN, sv_11 hB hN, sv_12 hB hN, sv_13 hB hN, sv_14 hB hN, sv_15 hB hN, sv_108 hB hN, sv_109 hB hN, sv_110 hB hN, sv_111 hB hN, plc_sv hB hN, pcl_sv hB hN, colL_sv hB hN]; omega) | (simp only [sv_2 hB hN, sv_3 hB hN, sv_4 hB hN, sv_5 hB hN, sv_6 hB hN, sv_7 hB hN, sv_8 hB hN, sv_9 hB hN, sv_10 hB hN, sv_11 hB hN, sv_12 hB hN, sv_13 hB hN, sv_14 hB hN, sv_15 hB hN, sv_108 hB hN, sv_109 hB hN, sv_110 hB hN, sv_111 hB hN, plc_sv hB hN, pcl_sv hB hN, colL_sv hB hN]; exact hW a (by omega) (by omega) (by omega))) (by first | exact hB | exact hN | omega | (unfold inR; omega) | (simp only [sv_2 hB hN, sv_3 hB hN, sv_4 hB hN, sv_5 hB hN, sv_6 hB hN, sv_7 hB hN, sv_8 hB hN, sv_9 hB hN, sv_10 hB hN, sv_11 hB hN, sv_12 hB hN, sv_13 hB hN, sv_14 hB hN, sv_15 hB hN, sv_108 hB hN, sv_109 hB hN, sv_110 hB hN, sv_111 hB hN, plc_sv hB hN, pcl_sv hB hN, colL_sv hB hN]; omega) | (simp only [sv_2 hB hN, sv_3 hB hN, sv_4 hB hN, sv_5 hB hN, sv_6 hB hN, sv_7 hB hN, sv_8 hB hN, sv_9 hB hN, sv_10 hB hN, sv_11 hB hN, sv_12 hB hN, sv_13 hB hN, sv_14 hB hN, sv_15 hB hN, sv_108 hB hN, sv_109 hB hN, sv_110 hB hN, sv_111 hB hN, plc_sv hB hN, pcl_sv hB hN, colL_sv hB hN]; exact hW a (by omega) (by omega) (by omega)))) fX1_takeOut qX5_145 dX5_remove_43 KD_10 (by decide) ⟨Nat.zero_le _, Nat.zero_le _⟩ (Nat.le_of_ble_eq_true rfl) ?_
    exact r_ret_is dX5_remove_46 rfl ⟨Nat.zero_le _, Nat.zero_le _⟩ (by first | rfl | omega | (split <;> omega)) (by first | rfl | exact (sr_self _ _).symm) (by exact trivial)
  · exfalso; omega

set_option maxRecDepth 100000 in
set_option maxHeartbeats 4000000 in
theorem ct_X5_undo {l : Launch} {G : GG} {σ τ : ST} (hI : CI σ) (b : Nat → Nat) (hB : okB b) (hN : 0 ≤ σ 16 1 ∧ σ 16 1 ≤ 6)  (hE0 : σ 16 1 ≠ 0) : Ct l G mX5_undo (6, 0, 0) [.ref 0] 110 KD σ τ (RHO (PB b)) (KSP (some (.int (iI (σ 16 1 - 1)))) (up2 (tkSt σ (b (σ 16 1 - 1).toNat) 1) 16 1 (σ 16 1 - 1)) τ (PB b) (fun _ => True)) := by
  have hz := hI.sz
  have hr0 := hI.ro
  have hm0 := hI.mk
  refine ct_intro (own := "ShapedRows") rfl (by decide +kernel) (Nat.le_of_ble_eq_true rfl) (L := _) rfl ?_
  refine r_aload_n dX5_undo_0 rfl (by rfl) ?_
  refine r_get_r kX5_19 dX5_undo_1 KD_0 (RHO_0_1 _) ?_
  refine r_callV0 ct_X0_size fX0_size qX5_197 dX5_undo_4 KD_16 (by decide) ⟨Nat.zero_le _, Nat.zero_le _⟩ (Nat.le_of_ble_eq_true rfl) ?_
  refine r_if_ne (tgt := 20) dX5_undo_7 (by decide) (by unfold inR; omega) (fun c_1 => ?_) (fun c_1 => ?_)
  · refine r_aload_n dX5_undo_20 rfl (by rfl) ?_
    refine r_get_r kX5_19 dX5_undo_21 KD_0 (RHO_0_1 _) ?_
    refine r_aload_n dX5_undo_24 rfl (by rfl) ?_
    refine r_get_r kX5_10 dX5_undo_25 KD_0 (RHO_0_0 _) ?_
    refine r_callV1 (ct_X0_restore _ (by first | exact hB | omega) (by first | exact hB | omega)) fX0_restore qX5_202 dX5_undo_28 KD_16 (by decide) ⟨Nat.zero_le _, Nat.zero_le _⟩ (Nat.le_of_ble_eq_true rfl) ?_
    exact r_ret_is dX5_undo_31 rfl ⟨Nat.zero_le _, Nat.zero_le _⟩ (by first | rfl | omega | (split <;> omega)) (by first | rfl | exact (sr_self _ _).symm) (by exact trivial)
  · exfalso; omega
