/-! the model: an order read, the walks -/
theorem BJ_fr {σ σ' : ST} (h : BJ σ) (g : FT0 σ σ') (h8 : 0 ≤ σ' 110 8 ∧ σ' 110 8 ≤ 1000) (h9 : σ' 110 9 = 0 ∨ σ' 110 9 = 1) : BJ σ' := by
  obtain ⟨b1, b2, b3, b4⟩ := h
  refine ⟨?_, h8, h9, ?_⟩
  · rw [g.2 5 (by omega) (by omega)]; exact b1
  · rw [g.1 113 (by omega)]; exact b4
theorem sg_lt {σ : ST} (h : sgM σ ≠ 0) : σ 110 8 < σ 110 5 := by
  unfold sgM at h
  rcases Int.lt_or_le (σ 110 8) (σ 110 5) with g | g
  · exact g
  · rw [if_neg (by omega)] at h; exact absurd rfl h
theorem BJ_tk {σ : ST} (h : BJ σ) {a : Int} (a1 : 1 ≤ a) (b : Int) : BJ (tkS σ a b) := by
  have b1 := h.1
  have b2 := h.2.1
  by_cases d : σ 110 9 = 1 ∧ a ≤ sgM σ ∧ sgM σ ≤ b
  · have t := tk_1 d
    have g := sg_lt (σ := σ) (by omega)
    exact BJ_fr h (FT0_tk _ _ _) (by omega) (Or.inr t.1)
  · have t := tk_0 d
    exact BJ_fr h (FT0_tk _ _ _) (by omega) (Or.inl t.1)
theorem BJ_ev {σ : ST} (h : BJ σ) (hs : sgM σ ≠ 0) : BJ (ev σ) := by
  have b1 := h.1
  have b2 := h.2.1
  have g := sg_lt hs
  exact BJ_fr h (FT0_8 _ _) (by unfold ev; rw [up2_at]; omega) (by unfold ev; rw [up2_el _ _ _ (by omega)]; exact h.2.2.1)
theorem BJ_nu {σ : ST} (h : BJ σ) : BJ (nuS σ) := by
  unfold nuS
  split
  · exact BJ_tk (BJ_tk h (by omega) _) (by omega) _
  · exact BJ_tk h (by omega) _
theorem BJ_rg {σ : ST} (h : BJ σ) : BJ (rgS σ) := by
  unfold rgS
  split
  · exact BJ_tk (BJ_tk h (by omega) _) (by omega) _
  · exact BJ_tk h (by omega) _
theorem BJ_hd {σ : ST} (h : BJ σ) : BJ (hdS σ) := by
  have b1 := h.1
  have b2 := h.2.1
  have e9 : hdS σ 110 9 = hdW σ := by unfold hdS; rw [up2_el _ _ _ (by omega), up2_at]
  have e8 : hdS σ 110 8 = σ 110 8 + hdW σ := by unfold hdS; rw [up2_at]
  have w01 : hdW σ = 0 ∨ hdW σ = 1 := by unfold hdW; split <;> omega
  refine BJ_fr h ((FT0_9 _ _).tr (FT0_8 _ _)) ?_ (by omega)
  rcases w01 with w | w
  · omega
  · have g : sgM σ ≠ 0 := by
      unfold hdW at w
      split at w <;> omega
    have := sg_lt g
    omega

set_option maxRecDepth 100000 in
set_option maxHeartbeats 4000000 in
theorem ct_X6_number {l : Launch} {G : GG} {π : Nat → Option Nat} {σ τ : ST} (hB : BJ σ)  : Ct l G mX6_number (2, 0, 0) [.ref 110] 117 KD σ τ (RHO π) (KQ (some (.int (iI (nuV σ)))) 117 KD (nuS σ) τ (RHO π)) := by
  have B1 := BJ_tk hB (a := 48) (by omega) 57
  have h9 := B1.2.2.1
  have s0 := sgM_rng hB
  have s1 := sgM_rng B1
  refine ct_intro (own := "ShapedRowsModel") rfl (by decide +kernel) (Nat.le_of_ble_eq_true rfl) (L := _) rfl ?_
  refine r_aload_n dX6_number_0 rfl (by rfl) ?_
  refine r_bipush dX6_number_1 (by decide) ?_
  refine r_bipush dX6_number_3 (by decide) ?_
  refine r_callV2 (ct_X6_takes (by first | exact hB | exact B1 | exact B2 | exact B3 | exact B4 | exact inR_0 | omega | (unfold inR; omega)) _ (by first | exact hB | exact B1 | exact B2 | exact B3 | exact B4 | exact inR_0 | omega | (unfold inR; omega)) _ (by first | exact hB | exact B1 | exact B2 | exact B3 | exact B4 | exact inR_0 | omega | (unfold inR; omega))) fX6_takes qX6_164 dX6_number_5 KD_110 (by decide) ⟨Nat.zero_le _, Nat.zero_le _⟩ (Nat.le_of_ble_eq_true rfl) ?_
  refine r_istore_n dX6_number_8 rfl (Nat.le_of_ble_eq_true rfl) (L' := [_, _]) (by rfl) ?_
  refine r_aload_n dX6_number_9 rfl (by rfl) ?_
  refine r_get_i kX6_157 dX6_number_10 KD_110 ?_
  refine r_if_eq (tgt := 50) dX6_number_13 (by decide) (by unfold inR; omega) (fun c_1 => ?_) (fun c_1 => ?_)
  · refine r_iload_n dX6_number_50 rfl (by rfl) ?_
    exact r_ret_i dX6_number_51 rfl ⟨Nat.zero_le _, Nat.zero_le _⟩ (by unfold nuV; first | (rw [if_pos (by omega)]; done) | (rw [if_neg (by omega)]; done)) ⟨rfl, rfl, (by unfold nuS; first | (rw [if_pos (by omega)]; done) | (rw [if_neg (by omega)]; done)), rfl, rfl⟩
  · refine r_iload_n dX6_number_16 rfl (by rfl) ?_
    refine r_if_le (tgt := 50) dX6_number_17 (by decide) (by unfold inR; omega) (fun c_2 => ?_) (fun c_2 => ?_)
    · refine r_iload_n dX6_number_50 rfl (by rfl) ?_
      exact r_ret_i dX6_number_51 rfl ⟨Nat.zero_le _, Nat.zero_le _⟩ (by unfold nuV; first | (rw [if_pos (by omega)]; done) | (rw [if_neg (by omega)]; done)) ⟨rfl, rfl, (by unfold nuS; first | (rw [if_pos (by omega)]; done) | (rw [if_neg (by omega)]; done)), rfl, rfl⟩
    · refine r_aload_n dX6_number_20 rfl (by rfl) ?_
      refine r_callV0 (ct_X6_sign (by first | exact hB | exact B1 | exact B2 | exact B3 | exact B4 | exact inR_0 | omega | (unfold inR; omega))) fX6_sign qX6_161 dX6_number_21 KD_110 (by decide) ⟨Nat.zero_le _, Nat.zero_le _⟩ (Nat.le_of_ble_eq_true rfl) ?_
      refine r_bipush dX6_number_24 (by decide) ?_
      refine r_bipush dX6_number_26 (by decide) ?_
      refine r_callS3 (ct_X6_in _ (by first | exact hB | exact B1 | exact B2 | exact B3 | exact B4 | exact inR_0 | omega | (unfold inR; omega)) _ (by first | exact hB | exact B1 | exact B2 | exact B3 | exact B4 | exact inR_0 | omega | (unfold inR; omega)) _ (by first | exact hB | exact B1 | exact B2 | exact B3 | exact B4 | exact inR_0 | omega | (unfold inR; omega))) fX6_in qX6_32 dX6_number_28 (by decide) ⟨Nat.zero_le _, Nat.zero_le _⟩ (Nat.le_of_ble_eq_true rfl) ?_
      refine r_ifeq_b (tgt := 50) dX6_number_31 (by decide) (fun c_3 => ?_) (fun c_3 => ?_)
      · refine r_iload_n dX6_number_50 rfl (by rfl) ?_
        exact r_ret_i dX6_number_51 rfl ⟨Nat.zero_le _, Nat.zero_le _⟩ (by unfold nuV; first | (rw [if_pos (by omega)]; done) | (rw [if_neg (by omega)]; done)) ⟨rfl, rfl, (by unfold nuS; first | (rw [if_pos (by omega)]; done) | (rw [if_neg (by omega)]; done)), rfl, rfl⟩
      · refine r_bipush dX6_number_34 (by decide) ?_
        refine r_iload_n dX6_number_36 rfl (by rfl) ?_
        refine r_imul dX6_number_37 ?_
        refine r_aload_n dX6_number_38 rfl (by rfl) ?_
        refine r_bipush dX6_number_39 (by decide) ?_
        refine r_bipush dX6_number_41 (by decide) ?_
        refine r_callV2 (ct_X6_takes (by first | exact hB | exact B1 | exact B2 | exact B3 | exact B4 | exact inR_0 | omega | (unfold inR; omega)) _ (by first | exact hB | exact B1 | exact B2 | exact B3 | exact B4 | exact inR_0 | omega | (unfold inR; omega)) _ (by first | exact hB | exact B1 | exact B2 | exact B3 | exact B4 | exact inR_0 | omega | (unfold inR; omega))) fX6_takes qX6_164 dX6_number_43 KD_110 (by decide) ⟨Nat.zero_le _, Nat.zero_le _⟩ (Nat.le_of_ble_eq_true rfl) ?_
        refine r_iadd dX6_number_46 ?_
        refine r_goto (tgt := 51) dX6_number_47 (by decide) ?_
        exact r_ret_i dX6_number_51 rfl ⟨Nat.zero_le _, Nat.zero_le _⟩ (by unfold nuV; first | (rw [if_pos (by omega)]; done) | (rw [if_neg (by omega)]; done)) ⟨rfl, rfl, (by unfold nuS; first | (rw [if_pos (by omega)]; done) | (rw [if_neg (by omega)]; done)), rfl, rfl⟩

set_option maxRecDepth 100000 in
set_option maxHeartbeats 4000000 in
theorem ct_X6_rowsToGo {l : Launch} {G : GG} {π : Nat → Option Nat} {σ τ : ST} (hB : BJ σ)  : Ct l G mX6_rowsToGo (2, 0, 0) [.ref 110] 117 KD σ τ (RHO π) (KQ (some (.int (iI (rgV σ)))) 117 KD (rgS σ) τ (RHO π)) := by
  have B1 := BJ_tk hB (a := 49) (by omega) 57
  have h9 := B1.2.2.1
  have s0 := sgM_rng hB
  have s1 := sgM_rng B1
  refine ct_intro (own := "ShapedRowsModel") rfl (by decide +kernel) (Nat.le_of_ble_eq_true rfl) (L := _) rfl ?_
  refine r_iconst dX6_rowsToGo_0 ?_
  refine r_aload_n dX6_rowsToGo_1 rfl (by rfl) ?_
  refine r_bipush dX6_rowsToGo_2 (by decide) ?_
  refine r_bipush dX6_rowsToGo_4 (by decide) ?_
  refine r_callV2 (ct_X6_takes (by first | exact hB | exact B1 | exact B2 | exact B3 | exact B4 | exact inR_0 | omega | (unfold inR; omega)) _ (by first | exact hB | exact B1 | exact B2 | exact B3 | exact B4 | exact inR_0 | omega | (unfold inR; omega)) _ (by first | exact hB | exact B1 | exact B2 | exact B3 | exact B4 | exact inR_0 | omega | (unfold inR; omega))) fX6_takes qX6_164 dX6_rowsToGo_6 KD_110 (by decide) ⟨Nat.zero_le _, Nat.zero_le _⟩ (Nat.le_of_ble_eq_true rfl) ?_
  refine r_iadd dX6_rowsToGo_9 ?_
  refine r_istore_n dX6_rowsToGo_10 rfl (Nat.le_of_ble_eq_true rfl) (L' := [_, _]) (by rfl) ?_
  refine r_aload_n dX6_rowsToGo_11 rfl (by rfl) ?_
  refine r_get_i kX6_157 dX6_rowsToGo_12 KD_110 ?_
  refine r_if_eq (tgt := 51) dX6_rowsToGo_15 (by decide) (by unfold inR; omega) (fun c_1 => ?_) (fun c_1 => ?_)
  · refine r_iload_n dX6_rowsToGo_51 rfl (by rfl) ?_
    exact r_ret_i dX6_rowsToGo_52 rfl ⟨Nat.zero_le _, Nat.zero_le _⟩ (by unfold rgV; first | (rw [if_pos (by omega)]; done) | (rw [if_neg (by omega)]; done)) ⟨rfl, rfl, (by unfold rgS; first | (rw [if_pos (by omega)]; done) | (rw [if_neg (by omega)]; done)), rfl, rfl⟩
  · refine r_iload_n dX6_rowsToGo_18 rfl (by rfl) ?_
    refine r_iconst dX6_rowsToGo_19 ?_
    refine r_icmp_ne (tgt := 51) dX6_rowsToGo_20 (by decide) (by unfold inR; omega) (by unfold inR; omega) (fun c_2 => ?_) (fun c_2 => ?_)
    · refine r_iload_n dX6_rowsToGo_51 rfl (by rfl) ?_
      exact r_ret_i dX6_rowsToGo_52 rfl ⟨Nat.zero_le _, Nat.zero_le _⟩ (by unfold rgV; first | (rw [if_pos (by omega)]; done) | (rw [if_neg (by omega)]; done)) ⟨rfl, rfl, (by unfold rgS; first | (rw [if_pos (by omega)]; done) | (rw [if_neg (by omega)]; done)), rfl, rfl⟩
    · refine r_aload_n dX6_rowsToGo_23 rfl (by rfl) ?_
      refine r_callV0 (ct_X6_sign (by first | exact hB | exact B1 | exact B2 | exact B3 | exact B4 | exact inR_0 | omega | (unfold inR; omega))) fX6_sign qX6_161 dX6_rowsToGo_24 KD_110 (by decide) ⟨Nat.zero_le _, Nat.zero_le _⟩ (Nat.le_of_ble_eq_true rfl) ?_
      refine r_bipush dX6_rowsToGo_27 (by decide) ?_
      refine r_bipush dX6_rowsToGo_29 (by decide) ?_
      refine r_callS3 (ct_X6_in _ (by first | exact hB | exact B1 | exact B2 | exact B3 | exact B4 | exact inR_0 | omega | (unfold inR; omega)) _ (by first | exact hB | exact B1 | exact B2 | exact B3 | exact B4 | exact inR_0 | omega | (unfold inR; omega)) _ (by first | exact hB | exact B1 | exact B2 | exact B3 | exact B4 | exact inR_0 | omega | (unfold inR; omega))) fX6_in qX6_32 dX6_rowsToGo_31 (by decide) ⟨Nat.zero_le _, Nat.zero_le _⟩ (Nat.le_of_ble_eq_true rfl) ?_
      refine r_ifeq_b (tgt := 51) dX6_rowsToGo_34 (by decide) (fun c_3 => ?_) (fun c_3 => ?_)
      · refine r_iload_n dX6_rowsToGo_51 rfl (by rfl) ?_
        exact r_ret_i dX6_rowsToGo_52 rfl ⟨Nat.zero_le _, Nat.zero_le _⟩ (by unfold rgV; first | (rw [if_pos (by omega)]; done) | (rw [if_neg (by omega)]; done)) ⟨rfl, rfl, (by unfold rgS; first | (rw [if_pos (by omega)]; done) | (rw [if_neg (by omega)]; done)), rfl, rfl⟩
      · refine r_bipush dX6_rowsToGo_37 (by decide) ?_
        refine r_aload_n dX6_rowsToGo_39 rfl (by rfl) ?_
        refine r_bipush dX6_rowsToGo_40 (by decide) ?_
        refine r_bipush dX6_rowsToGo_42 (by decide) ?_
        refine r_callV2 (ct_X6_takes (by first | exact hB | exact B1 | exact B2 | exact B3 | exact B4 | exact inR_0 | omega | (unfold inR; omega)) _ (by first | exact hB | exact B1 | exact B2 | exact B3 | exact B4 | exact inR_0 | omega | (unfold inR; omega)) _ (by first | exact hB | exact B1 | exact B2 | exact B3 | exact B4 | exact inR_0 | omega | (unfold inR; omega))) fX6_takes qX6_164 dX6_rowsToGo_44 KD_110 (by decide) ⟨Nat.zero_le _, Nat.zero_le _⟩ (Nat.le_of_ble_eq_true rfl) ?_
        refine r_iadd dX6_rowsToGo_47 ?_
        refine r_goto (tgt := 52) dX6_rowsToGo_48 (by decide) ?_
        exact r_ret_i dX6_rowsToGo_52 rfl ⟨Nat.zero_le _, Nat.zero_le _⟩ (by unfold rgV; first | (rw [if_pos (by omega)]; done) | (rw [if_neg (by omega)]; done)) ⟨rfl, rfl, (by unfold rgS; first | (rw [if_pos (by omega)]; done) | (rw [if_neg (by omega)]; done)), rfl, rfl⟩

set_option maxRecDepth 100000 in
set_option maxHeartbeats 4000000 in
theorem ct_X6_lays {l : Launch} {G : GG} {π : Nat → Option Nat} {σ τ : ST} (m0 : 0 ≤ σ 110 11) (m1 : σ 110 11 < 64) (hz : σ 110 9 = 0 ∨ σ 110 9 = 1) (w x y z : Int) : Ct l G mX6_lays (0, 0, 0) [.ref 110, .int (iI w), .int (iI x), .int (iI y), .int (iI z)] 117 KD σ τ (RHO π) (KQ none 117 KD (lyO σ w x y z) τ (RHO π)) := by
  have e1 : ∀ k v, up2 σ 115 k v 110 11 = σ 110 11 := fun k v => up2_no _ (by omega)
  have e2 : ∀ k v k2 v2, up2 (up2 σ 115 k v) 115 k2 v2 110 11 = σ 110 11 := fun k v k2 v2 => by rw [up2_no _ (by omega), up2_no _ (by omega)]
  have e3 : ∀ k v k2 v2 k3 v3, up2 (up2 (up2 σ 115 k v) 115 k2 v2) 115 k3 v3 110 11 = σ 110 11 := fun k v k2 v2 k3 v3 => by rw [up2_no _ (by omega), up2_no _ (by omega), up2_no _ (by omega)]
  have e4 : ∀ k v k2 v2 k3 v3 k4 v4, up2 (up2 (up2 (up2 σ 115 k v) 115 k2 v2) 115 k3 v3) 115 k4 v4 110 11 = σ 110 11 := fun k v k2 v2 k3 v3 k4 v4 => by rw [up2_no _ (by omega), up2_no _ (by omega), up2_no _ (by omega), up2_no _ (by omega)]
  refine ct_intro (own := "ShapedRowsModel") rfl (by decide +kernel) (Nat.le_of_ble_eq_true rfl) (L := _) rfl ?_
  refine r_aload_n dX6_lays_0 rfl (by rfl) ?_
  refine r_get_i kX6_157 dX6_lays_1 KD_110 ?_
  refine r_if_eq (tgt := 72) dX6_lays_4 (by decide) (by unfold inR; omega) (fun c_1 => ?_) (fun c_1 => ?_)
  · exact r_ret_v dX6_lays_72 rfl ⟨Nat.zero_le _, Nat.zero_le _⟩ ⟨rfl, rfl, (by unfold lyO; first | (rw [if_pos (by omega)]; done) | (rw [if_neg (by omega)]; done)), rfl, rfl⟩
  · refine r_aload_n dX6_lays_7 rfl (by rfl) ?_
    refine r_get_r kX6_22 dX6_lays_8 KD_110 (RHO_110_10 _) ?_
    refine r_iconst dX6_lays_11 ?_
    refine r_aload_n dX6_lays_12 rfl (by rfl) ?_
    refine r_get_i kX6_167 dX6_lays_13 KD_110 ?_
    refine r_imul dX6_lays_16 ?_
    refine r_iload_n dX6_lays_17 rfl (by rfl) ?_
    refine r_iast dX6_lays_18 KD_115 (by omega) (by omega) (by first | decide | omega) ?_
    refine r_aload_n dX6_lays_19 rfl (by rfl) ?_
    refine r_get_r kX6_22 dX6_lays_20 KD_110 (RHO_110_10 _) ?_
    refine r_iconst dX6_lays_23 ?_
    refine r_aload_n dX6_lays_24 rfl (by rfl) ?_
    refine r_get_i kX6_167 dX6_lays_25 KD_110 ?_
    rw [e1]
    refine r_imul dX6_lays_28 ?_
    refine r_iconst dX6_lays_29 ?_
    refine r_iadd dX6_lays_30 ?_
    refine r_iload_n dX6_lays_31 rfl (by rfl) ?_
    refine r_iast dX6_lays_32 KD_115 (by omega) (by omega) (by first | decide | omega) ?_
    refine r_aload_n dX6_lays_33 rfl (by rfl) ?_
    refine r_get_r kX6_22 dX6_lays_34 KD_110 (RHO_110_10 _) ?_
    refine r_iconst dX6_lays_37 ?_
    refine r_aload_n dX6_lays_38 rfl (by rfl) ?_
    refine r_get_i kX6_167 dX6_lays_39 KD_110 ?_
    rw [e2]
    refine r_imul dX6_lays_42 ?_
    refine r_iconst dX6_lays_43 ?_
    refine r_iadd dX6_lays_44 ?_
    refine r_iload_n dX6_lays_45 rfl (by rfl) ?_
    refine r_iast dX6_lays_46 KD_115 (by omega) (by omega) (by first | decide | omega) ?_
    refine r_aload_n dX6_lays_47 rfl (by rfl) ?_
    refine r_get_r kX6_22 dX6_lays_48 KD_110 (RHO_110_10 _) ?_
    refine r_iconst dX6_lays_51 ?_
    refine r_aload_n dX6_lays_52 rfl (by rfl) ?_
    refine r_get_i kX6_167 dX6_lays_53 KD_110 ?_
    rw [e3]
    refine r_imul dX6_lays_56 ?_
    refine r_iconst dX6_lays_57 ?_
    refine r_iadd dX6_lays_58 ?_
    refine r_iload dX6_lays_59 (by rfl) ?_
    refine r_iast dX6_lays_61 KD_115 (by omega) (by omega) (by first | decide | omega) ?_
    refine r_aload_n dX6_lays_62 rfl (by rfl) ?_
    refine r_dup dX6_lays_63 rfl ?_
    refine r_get_i kX6_167 dX6_lays_64 KD_110 ?_
    rw [e4]
    refine r_iconst dX6_lays_67 ?_
    refine r_iadd dX6_lays_68 ?_
    refine r_put_i kX6_167 dX6_lays_69 KD_110 ?_
    exact r_ret_v dX6_lays_72 rfl ⟨Nat.zero_le _, Nat.zero_le _⟩ ⟨rfl, rfl, (by unfold lyO; first | (rw [if_pos (by omega)]; done) | (rw [if_neg (by omega)]; done)), rfl, rfl⟩

set_option maxRecDepth 100000 in
set_option maxHeartbeats 4000000 in
theorem ct_X6_readsAdding {l : Launch} {G : GG} {π : Nat → Option Nat} {σ τ : ST} (hB : BJ σ) (m0 : 0 ≤ σ 110 11) (m1 : σ 110 11 < 64)  : Ct l G mX6_readsAdding (3, 0, 0) [.ref 110] 117 KD σ τ (RHO π) (KQ none 117 KD (raS σ) τ (RHO π)) := by
  have B1 := BJ_tk hB (a := 97) (by omega) 104
  have B2 := BJ_tk B1 (a := 58) (by omega) 58
  have B3 := BJ_tk B2 (a := 97) (by omega) 104
  have h9 := B1.2.2.1
  have h93 := B3.2.2.1
  have s1 := sgM_rng B1
  have s3 := sgM_rng B3
  have g1 : ∀ μ : ST, FT0 σ μ → μ 110 11 = σ 110 11 := fun μ g => g.2 11 (by omega) (by omega)
  have F1 := FT0_tk σ 97 104
  have F2 := F1.tr (FT0_tk _ 58 58)
  have F3 := F2.tr (FT0_tk _ 97 104)
  refine ct_intro (own := "ShapedRowsModel") rfl (by decide +kernel) (Nat.le_of_ble_eq_true rfl) (L := _) rfl ?_
  refine r_aload_n dX6_readsAdding_0 rfl (by rfl) ?_
  refine r_bipush dX6_readsAdding_1 (by decide) ?_
  refine r_bipush dX6_readsAdding_3 (by decide) ?_
  refine r_callV2 (ct_X6_takes (by first | exact BN | exact N9 | exact C9 | exact hB | exact B1 | exact B2 | exact B3 | exact B4 | exact inR_0 | omega | (unfold inR; omega)) _ (by first | exact BN | exact N9 | exact C9 | exact hB | exact B1 | exact B2 | exact B3 | exact B4 | exact inR_0 | omega | (unfold inR; omega)) _ (by first | exact BN | exact N9 | exact C9 | exact hB | exact B1 | exact B2 | exact B3 | exact B4 | exact inR_0 | omega | (unfold inR; omega))) fX6_takes qX6_164 dX6_readsAdding_5 KD_110 (by decide) ⟨Nat.zero_le _, Nat.zero_le _⟩ (Nat.le_of_ble_eq_true rfl) ?_
  refine r_istore_n dX6_readsAdding_8 rfl (Nat.le_of_ble_eq_true rfl) (L' := [_, _, _, _]) (by rfl) ?_
  refine r_aload_n dX6_readsAdding_9 rfl (by rfl) ?_
  refine r_get_i kX6_157 dX6_readsAdding_10 KD_110 ?_
  refine r_if_eq (tgt := 51) dX6_readsAdding_13 (by decide) (by unfold inR; omega) (fun c_1 => ?_) (fun c_1 => ?_)
  · refine r_aload_n dX6_readsAdding_51 rfl (by rfl) ?_
    refine r_bipush dX6_readsAdding_52 (by decide) ?_
    refine r_bipush dX6_readsAdding_54 (by decide) ?_
    refine r_callV2 (ct_X6_takes (by first | exact BN | exact N9 | exact C9 | exact hB | exact B1 | exact B2 | exact B3 | exact B4 | exact inR_0 | omega | (unfold inR; omega)) _ (by first | exact BN | exact N9 | exact C9 | exact hB | exact B1 | exact B2 | exact B3 | exact B4 | exact inR_0 | omega | (unfold inR; omega)) _ (by first | exact BN | exact N9 | exact C9 | exact hB | exact B1 | exact B2 | exact B3 | exact B4 | exact inR_0 | omega | (unfold inR; omega))) fX6_takes qX6_164 dX6_readsAdding_56 KD_110 (by decide) ⟨Nat.zero_le _, Nat.zero_le _⟩ (Nat.le_of_ble_eq_true rfl) ?_
    refine r_pop dX6_readsAdding_59 rfl ?_
    refine r_aload_n dX6_readsAdding_60 rfl (by rfl) ?_
    refine r_bipush dX6_readsAdding_61 (by decide) ?_
    refine r_bipush dX6_readsAdding_63 (by decide) ?_
    refine r_callV2 (ct_X6_takes (by first | exact BN | exact N9 | exact C9 | exact hB | exact B1 | exact B2 | exact B3 | exact B4 | exact inR_0 | omega | (unfold inR; omega)) _ (by first | exact BN | exact N9 | exact C9 | exact hB | exact B1 | exact B2 | exact B3 | exact B4 | exact inR_0 | omega | (unfold inR; omega)) _ (by first | exact BN | exact N9 | exact C9 | exact hB | exact B1 | exact B2 | exact B3 | exact B4 | exact inR_0 | omega | (unfold inR; omega))) fX6_takes qX6_164 dX6_readsAdding_65 KD_110 (by decide) ⟨Nat.zero_le _, Nat.zero_le _⟩ (Nat.le_of_ble_eq_true rfl) ?_
    refine r_istore_n dX6_readsAdding_68 rfl (Nat.le_of_ble_eq_true rfl) (L' := [_, _, _, _]) (by rfl) ?_
    refine r_iconst dX6_readsAdding_69 ?_
    refine r_istore_n dX6_readsAdding_70 rfl (Nat.le_of_ble_eq_true rfl) (L' := [_, _, _, _]) (by rfl) ?_
    refine r_aload_n dX6_readsAdding_71 rfl (by rfl) ?_
    refine r_get_i kX6_157 dX6_readsAdding_72 KD_110 ?_
    refine r_if_eq (tgt := 106) dX6_readsAdding_75 (by decide) (by unfold inR; omega) (fun c_2 => ?_) (fun c_2 => ?_)
    · have C11 := g1 _ F3
      have C9 := B3.2.2.1
      refine r_aload_n dX6_readsAdding_106 rfl (by rfl) ?_
      refine r_iconst dX6_readsAdding_107 ?_
      refine r_iload_n dX6_readsAdding_108 rfl (by rfl) ?_
      refine r_iload_n dX6_readsAdding_109 rfl (by rfl) ?_
      refine r_iload_n dX6_readsAdding_110 rfl (by rfl) ?_
      refine r_callV4 (ct_X6_lays (by first | exact BN | exact N9 | exact C9 | exact hB | exact B1 | exact B2 | exact B3 | exact B4 | exact inR_0 | omega | (unfold inR; omega)) (by first | exact BN | exact N9 | exact C9 | exact hB | exact B1 | exact B2 | exact B3 | exact B4 | exact inR_0 | omega | (unfold inR; omega)) (by first | exact BN | exact N9 | exact C9 | exact hB | exact B1 | exact B2 | exact B3 | exact B4 | exact inR_0 | omega | (unfold inR; omega)) _ _ _ _) fX6_lays qX6_173 dX6_readsAdding_111 KD_110 (by decide) ⟨Nat.zero_le _, Nat.zero_le _⟩ (Nat.le_of_ble_eq_true rfl) ?_
      exact r_ret_v dX6_readsAdding_114 rfl ⟨Nat.zero_le _, Nat.zero_le _⟩ ⟨rfl, rfl, (by unfold raS; first | (rw [if_pos (by omega)]; done) | (rw [if_neg (by omega), if_pos (by omega)]; done) | (rw [if_neg (by omega), if_neg (by omega)]; done)), rfl, rfl⟩
    · refine r_aload_n dX6_readsAdding_78 rfl (by rfl) ?_
      refine r_callV0 (ct_X6_sign (by first | exact BN | exact N9 | exact C9 | exact hB | exact B1 | exact B2 | exact B3 | exact B4 | exact inR_0 | omega | (unfold inR; omega))) fX6_sign qX6_161 dX6_readsAdding_79 KD_110 (by decide) ⟨Nat.zero_le _, Nat.zero_le _⟩ (Nat.le_of_ble_eq_true rfl) ?_
      refine r_bipush dX6_readsAdding_82 (by decide) ?_
      refine r_icmp_ne (tgt := 106) dX6_readsAdding_84 (by decide) (by unfold inR; omega) (by unfold inR; omega) (fun hs3 => ?_) (fun hs3 => ?_)
      · have C11 := g1 _ F3
        have C9 := B3.2.2.1
        refine r_aload_n dX6_readsAdding_106 rfl (by rfl) ?_
        refine r_iconst dX6_readsAdding_107 ?_
        refine r_iload_n dX6_readsAdding_108 rfl (by rfl) ?_
        refine r_iload_n dX6_readsAdding_109 rfl (by rfl) ?_
        refine r_iload_n dX6_readsAdding_110 rfl (by rfl) ?_
        refine r_callV4 (ct_X6_lays (by first | exact BN | exact N9 | exact C9 | exact hB | exact B1 | exact B2 | exact B3 | exact B4 | exact inR_0 | omega | (unfold inR; omega)) (by first | exact BN | exact N9 | exact C9 | exact hB | exact B1 | exact B2 | exact B3 | exact B4 | exact inR_0 | omega | (unfold inR; omega)) (by first | exact BN | exact N9 | exact C9 | exact hB | exact B1 | exact B2 | exact B3 | exact B4 | exact inR_0 | omega | (unfold inR; omega)) _ _ _ _) fX6_lays qX6_173 dX6_readsAdding_111 KD_110 (by decide) ⟨Nat.zero_le _, Nat.zero_le _⟩ (Nat.le_of_ble_eq_true rfl) ?_
        exact r_ret_v dX6_readsAdding_114 rfl ⟨Nat.zero_le _, Nat.zero_le _⟩ ⟨rfl, rfl, (by unfold raS; first | (rw [if_pos (by omega)]; done) | (rw [if_neg (by omega), if_pos (by omega)]; done) | (rw [if_neg (by omega), if_neg (by omega)]; done)), rfl, rfl⟩
      · refine r_aload_n dX6_readsAdding_87 rfl (by rfl) ?_
        refine r_dup dX6_readsAdding_88 rfl ?_
        refine r_get_i kX6_154 dX6_readsAdding_89 KD_110 ?_
        refine r_iconst dX6_readsAdding_92 ?_
        refine r_iadd dX6_readsAdding_93 ?_
        refine r_put_i kX6_154 dX6_readsAdding_94 KD_110 ?_
        have BV := BJ_ev B3 (by omega)
        have BN := BJ_tk BV (a := 97) (by omega) 104
        have N9 := BN.2.2.1
        have N11 := g1 _ (F3.tr ((FT0_8 _ _).tr (FT0_tk (ev (tkS (tkS (tkS σ 97 104) 58 58) 97 104)) 97 104)))
        refine WP.mem (σ' := ev (tkS (tkS (tkS σ 97 104) 58 58) 97 104)) rfl ?_
        refine r_aload_n dX6_readsAdding_97 rfl (by rfl) ?_
        refine r_bipush dX6_readsAdding_98 (by decide) ?_
        refine r_bipush dX6_readsAdding_100 (by decide) ?_
        refine r_callV2 (ct_X6_takes BV 97 (by unfold inR; omega) 104 (by unfold inR; omega)) fX6_takes qX6_164 dX6_readsAdding_102 KD_110 (by decide) ⟨Nat.zero_le _, Nat.zero_le _⟩ (Nat.le_of_ble_eq_true rfl) ?_
        refine r_istore_n dX6_readsAdding_105 rfl (Nat.le_of_ble_eq_true rfl) (L' := [_, _, _, _]) (by rfl) ?_
        have C11 := g1 _ F3
        have C9 := B3.2.2.1
        refine r_aload_n dX6_readsAdding_106 rfl (by rfl) ?_
        refine r_iconst dX6_readsAdding_107 ?_
        refine r_iload_n dX6_readsAdding_108 rfl (by rfl) ?_
        refine r_iload_n dX6_readsAdding_109 rfl (by rfl) ?_
        refine r_iload_n dX6_readsAdding_110 rfl (by rfl) ?_
        refine r_callV4 (ct_X6_lays (by first | exact BN | exact N9 | exact C9 | exact hB | exact B1 | exact B2 | exact B3 | exact B4 | exact inR_0 | omega | (unfold inR; omega)) (by first | exact BN | exact N9 | exact C9 | exact hB | exact B1 | exact B2 | exact B3 | exact B4 | exact inR_0 | omega | (unfold inR; omega)) (by first | exact BN | exact N9 | exact C9 | exact hB | exact B1 | exact B2 | exact B3 | exact B4 | exact inR_0 | omega | (unfold inR; omega)) _ _ _ _) fX6_lays qX6_173 dX6_readsAdding_111 KD_110 (by decide) ⟨Nat.zero_le _, Nat.zero_le _⟩ (Nat.le_of_ble_eq_true rfl) ?_
        exact r_ret_v dX6_readsAdding_114 rfl ⟨Nat.zero_le _, Nat.zero_le _⟩ ⟨rfl, rfl, (by unfold raS; first | (rw [if_pos (by omega)]; done) | (rw [if_neg (by omega), if_pos (by omega)]; done) | (rw [if_neg (by omega), if_neg (by omega)]; done)), rfl, rfl⟩
  · refine r_aload_n dX6_readsAdding_16 rfl (by rfl) ?_
    refine r_callV0 (ct_X6_sign (by first | exact BN | exact N9 | exact C9 | exact hB | exact B1 | exact B2 | exact B3 | exact B4 | exact inR_0 | omega | (unfold inR; omega))) fX6_sign qX6_161 dX6_readsAdding_17 KD_110 (by decide) ⟨Nat.zero_le _, Nat.zero_le _⟩ (Nat.le_of_ble_eq_true rfl) ?_
    refine r_bipush dX6_readsAdding_20 (by decide) ?_
    refine r_icmp_ne (tgt := 51) dX6_readsAdding_22 (by decide) (by unfold inR; omega) (by unfold inR; omega) (fun hs1 => ?_) (fun hs1 => ?_)
    · refine r_aload_n dX6_readsAdding_51 rfl (by rfl) ?_
      refine r_bipush dX6_readsAdding_52 (by decide) ?_
      refine r_bipush dX6_readsAdding_54 (by decide) ?_
      refine r_callV2 (ct_X6_takes (by first | exact BN | exact N9 | exact C9 | exact hB | exact B1 | exact B2 | exact B3 | exact B4 | exact inR_0 | omega | (unfold inR; omega)) _ (by first | exact BN | exact N9 | exact C9 | exact hB | exact B1 | exact B2 | exact B3 | exact B4 | exact inR_0 | omega | (unfold inR; omega)) _ (by first | exact BN | exact N9 | exact C9 | exact hB | exact B1 | exact B2 | exact B3 | exact B4 | exact inR_0 | omega | (unfold inR; omega))) fX6_takes qX6_164 dX6_readsAdding_56 KD_110 (by decide) ⟨Nat.zero_le _, Nat.zero_le _⟩ (Nat.le_of_ble_eq_true rfl) ?_
      refine r_pop dX6_readsAdding_59 rfl ?_
      refine r_aload_n dX6_readsAdding_60 rfl (by rfl) ?_
      refine r_bipush dX6_readsAdding_61 (by decide) ?_
      refine r_bipush dX6_readsAdding_63 (by decide) ?_
      refine r_callV2 (ct_X6_takes (by first | exact BN | exact N9 | exact C9 | exact hB | exact B1 | exact B2 | exact B3 | exact B4 | exact inR_0 | omega | (unfold inR; omega)) _ (by first | exact BN | exact N9 | exact C9 | exact hB | exact B1 | exact B2 | exact B3 | exact B4 | exact inR_0 | omega | (unfold inR; omega)) _ (by first | exact BN | exact N9 | exact C9 | exact hB | exact B1 | exact B2 | exact B3 | exact B4 | exact inR_0 | omega | (unfold inR; omega))) fX6_takes qX6_164 dX6_readsAdding_65 KD_110 (by decide) ⟨Nat.zero_le _, Nat.zero_le _⟩ (Nat.le_of_ble_eq_true rfl) ?_
      refine r_istore_n dX6_readsAdding_68 rfl (Nat.le_of_ble_eq_true rfl) (L' := [_, _, _, _]) (by rfl) ?_
      refine r_iconst dX6_readsAdding_69 ?_
      refine r_istore_n dX6_readsAdding_70 rfl (Nat.le_of_ble_eq_true rfl) (L' := [_, _, _, _]) (by rfl) ?_
      refine r_aload_n dX6_readsAdding_71 rfl (by rfl) ?_
      refine r_get_i kX6_157 dX6_readsAdding_72 KD_110 ?_
      refine r_if_eq (tgt := 106) dX6_readsAdding_75 (by decide) (by unfold inR; omega) (fun c_3 => ?_) (fun c_3 => ?_)
      · have C11 := g1 _ F3
        have C9 := B3.2.2.1
        refine r_aload_n dX6_readsAdding_106 rfl (by rfl) ?_
        refine r_iconst dX6_readsAdding_107 ?_
        refine r_iload_n dX6_readsAdding_108 rfl (by rfl) ?_
        refine r_iload_n dX6_readsAdding_109 rfl (by rfl) ?_
        refine r_iload_n dX6_readsAdding_110 rfl (by rfl) ?_
        refine r_callV4 (ct_X6_lays (by first | exact BN | exact N9 | exact C9 | exact hB | exact B1 | exact B2 | exact B3 | exact B4 | exact inR_0 | omega | (unfold inR; omega)) (by first | exact BN | exact N9 | exact C9 | exact hB | exact B1 | exact B2 | exact B3 | exact B4 | exact inR_0 | omega | (unfold inR; omega)) (by first | exact BN | exact N9 | exact C9 | exact hB | exact B1 | exact B2 | exact B3 | exact B4 | exact inR_0 | omega | (unfold inR; omega)) _ _ _ _) fX6_lays qX6_173 dX6_readsAdding_111 KD_110 (by decide) ⟨Nat.zero_le _, Nat.zero_le _⟩ (Nat.le_of_ble_eq_true rfl) ?_
        exact r_ret_v dX6_readsAdding_114 rfl ⟨Nat.zero_le _, Nat.zero_le _⟩ ⟨rfl, rfl, (by unfold raS; first | (rw [if_pos (by omega)]; done) | (rw [if_neg (by omega), if_pos (by omega)]; done) | (rw [if_neg (by omega), if_neg (by omega)]; done)), rfl, rfl⟩
      · refine r_aload_n dX6_readsAdding_78 rfl (by rfl) ?_
        refine r_callV0 (ct_X6_sign (by first | exact BN | exact N9 | exact C9 | exact hB | exact B1 | exact B2 | exact B3 | exact B4 | exact inR_0 | omega | (unfold inR; omega))) fX6_sign qX6_161 dX6_readsAdding_79 KD_110 (by decide) ⟨Nat.zero_le _, Nat.zero_le _⟩ (Nat.le_of_ble_eq_true rfl) ?_
        refine r_bipush dX6_readsAdding_82 (by decide) ?_
        refine r_icmp_ne (tgt := 106) dX6_readsAdding_84 (by decide) (by unfold inR; omega) (by unfold inR; omega) (fun hs3 => ?_) (fun hs3 => ?_)
        · have C11 := g1 _ F3
          have C9 := B3.2.2.1
          refine r_aload_n dX6_readsAdding_106 rfl (by rfl) ?_
          refine r_iconst dX6_readsAdding_107 ?_
          refine r_iload_n dX6_readsAdding_108 rfl (by rfl) ?_
          refine r_iload_n dX6_readsAdding_109 rfl (by rfl) ?_
          refine r_iload_n dX6_readsAdding_110 rfl (by rfl) ?_
          refine r_callV4 (ct_X6_lays (by first | exact BN | exact N9 | exact C9 | exact hB | exact B1 | exact B2 | exact B3 | exact B4 | exact inR_0 | omega | (unfold inR; omega)) (by first | exact BN | exact N9 | exact C9 | exact hB | exact B1 | exact B2 | exact B3 | exact B4 | exact inR_0 | omega | (unfold inR; omega)) (by first | exact BN | exact N9 | exact C9 | exact hB | exact B1 | exact B2 | exact B3 | exact B4 | exact inR_0 | omega | (unfold inR; omega)) _ _ _ _) fX6_lays qX6_173 dX6_readsAdding_111 KD_110 (by decide) ⟨Nat.zero_le _, Nat.zero_le _⟩ (Nat.le_of_ble_eq_true rfl) ?_
          exact r_ret_v dX6_readsAdding_114 rfl ⟨Nat.zero_le _, Nat.zero_le _⟩ ⟨rfl, rfl, (by unfold raS; first | (rw [if_pos (by omega)]; done) | (rw [if_neg (by omega), if_pos (by omega)]; done) | (rw [if_neg (by omega), if_neg (by omega)]; done)), rfl, rfl⟩
        · refine r_aload_n dX6_readsAdding_87 rfl (by rfl) ?_
          refine r_dup dX6_readsAdding_88 rfl ?_
          refine r_get_i kX6_154 dX6_readsAdding_89 KD_110 ?_
          refine r_iconst dX6_readsAdding_92 ?_
          refine r_iadd dX6_readsAdding_93 ?_
          refine r_put_i kX6_154 dX6_readsAdding_94 KD_110 ?_
          have BV := BJ_ev B3 (by omega)
          have BN := BJ_tk BV (a := 97) (by omega) 104
          have N9 := BN.2.2.1
          have N11 := g1 _ (F3.tr ((FT0_8 _ _).tr (FT0_tk (ev (tkS (tkS (tkS σ 97 104) 58 58) 97 104)) 97 104)))
          refine WP.mem (σ' := ev (tkS (tkS (tkS σ 97 104) 58 58) 97 104)) rfl ?_
          refine r_aload_n dX6_readsAdding_97 rfl (by rfl) ?_
          refine r_bipush dX6_readsAdding_98 (by decide) ?_
          refine r_bipush dX6_readsAdding_100 (by decide) ?_
          refine r_callV2 (ct_X6_takes BV 97 (by unfold inR; omega) 104 (by unfold inR; omega)) fX6_takes qX6_164 dX6_readsAdding_102 KD_110 (by decide) ⟨Nat.zero_le _, Nat.zero_le _⟩ (Nat.le_of_ble_eq_true rfl) ?_
          refine r_istore_n dX6_readsAdding_105 rfl (Nat.le_of_ble_eq_true rfl) (L' := [_, _, _, _]) (by rfl) ?_
          have C11 := g1 _ F3
          have C9 := B3.2.2.1
          refine r_aload_n dX6_readsAdding_106 rfl (by rfl) ?_
          refine r_iconst dX6_readsAdding_107 ?_
          refine r_iload_n dX6_readsAdding_108 rfl (by rfl) ?_
          refine r_iload_n dX6_readsAdding_109 rfl (by rfl) ?_
          refine r_iload_n dX6_readsAdding_110 rfl (by rfl) ?_
          refine r_callV4 (ct_X6_lays (by first | exact BN | exact N9 | exact C9 | exact hB | exact B1 | exact B2 | exact B3 | exact B4 | exact inR_0 | omega | (unfold inR; omega)) (by first | exact BN | exact N9 | exact C9 | exact hB | exact B1 | exact B2 | exact B3 | exact B4 | exact inR_0 | omega | (unfold inR; omega)) (by first | exact BN | exact N9 | exact C9 | exact hB | exact B1 | exact B2 | exact B3 | exact B4 | exact inR_0 | omega | (unfold inR; omega)) _ _ _ _) fX6_lays qX6_173 dX6_readsAdding_111 KD_110 (by decide) ⟨Nat.zero_le _, Nat.zero_le _⟩ (Nat.le_of_ble_eq_true rfl) ?_
          exact r_ret_v dX6_readsAdding_114 rfl ⟨Nat.zero_le _, Nat.zero_le _⟩ ⟨rfl, rfl, (by unfold raS; first | (rw [if_pos (by omega)]; done) | (rw [if_neg (by omega), if_pos (by omega)]; done) | (rw [if_neg (by omega), if_neg (by omega)]; done)), rfl, rfl⟩
    · refine r_aload_n dX6_readsAdding_25 rfl (by rfl) ?_
      refine r_dup dX6_readsAdding_26 rfl ?_
      refine r_get_i kX6_154 dX6_readsAdding_27 KD_110 ?_
      refine r_iconst dX6_readsAdding_30 ?_
      refine r_iadd dX6_readsAdding_31 ?_
      refine r_put_i kX6_154 dX6_readsAdding_32 KD_110 ?_
      have BV := BJ_ev B1 (by omega)
      have BN := BJ_nu BV
      have N9 := BN.2.2.1
      have N11 := g1 _ (F1.tr ((FT0_8 _ _).tr (FT0_nu (ev (tkS σ 97 104)))))
      refine WP.mem (σ' := ev (tkS σ 97 104)) rfl ?_
      refine r_aload_n dX6_readsAdding_35 rfl (by rfl) ?_
      refine r_callV0 (ct_X6_number (by first | exact BN | exact N9 | exact C9 | exact hB | exact B1 | exact B2 | exact B3 | exact B4 | exact inR_0 | omega | (unfold inR; omega))) fX6_number qX6_170 dX6_readsAdding_36 KD_110 (by decide) ⟨Nat.zero_le _, Nat.zero_le _⟩ (Nat.le_of_ble_eq_true rfl) ?_
      refine r_istore_n dX6_readsAdding_39 rfl (Nat.le_of_ble_eq_true rfl) (L' := [_, _, _, _]) (by rfl) ?_
      refine r_aload_n dX6_readsAdding_40 rfl (by rfl) ?_
      refine r_iconst dX6_readsAdding_41 ?_
      refine r_iload_n dX6_readsAdding_42 rfl (by rfl) ?_
      refine r_iload_n dX6_readsAdding_43 rfl (by rfl) ?_
      refine r_iconst dX6_readsAdding_44 ?_
      refine r_callV4 (ct_X6_lays (by first | exact BN | exact N9 | exact C9 | exact hB | exact B1 | exact B2 | exact B3 | exact B4 | exact inR_0 | omega | (unfold inR; omega)) (by first | exact BN | exact N9 | exact C9 | exact hB | exact B1 | exact B2 | exact B3 | exact B4 | exact inR_0 | omega | (unfold inR; omega)) (by first | exact BN | exact N9 | exact C9 | exact hB | exact B1 | exact B2 | exact B3 | exact B4 | exact inR_0 | omega | (unfold inR; omega)) _ _ _ _) fX6_lays qX6_173 dX6_readsAdding_45 KD_110 (by decide) ⟨Nat.zero_le _, Nat.zero_le _⟩ (Nat.le_of_ble_eq_true rfl) ?_
      refine r_goto (tgt := 114) dX6_readsAdding_48 (by decide) ?_
      exact r_ret_v dX6_readsAdding_114 rfl ⟨Nat.zero_le _, Nat.zero_le _⟩ ⟨rfl, rfl, (by unfold raS; first | (rw [if_pos (by omega)]; done) | (rw [if_neg (by omega), if_pos (by omega)]; done) | (rw [if_neg (by omega), if_neg (by omega)]; done)), rfl, rfl⟩

set_option maxRecDepth 100000 in
set_option maxHeartbeats 4000000 in
theorem ct_X6_readsOrder {l : Launch} {G : GG} {π : Nat → Option Nat} {σ τ : ST} (hB : BJ σ) (m0 : 0 ≤ σ 110 11) (m1 : σ 110 11 < 64)  : Ct l G mX6_readsOrder (4, 0, 0) [.ref 110] 117 KD σ τ (RHO π) (KQ none 117 KD (roS σ) τ (RHO π)) := by
  have h9 := hB.2.2.1
  have s0 := sgM_rng hB
  obtain ⟨H, hH⟩ : ∃ H, H = hdS σ := ⟨_, rfl⟩
  have BH : BJ H := by rw [hH]; exact BJ_hd hB
  have FH : FT0 σ H := by rw [hH]; exact (FT0_9 _ _).tr (FT0_8 _ _)
  have H11 : H 110 11 = σ 110 11 := FH.2 11 (by omega) (by omega)
  have H9 : H 110 9 = hdW σ := by rw [hH]; unfold hdS; rw [up2_el _ _ _ (by omega), up2_at]
  have hw01 : hdW σ = 0 ∨ hdW σ = 1 := by unfold hdW; split <;> omega
  have BH9 := BH.2.2.1
  have B1 := BJ_tk BH (a := 97) (by omega) 104
  have B2 := BJ_tk B1 (a := 61) (by omega) 61
  have B3 := BJ_nu B2
  have B4 := BJ_tk B1 (a := 97) (by omega) 104
  have B5 := BJ_rg BH
  have g1 : ∀ μ : ST, FT0 H μ → μ 110 11 = σ 110 11 := fun μ g => (g.2 11 (by omega) (by omega)).trans H11
  have F1 := FT0_tk H 97 104
  have n3 := g1 _ ((F1.tr (FT0_tk _ 61 61)).tr (FT0_nu _))
  have n4 := g1 _ (F1.tr (FT0_tk _ 97 104))
  have n5 := g1 _ (FT0_rg H)
  refine ct_intro (own := "ShapedRowsModel") rfl (by decide +kernel) (Nat.le_of_ble_eq_true rfl) (L := _) rfl ?_
  have cut_58 : ∀ (w : Int), (w = hdW σ) → WP l G "ShapedRowsModel" mX6_readsOrder (4, 0, 0) (KQ none 117 KD (roS σ) τ (RHO π)) noX 117 58 [some (.ref 110), some (.int (iI (sgM σ))), none, none, none] [.int (iI w), .ref 110] 117 KD σ τ (RHO π) 0 0 := by
    intro w hw
    subst hw
    refine r_put_z (hw01) kX6_157 dX6_readsOrder_58 KD_110 ?_
    refine r_aload_n dX6_readsOrder_61 rfl (by rfl) ?_
    refine r_dup dX6_readsOrder_62 rfl ?_
    refine r_get_i kX6_154 dX6_readsOrder_63 KD_110 ?_
    rw [up2_el _ _ _ (by omega)]
    refine r_aload_n dX6_readsOrder_66 rfl (by rfl) ?_
    refine r_get_i kX6_157 dX6_readsOrder_67 KD_110 ?_
    rw [up2_at]
    refine r_if_eq (tgt := 77) dX6_readsOrder_70 (by decide) (by unfold inR; omega) (fun c_1 => ?_) (fun c_1 => ?_)
    · refine r_iconst dX6_readsOrder_77 ?_
      refine r_iadd dX6_readsOrder_78 ?_
      refine WP.top (b := σ 110 8 + hdW σ) (by omega) ?_
      refine r_put_i kX6_154 dX6_readsOrder_79 KD_110 ?_
      refine WP.mem (σ' := H) (by rw [hH]; rfl) ?_
      refine r_aload_n dX6_readsOrder_82 rfl (by rfl) ?_
      refine r_get_i kX6_157 dX6_readsOrder_83 KD_110 ?_
      refine r_if_ne (tgt := 90) dX6_readsOrder_86 (by decide) (by unfold inR; omega) (fun c_2 => ?_) (fun c_2 => ?_)
      · refine r_iload_n dX6_readsOrder_90 rfl (by rfl) ?_
        refine r_bipush dX6_readsOrder_91 (by decide) ?_
        refine r_icmp_ne (tgt := 103) dX6_readsOrder_93 (by decide) (by unfold inR; omega) (by unfold inR; omega) (fun c_3 => ?_) (fun c_3 => ?_)
        · refine r_iload_n dX6_readsOrder_103 rfl (by rfl) ?_
          refine r_bipush dX6_readsOrder_104 (by decide) ?_
          refine r_icmp_ne (tgt := 145) dX6_readsOrder_106 (by decide) (by unfold inR; omega) (by unfold inR; omega) (fun c_4 => ?_) (fun c_4 => ?_)
          · refine r_iload_n dX6_readsOrder_145 rfl (by rfl) ?_
            refine r_bipush dX6_readsOrder_146 (by decide) ?_
            refine r_icmp_ne (tgt := 182) dX6_readsOrder_148 (by decide) (by unfold inR; omega) (by unfold inR; omega) (fun c_5 => ?_) (fun c_5 => ?_)
            · refine r_iload_n dX6_readsOrder_182 rfl (by rfl) ?_
              refine r_bipush dX6_readsOrder_183 (by decide) ?_
              refine r_icmp_ne (tgt := 200) dX6_readsOrder_185 (by decide) (by unfold inR; omega) (by unfold inR; omega) (fun c_6 => ?_) (fun c_6 => ?_)
              · refine r_aload_n dX6_readsOrder_200 rfl (by rfl) ?_
                refine r_callV0 (ct_X6_rowsToGo (by first | exact BH | exact hB | exact B1 | exact B2 | exact B3.2.2.1 | exact B4.2.2.1 | exact B5.2.2.1 | exact BH9 | exact inR_0 | omega | (unfold inR; omega))) fX6_rowsToGo qX6_180 dX6_readsOrder_201 KD_110 (by decide) ⟨Nat.zero_le _, Nat.zero_le _⟩ (Nat.le_of_ble_eq_true rfl) ?_
                refine r_istore_n dX6_readsOrder_204 rfl (Nat.le_of_ble_eq_true rfl) (L' := [_, _, _, _, _]) (by rfl) ?_
                refine r_aload_n dX6_readsOrder_205 rfl (by rfl) ?_
                refine r_bipush dX6_readsOrder_206 (by decide) ?_
                refine r_iload_n dX6_readsOrder_208 rfl (by rfl) ?_
                refine r_iconst dX6_readsOrder_209 ?_
                refine r_iconst dX6_readsOrder_210 ?_
                refine r_callV4 (ct_X6_lays (by first | exact BH | exact hB | exact B1 | exact B2 | exact B3.2.2.1 | exact B4.2.2.1 | exact B5.2.2.1 | exact BH9 | exact inR_0 | omega | (unfold inR; omega)) (by first | exact BH | exact hB | exact B1 | exact B2 | exact B3.2.2.1 | exact B4.2.2.1 | exact B5.2.2.1 | exact BH9 | exact inR_0 | omega | (unfold inR; omega)) (by first | exact BH | exact hB | exact B1 | exact B2 | exact B3.2.2.1 | exact B4.2.2.1 | exact B5.2.2.1 | exact BH9 | exact inR_0 | omega | (unfold inR; omega)) _ _ _ _) fX6_lays qX6_173 dX6_readsOrder_211 KD_110 (by decide) ⟨Nat.zero_le _, Nat.zero_le _⟩ (Nat.le_of_ble_eq_true rfl) ?_
                exact r_ret_v dX6_readsOrder_214 rfl ⟨Nat.zero_le _, Nat.zero_le _⟩ ⟨rfl, rfl, (by unfold roS; rw [← hH]; first | (rw [if_pos (by omega)]; done) | (rw [if_neg (by omega), if_pos (by omega)]; done) | (rw [if_neg (by omega), if_neg (by omega), if_pos (by omega)]; done) | (rw [if_neg (by omega), if_neg (by omega), if_neg (by omega), if_pos (by omega)]; done) | (rw [if_neg (by omega), if_neg (by omega), if_neg (by omega), if_neg (by omega), if_pos (by omega)]; done) | (rw [if_neg (by omega), if_neg (by omega), if_neg (by omega), if_neg (by omega), if_neg (by omega)]; done)), rfl, rfl⟩
              · refine r_aload_n dX6_readsOrder_188 rfl (by rfl) ?_
                refine r_bipush dX6_readsOrder_189 (by decide) ?_
                refine r_iconst dX6_readsOrder_191 ?_
                refine r_iconst dX6_readsOrder_192 ?_
                refine r_iconst dX6_readsOrder_193 ?_
                refine r_callV4 (ct_X6_lays (by first | exact BH | exact hB | exact B1 | exact B2 | exact B3.2.2.1 | exact B4.2.2.1 | exact B5.2.2.1 | exact BH9 | exact inR_0 | omega | (unfold inR; omega)) (by first | exact BH | exact hB | exact B1 | exact B2 | exact B3.2.2.1 | exact B4.2.2.1 | exact B5.2.2.1 | exact BH9 | exact inR_0 | omega | (unfold inR; omega)) (by first | exact BH | exact hB | exact B1 | exact B2 | exact B3.2.2.1 | exact B4.2.2.1 | exact B5.2.2.1 | exact BH9 | exact inR_0 | omega | (unfold inR; omega)) _ _ _ _) fX6_lays qX6_173 dX6_readsOrder_194 KD_110 (by decide) ⟨Nat.zero_le _, Nat.zero_le _⟩ (Nat.le_of_ble_eq_true rfl) ?_
                refine r_goto (tgt := 214) dX6_readsOrder_197 (by decide) ?_
                exact r_ret_v dX6_readsOrder_214 rfl ⟨Nat.zero_le _, Nat.zero_le _⟩ ⟨rfl, rfl, (by unfold roS; rw [← hH]; first | (rw [if_pos (by omega)]; done) | (rw [if_neg (by omega), if_pos (by omega)]; done) | (rw [if_neg (by omega), if_neg (by omega), if_pos (by omega)]; done) | (rw [if_neg (by omega), if_neg (by omega), if_neg (by omega), if_pos (by omega)]; done) | (rw [if_neg (by omega), if_neg (by omega), if_neg (by omega), if_neg (by omega), if_pos (by omega)]; done) | (rw [if_neg (by omega), if_neg (by omega), if_neg (by omega), if_neg (by omega), if_neg (by omega)]; done)), rfl, rfl⟩
            · refine r_aload_n dX6_readsOrder_151 rfl (by rfl) ?_
              refine r_bipush dX6_readsOrder_152 (by decide) ?_
              refine r_bipush dX6_readsOrder_154 (by decide) ?_
              refine r_callV2 (ct_X6_takes (by first | exact BH | exact hB | exact B1 | exact B2 | exact B3.2.2.1 | exact B4.2.2.1 | exact B5.2.2.1 | exact BH9 | exact inR_0 | omega | (unfold inR; omega)) _ (by first | exact BH | exact hB | exact B1 | exact B2 | exact B3.2.2.1 | exact B4.2.2.1 | exact B5.2.2.1 | exact BH9 | exact inR_0 | omega | (unfold inR; omega)) _ (by first | exact BH | exact hB | exact B1 | exact B2 | exact B3.2.2.1 | exact B4.2.2.1 | exact B5.2.2.1 | exact BH9 | exact inR_0 | omega | (unfold inR; omega))) fX6_takes qX6_164 dX6_readsOrder_156 KD_110 (by decide) ⟨Nat.zero_le _, Nat.zero_le _⟩ (Nat.le_of_ble_eq_true rfl) ?_
              refine r_istore_n dX6_readsOrder_159 rfl (Nat.le_of_ble_eq_true rfl) (L' := [_, _, _, _, _]) (by rfl) ?_
              refine r_aload_n dX6_readsOrder_160 rfl (by rfl) ?_
              refine r_bipush dX6_readsOrder_161 (by decide) ?_
              refine r_bipush dX6_readsOrder_163 (by decide) ?_
              refine r_callV2 (ct_X6_takes (by first | exact BH | exact hB | exact B1 | exact B2 | exact B3.2.2.1 | exact B4.2.2.1 | exact B5.2.2.1 | exact BH9 | exact inR_0 | omega | (unfold inR; omega)) _ (by first | exact BH | exact hB | exact B1 | exact B2 | exact B3.2.2.1 | exact B4.2.2.1 | exact B5.2.2.1 | exact BH9 | exact inR_0 | omega | (unfold inR; omega)) _ (by first | exact BH | exact hB | exact B1 | exact B2 | exact B3.2.2.1 | exact B4.2.2.1 | exact B5.2.2.1 | exact BH9 | exact inR_0 | omega | (unfold inR; omega))) fX6_takes qX6_164 dX6_readsOrder_165 KD_110 (by decide) ⟨Nat.zero_le _, Nat.zero_le _⟩ (Nat.le_of_ble_eq_true rfl) ?_
              refine r_istore dX6_readsOrder_168 (Nat.le_of_ble_eq_true rfl) (L' := [_, _, _, _, _]) (by rfl) ?_
              refine r_aload_n dX6_readsOrder_170 rfl (by rfl) ?_
              refine r_iconst dX6_readsOrder_171 ?_
              refine r_iload_n dX6_readsOrder_172 rfl (by rfl) ?_
              refine r_iload dX6_readsOrder_173 (by rfl) ?_
              refine r_iconst dX6_readsOrder_175 ?_
              refine r_callV4 (ct_X6_lays (by first | exact BH | exact hB | exact B1 | exact B2 | exact B3.2.2.1 | exact B4.2.2.1 | exact B5.2.2.1 | exact BH9 | exact inR_0 | omega | (unfold inR; omega)) (by first | exact BH | exact hB | exact B1 | exact B2 | exact B3.2.2.1 | exact B4.2.2.1 | exact B5.2.2.1 | exact BH9 | exact inR_0 | omega | (unfold inR; omega)) (by first | exact BH | exact hB | exact B1 | exact B2 | exact B3.2.2.1 | exact B4.2.2.1 | exact B5.2.2.1 | exact BH9 | exact inR_0 | omega | (unfold inR; omega)) _ _ _ _) fX6_lays qX6_173 dX6_readsOrder_176 KD_110 (by decide) ⟨Nat.zero_le _, Nat.zero_le _⟩ (Nat.le_of_ble_eq_true rfl) ?_
              refine r_goto (tgt := 214) dX6_readsOrder_179 (by decide) ?_
              exact r_ret_v dX6_readsOrder_214 rfl ⟨Nat.zero_le _, Nat.zero_le _⟩ ⟨rfl, rfl, (by unfold roS; rw [← hH]; first | (rw [if_pos (by omega)]; done) | (rw [if_neg (by omega), if_pos (by omega)]; done) | (rw [if_neg (by omega), if_neg (by omega), if_pos (by omega)]; done) | (rw [if_neg (by omega), if_neg (by omega), if_neg (by omega), if_pos (by omega)]; done) | (rw [if_neg (by omega), if_neg (by omega), if_neg (by omega), if_neg (by omega), if_pos (by omega)]; done) | (rw [if_neg (by omega), if_neg (by omega), if_neg (by omega), if_neg (by omega), if_neg (by omega)]; done)), rfl, rfl⟩
          · refine r_aload_n dX6_readsOrder_109 rfl (by rfl) ?_
            refine r_bipush dX6_readsOrder_110 (by decide) ?_
            refine r_bipush dX6_readsOrder_112 (by decide) ?_
            refine r_callV2 (ct_X6_takes (by first | exact BH | exact hB | exact B1 | exact B2 | exact B3.2.2.1 | exact B4.2.2.1 | exact B5.2.2.1 | exact BH9 | exact inR_0 | omega | (unfold inR; omega)) _ (by first | exact BH | exact hB | exact B1 | exact B2 | exact B3.2.2.1 | exact B4.2.2.1 | exact B5.2.2.1 | exact BH9 | exact inR_0 | omega | (unfold inR; omega)) _ (by first | exact BH | exact hB | exact B1 | exact B2 | exact B3.2.2.1 | exact B4.2.2.1 | exact B5.2.2.1 | exact BH9 | exact inR_0 | omega | (unfold inR; omega))) fX6_takes qX6_164 dX6_readsOrder_114 KD_110 (by decide) ⟨Nat.zero_le _, Nat.zero_le _⟩ (Nat.le_of_ble_eq_true rfl) ?_
            refine r_istore_n dX6_readsOrder_117 rfl (Nat.le_of_ble_eq_true rfl) (L' := [_, _, _, _, _]) (by rfl) ?_
            refine r_aload_n dX6_readsOrder_118 rfl (by rfl) ?_
            refine r_bipush dX6_readsOrder_119 (by decide) ?_
            refine r_bipush dX6_readsOrder_121 (by decide) ?_
            refine r_callV2 (ct_X6_takes (by first | exact BH | exact hB | exact B1 | exact B2 | exact B3.2.2.1 | exact B4.2.2.1 | exact B5.2.2.1 | exact BH9 | exact inR_0 | omega | (unfold inR; omega)) _ (by first | exact BH | exact hB | exact B1 | exact B2 | exact B3.2.2.1 | exact B4.2.2.1 | exact B5.2.2.1 | exact BH9 | exact inR_0 | omega | (unfold inR; omega)) _ (by first | exact BH | exact hB | exact B1 | exact B2 | exact B3.2.2.1 | exact B4.2.2.1 | exact B5.2.2.1 | exact BH9 | exact inR_0 | omega | (unfold inR; omega))) fX6_takes qX6_164 dX6_readsOrder_123 KD_110 (by decide) ⟨Nat.zero_le _, Nat.zero_le _⟩ (Nat.le_of_ble_eq_true rfl) ?_
            refine r_pop dX6_readsOrder_126 rfl ?_
            refine r_aload_n dX6_readsOrder_127 rfl (by rfl) ?_
            refine r_callV0 (ct_X6_number (by first | exact BH | exact hB | exact B1 | exact B2 | exact B3.2.2.1 | exact B4.2.2.1 | exact B5.2.2.1 | exact BH9 | exact inR_0 | omega | (unfold inR; omega))) fX6_number qX6_170 dX6_readsOrder_128 KD_110 (by decide) ⟨Nat.zero_le _, Nat.zero_le _⟩ (Nat.le_of_ble_eq_true rfl) ?_
            refine r_istore dX6_readsOrder_131 (Nat.le_of_ble_eq_true rfl) (L' := [_, _, _, _, _]) (by rfl) ?_
            refine r_aload_n dX6_readsOrder_133 rfl (by rfl) ?_
            refine r_iconst dX6_readsOrder_134 ?_
            refine r_iload_n dX6_readsOrder_135 rfl (by rfl) ?_
            refine r_iload dX6_readsOrder_136 (by rfl) ?_
            refine r_iconst dX6_readsOrder_138 ?_
            refine r_callV4 (ct_X6_lays (by first | exact BH | exact hB | exact B1 | exact B2 | exact B3.2.2.1 | exact B4.2.2.1 | exact B5.2.2.1 | exact BH9 | exact inR_0 | omega | (unfold inR; omega)) (by first | exact BH | exact hB | exact B1 | exact B2 | exact B3.2.2.1 | exact B4.2.2.1 | exact B5.2.2.1 | exact BH9 | exact inR_0 | omega | (unfold inR; omega)) (by first | exact BH | exact hB | exact B1 | exact B2 | exact B3.2.2.1 | exact B4.2.2.1 | exact B5.2.2.1 | exact BH9 | exact inR_0 | omega | (unfold inR; omega)) _ _ _ _) fX6_lays qX6_173 dX6_readsOrder_139 KD_110 (by decide) ⟨Nat.zero_le _, Nat.zero_le _⟩ (Nat.le_of_ble_eq_true rfl) ?_
            refine r_goto (tgt := 214) dX6_readsOrder_142 (by decide) ?_
            exact r_ret_v dX6_readsOrder_214 rfl ⟨Nat.zero_le _, Nat.zero_le _⟩ ⟨rfl, rfl, (by unfold roS; rw [← hH]; first | (rw [if_pos (by omega)]; done) | (rw [if_neg (by omega), if_pos (by omega)]; done) | (rw [if_neg (by omega), if_neg (by omega), if_pos (by omega)]; done) | (rw [if_neg (by omega), if_neg (by omega), if_neg (by omega), if_pos (by omega)]; done) | (rw [if_neg (by omega), if_neg (by omega), if_neg (by omega), if_neg (by omega), if_pos (by omega)]; done) | (rw [if_neg (by omega), if_neg (by omega), if_neg (by omega), if_neg (by omega), if_neg (by omega)]; done)), rfl, rfl⟩
        · refine r_aload_n dX6_readsOrder_96 rfl (by rfl) ?_
          refine r_callV0 (ct_X6_readsAdding (by first | exact BH | exact hB | exact B1 | exact B2 | exact B3.2.2.1 | exact B4.2.2.1 | exact B5.2.2.1 | exact BH9 | exact inR_0 | omega | (unfold inR; omega)) (by first | exact BH | exact hB | exact B1 | exact B2 | exact B3.2.2.1 | exact B4.2.2.1 | exact B5.2.2.1 | exact BH9 | exact inR_0 | omega | (unfold inR; omega)) (by first | exact BH | exact hB | exact B1 | exact B2 | exact B3.2.2.1 | exact B4.2.2.1 | exact B5.2.2.1 | exact BH9 | exact inR_0 | omega | (unfold inR; omega))) fX6_readsAdding qX6_177 dX6_readsOrder_97 KD_110 (by decide) ⟨Nat.zero_le _, Nat.zero_le _⟩ (Nat.le_of_ble_eq_true rfl) ?_
          refine r_goto (tgt := 214) dX6_readsOrder_100 (by decide) ?_
          exact r_ret_v dX6_readsOrder_214 rfl ⟨Nat.zero_le _, Nat.zero_le _⟩ ⟨rfl, rfl, (by unfold roS; rw [← hH]; first | (rw [if_pos (by omega)]; done) | (rw [if_neg (by omega), if_pos (by omega)]; done) | (rw [if_neg (by omega), if_neg (by omega), if_pos (by omega)]; done) | (rw [if_neg (by omega), if_neg (by omega), if_neg (by omega), if_pos (by omega)]; done) | (rw [if_neg (by omega), if_neg (by omega), if_neg (by omega), if_neg (by omega), if_pos (by omega)]; done) | (rw [if_neg (by omega), if_neg (by omega), if_neg (by omega), if_neg (by omega), if_neg (by omega)]; done)), rfl, rfl⟩
      · exact r_ret_v dX6_readsOrder_89 rfl ⟨Nat.zero_le _, Nat.zero_le _⟩ ⟨rfl, rfl, (by unfold roS; rw [← hH]; first | (rw [if_pos (by omega)]; done) | (rw [if_neg (by omega), if_pos (by omega)]; done) | (rw [if_neg (by omega), if_neg (by omega), if_pos (by omega)]; done) | (rw [if_neg (by omega), if_neg (by omega), if_neg (by omega), if_pos (by omega)]; done) | (rw [if_neg (by omega), if_neg (by omega), if_neg (by omega), if_neg (by omega), if_pos (by omega)]; done) | (rw [if_neg (by omega), if_neg (by omega), if_neg (by omega), if_neg (by omega), if_neg (by omega)]; done)), rfl, rfl⟩
    · refine r_iconst dX6_readsOrder_73 ?_
      refine r_goto (tgt := 78) dX6_readsOrder_74 (by decide) ?_
      refine r_iadd dX6_readsOrder_78 ?_
      refine WP.top (b := σ 110 8 + hdW σ) (by omega) ?_
      refine r_put_i kX6_154 dX6_readsOrder_79 KD_110 ?_
      refine WP.mem (σ' := H) (by rw [hH]; rfl) ?_
      refine r_aload_n dX6_readsOrder_82 rfl (by rfl) ?_
      refine r_get_i kX6_157 dX6_readsOrder_83 KD_110 ?_
      refine r_if_ne (tgt := 90) dX6_readsOrder_86 (by decide) (by unfold inR; omega) (fun c_7 => ?_) (fun c_7 => ?_)
      · refine r_iload_n dX6_readsOrder_90 rfl (by rfl) ?_
        refine r_bipush dX6_readsOrder_91 (by decide) ?_
        refine r_icmp_ne (tgt := 103) dX6_readsOrder_93 (by decide) (by unfold inR; omega) (by unfold inR; omega) (fun c_8 => ?_) (fun c_8 => ?_)
        · refine r_iload_n dX6_readsOrder_103 rfl (by rfl) ?_
          refine r_bipush dX6_readsOrder_104 (by decide) ?_
          refine r_icmp_ne (tgt := 145) dX6_readsOrder_106 (by decide) (by unfold inR; omega) (by unfold inR; omega) (fun c_9 => ?_) (fun c_9 => ?_)
          · refine r_iload_n dX6_readsOrder_145 rfl (by rfl) ?_
            refine r_bipush dX6_readsOrder_146 (by decide) ?_
            refine r_icmp_ne (tgt := 182) dX6_readsOrder_148 (by decide) (by unfold inR; omega) (by unfold inR; omega) (fun c_10 => ?_) (fun c_10 => ?_)
            · refine r_iload_n dX6_readsOrder_182 rfl (by rfl) ?_
              refine r_bipush dX6_readsOrder_183 (by decide) ?_
              refine r_icmp_ne (tgt := 200) dX6_readsOrder_185 (by decide) (by unfold inR; omega) (by unfold inR; omega) (fun c_11 => ?_) (fun c_11 => ?_)
              · refine r_aload_n dX6_readsOrder_200 rfl (by rfl) ?_
                refine r_callV0 (ct_X6_rowsToGo (by first | exact BH | exact hB | exact B1 | exact B2 | exact B3.2.2.1 | exact B4.2.2.1 | exact B5.2.2.1 | exact BH9 | exact inR_0 | omega | (unfold inR; omega))) fX6_rowsToGo qX6_180 dX6_readsOrder_201 KD_110 (by decide) ⟨Nat.zero_le _, Nat.zero_le _⟩ (Nat.le_of_ble_eq_true rfl) ?_
                refine r_istore_n dX6_readsOrder_204 rfl (Nat.le_of_ble_eq_true rfl) (L' := [_, _, _, _, _]) (by rfl) ?_
                refine r_aload_n dX6_readsOrder_205 rfl (by rfl) ?_
                refine r_bipush dX6_readsOrder_206 (by decide) ?_
                refine r_iload_n dX6_readsOrder_208 rfl (by rfl) ?_
                refine r_iconst dX6_readsOrder_209 ?_
                refine r_iconst dX6_readsOrder_210 ?_
                refine r_callV4 (ct_X6_lays (by first | exact BH | exact hB | exact B1 | exact B2 | exact B3.2.2.1 | exact B4.2.2.1 | exact B5.2.2.1 | exact BH9 | exact inR_0 | omega | (unfold inR; omega)) (by first | exact BH | exact hB | exact B1 | exact B2 | exact B3.2.2.1 | exact B4.2.2.1 | exact B5.2.2.1 | exact BH9 | exact inR_0 | omega | (unfold inR; omega)) (by first | exact BH | exact hB | exact B1 | exact B2 | exact B3.2.2.1 | exact B4.2.2.1 | exact B5.2.2.1 | exact BH9 | exact inR_0 | omega | (unfold inR; omega)) _ _ _ _) fX6_lays qX6_173 dX6_readsOrder_211 KD_110 (by decide) ⟨Nat.zero_le _, Nat.zero_le _⟩ (Nat.le_of_ble_eq_true rfl) ?_
                exact r_ret_v dX6_readsOrder_214 rfl ⟨Nat.zero_le _, Nat.zero_le _⟩ ⟨rfl, rfl, (by unfold roS; rw [← hH]; first | (rw [if_pos (by omega)]; done) | (rw [if_neg (by omega), if_pos (by omega)]; done) | (rw [if_neg (by omega), if_neg (by omega), if_pos (by omega)]; done) | (rw [if_neg (by omega), if_neg (by omega), if_neg (by omega), if_pos (by omega)]; done) | (rw [if_neg (by omega), if_neg (by omega), if_neg (by omega), if_neg (by omega), if_pos (by omega)]; done) | (rw [if_neg (by omega), if_neg (by omega), if_neg (by omega), if_neg (by omega), if_neg (by omega)]; done)), rfl, rfl⟩
              · refine r_aload_n dX6_readsOrder_188 rfl (by rfl) ?_
                refine r_bipush dX6_readsOrder_189 (by decide) ?_
                refine r_iconst dX6_readsOrder_191 ?_
                refine r_iconst dX6_readsOrder_192 ?_
                refine r_iconst dX6_readsOrder_193 ?_
                refine r_callV4 (ct_X6_lays (by first | exact BH | exact hB | exact B1 | exact B2 | exact B3.2.2.1 | exact B4.2.2.1 | exact B5.2.2.1 | exact BH9 | exact inR_0 | omega | (unfold inR; omega)) (by first | exact BH | exact hB | exact B1 | exact B2 | exact B3.2.2.1 | exact B4.2.2.1 | exact B5.2.2.1 | exact BH9 | exact inR_0 | omega | (unfold inR; omega)) (by first | exact BH | exact hB | exact B1 | exact B2 | exact B3.2.2.1 | exact B4.2.2.1 | exact B5.2.2.1 | exact BH9 | exact inR_0 | omega | (unfold inR; omega)) _ _ _ _) fX6_lays qX6_173 dX6_readsOrder_194 KD_110 (by decide) ⟨Nat.zero_le _, Nat.zero_le _⟩ (Nat.le_of_ble_eq_true rfl) ?_
                refine r_goto (tgt := 214) dX6_readsOrder_197 (by decide) ?_
                exact r_ret_v dX6_readsOrder_214 rfl ⟨Nat.zero_le _, Nat.zero_le _⟩ ⟨rfl, rfl, (by unfold roS; rw [← hH]; first | (rw [if_pos (by omega)]; done) | (rw [if_neg (by omega), if_pos (by omega)]; done) | (rw [if_neg (by omega), if_neg (by omega), if_pos (by omega)]; done) | (rw [if_neg (by omega), if_neg (by omega), if_neg (by omega), if_pos (by omega)]; done) | (rw [if_neg (by omega), if_neg (by omega), if_neg (by omega), if_neg (by omega), if_pos (by omega)]; done) | (rw [if_neg (by omega), if_neg (by omega), if_neg (by omega), if_neg (by omega), if_neg (by omega)]; done)), rfl, rfl⟩
            · refine r_aload_n dX6_readsOrder_151 rfl (by rfl) ?_
              refine r_bipush dX6_readsOrder_152 (by decide) ?_
              refine r_bipush dX6_readsOrder_154 (by decide) ?_
              refine r_callV2 (ct_X6_takes (by first | exact BH | exact hB | exact B1 | exact B2 | exact B3.2.2.1 | exact B4.2.2.1 | exact B5.2.2.1 | exact BH9 | exact inR_0 | omega | (unfold inR; omega)) _ (by first | exact BH | exact hB | exact B1 | exact B2 | exact B3.2.2.1 | exact B4.2.2.1 | exact B5.2.2.1 | exact BH9 | exact inR_0 | omega | (unfold inR; omega)) _ (by first | exact BH | exact hB | exact B1 | exact B2 | exact B3.2.2.1 | exact B4.2.2.1 | exact B5.2.2.1 | exact BH9 | exact inR_0 | omega | (unfold inR; omega))) fX6_takes qX6_164 dX6_readsOrder_156 KD_110 (by decide) ⟨Nat.zero_le _, Nat.zero_le _⟩ (Nat.le_of_ble_eq_true rfl) ?_
              refine r_istore_n dX6_readsOrder_159 rfl (Nat.le_of_ble_eq_true rfl) (L' := [_, _, _, _, _]) (by rfl) ?_
              refine r_aload_n dX6_readsOrder_160 rfl (by rfl) ?_
              refine r_bipush dX6_readsOrder_161 (by decide) ?_
              refine r_bipush dX6_readsOrder_163 (by decide) ?_
              refine r_callV2 (ct_X6_takes (by first | exact BH | exact hB | exact B1 | exact B2 | exact B3.2.2.1 | exact B4.2.2.1 | exact B5.2.2.1 | exact BH9 | exact inR_0 | omega | (unfold inR; omega)) _ (by first | exact BH | exact hB | exact B1 | exact B2 | exact B3.2.2.1 | exact B4.2.2.1 | exact B5.2.2.1 | exact BH9 | exact inR_0 | omega | (unfold inR; omega)) _ (by first | exact BH | exact hB | exact B1 | exact B2 | exact B3.2.2.1 | exact B4.2.2.1 | exact B5.2.2.1 | exact BH9 | exact inR_0 | omega | (unfold inR; omega))) fX6_takes qX6_164 dX6_readsOrder_165 KD_110 (by decide) ⟨Nat.zero_le _, Nat.zero_le _⟩ (Nat.le_of_ble_eq_true rfl) ?_
              refine r_istore dX6_readsOrder_168 (Nat.le_of_ble_eq_true rfl) (L' := [_, _, _, _, _]) (by rfl) ?_
              refine r_aload_n dX6_readsOrder_170 rfl (by rfl) ?_
              refine r_iconst dX6_readsOrder_171 ?_
              refine r_iload_n dX6_readsOrder_172 rfl (by rfl) ?_
              refine r_iload dX6_readsOrder_173 (by rfl) ?_
              refine r_iconst dX6_readsOrder_175 ?_
              refine r_callV4 (ct_X6_lays (by first | exact BH | exact hB | exact B1 | exact B2 | exact B3.2.2.1 | exact B4.2.2.1 | exact B5.2.2.1 | exact BH9 | exact inR_0 | omega | (unfold inR; omega)) (by first | exact BH | exact hB | exact B1 | exact B2 | exact B3.2.2.1 | exact B4.2.2.1 | exact B5.2.2.1 | exact BH9 | exact inR_0 | omega | (unfold inR; omega)) (by first | exact BH | exact hB | exact B1 | exact B2 | exact B3.2.2.1 | exact B4.2.2.1 | exact B5.2.2.1 | exact BH9 | exact inR_0 | omega | (unfold inR; omega)) _ _ _ _) fX6_lays qX6_173 dX6_readsOrder_176 KD_110 (by decide) ⟨Nat.zero_le _, Nat.zero_le _⟩ (Nat.le_of_ble_eq_true rfl) ?_
              refine r_goto (tgt := 214) dX6_readsOrder_179 (by decide) ?_
              exact r_ret_v dX6_readsOrder_214 rfl ⟨Nat.zero_le _, Nat.zero_le _⟩ ⟨rfl, rfl, (by unfold roS; rw [← hH]; first | (rw [if_pos (by omega)]; done) | (rw [if_neg (by omega), if_pos (by omega)]; done) | (rw [if_neg (by omega), if_neg (by omega), if_pos (by omega)]; done) | (rw [if_neg (by omega), if_neg (by omega), if_neg (by omega), if_pos (by omega)]; done) | (rw [if_neg (by omega), if_neg (by omega), if_neg (by omega), if_neg (by omega), if_pos (by omega)]; done) | (rw [if_neg (by omega), if_neg (by omega), if_neg (by omega), if_neg (by omega), if_neg (by omega)]; done)), rfl, rfl⟩
          · refine r_aload_n dX6_readsOrder_109 rfl (by rfl) ?_
            refine r_bipush dX6_readsOrder_110 (by decide) ?_
            refine r_bipush dX6_readsOrder_112 (by decide) ?_
            refine r_callV2 (ct_X6_takes (by first | exact BH | exact hB | exact B1 | exact B2 | exact B3.2.2.1 | exact B4.2.2.1 | exact B5.2.2.1 | exact BH9 | exact inR_0 | omega | (unfold inR; omega)) _ (by first | exact BH | exact hB | exact B1 | exact B2 | exact B3.2.2.1 | exact B4.2.2.1 | exact B5.2.2.1 | exact BH9 | exact inR_0 | omega | (unfold inR; omega)) _ (by first | exact BH | exact hB | exact B1 | exact B2 | exact B3.2.2.1 | exact B4.2.2.1 | exact B5.2.2.1 | exact BH9 | exact inR_0 | omega | (unfold inR; omega))) fX6_takes qX6_164 dX6_readsOrder_114 KD_110 (by decide) ⟨Nat.zero_le _, Nat.zero_le _⟩ (Nat.le_of_ble_eq_true rfl) ?_
            refine r_istore_n dX6_readsOrder_117 rfl (Nat.le_of_ble_eq_true rfl) (L' := [_, _, _, _, _]) (by rfl) ?_
            refine r_aload_n dX6_readsOrder_118 rfl (by rfl) ?_
            refine r_bipush dX6_readsOrder_119 (by decide) ?_
            refine r_bipush dX6_readsOrder_121 (by decide) ?_
            refine r_callV2 (ct_X6_takes (by first | exact BH | exact hB | exact B1 | exact B2 | exact B3.2.2.1 | exact B4.2.2.1 | exact B5.2.2.1 | exact BH9 | exact inR_0 | omega | (unfold inR; omega)) _ (by first | exact BH | exact hB | exact B1 | exact B2 | exact B3.2.2.1 | exact B4.2.2.1 | exact B5.2.2.1 | exact BH9 | exact inR_0 | omega | (unfold inR; omega)) _ (by first | exact BH | exact hB | exact B1 | exact B2 | exact B3.2.2.1 | exact B4.2.2.1 | exact B5.2.2.1 | exact BH9 | exact inR_0 | omega | (unfold inR; omega))) fX6_takes qX6_164 dX6_readsOrder_123 KD_110 (by decide) ⟨Nat.zero_le _, Nat.zero_le _⟩ (Nat.le_of_ble_eq_true rfl) ?_
            refine r_pop dX6_readsOrder_126 rfl ?_
            refine r_aload_n dX6_readsOrder_127 rfl (by rfl) ?_
            refine r_callV0 (ct_X6_number (by first | exact BH | exact hB | exact B1 | exact B2 | exact B3.2.2.1 | exact B4.2.2.1 | exact B5.2.2.1 | exact BH9 | exact inR_0 | omega | (unfold inR; omega))) fX6_number qX6_170 dX6_readsOrder_128 KD_110 (by decide) ⟨Nat.zero_le _, Nat.zero_le _⟩ (Nat.le_of_ble_eq_true rfl) ?_
            refine r_istore dX6_readsOrder_131 (Nat.le_of_ble_eq_true rfl) (L' := [_, _, _, _, _]) (by rfl) ?_
            refine r_aload_n dX6_readsOrder_133 rfl (by rfl) ?_
            refine r_iconst dX6_readsOrder_134 ?_
            refine r_iload_n dX6_readsOrder_135 rfl (by rfl) ?_
            refine r_iload dX6_readsOrder_136 (by rfl) ?_
            refine r_iconst dX6_readsOrder_138 ?_
            refine r_callV4 (ct_X6_lays (by first | exact BH | exact hB | exact B1 | exact B2 | exact B3.2.2.1 | exact B4.2.2.1 | exact B5.2.2.1 | exact BH9 | exact inR_0 | omega | (unfold inR; omega)) (by first | exact BH | exact hB | exact B1 | exact B2 | exact B3.2.2.1 | exact B4.2.2.1 | exact B5.2.2.1 | exact BH9 | exact inR_0 | omega | (unfold inR; omega)) (by first | exact BH | exact hB | exact B1 | exact B2 | exact B3.2.2.1 | exact B4.2.2.1 | exact B5.2.2.1 | exact BH9 | exact inR_0 | omega | (unfold inR; omega)) _ _ _ _) fX6_lays qX6_173 dX6_readsOrder_139 KD_110 (by decide) ⟨Nat.zero_le _, Nat.zero_le _⟩ (Nat.le_of_ble_eq_true rfl) ?_
            refine r_goto (tgt := 214) dX6_readsOrder_142 (by decide) ?_
            exact r_ret_v dX6_readsOrder_214 rfl ⟨Nat.zero_le _, Nat.zero_le _⟩ ⟨rfl, rfl, (by unfold roS; rw [← hH]; first | (rw [if_pos (by omega)]; done) | (rw [if_neg (by omega), if_pos (by omega)]; done) | (rw [if_neg (by omega), if_neg (by omega), if_pos (by omega)]; done) | (rw [if_neg (by omega), if_neg (by omega), if_neg (by omega), if_pos (by omega)]; done) | (rw [if_neg (by omega), if_neg (by omega), if_neg (by omega), if_neg (by omega), if_pos (by omega)]; done) | (rw [if_neg (by omega), if_neg (by omega), if_neg (by omega), if_neg (by omega), if_neg (by omega)]; done)), rfl, rfl⟩
        · refine r_aload_n dX6_readsOrder_96 rfl (by rfl) ?_
          refine r_callV0 (ct_X6_readsAdding (by first | exact BH | exact hB | exact B1 | exact B2 | exact B3.2.2.1 | exact B4.2.2.1 | exact B5.2.2.1 | exact BH9 | exact inR_0 | omega | (unfold inR; omega)) (by first | exact BH | exact hB | exact B1 | exact B2 | exact B3.2.2.1 | exact B4.2.2.1 | exact B5.2.2.1 | exact BH9 | exact inR_0 | omega | (unfold inR; omega)) (by first | exact BH | exact hB | exact B1 | exact B2 | exact B3.2.2.1 | exact B4.2.2.1 | exact B5.2.2.1 | exact BH9 | exact inR_0 | omega | (unfold inR; omega))) fX6_readsAdding qX6_177 dX6_readsOrder_97 KD_110 (by decide) ⟨Nat.zero_le _, Nat.zero_le _⟩ (Nat.le_of_ble_eq_true rfl) ?_
          refine r_goto (tgt := 214) dX6_readsOrder_100 (by decide) ?_
          exact r_ret_v dX6_readsOrder_214 rfl ⟨Nat.zero_le _, Nat.zero_le _⟩ ⟨rfl, rfl, (by unfold roS; rw [← hH]; first | (rw [if_pos (by omega)]; done) | (rw [if_neg (by omega), if_pos (by omega)]; done) | (rw [if_neg (by omega), if_neg (by omega), if_pos (by omega)]; done) | (rw [if_neg (by omega), if_neg (by omega), if_neg (by omega), if_pos (by omega)]; done) | (rw [if_neg (by omega), if_neg (by omega), if_neg (by omega), if_neg (by omega), if_pos (by omega)]; done) | (rw [if_neg (by omega), if_neg (by omega), if_neg (by omega), if_neg (by omega), if_neg (by omega)]; done)), rfl, rfl⟩
      · exact r_ret_v dX6_readsOrder_89 rfl ⟨Nat.zero_le _, Nat.zero_le _⟩ ⟨rfl, rfl, (by unfold roS; rw [← hH]; first | (rw [if_pos (by omega)]; done) | (rw [if_neg (by omega), if_pos (by omega)]; done) | (rw [if_neg (by omega), if_neg (by omega), if_pos (by omega)]; done) | (rw [if_neg (by omega), if_neg (by omega), if_neg (by omega), if_pos (by omega)]; done) | (rw [if_neg (by omega), if_neg (by omega), if_neg (by omega), if_neg (by omega), if_pos (by omega)]; done) | (rw [if_neg (by omega), if_neg (by omega), if_neg (by omega), if_neg (by omega), if_neg (by omega)]; done)), rfl, rfl⟩
  have cut_40 : ∀ (b : Int), (b = (if sgM σ = 43 ∨ sgM σ = 45 ∨ sgM σ = 62 ∨ sgM σ = 110 ∨ sgM σ = 42 then 1 else 0)) → WP l G "ShapedRowsModel" mX6_readsOrder (4, 0, 0) (KQ none 117 KD (roS σ) τ (RHO π)) noX 117 40 [some (.ref 110), some (.int (iI (sgM σ))), none, none, none] [.int (iI b)] 117 KD σ τ (RHO π) 0 0 := by
    intro b hb
    have hbi : (b = 1 ∧ (sgM σ = 43 ∨ sgM σ = 45 ∨ sgM σ = 62 ∨ sgM σ = 110 ∨ sgM σ = 42)) ∨ (b = 0 ∧ ¬ (sgM σ = 43 ∨ sgM σ = 45 ∨ sgM σ = 62 ∨ sgM σ = 110 ∨ sgM σ = 42)) := by
      by_cases y : sgM σ = 43 ∨ sgM σ = 45 ∨ sgM σ = 62 ∨ sgM σ = 110 ∨ sgM σ = 42
      · rw [if_pos y] at hb; exact Or.inl ⟨hb, y⟩
      · rw [if_neg y] at hb; exact Or.inr ⟨hb, y⟩
    refine r_istore_n dX6_readsOrder_40 rfl (Nat.le_of_ble_eq_true rfl) (L' := [_, _, _, _, _]) (by rfl) ?_
    refine r_aload_n dX6_readsOrder_41 rfl (by rfl) ?_
    refine r_aload_n dX6_readsOrder_42 rfl (by rfl) ?_
    refine r_get_i kX6_157 dX6_readsOrder_43 KD_110 ?_
    refine r_if_eq (tgt := 57) dX6_readsOrder_46 (by decide) (by unfold inR; omega) (fun c_12 => ?_) (fun c_12 => ?_)
    · refine r_iconst dX6_readsOrder_57 ?_
      refine WP.wk (L' := [_, _, none, none, none]) (leL_s (leL_s (leL_n (leL_n (leL_n leL_0))))) ?_
      exact cut_58 _ (by unfold hdW; first | (rw [if_pos (by omega)]; done) | (rw [if_neg (by omega)]; done))
    · refine r_iload_n dX6_readsOrder_49 rfl (by rfl) ?_
      refine r_if_eq (tgt := 57) dX6_readsOrder_50 (by decide) (by unfold inR; omega) (fun c_13 => ?_) (fun c_13 => ?_)
      · refine r_iconst dX6_readsOrder_57 ?_
        refine WP.wk (L' := [_, _, none, none, none]) (leL_s (leL_s (leL_n (leL_n (leL_n leL_0))))) ?_
        exact cut_58 _ (by unfold hdW; first | (rw [if_pos (by omega)]; done) | (rw [if_neg (by omega)]; done))
      · refine r_iconst dX6_readsOrder_53 ?_
        refine r_goto (tgt := 58) dX6_readsOrder_54 (by decide) ?_
        refine WP.wk (L' := [_, _, none, none, none]) (leL_s (leL_s (leL_n (leL_n (leL_n leL_0))))) ?_
        exact cut_58 _ (by unfold hdW; first | (rw [if_pos (by omega)]; done) | (rw [if_neg (by omega)]; done))
  refine r_aload_n dX6_readsOrder_0 rfl (by rfl) ?_
  refine r_callV0 (ct_X6_sign (by first | exact BH | exact hB | exact B1 | exact B2 | exact B3.2.2.1 | exact B4.2.2.1 | exact B5.2.2.1 | exact BH9 | exact inR_0 | omega | (unfold inR; omega))) fX6_sign qX6_161 dX6_readsOrder_1 KD_110 (by decide) ⟨Nat.zero_le _, Nat.zero_le _⟩ (Nat.le_of_ble_eq_true rfl) ?_
  refine r_istore_n dX6_readsOrder_4 rfl (Nat.le_of_ble_eq_true rfl) (L' := [_, _, _, _, _]) (by rfl) ?_
  refine r_iload_n dX6_readsOrder_5 rfl (by rfl) ?_
  refine r_bipush dX6_readsOrder_6 (by decide) ?_
  refine r_icmp_eq (tgt := 35) dX6_readsOrder_8 (by decide) (by unfold inR; omega) (by unfold inR; omega) (fun c_14 => ?_) (fun c_14 => ?_)
  · refine r_iconst dX6_readsOrder_35 ?_
    refine r_goto (tgt := 40) dX6_readsOrder_36 (by decide) ?_
    exact cut_40 _ (by first | (rw [if_pos (by omega)]; done) | (rw [if_neg (by omega)]; done))
  · refine r_iload_n dX6_readsOrder_11 rfl (by rfl) ?_
    refine r_bipush dX6_readsOrder_12 (by decide) ?_
    refine r_icmp_eq (tgt := 35) dX6_readsOrder_14 (by decide) (by unfold inR; omega) (by unfold inR; omega) (fun c_15 => ?_) (fun c_15 => ?_)
    · refine r_iconst dX6_readsOrder_35 ?_
      refine r_goto (tgt := 40) dX6_readsOrder_36 (by decide) ?_
      exact cut_40 _ (by first | (rw [if_pos (by omega)]; done) | (rw [if_neg (by omega)]; done))
    · refine r_iload_n dX6_readsOrder_17 rfl (by rfl) ?_
      refine r_bipush dX6_readsOrder_18 (by decide) ?_
      refine r_icmp_eq (tgt := 35) dX6_readsOrder_20 (by decide) (by unfold inR; omega) (by unfold inR; omega) (fun c_16 => ?_) (fun c_16 => ?_)
      · refine r_iconst dX6_readsOrder_35 ?_
        refine r_goto (tgt := 40) dX6_readsOrder_36 (by decide) ?_
        exact cut_40 _ (by first | (rw [if_pos (by omega)]; done) | (rw [if_neg (by omega)]; done))
      · refine r_iload_n dX6_readsOrder_23 rfl (by rfl) ?_
        refine r_bipush dX6_readsOrder_24 (by decide) ?_
        refine r_icmp_eq (tgt := 35) dX6_readsOrder_26 (by decide) (by unfold inR; omega) (by unfold inR; omega) (fun c_17 => ?_) (fun c_17 => ?_)
        · refine r_iconst dX6_readsOrder_35 ?_
          refine r_goto (tgt := 40) dX6_readsOrder_36 (by decide) ?_
          exact cut_40 _ (by first | (rw [if_pos (by omega)]; done) | (rw [if_neg (by omega)]; done))
        · refine r_iload_n dX6_readsOrder_29 rfl (by rfl) ?_
          refine r_bipush dX6_readsOrder_30 (by decide) ?_
          refine r_icmp_ne (tgt := 39) dX6_readsOrder_32 (by decide) (by unfold inR; omega) (by unfold inR; omega) (fun c_18 => ?_) (fun c_18 => ?_)
          · refine r_iconst dX6_readsOrder_39 ?_
            exact cut_40 _ (by first | (rw [if_pos (by omega)]; done) | (rw [if_neg (by omega)]; done))
          · refine r_iconst dX6_readsOrder_35 ?_
            refine r_goto (tgt := 40) dX6_readsOrder_36 (by decide) ?_
            exact cut_40 _ (by first | (rw [if_pos (by omega)]; done) | (rw [if_neg (by omega)]; done))
