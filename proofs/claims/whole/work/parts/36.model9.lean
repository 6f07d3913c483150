/-! the model: reader, buffer, what is told -/
set_option maxRecDepth 100000 in
set_option maxHeartbeats 4000000 in
theorem ct_X6_append {l : Launch} {G : GG} {π : Nat → Option Nat} {σ τ : ST} (l0 : 0 ≤ σ 110 5) (l1 : σ 110 5 ≤ 60) (c : Int) (hc : inR c) : Ct l G mX6_append (1, 0, 0) [.ref 110, .int (iI c)] 117 KD σ τ (RHO π) (KQ (some (.int (iI (if ¬ (33 ≤ c ∧ c ≤ 126) then 0 else if σ 110 5 = 60 then 0 else σ 110 5 + 1)))) 117 KD (if ¬ (33 ≤ c ∧ c ≤ 126) then up2 (up2 σ 110 0 0) 110 0 1 else if σ 110 5 = 60 then up2 (up2 σ 110 0 0) 110 0 2 else up2 (up2 (up2 σ 110 0 0) 113 (σ 110 5).toNat c) 110 5 (σ 110 5 + 1)) τ (RHO π)) := by
  have z5 : up2 σ 110 0 0 110 5 = σ 110 5 := up2_el _ _ _ (by decide)
  have rc := hc
  unfold inR at rc
  refine ct_intro (own := "ShapedRowsModel") rfl (by decide +kernel) (Nat.le_of_ble_eq_true rfl) (L := _) rfl ?_
  refine r_aload_n dX6_append_0 rfl (by rfl) ?_
  refine r_iconst dX6_append_1 ?_
  refine r_put_i kX6_25 dX6_append_2 KD_110 ?_
  refine r_iload_n dX6_append_5 rfl (by rfl) ?_
  refine r_bipush dX6_append_6 (by decide) ?_
  refine r_bipush dX6_append_8 (by decide) ?_
  refine r_callS3 (ct_X6_in _ (by first | exact hc | omega | (unfold inR; omega)) _ (by first | exact hc | omega | (unfold inR; omega)) _ (by first | exact hc | omega | (unfold inR; omega))) fX6_in qX6_32 dX6_append_10 (by decide) ⟨Nat.zero_le _, Nat.zero_le _⟩ (Nat.le_of_ble_eq_true rfl) ?_
  refine r_ifne_b (tgt := 22) dX6_append_13 (by decide) (fun c_1 => ?_) (fun c_1 => ?_)
  · refine r_aload_n dX6_append_22 rfl (by rfl) ?_
    refine r_get_i kX6_151 dX6_append_23 KD_110 ?_
    rw [z5]
    refine r_bipush dX6_append_26 (by decide) ?_
    refine r_icmp_ne (tgt := 37) dX6_append_28 (by decide) (by unfold inR; omega) (by unfold inR; omega) (fun c_2 => ?_) (fun c_2 => ?_)
    · refine r_aload_n dX6_append_37 rfl (by rfl) ?_
      refine r_get_r kX6_16 dX6_append_38 KD_110 (RHO_110_4 _) ?_
      refine r_aload_n dX6_append_41 rfl (by rfl) ?_
      refine r_get_i kX6_151 dX6_append_42 KD_110 ?_
      rw [z5]
      refine r_iload_n dX6_append_45 rfl (by rfl) ?_
      refine r_iast dX6_append_46 KD_113 (by omega) (by omega) (by first | decide | omega) ?_
      refine r_aload_n dX6_append_47 rfl (by rfl) ?_
      refine r_dup dX6_append_48 rfl ?_
      refine r_get_i kX6_151 dX6_append_49 KD_110 ?_
      rw [up2_ne _ _ _ _ (by decide), z5]
      refine r_iconst dX6_append_52 ?_
      refine r_iadd dX6_append_53 ?_
      refine r_put_i kX6_151 dX6_append_54 KD_110 ?_
      refine r_aload_n dX6_append_57 rfl (by rfl) ?_
      refine r_get_i kX6_151 dX6_append_58 KD_110 ?_
      rw [up2_at]
      exact r_ret_i dX6_append_61 rfl ⟨Nat.zero_le _, Nat.zero_le _⟩ (by first | (rw [if_pos (by omega)]; done) | (rw [if_neg (by omega), if_pos (by omega)]; done) | (rw [if_neg (by omega), if_neg (by omega)]; done)) ⟨rfl, rfl, (by first | (rw [if_pos (by omega)]; done) | (rw [if_neg (by omega), if_pos (by omega)]; done) | (rw [if_neg (by omega), if_neg (by omega)]; done)), rfl, rfl⟩
    · refine r_aload_n dX6_append_31 rfl (by rfl) ?_
      refine r_iconst dX6_append_32 ?_
      refine r_callV1 (ct_X6_fails _) fX6_fails qX6_120 dX6_append_33 KD_110 (by decide) ⟨Nat.zero_le _, Nat.zero_le _⟩ (Nat.le_of_ble_eq_true rfl) ?_
      exact r_ret_i dX6_append_36 rfl ⟨Nat.zero_le _, Nat.zero_le _⟩ (by first | (rw [if_pos (by omega)]; done) | (rw [if_neg (by omega), if_pos (by omega)]; done) | (rw [if_neg (by omega), if_neg (by omega)]; done)) ⟨rfl, rfl, (by first | (rw [if_pos (by omega)]; done) | (rw [if_neg (by omega), if_pos (by omega)]; done) | (rw [if_neg (by omega), if_neg (by omega)]; done)), rfl, rfl⟩
  · refine r_aload_n dX6_append_16 rfl (by rfl) ?_
    refine r_iconst dX6_append_17 ?_
    refine r_callV1 (ct_X6_fails _) fX6_fails qX6_120 dX6_append_18 KD_110 (by decide) ⟨Nat.zero_le _, Nat.zero_le _⟩ (Nat.le_of_ble_eq_true rfl) ?_
    exact r_ret_i dX6_append_21 rfl ⟨Nat.zero_le _, Nat.zero_le _⟩ (by first | (rw [if_pos (by omega)]; done) | (rw [if_neg (by omega), if_pos (by omega)]; done) | (rw [if_neg (by omega), if_neg (by omega)]; done)) ⟨rfl, rfl, (by first | (rw [if_pos (by omega)]; done) | (rw [if_neg (by omega), if_pos (by omega)]; done) | (rw [if_neg (by omega), if_neg (by omega)]; done)), rfl, rfl⟩

set_option maxRecDepth 100000 in
set_option maxHeartbeats 4000000 in
theorem ct_X6_hold {l : Launch} {G : GG} {π : Nat → Option Nat} {σ τ : ST} (hJ : MJ σ) (hn0 : 0 ≤ σ 110 3) (hn1 : σ 110 3 ≤ 6) (q : Int) (hq : inR q) (s : Int) (hs : inR s) : Ct l G mX6_hold (2, 0, 0) [.ref 110, .int (iI q), .int (iI s)] 117 KD σ τ (RHO π) (KQ (some (.int (iI (if ¬ ((0 ≤ q ∧ q ≤ 4 - 1) ∧ σ 111 1 ≤ s ∧ s ≤ σ 111 0 - 1) then 0 else σ 111 (6 + q).toNat)))) 117 KD (if ¬ ((0 ≤ q ∧ q ≤ 4 - 1) ∧ σ 111 1 ≤ s ∧ s ≤ σ 111 0 - 1) then up2 (up2 σ 110 0 0) 110 0 1 else up2 (svM (up2 σ 110 0 0)) 111 (6 + q).toNat s) τ (RHO π)) := by
  have hz := hJ.sz
  have hmk := hJ.mk
  have hro := hJ.ro
  have u3 : ∀ e, up2 σ 110 0 e 110 3 = σ 110 3 := fun e => up2_el _ _ _ (by decide)
  have s1 := fun e => sv1 σ e
  have sJ := fun e => MJ_cg (sv1 σ e) hJ
  have sg := fun e => gM_cg (sv1 σ e)
  have sp := fun e => plM_cg (sv1 σ e)
  have z1 : up2 σ 110 0 0 111 = σ 111 := up2_off _ (by decide)
  have z5 : up2 σ 110 0 0 110 5 = σ 110 5 := up2_el _ _ _ (by decide)
  have za : up2 σ 110 0 0 111 0 = σ 111 0 := by rw [z1]
  have zb : up2 σ 110 0 0 111 1 = σ 111 1 := by rw [z1]
  have zc : up2 σ 110 0 0 111 2 = σ 111 2 := by rw [z1]
  have rq := hq
  unfold inR at rq
  have rs := hs
  unfold inR at rs
  refine ct_intro (own := "ShapedRowsModel") rfl (by decide +kernel) (Nat.le_of_ble_eq_true rfl) (L := _) rfl ?_
  refine r_aload_n dX6_hold_0 rfl (by rfl) ?_
  refine r_iconst dX6_hold_1 ?_
  refine r_put_i kX6_25 dX6_hold_2 KD_110 ?_
  refine r_iload_n dX6_hold_5 rfl (by rfl) ?_
  refine r_callS1 (ct_X6_isReader _ (by first | exact hJ | exact sJ _ | omega | (unfold inR; omega) | (rw [u3]; omega) | (simp only [s1, sg, sp]; omega) | (rw [s1]; omega) | exact MJ_cg z1 hJ | (simp only [z1]; omega) | exact hq | exact hs)) fX6_isReader qX6_145 dX6_hold_6 (by decide) ⟨Nat.zero_le _, Nat.zero_le _⟩ (Nat.le_of_ble_eq_true rfl) ?_
  refine r_ifeq_b (tgt := 20) dX6_hold_9 (by decide) (fun c_1 => ?_) (fun c_1 => ?_)
  · refine r_aload_n dX6_hold_20 rfl (by rfl) ?_
    refine r_iconst dX6_hold_21 ?_
    refine r_callV1 (ct_X6_fails _) fX6_fails qX6_120 dX6_hold_22 KD_110 (by decide) ⟨Nat.zero_le _, Nat.zero_le _⟩ (Nat.le_of_ble_eq_true rfl) ?_
    exact r_ret_i dX6_hold_25 rfl ⟨Nat.zero_le _, Nat.zero_le _⟩ (by first | (rw [if_pos (by omega)]; done) | (rw [if_neg (by omega)]; done)) ⟨rfl, rfl, (by first | (rw [if_pos (by omega)]; done) | (rw [if_neg (by omega)]; done)), rfl, rfl⟩
  · refine r_aload_n dX6_hold_12 rfl (by rfl) ?_
    refine r_iload_n dX6_hold_13 rfl (by rfl) ?_
    refine r_callV1 (ct_X6_isInUse (by first | exact hJ | exact sJ _ | omega | (unfold inR; omega) | (rw [u3]; omega) | (simp only [s1, sg, sp]; omega) | (rw [s1]; omega) | exact MJ_cg z1 hJ | (simp only [z1]; omega) | exact hq | exact hs) _ (by first | exact hJ | exact sJ _ | omega | (unfold inR; omega) | (rw [u3]; omega) | (simp only [s1, sg, sp]; omega) | (rw [s1]; omega) | exact MJ_cg z1 hJ | (simp only [z1]; omega) | exact hq | exact hs)) fX6_isInUse qX6_127 dX6_hold_14 KD_110 (by decide) ⟨Nat.zero_le _, Nat.zero_le _⟩ (Nat.le_of_ble_eq_true rfl) ?_
    refine r_ifne_b (tgt := 26) dX6_hold_17 (by decide) (fun c_2 => ?_) (fun c_2 => ?_)
    · refine r_aload_n dX6_hold_26 rfl (by rfl) ?_
      refine r_callV0 (ct_X6_saves (by first | exact hJ | exact sJ _ | omega | (unfold inR; omega) | (rw [u3]; omega) | (simp only [s1, sg, sp]; omega) | (rw [s1]; omega) | exact MJ_cg z1 hJ | (simp only [z1]; omega) | exact hq | exact hs) (by first | exact hJ | exact sJ _ | omega | (unfold inR; omega) | (rw [u3]; omega) | (simp only [s1, sg, sp]; omega) | (rw [s1]; omega) | exact MJ_cg z1 hJ | (simp only [z1]; omega) | exact hq | exact hs)) fX6_saves qX6_72 dX6_hold_27 KD_110 (by decide) ⟨Nat.zero_le _, Nat.zero_le _⟩ (Nat.le_of_ble_eq_true rfl) ?_
      refine r_aload_n dX6_hold_30 rfl (by rfl) ?_
      refine r_get_r kX6_7 dX6_hold_31 KD_110 (RHO_110_1 _) ?_
      refine r_bipush dX6_hold_34 (by decide) ?_
      refine r_iload_n dX6_hold_36 rfl (by rfl) ?_
      refine r_iadd dX6_hold_37 ?_
      refine r_iald dX6_hold_38 KD_111 (by omega) (by omega) (by first | decide | omega) ?_
      rw [s1]
      refine r_istore_n dX6_hold_39 rfl (Nat.le_of_ble_eq_true rfl) (L' := [_, _, _, _]) (by rfl) ?_
      refine r_aload_n dX6_hold_40 rfl (by rfl) ?_
      refine r_get_r kX6_7 dX6_hold_41 KD_110 (RHO_110_1 _) ?_
      refine r_bipush dX6_hold_44 (by decide) ?_
      refine r_iload_n dX6_hold_46 rfl (by rfl) ?_
      refine r_iadd dX6_hold_47 ?_
      refine r_iload_n dX6_hold_48 rfl (by rfl) ?_
      refine r_iast dX6_hold_49 KD_111 (by omega) (by omega) (by first | decide | omega) ?_
      refine r_iload_n dX6_hold_50 rfl (by rfl) ?_
      exact r_ret_i dX6_hold_51 rfl ⟨Nat.zero_le _, Nat.zero_le _⟩ (by first | (rw [if_pos (by omega)]; done) | (rw [if_neg (by omega)]; done)) ⟨rfl, rfl, (by first | (rw [if_pos (by omega)]; done) | (rw [if_neg (by omega)]; done)), rfl, rfl⟩
    · refine r_aload_n dX6_hold_20 rfl (by rfl) ?_
      refine r_iconst dX6_hold_21 ?_
      refine r_callV1 (ct_X6_fails _) fX6_fails qX6_120 dX6_hold_22 KD_110 (by decide) ⟨Nat.zero_le _, Nat.zero_le _⟩ (Nat.le_of_ble_eq_true rfl) ?_
      exact r_ret_i dX6_hold_25 rfl ⟨Nat.zero_le _, Nat.zero_le _⟩ (by first | (rw [if_pos (by omega)]; done) | (rw [if_neg (by omega)]; done)) ⟨rfl, rfl, (by first | (rw [if_pos (by omega)]; done) | (rw [if_neg (by omega)]; done)), rfl, rfl⟩

set_option maxRecDepth 100000 in
set_option maxHeartbeats 4000000 in
theorem ct_X6_against {l : Launch} {G : GG} {π : Nat → Option Nat} {σ τ : ST} (hJ : MJ σ) (r : Int) (hr : inR r) (s : Int) (hs : inR s) (a : Int) (ha : inR a) : Ct l G mX6_against (3, 0, 0) [.ref 110, .int (iI r), .int (iI s), .int (iI a)] 117 KD σ τ (RHO π) (KQ (some (.int (iI (if ¬ ((0 ≤ r ∧ r ≤ σ 111 2 - 1) ∧ σ 111 1 ≤ s ∧ s ≤ σ 111 0 - 1) then 0 else if ¬ (0 ≤ a ∧ a ≤ 8 - 1) then 0 else agM σ r s a)))) 117 KD (if ¬ ((0 ≤ r ∧ r ≤ σ 111 2 - 1) ∧ σ 111 1 ≤ s ∧ s ≤ σ 111 0 - 1) then up2 (up2 σ 110 0 0) 110 0 1 else if ¬ (0 ≤ a ∧ a ≤ 8 - 1) then up2 (up2 σ 110 0 0) 110 0 2 else up2 σ 110 0 0) τ (RHO π)) := by
  have hz := hJ.sz
  have hmk := hJ.mk
  have hro := hJ.ro
  have u3 : ∀ e, up2 σ 110 0 e 110 3 = σ 110 3 := fun e => up2_el _ _ _ (by decide)
  have s1 := fun e => sv1 σ e
  have sJ := fun e => MJ_cg (sv1 σ e) hJ
  have sg := fun e => gM_cg (sv1 σ e)
  have sp := fun e => plM_cg (sv1 σ e)
  have z1 : up2 σ 110 0 0 111 = σ 111 := up2_off _ (by decide)
  have z5 : up2 σ 110 0 0 110 5 = σ 110 5 := up2_el _ _ _ (by decide)
  have za : up2 σ 110 0 0 111 0 = σ 111 0 := by rw [z1]
  have zb : up2 σ 110 0 0 111 1 = σ 111 1 := by rw [z1]
  have zc : up2 σ 110 0 0 111 2 = σ 111 2 := by rw [z1]
  have zag : agM (up2 σ 110 0 0) r s a = agM σ r s a := by unfold agM plM pcM oM gM; rw [z1]
  have rr := hr
  unfold inR at rr
  have rs := hs
  unfold inR at rs
  have ra := ha
  unfold inR at ra
  refine ct_intro (own := "ShapedRowsModel") rfl (by decide +kernel) (Nat.le_of_ble_eq_true rfl) (L := _) rfl ?_
  refine r_aload_n dX6_against_0 rfl (by rfl) ?_
  refine r_iconst dX6_against_1 ?_
  refine r_put_i kX6_25 dX6_against_2 KD_110 ?_
  refine r_aload_n dX6_against_5 rfl (by rfl) ?_
  refine r_iload_n dX6_against_6 rfl (by rfl) ?_
  refine r_callV1 (ct_X6_isRow (by first | exact hJ | exact sJ _ | omega | (unfold inR; omega) | (rw [u3]; omega) | (simp only [s1, sg, sp]; omega) | (rw [s1]; omega) | exact MJ_cg z1 hJ | (simp only [z1]; omega) | exact hr | exact hs | exact ha) _ (by first | exact hJ | exact sJ _ | omega | (unfold inR; omega) | (rw [u3]; omega) | (simp only [s1, sg, sp]; omega) | (rw [s1]; omega) | exact MJ_cg z1 hJ | (simp only [z1]; omega) | exact hr | exact hs | exact ha)) fX6_isRow qX6_133 dX6_against_7 KD_110 (by decide) ⟨Nat.zero_le _, Nat.zero_le _⟩ (Nat.le_of_ble_eq_true rfl) ?_
  refine r_ifeq_b (tgt := 21) dX6_against_10 (by decide) (fun c_1 => ?_) (fun c_1 => ?_)
  · refine r_aload_n dX6_against_21 rfl (by rfl) ?_
    refine r_iconst dX6_against_22 ?_
    refine r_callV1 (ct_X6_fails _) fX6_fails qX6_120 dX6_against_23 KD_110 (by decide) ⟨Nat.zero_le _, Nat.zero_le _⟩ (Nat.le_of_ble_eq_true rfl) ?_
    exact r_ret_i dX6_against_26 rfl ⟨Nat.zero_le _, Nat.zero_le _⟩ (by first | (rw [if_pos (by omega)]; done) | (rw [if_neg (by omega), if_pos (by omega)]; done) | (rw [if_neg (by omega), if_neg (by omega)]; done)) ⟨rfl, rfl, (by first | (rw [if_pos (by omega)]; done) | (rw [if_neg (by omega), if_pos (by omega)]; done) | (rw [if_neg (by omega), if_neg (by omega)]; done)), rfl, rfl⟩
  · refine r_aload_n dX6_against_13 rfl (by rfl) ?_
    refine r_iload_n dX6_against_14 rfl (by rfl) ?_
    refine r_callV1 (ct_X6_isInUse (by first | exact hJ | exact sJ _ | omega | (unfold inR; omega) | (rw [u3]; omega) | (simp only [s1, sg, sp]; omega) | (rw [s1]; omega) | exact MJ_cg z1 hJ | (simp only [z1]; omega) | exact hr | exact hs | exact ha) _ (by first | exact hJ | exact sJ _ | omega | (unfold inR; omega) | (rw [u3]; omega) | (simp only [s1, sg, sp]; omega) | (rw [s1]; omega) | exact MJ_cg z1 hJ | (simp only [z1]; omega) | exact hr | exact hs | exact ha)) fX6_isInUse qX6_127 dX6_against_15 KD_110 (by decide) ⟨Nat.zero_le _, Nat.zero_le _⟩ (Nat.le_of_ble_eq_true rfl) ?_
    refine r_ifne_b (tgt := 27) dX6_against_18 (by decide) (fun c_2 => ?_) (fun c_2 => ?_)
    · refine r_iload_n dX6_against_27 rfl (by rfl) ?_
      refine r_callS1 (ct_X6_isLetter _ (by first | exact hJ | exact sJ _ | omega | (unfold inR; omega) | (rw [u3]; omega) | (simp only [s1, sg, sp]; omega) | (rw [s1]; omega) | exact MJ_cg z1 hJ | (simp only [z1]; omega) | exact hr | exact hs | exact ha)) fX6_isLetter qX6_51 dX6_against_28 (by decide) ⟨Nat.zero_le _, Nat.zero_le _⟩ (Nat.le_of_ble_eq_true rfl) ?_
      refine r_ifeq_b (tgt := 44) dX6_against_31 (by decide) (fun c_3 => ?_) (fun c_3 => ?_)
      · refine r_aload_n dX6_against_44 rfl (by rfl) ?_
        refine r_iconst dX6_against_45 ?_
        refine r_callV1 (ct_X6_fails _) fX6_fails qX6_120 dX6_against_46 KD_110 (by decide) ⟨Nat.zero_le _, Nat.zero_le _⟩ (Nat.le_of_ble_eq_true rfl) ?_
        exact r_ret_i dX6_against_49 rfl ⟨Nat.zero_le _, Nat.zero_le _⟩ (by first | (rw [if_pos (by omega)]; done) | (rw [if_neg (by omega), if_pos (by omega)]; done) | (rw [if_neg (by omega), if_neg (by omega)]; done)) ⟨rfl, rfl, (by first | (rw [if_pos (by omega)]; done) | (rw [if_neg (by omega), if_pos (by omega)]; done) | (rw [if_neg (by omega), if_neg (by omega)]; done)), rfl, rfl⟩
      · refine r_aload_n dX6_against_34 rfl (by rfl) ?_
        refine r_iload_n dX6_against_35 rfl (by rfl) ?_
        refine r_iload_n dX6_against_36 rfl (by rfl) ?_
        refine r_iload_n dX6_against_37 rfl (by rfl) ?_
        refine r_callV3 (ct_X6_isAgainst (by first | exact hJ | exact sJ _ | omega | (unfold inR; omega) | (rw [u3]; omega) | (simp only [s1, sg, sp]; omega) | (rw [s1]; omega) | exact MJ_cg z1 hJ | (simp only [z1]; omega) | exact hr | exact hs | exact ha) _ (by first | exact hJ | exact sJ _ | omega | (unfold inR; omega) | (rw [u3]; omega) | (simp only [s1, sg, sp]; omega) | (rw [s1]; omega) | exact MJ_cg z1 hJ | (simp only [z1]; omega) | exact hr | exact hs | exact ha) (by first | exact hJ | exact sJ _ | omega | (unfold inR; omega) | (rw [u3]; omega) | (simp only [s1, sg, sp]; omega) | (rw [s1]; omega) | exact MJ_cg z1 hJ | (simp only [z1]; omega) | exact hr | exact hs | exact ha) _ (by first | exact hJ | exact sJ _ | omega | (unfold inR; omega) | (rw [u3]; omega) | (simp only [s1, sg, sp]; omega) | (rw [s1]; omega) | exact MJ_cg z1 hJ | (simp only [z1]; omega) | exact hr | exact hs | exact ha) (by first | exact hJ | exact sJ _ | omega | (unfold inR; omega) | (rw [u3]; omega) | (simp only [s1, sg, sp]; omega) | (rw [s1]; omega) | exact MJ_cg z1 hJ | (simp only [z1]; omega) | exact hr | exact hs | exact ha) _ (by first | exact hJ | exact sJ _ | omega | (unfold inR; omega) | (rw [u3]; omega) | (simp only [s1, sg, sp]; omega) | (rw [s1]; omega) | exact MJ_cg z1 hJ | (simp only [z1]; omega) | exact hr | exact hs | exact ha)) fX6_isAgainst qX6_136 dX6_against_38 KD_110 (by decide) ⟨Nat.zero_le _, Nat.zero_le _⟩ (Nat.le_of_ble_eq_true rfl) ?_
        rw [zag]
        refine r_goto (tgt := 49) dX6_against_41 (by decide) ?_
        exact r_ret_i dX6_against_49 rfl ⟨Nat.zero_le _, Nat.zero_le _⟩ (by first | (rw [if_pos (by omega)]; done) | (rw [if_neg (by omega), if_pos (by omega)]; done) | (rw [if_neg (by omega), if_neg (by omega)]; done)) ⟨rfl, rfl, (by first | (rw [if_pos (by omega)]; done) | (rw [if_neg (by omega), if_pos (by omega)]; done) | (rw [if_neg (by omega), if_neg (by omega)]; done)), rfl, rfl⟩
    · refine r_aload_n dX6_against_21 rfl (by rfl) ?_
      refine r_iconst dX6_against_22 ?_
      refine r_callV1 (ct_X6_fails _) fX6_fails qX6_120 dX6_against_23 KD_110 (by decide) ⟨Nat.zero_le _, Nat.zero_le _⟩ (Nat.le_of_ble_eq_true rfl) ?_
      exact r_ret_i dX6_against_26 rfl ⟨Nat.zero_le _, Nat.zero_le _⟩ (by first | (rw [if_pos (by omega)]; done) | (rw [if_neg (by omega), if_pos (by omega)]; done) | (rw [if_neg (by omega), if_neg (by omega)]; done)) ⟨rfl, rfl, (by first | (rw [if_pos (by omega)]; done) | (rw [if_neg (by omega), if_pos (by omega)]; done) | (rw [if_neg (by omega), if_neg (by omega)]; done)), rfl, rfl⟩

set_option maxRecDepth 100000 in
set_option maxHeartbeats 4000000 in
theorem ct_X6_column {l : Launch} {G : GG} {π : Nat → Option Nat} {σ τ : ST} (hJ : MJ σ) (s : Int) (hs : inR s) (p : Int) (hp : inR p) (w : Int) (hw : inR w) : Ct l G mX6_column (3, 0, 0) [.ref 110, .int (iI s), .int (iI p), .int (iI w)] 117 KD σ τ (RHO π) (KQ (some (.int (iI (if ¬ (0 ≤ s ∧ s ≤ σ 111 0 - 1) then 0 else if ¬ (0 ≤ p ∧ 0 ≤ w ∧ w ≤ 2) then 0 else coM σ s p w)))) 117 KD (if ¬ (0 ≤ s ∧ s ≤ σ 111 0 - 1) then up2 (up2 σ 110 0 0) 110 0 1 else if ¬ (0 ≤ p ∧ 0 ≤ w ∧ w ≤ 2) then up2 (up2 σ 110 0 0) 110 0 2 else up2 σ 110 0 0) τ (RHO π)) := by
  have hz := hJ.sz
  have hmk := hJ.mk
  have hro := hJ.ro
  have u3 : ∀ e, up2 σ 110 0 e 110 3 = σ 110 3 := fun e => up2_el _ _ _ (by decide)
  have s1 := fun e => sv1 σ e
  have sJ := fun e => MJ_cg (sv1 σ e) hJ
  have sg := fun e => gM_cg (sv1 σ e)
  have sp := fun e => plM_cg (sv1 σ e)
  have z1 : up2 σ 110 0 0 111 = σ 111 := up2_off _ (by decide)
  have z5 : up2 σ 110 0 0 110 5 = σ 110 5 := up2_el _ _ _ (by decide)
  have za : up2 σ 110 0 0 111 0 = σ 111 0 := by rw [z1]
  have zb : up2 σ 110 0 0 111 1 = σ 111 1 := by rw [z1]
  have zc : up2 σ 110 0 0 111 2 = σ 111 2 := by rw [z1]
  have zco : coM (up2 σ 110 0 0) s p w = coM σ s p w := by unfold coM pcM gM; rw [z1]
  have rs := hs
  unfold inR at rs
  have rp := hp
  unfold inR at rp
  have rw := hw
  unfold inR at rw
  refine ct_intro (own := "ShapedRowsModel") rfl (by decide +kernel) (Nat.le_of_ble_eq_true rfl) (L := _) rfl ?_
  refine r_aload_n dX6_column_0 rfl (by rfl) ?_
  refine r_iconst dX6_column_1 ?_
  refine r_put_i kX6_25 dX6_column_2 KD_110 ?_
  refine r_aload_n dX6_column_5 rfl (by rfl) ?_
  refine r_iload_n dX6_column_6 rfl (by rfl) ?_
  refine r_callV1 (ct_X6_isShape (by first | exact hJ | exact sJ _ | omega | (unfold inR; omega) | (rw [u3]; omega) | (simp only [s1, sg, sp]; omega) | (rw [s1]; omega) | exact MJ_cg z1 hJ | (simp only [z1]; omega) | exact hs | exact hp | exact hw) _ (by first | exact hJ | exact sJ _ | omega | (unfold inR; omega) | (rw [u3]; omega) | (simp only [s1, sg, sp]; omega) | (rw [s1]; omega) | exact MJ_cg z1 hJ | (simp only [z1]; omega) | exact hs | exact hp | exact hw)) fX6_isShape qX6_195 dX6_column_7 KD_110 (by decide) ⟨Nat.zero_le _, Nat.zero_le _⟩ (Nat.le_of_ble_eq_true rfl) ?_
  refine r_ifne_b (tgt := 19) dX6_column_10 (by decide) (fun c_1 => ?_) (fun c_1 => ?_)
  · refine r_iload_n dX6_column_19 rfl (by rfl) ?_
    refine r_if_lt (tgt := 32) dX6_column_20 (by decide) (by unfold inR; omega) (fun c_2 => ?_) (fun c_2 => ?_)
    · refine r_aload_n dX6_column_32 rfl (by rfl) ?_
      refine r_iconst dX6_column_33 ?_
      refine r_callV1 (ct_X6_fails _) fX6_fails qX6_120 dX6_column_34 KD_110 (by decide) ⟨Nat.zero_le _, Nat.zero_le _⟩ (Nat.le_of_ble_eq_true rfl) ?_
      refine r_goto (tgt := 47) dX6_column_37 (by decide) ?_
      exact r_ret_i dX6_column_47 rfl ⟨Nat.zero_le _, Nat.zero_le _⟩ (by first | (rw [if_pos (by omega)]; done) | (rw [if_neg (by omega), if_pos (by omega)]; done) | (rw [if_neg (by omega), if_neg (by omega)]; done)) ⟨rfl, rfl, (by first | (rw [if_pos (by omega)]; done) | (rw [if_neg (by omega), if_pos (by omega)]; done) | (rw [if_neg (by omega), if_neg (by omega)]; done)), rfl, rfl⟩
    · refine r_iload_n dX6_column_23 rfl (by rfl) ?_
      refine r_iconst dX6_column_24 ?_
      refine r_iconst dX6_column_25 ?_
      refine r_callS3 (ct_X6_in _ (by first | exact hJ | exact sJ _ | omega | (unfold inR; omega) | (rw [u3]; omega) | (simp only [s1, sg, sp]; omega) | (rw [s1]; omega) | exact MJ_cg z1 hJ | (simp only [z1]; omega) | exact hs | exact hp | exact hw) _ (by first | exact hJ | exact sJ _ | omega | (unfold inR; omega) | (rw [u3]; omega) | (simp only [s1, sg, sp]; omega) | (rw [s1]; omega) | exact MJ_cg z1 hJ | (simp only [z1]; omega) | exact hs | exact hp | exact hw) _ (by first | exact hJ | exact sJ _ | omega | (unfold inR; omega) | (rw [u3]; omega) | (simp only [s1, sg, sp]; omega) | (rw [s1]; omega) | exact MJ_cg z1 hJ | (simp only [z1]; omega) | exact hs | exact hp | exact hw)) fX6_in qX6_32 dX6_column_26 (by decide) ⟨Nat.zero_le _, Nat.zero_le _⟩ (Nat.le_of_ble_eq_true rfl) ?_
      refine r_ifne_b (tgt := 40) dX6_column_29 (by decide) (fun c_3 => ?_) (fun c_3 => ?_)
      · refine r_aload_n dX6_column_40 rfl (by rfl) ?_
        refine r_iload_n dX6_column_41 rfl (by rfl) ?_
        refine r_iload_n dX6_column_42 rfl (by rfl) ?_
        refine r_iload_n dX6_column_43 rfl (by rfl) ?_
        refine r_callV3 (ct_X6_columnOf (by first | exact hJ | exact sJ _ | omega | (unfold inR; omega) | (rw [u3]; omega) | (simp only [s1, sg, sp]; omega) | (rw [s1]; omega) | exact MJ_cg z1 hJ | (simp only [z1]; omega) | exact hs | exact hp | exact hw) _ (by first | exact hJ | exact sJ _ | omega | (unfold inR; omega) | (rw [u3]; omega) | (simp only [s1, sg, sp]; omega) | (rw [s1]; omega) | exact MJ_cg z1 hJ | (simp only [z1]; omega) | exact hs | exact hp | exact hw) (by first | exact hJ | exact sJ _ | omega | (unfold inR; omega) | (rw [u3]; omega) | (simp only [s1, sg, sp]; omega) | (rw [s1]; omega) | exact MJ_cg z1 hJ | (simp only [z1]; omega) | exact hs | exact hp | exact hw) _ (by first | exact hJ | exact sJ _ | omega | (unfold inR; omega) | (rw [u3]; omega) | (simp only [s1, sg, sp]; omega) | (rw [s1]; omega) | exact MJ_cg z1 hJ | (simp only [z1]; omega) | exact hs | exact hp | exact hw) (by first | exact hJ | exact sJ _ | omega | (unfold inR; omega) | (rw [u3]; omega) | (simp only [s1, sg, sp]; omega) | (rw [s1]; omega) | exact MJ_cg z1 hJ | (simp only [z1]; omega) | exact hs | exact hp | exact hw) _ (by first | exact hJ | exact sJ _ | omega | (unfold inR; omega) | (rw [u3]; omega) | (simp only [s1, sg, sp]; omega) | (rw [s1]; omega) | exact MJ_cg z1 hJ | (simp only [z1]; omega) | exact hs | exact hp | exact hw) (by first | exact hJ | exact sJ _ | omega | (unfold inR; omega) | (rw [u3]; omega) | (simp only [s1, sg, sp]; omega) | (rw [s1]; omega) | exact MJ_cg z1 hJ | (simp only [z1]; omega) | exact hs | exact hp | exact hw)) fX6_columnOf qX6_198 dX6_column_44 KD_110 (by decide) ⟨Nat.zero_le _, Nat.zero_le _⟩ (Nat.le_of_ble_eq_true rfl) ?_
        rw [zco]
        exact r_ret_i dX6_column_47 rfl ⟨Nat.zero_le _, Nat.zero_le _⟩ (by first | (rw [if_pos (by omega)]; done) | (rw [if_neg (by omega), if_pos (by omega)]; done) | (rw [if_neg (by omega), if_neg (by omega)]; done)) ⟨rfl, rfl, (by first | (rw [if_pos (by omega)]; done) | (rw [if_neg (by omega), if_pos (by omega)]; done) | (rw [if_neg (by omega), if_neg (by omega)]; done)), rfl, rfl⟩
      · refine r_aload_n dX6_column_32 rfl (by rfl) ?_
        refine r_iconst dX6_column_33 ?_
        refine r_callV1 (ct_X6_fails _) fX6_fails qX6_120 dX6_column_34 KD_110 (by decide) ⟨Nat.zero_le _, Nat.zero_le _⟩ (Nat.le_of_ble_eq_true rfl) ?_
        refine r_goto (tgt := 47) dX6_column_37 (by decide) ?_
        exact r_ret_i dX6_column_47 rfl ⟨Nat.zero_le _, Nat.zero_le _⟩ (by first | (rw [if_pos (by omega)]; done) | (rw [if_neg (by omega), if_pos (by omega)]; done) | (rw [if_neg (by omega), if_neg (by omega)]; done)) ⟨rfl, rfl, (by first | (rw [if_pos (by omega)]; done) | (rw [if_neg (by omega), if_pos (by omega)]; done) | (rw [if_neg (by omega), if_neg (by omega)]; done)), rfl, rfl⟩
  · refine r_aload_n dX6_column_13 rfl (by rfl) ?_
    refine r_iconst dX6_column_14 ?_
    refine r_callV1 (ct_X6_fails _) fX6_fails qX6_120 dX6_column_15 KD_110 (by decide) ⟨Nat.zero_le _, Nat.zero_le _⟩ (Nat.le_of_ble_eq_true rfl) ?_
    exact r_ret_i dX6_column_18 rfl ⟨Nat.zero_le _, Nat.zero_le _⟩ (by first | (rw [if_pos (by omega)]; done) | (rw [if_neg (by omega), if_pos (by omega)]; done) | (rw [if_neg (by omega), if_neg (by omega)]; done)) ⟨rfl, rfl, (by first | (rw [if_pos (by omega)]; done) | (rw [if_neg (by omega), if_pos (by omega)]; done) | (rw [if_neg (by omega), if_neg (by omega)]; done)), rfl, rfl⟩
