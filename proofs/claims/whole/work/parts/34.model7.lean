/-! the model: the calls that change shapes and rows -/
theorem MJ_cg {σ σ' : ST} (h : σ' 111 = σ 111) (q : MJ σ) : MJ σ' := by
  unfold MJ gM oM at q ⊢
  rw [h]
  exact q
theorem gM_cg {σ σ' : ST} (h : σ' 111 = σ 111) (s w : Int) : gM σ' s w = gM σ s w := by unfold gM; rw [h]
theorem plM_cg {σ σ' : ST} (h : σ' 111 = σ 111) (s a : Int) : plM σ' s a = plM σ s a := by unfold plM; simp only [gM_cg h]
theorem sv1 (σ : ST) (e : Int) : svM (up2 σ 110 0 e) 111 = σ 111 := by rw [svM_r _ (by decide), up2_off _ (by decide)]

set_option maxRecDepth 100000 in
set_option maxHeartbeats 4000000 in
theorem ct_X6_addNumber {l : Launch} {G : GG} {π : Nat → Option Nat} {σ τ : ST} (hJ : MJ σ) (hn0 : 0 ≤ σ 110 3) (hn1 : σ 110 3 ≤ 6) (hw : ∀ a : Int, 0 ≤ a → a < 8 → plM σ (σ 111 0 - 1) a = -1 → gM σ (σ 111 0 - 1) 0 < 8) (a : Int) (ha : inR a) (m : Int) (hm : inR m) : Ct l G mX6_addNumber (4, 0, 0) [.ref 110, .int (iI a), .int (iI m)] 117 KD σ τ (RHO π) (KQ (some (.int (iI (if rf_refusesNumber σ a m = 0 then anM (svM (up2 σ 110 0 0)) a m 111 0 - 1 else 0)))) 117 KD (if rf_refusesNumber σ a m = 0 then anM (svM (up2 σ 110 0 0)) a m else up2 σ 110 0 (rf_refusesNumber σ a m)) τ (RHO π)) := by
  have hz := hJ.sz
  have hmk := hJ.mk
  have hro := hJ.ro
  have u3 : ∀ e, up2 σ 110 0 e 110 3 = σ 110 3 := fun e => up2_el _ _ _ (by decide)
  have s1 := fun e => sv1 σ e
  have sJ := fun e => MJ_cg (sv1 σ e) hJ
  have sg := fun e => gM_cg (sv1 σ e)
  have sp := fun e => plM_cg (sv1 σ e)
  have er : 0 ≤ rf_refusesNumber σ a m ∧ rf_refusesNumber σ a m ≤ 2 := by unfold rf_refusesNumber; (repeat' split) <;> omega
  have ra := ha
  unfold inR at ra
  have rm := hm
  unfold inR at rm
  refine ct_intro (own := "ShapedRowsModel") rfl (by decide +kernel) (Nat.le_of_ble_eq_true rfl) (L := _) rfl ?_
  refine r_aload_n dX6_addNumber_0 rfl (by rfl) ?_
  refine r_aload_n dX6_addNumber_1 rfl (by rfl) ?_
  refine r_iload_n dX6_addNumber_2 rfl (by rfl) ?_
  refine r_iload_n dX6_addNumber_3 rfl (by rfl) ?_
  refine r_callV2 (ct_X6_refusesNumber (by first | exact hJ | exact sJ _ | omega | (unfold inR; omega) | (rw [u3]; omega) | (simp only [s1, sg, sp]; omega) | exact ha | exact hm) _ (by first | exact hJ | exact sJ _ | omega | (unfold inR; omega) | (rw [u3]; omega) | (simp only [s1, sg, sp]; omega) | exact ha | exact hm) _ (by first | exact hJ | exact sJ _ | omega | (unfold inR; omega) | (rw [u3]; omega) | (simp only [s1, sg, sp]; omega) | exact ha | exact hm)) fX6_refusesNumber qX6_69 dX6_addNumber_4 KD_110 (by decide) ⟨Nat.zero_le _, Nat.zero_le _⟩ (Nat.le_of_ble_eq_true rfl) ?_
  refine r_put_i kX6_25 dX6_addNumber_7 KD_110 ?_
  refine r_aload_n dX6_addNumber_10 rfl (by rfl) ?_
  refine r_get_i kX6_25 dX6_addNumber_11 KD_110 ?_
  rw [up2_at]
  refine r_if_eq (tgt := 19) dX6_addNumber_14 (by decide) (by unfold inR; omega) (fun hq => ?_) (fun hq => ?_)
  · have f0 : (0 ≤ a ∧ a < 8) ∧ plM σ (σ 111 0 - 1) a = -1 ∧ σ 111 0 ≠ 12 := by
      unfold rf_refusesNumber at hq
      (repeat' split at hq) <;> omega
    have hw8 := hw a (by omega) (by omega) (by omega)
    refine r_aload_n dX6_addNumber_19 rfl (by rfl) ?_
    refine r_callV0 (ct_X6_saves (by first | exact hJ | exact sJ _ | omega | (unfold inR; omega) | (rw [u3]; omega) | (simp only [s1, sg, sp]; omega) | exact ha | exact hm) (by first | exact hJ | exact sJ _ | omega | (unfold inR; omega) | (rw [u3]; omega) | (simp only [s1, sg, sp]; omega) | exact ha | exact hm)) fX6_saves qX6_72 dX6_addNumber_20 KD_110 (by decide) ⟨Nat.zero_le _, Nat.zero_le _⟩ (Nat.le_of_ble_eq_true rfl) ?_
    refine r_aload_n dX6_addNumber_23 rfl (by rfl) ?_
    refine r_iload_n dX6_addNumber_24 rfl (by rfl) ?_
    refine r_iload_n dX6_addNumber_25 rfl (by rfl) ?_
    refine r_callV2 (ct_X6_addsNumber (by first | exact hJ | exact sJ _ | omega | (unfold inR; omega) | (rw [u3]; omega) | (simp only [s1, sg, sp]; omega) | exact ha | exact hm) (by first | exact hJ | exact sJ _ | omega | (unfold inR; omega) | (rw [u3]; omega) | (simp only [s1, sg, sp]; omega) | exact ha | exact hm) (by first | exact hJ | exact sJ _ | omega | (unfold inR; omega) | (rw [u3]; omega) | (simp only [s1, sg, sp]; omega) | exact ha | exact hm) _ _) fX6_addsNumber qX6_75 dX6_addNumber_26 KD_110 (by decide) ⟨Nat.zero_le _, Nat.zero_le _⟩ (Nat.le_of_ble_eq_true rfl) ?_
    refine r_aload_n dX6_addNumber_29 rfl (by rfl) ?_
    refine r_callV0 ct_X6_newest fX6_newest qX6_44 dX6_addNumber_30 KD_110 (by decide) ⟨Nat.zero_le _, Nat.zero_le _⟩ (Nat.le_of_ble_eq_true rfl) ?_
    exact r_ret_i dX6_addNumber_33 rfl ⟨Nat.zero_le _, Nat.zero_le _⟩ (by rw [if_pos (by omega), hq]) ⟨rfl, rfl, (by rw [if_pos (by omega), hq]), rfl, rfl⟩
  · skip
    refine r_iconst dX6_addNumber_17 ?_
    exact r_ret_i dX6_addNumber_18 rfl ⟨Nat.zero_le _, Nat.zero_le _⟩ (by rw [if_neg (by omega)]) ⟨rfl, rfl, (by rw [if_neg (by omega)]), rfl, rfl⟩
