/-! the model: the calls that change shapes and rows -/
theorem MJ_cg {σ σ' : ST} (h : σ' 111 = σ 111) (q : MJ σ) : MJ σ' := by
  unfold MJ gM oM at q ⊢
  rw [h]
  exact q
theorem gM_cg {σ σ' : ST} (h : σ' 111 = σ 111) (s w : Int) : gM σ' s w = gM σ s w := by unfold gM; rw [h]
theorem plM_cg {σ σ' : ST} (h : σ' 111 = σ 111) (s a : Int) : plM σ' s a = plM σ s a := by unfold plM; simp only [gM_cg h]
theorem sv1 (σ : ST) (e : Int) : svM (up2 σ 110 0 e) 111 = σ 111 := by rw [svM_r _ (by decide), up2_off _ (by decide)]

set_option maxRecDepth 100000 in
set_option maxHeartbeats 4000000 in
theorem ct_X6_addNumber {l : Launch} {G : GG} {π : Nat → Option Nat} {σ τ : ST} (hJ : MJ σ) (hn0 : 0 ≤ σ 110 3) (hn1 : σ 110 3 ≤ 6) (hw : ∀ a : Int, 0 ≤ a → a < 8 → plM σ (σ 111 0 - 1) a = -1 → gM σ (σ 111 0 - 1) 0 < 8) (a : Int) (ha : inR a) (m : Int) (hm : inR m) : Ct l G mX6_addNumber (4, 0, 0) [.ref 110, .int (iI a), .int (iI m)] 117 KD σ τ (RHO π) (KQ (some (.int (iI (if rf_refusesNumber σ a m = 0 then anM (svM (up2 σ 110 0 0)) a m 111 0 - 1 else 0)))) 117 KD (if rf_refusesNumber σ a m = 0 then anM (svM (up2 σ 110 0 0)) a m else up2 σ 110 0 (rf_refusesNumber σ a m)) τ (RHO π)) := by
  have hz := hJ.sz
  have hmk := hJ.mk
  have hro := hJ.ro
  have u3 : ∀ e, up2 σ 110 0 e 110 3 = σ 110 3 := fun e => up2_el _ _ _ (by decide)
  have s1 := fun e => sv1 σ e
  have sJ := fun e => MJ_cg (sv1 σ e) hJ
  have sg := fun e => gM_cg (sv1 σ e)
  have sp := fun e => plM_cg (sv1 σ e)
  have er : 0 ≤ rf_refusesNumber σ a m ∧ rf_refusesNumber σ a m ≤ 2 := by unfold rf_refusesNumber; (repeat' split) <;> omega
  have ra := ha
  unfold inR at ra
  have rm := hm
  unfold inR at rm
  refine ct_intro (own := "ShapedRowsModel") rfl (by decide +kernel) (Nat.le_of_ble_eq_true rfl) (L := _) rfl ?_
  refine r_aload_n dX6_addNumber_0 rfl (by rfl) ?_
  refine r_aload_n dX6_addNumber_1 rfl (by rfl) ?_
  refine r_iload_n dX6_addNumber_2 rfl (by rfl) ?_
  refine r_iload_n dX6_addNumber_3 rfl (by rfl) ?_
  refine r_callV2 (ct_X6_refusesNumber (by first | exact hJ | exact sJ _ | omega | (unfold inR; omega) | (rw [u3]; omega) | (simp only [s1, sg, sp]; omega) | exact ha | exact hm) _ (by first | exact hJ | exact sJ _ | omega | (unfold inR; omega) | (rw [u3]; omega) | (simp only [s1, sg, sp]; omega) | exact ha | exact hm) _ (by first | exact hJ | exact sJ _ | omega | (unfold inR; omega) | (rw [u3]; omega) | (simp only [s1, sg, sp]; omega) | exact ha | exact hm)) fX6_refusesNumber qX6_69 dX6_addNumber_4 KD_110 (by decide) ⟨Nat.zero_le _, Nat.zero_le _⟩ (Nat.le_of_ble_eq_true rfl) ?_
  refine r_put_i kX6_25 dX6_addNumber_7 KD_110 ?_
  refine r_aload_n dX6_addNumber_10 rfl (by rfl) ?_
  refine r_get_i kX6_25 dX6_addNumber_11 KD_110 ?_
  rw [up2_at]
  refine r_if_eq (tgt := 19) dX6_addNumber_14 (by decide) (by unfold inR; omega) (fun hq => ?_) (fun hq => ?_)
  · have f0 : (0 ≤ a ∧ a < 8) ∧ plM σ (σ 111 0 - 1) a = -1 ∧ σ 111 0 ≠ 12 := by
      unfold rf_refusesNumber at hq
      (repeat' split at hq) <;> omega
    have hw8 := hw a (by omega) (by omega) (by omega)
    refine r_aload_n dX6_addNumber_19 rfl (by rfl) ?_
    refine r_callV0 (ct_X6_saves (by first | exact hJ | exact sJ _ | omega | (unfold inR; omega) | (rw [u3]; omega) | (simp only [s1, sg, sp]; omega) | exact ha | exact hm) (by first | exact hJ | exact sJ _ | omega | (unfold inR; omega) | (rw [u3]; omega) | (simp only [s1, sg, sp]; omega) | exact ha | exact hm)) fX6_saves qX6_72 dX6_addNumber_20 KD_110 (by decide) ⟨Nat.zero_le _, Nat.zero_le _⟩ (Nat.le_of_ble_eq_true rfl) ?_
    refine r_aload_n dX6_addNumber_23 rfl (by rfl) ?_
    refine r_iload_n dX6_addNumber_24 rfl (by rfl) ?_
    refine r_iload_n dX6_addNumber_25 rfl (by rfl) ?_
    refine r_callV2 (ct_X6_addsNumber (by first | exact hJ | exact sJ _ | omega | (unfold inR; omega) | (rw [u3]; omega) | (simp only [s1, sg, sp]; omega) | exact ha | exact hm) (by first | exact hJ | exact sJ _ | omega | (unfold inR; omega) | (rw [u3]; omega) | (simp only [s1, sg, sp]; omega) | exact ha | exact hm) (by first | exact hJ | exact sJ _ | omega | (unfold inR; omega) | (rw [u3]; omega) | (simp only [s1, sg, sp]; omega) | exact ha | exact hm) _ _) fX6_addsNumber qX6_75 dX6_addNumber_26 KD_110 (by decide) ⟨Nat.zero_le _, Nat.zero_le _⟩ (Nat.le_of_ble_eq_true rfl) ?_
    refine r_aload_n dX6_addNumber_29 rfl (by rfl) ?_
    refine r_callV0 ct_X6_newest fX6_newest qX6_44 dX6_addNumber_30 KD_110 (by decide) ⟨Nat.zero_le _, Nat.zero_le _⟩ (Nat.le_of_ble_eq_true rfl) ?_
    exact r_ret_i dX6_addNumber_33 rfl ⟨Nat.zero_le _, Nat.zero_le _⟩ (by rw [if_pos (by omega), hq]) ⟨rfl, rfl, (by rw [if_pos (by omega), hq]), rfl, rfl⟩
  · skip
    refine r_iconst dX6_addNumber_17 ?_
    exact r_ret_i dX6_addNumber_18 rfl ⟨Nat.zero_le _, Nat.zero_le _⟩ (by rw [if_neg (by omega)]) ⟨rfl, rfl, (by rw [if_neg (by omega)]), rfl, rfl⟩

set_option maxRecDepth 100000 in
set_option maxHeartbeats 4000000 in
theorem ct_X6_addCopy {l : Launch} {G : GG} {π : Nat → Option Nat} {σ τ : ST} (hJ : MJ σ) (hn0 : 0 ≤ σ 110 3) (hn1 : σ 110 3 ≤ 6) (hw : ∀ a : Int, 0 ≤ a → a < 8 → plM σ (σ 111 0 - 1) a = -1 → gM σ (σ 111 0 - 1) 0 < 8) (a : Int) (ha : inR a) (b : Int) (hb : inR b) (c : Int) (hc : inR c) : Ct l G mX6_addCopy (4, 0, 0) [.ref 110, .int (iI a), .int (iI b), .int (iI c)] 117 KD σ τ (RHO π) (KQ (some (.int (iI (if rf_refusesCopy σ a b c = 0 then acM (svM (up2 σ 110 0 0)) a b c 111 0 - 1 else 0)))) 117 KD (if rf_refusesCopy σ a b c = 0 then acM (svM (up2 σ 110 0 0)) a b c else up2 σ 110 0 (rf_refusesCopy σ a b c)) τ (RHO π)) := by
  have hz := hJ.sz
  have hmk := hJ.mk
  have hro := hJ.ro
  have u3 : ∀ e, up2 σ 110 0 e 110 3 = σ 110 3 := fun e => up2_el _ _ _ (by decide)
  have s1 := fun e => sv1 σ e
  have sJ := fun e => MJ_cg (sv1 σ e) hJ
  have sg := fun e => gM_cg (sv1 σ e)
  have sp := fun e => plM_cg (sv1 σ e)
  have er : 0 ≤ rf_refusesCopy σ a b c ∧ rf_refusesCopy σ a b c ≤ 2 := by unfold rf_refusesCopy; (repeat' split) <;> omega
  have ra := ha
  unfold inR at ra
  have rb := hb
  unfold inR at rb
  have rc := hc
  unfold inR at rc
  refine ct_intro (own := "ShapedRowsModel") rfl (by decide +kernel) (Nat.le_of_ble_eq_true rfl) (L := _) rfl ?_
  refine r_aload_n dX6_addCopy_0 rfl (by rfl) ?_
  refine r_aload_n dX6_addCopy_1 rfl (by rfl) ?_
  refine r_iload_n dX6_addCopy_2 rfl (by rfl) ?_
  refine r_iload_n dX6_addCopy_3 rfl (by rfl) ?_
  refine r_iload_n dX6_addCopy_4 rfl (by rfl) ?_
  refine r_callV3 (ct_X6_refusesCopy (by first | exact hJ | exact sJ _ | omega | (unfold inR; omega) | (rw [u3]; omega) | (simp only [s1, sg, sp]; omega) | exact ha | exact hb | exact hc) _ (by first | exact hJ | exact sJ _ | omega | (unfold inR; omega) | (rw [u3]; omega) | (simp only [s1, sg, sp]; omega) | exact ha | exact hb | exact hc) _ (by first | exact hJ | exact sJ _ | omega | (unfold inR; omega) | (rw [u3]; omega) | (simp only [s1, sg, sp]; omega) | exact ha | exact hb | exact hc) _ (by first | exact hJ | exact sJ _ | omega | (unfold inR; omega) | (rw [u3]; omega) | (simp only [s1, sg, sp]; omega) | exact ha | exact hb | exact hc)) fX6_refusesCopy qX6_79 dX6_addCopy_5 KD_110 (by decide) ⟨Nat.zero_le _, Nat.zero_le _⟩ (Nat.le_of_ble_eq_true rfl) ?_
  refine r_put_i kX6_25 dX6_addCopy_8 KD_110 ?_
  refine r_aload_n dX6_addCopy_11 rfl (by rfl) ?_
  refine r_get_i kX6_25 dX6_addCopy_12 KD_110 ?_
  rw [up2_at]
  refine r_if_eq (tgt := 20) dX6_addCopy_15 (by decide) (by unfold inR; omega) (fun hq => ?_) (fun hq => ?_)
  · have f0 : (0 ≤ a ∧ a < 8) ∧ plM σ (σ 111 0 - 1) a = -1 ∧ σ 111 0 ≠ 12 := by
      unfold rf_refusesCopy at hq
      (repeat' split at hq) <;> omega
    have hw8 := hw a (by omega) (by omega) (by omega)
    refine r_aload_n dX6_addCopy_20 rfl (by rfl) ?_
    refine r_callV0 (ct_X6_saves (by first | exact hJ | exact sJ _ | omega | (unfold inR; omega) | (rw [u3]; omega) | (simp only [s1, sg, sp]; omega) | exact ha | exact hb | exact hc) (by first | exact hJ | exact sJ _ | omega | (unfold inR; omega) | (rw [u3]; omega) | (simp only [s1, sg, sp]; omega) | exact ha | exact hb | exact hc)) fX6_saves qX6_72 dX6_addCopy_21 KD_110 (by decide) ⟨Nat.zero_le _, Nat.zero_le _⟩ (Nat.le_of_ble_eq_true rfl) ?_
    refine r_aload_n dX6_addCopy_24 rfl (by rfl) ?_
    refine r_iload_n dX6_addCopy_25 rfl (by rfl) ?_
    refine r_iload_n dX6_addCopy_26 rfl (by rfl) ?_
    refine r_iload_n dX6_addCopy_27 rfl (by rfl) ?_
    refine r_callV3 (ct_X6_addsCopy (by first | exact hJ | exact sJ _ | omega | (unfold inR; omega) | (rw [u3]; omega) | (simp only [s1, sg, sp]; omega) | exact ha | exact hb | exact hc) (by first | exact hJ | exact sJ _ | omega | (unfold inR; omega) | (rw [u3]; omega) | (simp only [s1, sg, sp]; omega) | exact ha | exact hb | exact hc) (by first | exact hJ | exact sJ _ | omega | (unfold inR; omega) | (rw [u3]; omega) | (simp only [s1, sg, sp]; omega) | exact ha | exact hb | exact hc) _ (by first | exact hJ | exact sJ _ | omega | (unfold inR; omega) | (rw [u3]; omega) | (simp only [s1, sg, sp]; omega) | exact ha | exact hb | exact hc) _ (by first | exact hJ | exact sJ _ | omega | (unfold inR; omega) | (rw [u3]; omega) | (simp only [s1, sg, sp]; omega) | exact ha | exact hb | exact hc) _ (by first | exact hJ | exact sJ _ | omega | (unfold inR; omega) | (rw [u3]; omega) | (simp only [s1, sg, sp]; omega) | exact ha | exact hb | exact hc)) fX6_addsCopy qX6_83 dX6_addCopy_28 KD_110 (by decide) ⟨Nat.zero_le _, Nat.zero_le _⟩ (Nat.le_of_ble_eq_true rfl) ?_
    refine r_aload_n dX6_addCopy_31 rfl (by rfl) ?_
    refine r_callV0 ct_X6_newest fX6_newest qX6_44 dX6_addCopy_32 KD_110 (by decide) ⟨Nat.zero_le _, Nat.zero_le _⟩ (Nat.le_of_ble_eq_true rfl) ?_
    exact r_ret_i dX6_addCopy_35 rfl ⟨Nat.zero_le _, Nat.zero_le _⟩ (by rw [if_pos (by omega), hq]) ⟨rfl, rfl, (by rw [if_pos (by omega), hq]), rfl, rfl⟩
  · skip
    refine r_iconst dX6_addCopy_18 ?_
    exact r_ret_i dX6_addCopy_19 rfl ⟨Nat.zero_le _, Nat.zero_le _⟩ (by rw [if_neg (by omega)]) ⟨rfl, rfl, (by rw [if_neg (by omega)]), rfl, rfl⟩

set_option maxRecDepth 100000 in
set_option maxHeartbeats 4000000 in
theorem ct_X6_rename {l : Launch} {G : GG} {π : Nat → Option Nat} {σ τ : ST} (hJ : MJ σ) (hn0 : 0 ≤ σ 110 3) (hn1 : σ 110 3 ≤ 6) (a : Int) (ha : inR a) (b : Int) (hb : inR b) : Ct l G mX6_rename (4, 0, 0) [.ref 110, .int (iI a), .int (iI b)] 117 KD σ τ (RHO π) (KQ (some (.int (iI (if rf_refusesRename σ a b = 0 then rnM (svM (up2 σ 110 0 0)) a b 111 0 - 1 else 0)))) 117 KD (if rf_refusesRename σ a b = 0 then rnM (svM (up2 σ 110 0 0)) a b else up2 σ 110 0 (rf_refusesRename σ a b)) τ (RHO π)) := by
  have hz := hJ.sz
  have hmk := hJ.mk
  have hro := hJ.ro
  have u3 : ∀ e, up2 σ 110 0 e 110 3 = σ 110 3 := fun e => up2_el _ _ _ (by decide)
  have s1 := fun e => sv1 σ e
  have sJ := fun e => MJ_cg (sv1 σ e) hJ
  have sg := fun e => gM_cg (sv1 σ e)
  have sp := fun e => plM_cg (sv1 σ e)
  have er : 0 ≤ rf_refusesRename σ a b ∧ rf_refusesRename σ a b ≤ 2 := by unfold rf_refusesRename; (repeat' split) <;> omega
  have ra := ha
  unfold inR at ra
  have rb := hb
  unfold inR at rb
  refine ct_intro (own := "ShapedRowsModel") rfl (by decide +kernel) (Nat.le_of_ble_eq_true rfl) (L := _) rfl ?_
  refine r_aload_n dX6_rename_0 rfl (by rfl) ?_
  refine r_aload_n dX6_rename_1 rfl (by rfl) ?_
  refine r_iload_n dX6_rename_2 rfl (by rfl) ?_
  refine r_iload_n dX6_rename_3 rfl (by rfl) ?_
  refine r_callV2 (ct_X6_refusesRename (by first | exact hJ | exact sJ _ | omega | (unfold inR; omega) | (rw [u3]; omega) | (simp only [s1, sg, sp]; omega) | exact ha | exact hb) _ (by first | exact hJ | exact sJ _ | omega | (unfold inR; omega) | (rw [u3]; omega) | (simp only [s1, sg, sp]; omega) | exact ha | exact hb) _ (by first | exact hJ | exact sJ _ | omega | (unfold inR; omega) | (rw [u3]; omega) | (simp only [s1, sg, sp]; omega) | exact ha | exact hb)) fX6_refusesRename qX6_92 dX6_rename_4 KD_110 (by decide) ⟨Nat.zero_le _, Nat.zero_le _⟩ (Nat.le_of_ble_eq_true rfl) ?_
  refine r_put_i kX6_25 dX6_rename_7 KD_110 ?_
  refine r_aload_n dX6_rename_10 rfl (by rfl) ?_
  refine r_get_i kX6_25 dX6_rename_11 KD_110 ?_
  rw [up2_at]
  refine r_if_eq (tgt := 19) dX6_rename_14 (by decide) (by unfold inR; omega) (fun hq => ?_) (fun hq => ?_)
  · have f0 : plM σ (σ 111 0 - 1) a ≠ -1 ∧ σ 111 0 ≠ 12 := by
      unfold rf_refusesRename at hq
      (repeat' split at hq) <;> omega
    skip
    refine r_aload_n dX6_rename_19 rfl (by rfl) ?_
    refine r_callV0 (ct_X6_saves (by first | exact hJ | exact sJ _ | omega | (unfold inR; omega) | (rw [u3]; omega) | (simp only [s1, sg, sp]; omega) | exact ha | exact hb) (by first | exact hJ | exact sJ _ | omega | (unfold inR; omega) | (rw [u3]; omega) | (simp only [s1, sg, sp]; omega) | exact ha | exact hb)) fX6_saves qX6_72 dX6_rename_20 KD_110 (by decide) ⟨Nat.zero_le _, Nat.zero_le _⟩ (Nat.le_of_ble_eq_true rfl) ?_
    refine r_aload_n dX6_rename_23 rfl (by rfl) ?_
    refine r_iload_n dX6_rename_24 rfl (by rfl) ?_
    refine r_iload_n dX6_rename_25 rfl (by rfl) ?_
    refine r_callV2 (ct_X6_renames (by first | exact hJ | exact sJ _ | omega | (unfold inR; omega) | (rw [u3]; omega) | (simp only [s1, sg, sp]; omega) | exact ha | exact hb) (by first | exact hJ | exact sJ _ | omega | (unfold inR; omega) | (rw [u3]; omega) | (simp only [s1, sg, sp]; omega) | exact ha | exact hb) _ (by first | exact hJ | exact sJ _ | omega | (unfold inR; omega) | (rw [u3]; omega) | (simp only [s1, sg, sp]; omega) | exact ha | exact hb) _ (by first | exact hJ | exact sJ _ | omega | (unfold inR; omega) | (rw [u3]; omega) | (simp only [s1, sg, sp]; omega) | exact ha | exact hb) (by first | exact hJ | exact sJ _ | omega | (unfold inR; omega) | (rw [u3]; omega) | (simp only [s1, sg, sp]; omega) | exact ha | exact hb)) fX6_renames qX6_95 dX6_rename_26 KD_110 (by decide) ⟨Nat.zero_le _, Nat.zero_le _⟩ (Nat.le_of_ble_eq_true rfl) ?_
    refine r_aload_n dX6_rename_29 rfl (by rfl) ?_
    refine r_callV0 ct_X6_newest fX6_newest qX6_44 dX6_rename_30 KD_110 (by decide) ⟨Nat.zero_le _, Nat.zero_le _⟩ (Nat.le_of_ble_eq_true rfl) ?_
    exact r_ret_i dX6_rename_33 rfl ⟨Nat.zero_le _, Nat.zero_le _⟩ (by rw [if_pos (by omega), hq]) ⟨rfl, rfl, (by rw [if_pos (by omega), hq]), rfl, rfl⟩
  · skip
    refine r_iconst dX6_rename_17 ?_
    exact r_ret_i dX6_rename_18 rfl ⟨Nat.zero_le _, Nat.zero_le _⟩ (by rw [if_neg (by omega)]) ⟨rfl, rfl, (by rw [if_neg (by omega)]), rfl, rfl⟩

set_option maxRecDepth 100000 in
set_option maxHeartbeats 4000000 in
theorem ct_X6_insert {l : Launch} {G : GG} {π : Nat → Option Nat} {σ τ : ST} (hJ : MJ σ) (hn0 : 0 ≤ σ 110 3) (hn1 : σ 110 3 ≤ 6)  : Ct l G mX6_insert (2, 0, 0) [.ref 110] 117 KD σ τ (RHO π) (KQ (some (.int (iI (if σ 111 2 = 12 then 0 else inF (svM (up2 σ 110 0 0)) (σ 111 0 - 1) 111 2 - 1)))) 117 KD (if σ 111 2 = 12 then up2 (up2 σ 110 0 0) 110 0 1 else inF (svM (up2 σ 110 0 0)) (σ 111 0 - 1)) τ (RHO π)) := by
  have hz := hJ.sz
  have hmk := hJ.mk
  have hro := hJ.ro
  have u3 : ∀ e, up2 σ 110 0 e 110 3 = σ 110 3 := fun e => up2_el _ _ _ (by decide)
  have s1 := fun e => sv1 σ e
  have sJ := fun e => MJ_cg (sv1 σ e) hJ
  have sg := fun e => gM_cg (sv1 σ e)
  have sp := fun e => plM_cg (sv1 σ e)
  have z1 : up2 σ 110 0 0 111 = σ 111 := up2_off _ (by decide)
  refine ct_intro (own := "ShapedRowsModel") rfl (by decide +kernel) (Nat.le_of_ble_eq_true rfl) (L := _) rfl ?_
  refine r_aload_n dX6_insert_0 rfl (by rfl) ?_
  refine r_iconst dX6_insert_1 ?_
  refine r_put_i kX6_25 dX6_insert_2 KD_110 ?_
  refine r_aload_n dX6_insert_5 rfl (by rfl) ?_
  refine r_get_r kX6_7 dX6_insert_6 KD_110 (RHO_110_1 _) ?_
  refine r_iconst dX6_insert_9 ?_
  refine r_iaload (k := 2) dX6_insert_10 KD_111 (by omega) (by omega) (by decide) ?_
  rw [z1]
  refine r_bipush dX6_insert_11 (by decide) ?_
  refine r_icmp_ne (tgt := 22) dX6_insert_13 (by decide) (by unfold inR; omega) (by unfold inR; omega) (fun c_1 => ?_) (fun c_1 => ?_)
  · refine r_aload_n dX6_insert_22 rfl (by rfl) ?_
    refine r_callV0 (ct_X6_saves (by first | exact hJ | exact sJ _ | omega | (unfold inR; omega) | (rw [u3]; omega) | (simp only [s1, sg, sp]; omega) | (rw [s1]; omega)) (by first | exact hJ | exact sJ _ | omega | (unfold inR; omega) | (rw [u3]; omega) | (simp only [s1, sg, sp]; omega) | (rw [s1]; omega))) fX6_saves qX6_72 dX6_insert_23 KD_110 (by decide) ⟨Nat.zero_le _, Nat.zero_le _⟩ (Nat.le_of_ble_eq_true rfl) ?_
    refine r_aload_n dX6_insert_26 rfl (by rfl) ?_
    refine r_aload_n dX6_insert_27 rfl (by rfl) ?_
    refine r_callV0 ct_X6_newest fX6_newest qX6_44 dX6_insert_28 KD_110 (by decide) ⟨Nat.zero_le _, Nat.zero_le _⟩ (Nat.le_of_ble_eq_true rfl) ?_
    rw [s1]
    refine r_callV1 (ct_X6_inserts (by first | exact hJ | exact sJ _ | omega | (unfold inR; omega) | (rw [u3]; omega) | (simp only [s1, sg, sp]; omega) | (rw [s1]; omega)) (by first | exact hJ | exact sJ _ | omega | (unfold inR; omega) | (rw [u3]; omega) | (simp only [s1, sg, sp]; omega) | (rw [s1]; omega)) _) fX6_inserts qX6_124 dX6_insert_31 KD_110 (by decide) ⟨Nat.zero_le _, Nat.zero_le _⟩ (Nat.le_of_ble_eq_true rfl) ?_
    refine r_aload_n dX6_insert_34 rfl (by rfl) ?_
    refine r_get_r kX6_7 dX6_insert_35 KD_110 (RHO_110_1 _) ?_
    refine r_iconst dX6_insert_38 ?_
    refine r_iaload (k := 2) dX6_insert_39 KD_111 (by omega) (by omega) (by decide) ?_
    refine r_iconst dX6_insert_40 ?_
    refine r_isub dX6_insert_41 ?_
    exact r_ret_i dX6_insert_42 rfl ⟨Nat.zero_le _, Nat.zero_le _⟩ (by rw [if_neg (by omega)]) ⟨rfl, rfl, (by rw [if_neg (by omega)]), rfl, rfl⟩
  · refine r_aload_n dX6_insert_16 rfl (by rfl) ?_
    refine r_iconst dX6_insert_17 ?_
    refine r_callV1 (ct_X6_fails _) fX6_fails qX6_120 dX6_insert_18 KD_110 (by decide) ⟨Nat.zero_le _, Nat.zero_le _⟩ (Nat.le_of_ble_eq_true rfl) ?_
    exact r_ret_i dX6_insert_21 rfl ⟨Nat.zero_le _, Nat.zero_le _⟩ (by rw [if_pos (by omega)]) ⟨rfl, rfl, (by rw [if_pos (by omega)]), rfl, rfl⟩

set_option maxRecDepth 100000 in
set_option maxHeartbeats 4000000 in
theorem ct_X6_insertBy {l : Launch} {G : GG} {π : Nat → Option Nat} {σ τ : ST} (hJ : MJ σ) (hn0 : 0 ≤ σ 110 3) (hn1 : σ 110 3 ≤ 6) (s : Int) (hs : inR s) : Ct l G mX6_insertBy (2, 0, 0) [.ref 110, .int (iI s)] 117 KD σ τ (RHO π) (KQ (some (.int (iI (if ¬ (σ 111 1 ≤ s ∧ s ≤ σ 111 0 - 1) then 0 else if σ 111 2 = 12 then 0 else inF (svM (up2 σ 110 0 0)) s 111 2 - 1)))) 117 KD (if ¬ (σ 111 1 ≤ s ∧ s ≤ σ 111 0 - 1) then up2 (up2 σ 110 0 0) 110 0 1 else if σ 111 2 = 12 then up2 (up2 σ 110 0 0) 110 0 2 else inF (svM (up2 σ 110 0 0)) s) τ (RHO π)) := by
  have hz := hJ.sz
  have hmk := hJ.mk
  have hro := hJ.ro
  have u3 : ∀ e, up2 σ 110 0 e 110 3 = σ 110 3 := fun e => up2_el _ _ _ (by decide)
  have s1 := fun e => sv1 σ e
  have sJ := fun e => MJ_cg (sv1 σ e) hJ
  have sg := fun e => gM_cg (sv1 σ e)
  have sp := fun e => plM_cg (sv1 σ e)
  have z1 : up2 σ 110 0 0 111 = σ 111 := up2_off _ (by decide)
  have rs := hs
  unfold inR at rs
  refine ct_intro (own := "ShapedRowsModel") rfl (by decide +kernel) (Nat.le_of_ble_eq_true rfl) (L := _) rfl ?_
  refine r_aload_n dX6_insertBy_0 rfl (by rfl) ?_
  refine r_iconst dX6_insertBy_1 ?_
  refine r_put_i kX6_25 dX6_insertBy_2 KD_110 ?_
  refine r_aload_n dX6_insertBy_5 rfl (by rfl) ?_
  refine r_iload_n dX6_insertBy_6 rfl (by rfl) ?_
  refine r_callV1 (ct_X6_isInUse (by first | exact hJ | exact sJ _ | omega | (unfold inR; omega) | (rw [u3]; omega) | (simp only [s1, sg, sp]; omega) | (rw [s1]; omega) | exact hs | exact MJ_cg z1 hJ) _ (by first | exact hJ | exact sJ _ | omega | (unfold inR; omega) | (rw [u3]; omega) | (simp only [s1, sg, sp]; omega) | (rw [s1]; omega) | exact hs | exact MJ_cg z1 hJ)) fX6_isInUse qX6_127 dX6_insertBy_7 KD_110 (by decide) ⟨Nat.zero_le _, Nat.zero_le _⟩ (Nat.le_of_ble_eq_true rfl) ?_
  rw [z1]
  refine r_ifne_b (tgt := 19) dX6_insertBy_10 (by decide) (fun c_1 => ?_) (fun c_1 => ?_)
  · refine r_aload_n dX6_insertBy_19 rfl (by rfl) ?_
    refine r_get_r kX6_7 dX6_insertBy_20 KD_110 (RHO_110_1 _) ?_
    refine r_iconst dX6_insertBy_23 ?_
    refine r_iaload (k := 2) dX6_insertBy_24 KD_111 (by omega) (by omega) (by decide) ?_
    rw [z1]
    refine r_bipush dX6_insertBy_25 (by decide) ?_
    refine r_icmp_ne (tgt := 36) dX6_insertBy_27 (by decide) (by unfold inR; omega) (by unfold inR; omega) (fun c_2 => ?_) (fun c_2 => ?_)
    · refine r_aload_n dX6_insertBy_36 rfl (by rfl) ?_
      refine r_callV0 (ct_X6_saves (by first | exact hJ | exact sJ _ | omega | (unfold inR; omega) | (rw [u3]; omega) | (simp only [s1, sg, sp]; omega) | (rw [s1]; omega) | exact hs | exact MJ_cg z1 hJ) (by first | exact hJ | exact sJ _ | omega | (unfold inR; omega) | (rw [u3]; omega) | (simp only [s1, sg, sp]; omega) | (rw [s1]; omega) | exact hs | exact MJ_cg z1 hJ)) fX6_saves qX6_72 dX6_insertBy_37 KD_110 (by decide) ⟨Nat.zero_le _, Nat.zero_le _⟩ (Nat.le_of_ble_eq_true rfl) ?_
      refine r_aload_n dX6_insertBy_40 rfl (by rfl) ?_
      refine r_iload_n dX6_insertBy_41 rfl (by rfl) ?_
      refine r_callV1 (ct_X6_inserts (by first | exact hJ | exact sJ _ | omega | (unfold inR; omega) | (rw [u3]; omega) | (simp only [s1, sg, sp]; omega) | (rw [s1]; omega) | exact hs | exact MJ_cg z1 hJ) (by first | exact hJ | exact sJ _ | omega | (unfold inR; omega) | (rw [u3]; omega) | (simp only [s1, sg, sp]; omega) | (rw [s1]; omega) | exact hs | exact MJ_cg z1 hJ) _) fX6_inserts qX6_124 dX6_insertBy_42 KD_110 (by decide) ⟨Nat.zero_le _, Nat.zero_le _⟩ (Nat.le_of_ble_eq_true rfl) ?_
      refine r_aload_n dX6_insertBy_45 rfl (by rfl) ?_
      refine r_get_r kX6_7 dX6_insertBy_46 KD_110 (RHO_110_1 _) ?_
      refine r_iconst dX6_insertBy_49 ?_
      refine r_iaload (k := 2) dX6_insertBy_50 KD_111 (by omega) (by omega) (by decide) ?_
      refine r_iconst dX6_insertBy_51 ?_
      refine r_isub dX6_insertBy_52 ?_
      exact r_ret_i dX6_insertBy_53 rfl ⟨Nat.zero_le _, Nat.zero_le _⟩ (by rw [if_neg (by omega), if_neg (by omega)]) ⟨rfl, rfl, (by rw [if_neg (by omega), if_neg (by omega)]), rfl, rfl⟩
    · refine r_aload_n dX6_insertBy_30 rfl (by rfl) ?_
      refine r_iconst dX6_insertBy_31 ?_
      refine r_callV1 (ct_X6_fails _) fX6_fails qX6_120 dX6_insertBy_32 KD_110 (by decide) ⟨Nat.zero_le _, Nat.zero_le _⟩ (Nat.le_of_ble_eq_true rfl) ?_
      exact r_ret_i dX6_insertBy_35 rfl ⟨Nat.zero_le _, Nat.zero_le _⟩ (by rw [if_neg (by omega), if_pos (by omega)]) ⟨rfl, rfl, (by rw [if_neg (by omega), if_pos (by omega)]), rfl, rfl⟩
  · refine r_aload_n dX6_insertBy_13 rfl (by rfl) ?_
    refine r_iconst dX6_insertBy_14 ?_
    refine r_callV1 (ct_X6_fails _) fX6_fails qX6_120 dX6_insertBy_15 KD_110 (by decide) ⟨Nat.zero_le _, Nat.zero_le _⟩ (Nat.le_of_ble_eq_true rfl) ?_
    exact r_ret_i dX6_insertBy_18 rfl ⟨Nat.zero_le _, Nat.zero_le _⟩ (by rw [if_pos (by omega)]) ⟨rfl, rfl, (by rw [if_pos (by omega)]), rfl, rfl⟩
