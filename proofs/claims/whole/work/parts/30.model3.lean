set_option maxRecDepth 100000 in
set_option maxHeartbeats 4000000 in
theorem ct_X6_placeOf {l : Launch} {G : GG} {π : Nat → Option Nat} {σ τ : ST} (hJ : MJ σ) (s : Int) (h0 : 0 ≤ s) (h1 : s < σ 111 0) (a : Int) (ha : inR a) : Ct l G mX6_placeOf (1, 0, 0) [.ref 110, .int (iI s), .int (iI a)] 117 KD σ τ (RHO π) (KQ (some (.int (iI (plM σ s a)))) 117 KD σ τ (RHO π)) := by
  have hw := hJ.wd s h0 h1
  have hz := hJ.sz
  have hmk := hJ.mk
  have hro := hJ.ro
  have ra := ha
  unfold inR at ra
  refine ct_intro (own := "ShapedRowsModel") rfl (by decide +kernel) (Nat.le_of_ble_eq_true rfl) (L := _) rfl ?_
  have cut_2 : ∀ (N : Nat) (k : Int), (0 ≤ k) → (k ≤ gM σ s 0) → (∀ j : Nat, j < k.toNat → gM σ s (9 + (j : Int)) ≠ a) → gM σ s 0 - k < (N : Int) → WP l G "ShapedRowsModel" mX6_placeOf (1, 0, 0) (KQ (some (.int (iI (plM σ s a)))) 117 KD σ τ (RHO π)) noX 117 2 [some (.ref 110), some (.int (iI s)), some (.int (iI a)), some (.int (iI k))] [] 117 KD σ τ (RHO π) 0 0 := by
    intro N
    induction N with
    | zero => intro k k0 k1 hne hm; exact absurd hm (by omega)
    | succ N ih =>
      intro k k0 k1 hne hm
      refine r_iload_n dX6_placeOf_2 rfl (by rfl) ?_
      refine r_aload_n dX6_placeOf_3 rfl (by rfl) ?_
      refine r_iload_n dX6_placeOf_4 rfl (by rfl) ?_
      refine r_iconst dX6_placeOf_5 ?_
      refine r_callV2 (ct_X6_get _ _ (by omega) (by omega)) fX6_get qX6_36 dX6_placeOf_6 KD_110 (by decide) ⟨Nat.zero_le _, Nat.zero_le _⟩ (Nat.le_of_ble_eq_true rfl) ?_
      refine r_icmp_ge (tgt := 33) dX6_placeOf_9 (by decide) (by unfold inR; omega) (by unfold inR; omega) (fun c_1 => ?_) (fun c_1 => ?_)
      · refine r_iconst dX6_placeOf_33 ?_
        exact r_ret_i dX6_placeOf_34 rfl ⟨Nat.zero_le _, Nat.zero_le _⟩ (by have e := fnd_no (f := fun j => gM σ s (9 + (j : Int))) (a := a) (n := (gM σ s 0).toNat) (fun j hj => hne j (by omega)); unfold plM; omega) ⟨rfl, rfl, (by first | rfl | omega), rfl, rfl⟩
      · refine r_aload_n dX6_placeOf_12 rfl (by rfl) ?_
        refine r_iload_n dX6_placeOf_13 rfl (by rfl) ?_
        refine r_bipush dX6_placeOf_14 (by decide) ?_
        refine r_iload_n dX6_placeOf_16 rfl (by rfl) ?_
        refine r_iadd dX6_placeOf_17 ?_
        refine r_callV2 (ct_X6_get _ _ (by omega) (by omega)) fX6_get qX6_36 dX6_placeOf_18 KD_110 (by decide) ⟨Nat.zero_le _, Nat.zero_le _⟩ (Nat.le_of_ble_eq_true rfl) ?_
        refine r_iload_n dX6_placeOf_21 rfl (by rfl) ?_
        have hcl := hJ.cl s k h0 h1 k0 (by omega)
        refine r_icmp_ne (tgt := 27) dX6_placeOf_22 (by decide) (by unfold inR; omega) (by unfold inR; omega) (fun hc => ?_) (fun hc => ?_)
        · refine r_iinc dX6_placeOf_27 (by rfl) (Nat.le_of_ble_eq_true rfl) (L' := [_, _, _, _]) (by rfl) ?_
          refine r_goto (tgt := 2) dX6_placeOf_30 (by decide) ?_
          exact ih (k + 1) (by omega) (by omega) (fun j hj => by
            by_cases e : j = k.toNat
            · rw [e, show ((k.toNat : Nat) : Int) = k by omega]; exact hc
            · exact hne j (by omega)) (by omega)
        · refine r_iload_n dX6_placeOf_25 rfl (by rfl) ?_
          exact r_ret_i dX6_placeOf_26 rfl ⟨Nat.zero_le _, Nat.zero_le _⟩ (by have e := fnd_at (f := fun j => gM σ s (9 + (j : Int))) (a := a) (k := k.toNat) (by rw [show ((k.toNat : Nat) : Int) = k by omega]; exact hc) hne (n := (gM σ s 0).toNat) (by omega); unfold plM; omega) ⟨rfl, rfl, (by first | rfl | omega), rfl, rfl⟩
  refine r_iconst dX6_placeOf_0 ?_
  refine r_istore_n dX6_placeOf_1 rfl (Nat.le_of_ble_eq_true rfl) (L' := [_, _, _, _]) (by rfl) ?_
  exact cut_2 ((gM σ s 0).toNat + 1) 0 (by omega) (by omega) (fun j hj => by omega) (by omega)

set_option maxRecDepth 100000 in
set_option maxHeartbeats 4000000 in
theorem ct_X6_placeOfColumn {l : Launch} {G : GG} {π : Nat → Option Nat} {σ τ : ST} (hJ : MJ σ) (s : Int) (h0 : 0 ≤ s) (h1 : s < σ 111 0) (a : Int) (ha : inR a) : Ct l G mX6_placeOfColumn (1, 0, 0) [.ref 110, .int (iI s), .int (iI a)] 117 KD σ τ (RHO π) (KQ (some (.int (iI (pcM σ s a)))) 117 KD σ τ (RHO π)) := by
  have hw := hJ.wd s h0 h1
  have hz := hJ.sz
  have hmk := hJ.mk
  have hro := hJ.ro
  have ra := ha
  unfold inR at ra
  refine ct_intro (own := "ShapedRowsModel") rfl (by decide +kernel) (Nat.le_of_ble_eq_true rfl) (L := _) rfl ?_
  have cut_2 : ∀ (N : Nat) (k : Int), (0 ≤ k) → (k ≤ gM σ s 0) → (∀ j : Nat, j < k.toNat → gM σ s (1 + (j : Int)) ≠ a) → gM σ s 0 - k < (N : Int) → WP l G "ShapedRowsModel" mX6_placeOfColumn (1, 0, 0) (KQ (some (.int (iI (pcM σ s a)))) 117 KD σ τ (RHO π)) noX 117 2 [some (.ref 110), some (.int (iI s)), some (.int (iI a)), some (.int (iI k))] [] 117 KD σ τ (RHO π) 0 0 := by
    intro N
    induction N with
    | zero => intro k k0 k1 hne hm; exact absurd hm (by omega)
    | succ N ih =>
      intro k k0 k1 hne hm
      refine r_iload_n dX6_placeOfColumn_2 rfl (by rfl) ?_
      refine r_aload_n dX6_placeOfColumn_3 rfl (by rfl) ?_
      refine r_iload_n dX6_placeOfColumn_4 rfl (by rfl) ?_
      refine r_iconst dX6_placeOfColumn_5 ?_
      refine r_callV2 (ct_X6_get _ _ (by omega) (by omega)) fX6_get qX6_36 dX6_placeOfColumn_6 KD_110 (by decide) ⟨Nat.zero_le _, Nat.zero_le _⟩ (Nat.le_of_ble_eq_true rfl) ?_
      refine r_icmp_ge (tgt := 32) dX6_placeOfColumn_9 (by decide) (by unfold inR; omega) (by unfold inR; omega) (fun c_1 => ?_) (fun c_1 => ?_)
      · refine r_iconst dX6_placeOfColumn_32 ?_
        exact r_ret_i dX6_placeOfColumn_33 rfl ⟨Nat.zero_le _, Nat.zero_le _⟩ (by have e := fnd_no (f := fun j => gM σ s (1 + (j : Int))) (a := a) (n := (gM σ s 0).toNat) (fun j hj => hne j (by omega)); unfold pcM; omega) ⟨rfl, rfl, (by first | rfl | omega), rfl, rfl⟩
      · refine r_aload_n dX6_placeOfColumn_12 rfl (by rfl) ?_
        refine r_iload_n dX6_placeOfColumn_13 rfl (by rfl) ?_
        refine r_iconst dX6_placeOfColumn_14 ?_
        refine r_iload_n dX6_placeOfColumn_15 rfl (by rfl) ?_
        refine r_iadd dX6_placeOfColumn_16 ?_
        refine r_callV2 (ct_X6_get _ _ (by omega) (by omega)) fX6_get qX6_36 dX6_placeOfColumn_17 KD_110 (by decide) ⟨Nat.zero_le _, Nat.zero_le _⟩ (Nat.le_of_ble_eq_true rfl) ?_
        refine r_iload_n dX6_placeOfColumn_20 rfl (by rfl) ?_
        have hcl := hJ.cl s k h0 h1 k0 (by omega)
        refine r_icmp_ne (tgt := 26) dX6_placeOfColumn_21 (by decide) (by unfold inR; omega) (by unfold inR; omega) (fun hc => ?_) (fun hc => ?_)
        · refine r_iinc dX6_placeOfColumn_26 (by rfl) (Nat.le_of_ble_eq_true rfl) (L' := [_, _, _, _]) (by rfl) ?_
          refine r_goto (tgt := 2) dX6_placeOfColumn_29 (by decide) ?_
          exact ih (k + 1) (by omega) (by omega) (fun j hj => by
            by_cases e : j = k.toNat
            · rw [e, show ((k.toNat : Nat) : Int) = k by omega]; exact hc
            · exact hne j (by omega)) (by omega)
        · refine r_iload_n dX6_placeOfColumn_24 rfl (by rfl) ?_
          exact r_ret_i dX6_placeOfColumn_25 rfl ⟨Nat.zero_le _, Nat.zero_le _⟩ (by have e := fnd_at (f := fun j => gM σ s (1 + (j : Int))) (a := a) (k := k.toNat) (by rw [show ((k.toNat : Nat) : Int) = k by omega]; exact hc) hne (n := (gM σ s 0).toNat) (by omega); unfold pcM; omega) ⟨rfl, rfl, (by first | rfl | omega), rfl, rfl⟩
  refine r_iconst dX6_placeOfColumn_0 ?_
  refine r_istore_n dX6_placeOfColumn_1 rfl (Nat.le_of_ble_eq_true rfl) (L' := [_, _, _, _]) (by rfl) ?_
  exact cut_2 ((gM σ s 0).toNat + 1) 0 (by omega) (by omega) (fun j hj => by omega) (by omega)

set_option maxRecDepth 100000 in
set_option maxHeartbeats 4000000 in
theorem ct_X6_has {l : Launch} {G : GG} {π : Nat → Option Nat} {σ τ : ST} (hJ : MJ σ) (a : Int) (ha : inR a) : Ct l G mX6_has (2, 0, 0) [.ref 110, .int (iI a)] 117 KD σ τ (RHO π) (KQ (some (.int (iI (if plM σ (σ 111 0 - 1) a ≠ -1 then 1 else 0)))) 117 KD σ τ (RHO π)) := by
  have hz := hJ.sz
  have hmk := hJ.mk
  have hro := hJ.ro
  have hp := plM_rng hJ (σ 111 0 - 1) a (by omega) (by omega)
  have ra := ha
  unfold inR at ra
  refine ct_intro (own := "ShapedRowsModel") rfl (by decide +kernel) (Nat.le_of_ble_eq_true rfl) (L := _) rfl ?_
  refine r_aload_n dX6_has_0 rfl (by rfl) ?_
  refine r_aload_n dX6_has_1 rfl (by rfl) ?_
  refine r_callV0 ct_X6_newest fX6_newest qX6_44 dX6_has_2 KD_110 (by decide) ⟨Nat.zero_le _, Nat.zero_le _⟩ (Nat.le_of_ble_eq_true rfl) ?_
  refine r_iload_n dX6_has_5 rfl (by rfl) ?_
  refine r_callV2 (ct_X6_placeOf (by first | exact hJ | omega | exact ha | (unfold inR; omega)) _ (by first | exact hJ | omega | exact ha | (unfold inR; omega)) (by first | exact hJ | omega | exact ha | (unfold inR; omega)) _ (by first | exact hJ | omega | exact ha | (unfold inR; omega))) fX6_placeOf qX6_48 dX6_has_6 KD_110 (by decide) ⟨Nat.zero_le _, Nat.zero_le _⟩ (Nat.le_of_ble_eq_true rfl) ?_
  refine r_iconst dX6_has_9 ?_
  refine r_icmp_eq (tgt := 17) dX6_has_10 (by decide) (by unfold inR; omega) (by unfold inR; omega) (fun c_1 => ?_) (fun c_1 => ?_)
  · refine r_iconst dX6_has_17 ?_
    exact r_ret_z dX6_has_18 rfl ⟨Nat.zero_le _, Nat.zero_le _⟩ (by first | exact Or.inl rfl | exact Or.inr rfl | (split <;> omega)) (by first | rfl | omega | (split <;> omega)) ⟨rfl, rfl, (by first | rfl | omega), rfl, rfl⟩
  · refine r_iconst dX6_has_13 ?_
    refine r_goto (tgt := 18) dX6_has_14 (by decide) ?_
    exact r_ret_z dX6_has_18 rfl ⟨Nat.zero_le _, Nat.zero_le _⟩ (by first | exact Or.inl rfl | exact Or.inr rfl | (split <;> omega)) (by first | rfl | omega | (split <;> omega)) ⟨rfl, rfl, (by first | rfl | omega), rfl, rfl⟩

def rf_refusesNumber (σ : ST) (a m : Int) : Int := if ¬ (0 ≤ a ∧ a ≤ 8 - 1 ∧ 0 ≤ m ∧ m ≤ 99) then 1 else if plM σ (σ 111 0 - 1) a ≠ -1 ∨ σ 111 0 = 12 then 2 else 0
set_option maxRecDepth 100000 in
set_option maxHeartbeats 4000000 in
theorem ct_X6_refusesNumber {l : Launch} {G : GG} {π : Nat → Option Nat} {σ τ : ST} (hJ : MJ σ) (a : Int) (ha : inR a) (m : Int) (hm : inR m) : Ct l G mX6_refusesNumber (3, 0, 0) [.ref 110, .int (iI a), .int (iI m)] 117 KD σ τ (RHO π) (KQ (some (.int (iI (rf_refusesNumber σ a m)))) 117 KD σ τ (RHO π)) := by
  have hz := hJ.sz
  have hmk := hJ.mk
  have hro := hJ.ro
  have hpa := plM_rng hJ (σ 111 0 - 1) a (by omega) (by omega)
  have hpm := plM_rng hJ (σ 111 0 - 1) m (by omega) (by omega)
  have ra := ha
  unfold inR at ra
  have rm := hm
  unfold inR at rm
  refine ct_intro (own := "ShapedRowsModel") rfl (by decide +kernel) (Nat.le_of_ble_eq_true rfl) (L := _) rfl ?_
  refine r_iload_n dX6_refusesNumber_0 rfl (by rfl) ?_
  refine r_callS1 (ct_X6_isLetter _ (by first | exact hJ | omega | exact ha | exact hm | (unfold inR; omega))) fX6_isLetter qX6_51 dX6_refusesNumber_1 (by decide) ⟨Nat.zero_le _, Nat.zero_le _⟩ (Nat.le_of_ble_eq_true rfl) ?_
  refine r_ifeq_b (tgt := 17) dX6_refusesNumber_4 (by decide) (fun c_1 => ?_) (fun c_1 => ?_)
  · refine r_iconst dX6_refusesNumber_17 ?_
    exact r_ret_i dX6_refusesNumber_18 rfl ⟨Nat.zero_le _, Nat.zero_le _⟩ (by unfold rf_refusesNumber; (repeat' split) <;> omega) ⟨rfl, rfl, (by first | rfl | omega), rfl, rfl⟩
  · refine r_iload_n dX6_refusesNumber_7 rfl (by rfl) ?_
    refine r_iconst dX6_refusesNumber_8 ?_
    refine r_bipush dX6_refusesNumber_9 (by decide) ?_
    refine r_callS3 (ct_X6_in _ (by first | exact hJ | omega | exact ha | exact hm | (unfold inR; omega)) _ (by first | exact hJ | omega | exact ha | exact hm | (unfold inR; omega)) _ (by first | exact hJ | omega | exact ha | exact hm | (unfold inR; omega))) fX6_in qX6_32 dX6_refusesNumber_11 (by decide) ⟨Nat.zero_le _, Nat.zero_le _⟩ (Nat.le_of_ble_eq_true rfl) ?_
    refine r_ifne_b (tgt := 19) dX6_refusesNumber_14 (by decide) (fun c_2 => ?_) (fun c_2 => ?_)
    · refine r_aload_n dX6_refusesNumber_19 rfl (by rfl) ?_
      refine r_iload_n dX6_refusesNumber_20 rfl (by rfl) ?_
      refine r_callV1 (ct_X6_has (by first | exact hJ | omega | exact ha | exact hm | (unfold inR; omega)) _ (by first | exact hJ | omega | exact ha | exact hm | (unfold inR; omega))) fX6_has qX6_55 dX6_refusesNumber_21 KD_110 (by decide) ⟨Nat.zero_le _, Nat.zero_le _⟩ (Nat.le_of_ble_eq_true rfl) ?_
      refine r_ifne_b (tgt := 34) dX6_refusesNumber_24 (by decide) (fun c_3 => ?_) (fun c_3 => ?_)
      · refine r_iconst dX6_refusesNumber_34 ?_
        refine r_goto (tgt := 39) dX6_refusesNumber_35 (by decide) ?_
        exact r_ret_i dX6_refusesNumber_39 rfl ⟨Nat.zero_le _, Nat.zero_le _⟩ (by unfold rf_refusesNumber; (repeat' split) <;> omega) ⟨rfl, rfl, (by first | rfl | omega), rfl, rfl⟩
      · refine r_aload_n dX6_refusesNumber_27 rfl (by rfl) ?_
        refine r_callV0 (ct_X6_isFull (by first | exact hJ | omega | exact ha | exact hm | (unfold inR; omega))) fX6_isFull qX6_58 dX6_refusesNumber_28 KD_110 (by decide) ⟨Nat.zero_le _, Nat.zero_le _⟩ (Nat.le_of_ble_eq_true rfl) ?_
        refine r_ifeq_b (tgt := 38) dX6_refusesNumber_31 (by decide) (fun c_4 => ?_) (fun c_4 => ?_)
        · refine r_iconst dX6_refusesNumber_38 ?_
          exact r_ret_i dX6_refusesNumber_39 rfl ⟨Nat.zero_le _, Nat.zero_le _⟩ (by unfold rf_refusesNumber; (repeat' split) <;> omega) ⟨rfl, rfl, (by first | rfl | omega), rfl, rfl⟩
        · refine r_iconst dX6_refusesNumber_34 ?_
          refine r_goto (tgt := 39) dX6_refusesNumber_35 (by decide) ?_
          exact r_ret_i dX6_refusesNumber_39 rfl ⟨Nat.zero_le _, Nat.zero_le _⟩ (by unfold rf_refusesNumber; (repeat' split) <;> omega) ⟨rfl, rfl, (by first | rfl | omega), rfl, rfl⟩
    · refine r_iconst dX6_refusesNumber_17 ?_
      exact r_ret_i dX6_refusesNumber_18 rfl ⟨Nat.zero_le _, Nat.zero_le _⟩ (by unfold rf_refusesNumber; (repeat' split) <;> omega) ⟨rfl, rfl, (by first | rfl | omega), rfl, rfl⟩

def rf_refusesDrop (σ : ST) (a m : Int) : Int := if ¬ (0 ≤ a ∧ a ≤ 8 - 1 ∧ 0 ≤ m ∧ m ≤ 99) then 1 else if plM σ (σ 111 0 - 1) a = -1 ∨ σ 111 0 = 12 then 2 else 0
set_option maxRecDepth 100000 in
set_option maxHeartbeats 4000000 in
theorem ct_X6_refusesDrop {l : Launch} {G : GG} {π : Nat → Option Nat} {σ τ : ST} (hJ : MJ σ) (a : Int) (ha : inR a) (m : Int) (hm : inR m) : Ct l G mX6_refusesDrop (3, 0, 0) [.ref 110, .int (iI a), .int (iI m)] 117 KD σ τ (RHO π) (KQ (some (.int (iI (rf_refusesDrop σ a m)))) 117 KD σ τ (RHO π)) := by
  have hz := hJ.sz
  have hmk := hJ.mk
  have hro := hJ.ro
  have hpa := plM_rng hJ (σ 111 0 - 1) a (by omega) (by omega)
  have hpm := plM_rng hJ (σ 111 0 - 1) m (by omega) (by omega)
  have ra := ha
  unfold inR at ra
  have rm := hm
  unfold inR at rm
  refine ct_intro (own := "ShapedRowsModel") rfl (by decide +kernel) (Nat.le_of_ble_eq_true rfl) (L := _) rfl ?_
  refine r_iload_n dX6_refusesDrop_0 rfl (by rfl) ?_
  refine r_callS1 (ct_X6_isLetter _ (by first | exact hJ | omega | exact ha | exact hm | (unfold inR; omega))) fX6_isLetter qX6_51 dX6_refusesDrop_1 (by decide) ⟨Nat.zero_le _, Nat.zero_le _⟩ (Nat.le_of_ble_eq_true rfl) ?_
  refine r_ifeq_b (tgt := 17) dX6_refusesDrop_4 (by decide) (fun c_1 => ?_) (fun c_1 => ?_)
  · refine r_iconst dX6_refusesDrop_17 ?_
    exact r_ret_i dX6_refusesDrop_18 rfl ⟨Nat.zero_le _, Nat.zero_le _⟩ (by unfold rf_refusesDrop; (repeat' split) <;> omega) ⟨rfl, rfl, (by first | rfl | omega), rfl, rfl⟩
  · refine r_iload_n dX6_refusesDrop_7 rfl (by rfl) ?_
    refine r_iconst dX6_refusesDrop_8 ?_
    refine r_bipush dX6_refusesDrop_9 (by decide) ?_
    refine r_callS3 (ct_X6_in _ (by first | exact hJ | omega | exact ha | exact hm | (unfold inR; omega)) _ (by first | exact hJ | omega | exact ha | exact hm | (unfold inR; omega)) _ (by first | exact hJ | omega | exact ha | exact hm | (unfold inR; omega))) fX6_in qX6_32 dX6_refusesDrop_11 (by decide) ⟨Nat.zero_le _, Nat.zero_le _⟩ (Nat.le_of_ble_eq_true rfl) ?_
    refine r_ifne_b (tgt := 19) dX6_refusesDrop_14 (by decide) (fun c_2 => ?_) (fun c_2 => ?_)
    · refine r_aload_n dX6_refusesDrop_19 rfl (by rfl) ?_
      refine r_iload_n dX6_refusesDrop_20 rfl (by rfl) ?_
      refine r_callV1 (ct_X6_has (by first | exact hJ | omega | exact ha | exact hm | (unfold inR; omega)) _ (by first | exact hJ | omega | exact ha | exact hm | (unfold inR; omega))) fX6_has qX6_55 dX6_refusesDrop_21 KD_110 (by decide) ⟨Nat.zero_le _, Nat.zero_le _⟩ (Nat.le_of_ble_eq_true rfl) ?_
      refine r_ifeq_b (tgt := 34) dX6_refusesDrop_24 (by decide) (fun c_3 => ?_) (fun c_3 => ?_)
      · refine r_iconst dX6_refusesDrop_34 ?_
        refine r_goto (tgt := 39) dX6_refusesDrop_35 (by decide) ?_
        exact r_ret_i dX6_refusesDrop_39 rfl ⟨Nat.zero_le _, Nat.zero_le _⟩ (by unfold rf_refusesDrop; (repeat' split) <;> omega) ⟨rfl, rfl, (by first | rfl | omega), rfl, rfl⟩
      · refine r_aload_n dX6_refusesDrop_27 rfl (by rfl) ?_
        refine r_callV0 (ct_X6_isFull (by first | exact hJ | omega | exact ha | exact hm | (unfold inR; omega))) fX6_isFull qX6_58 dX6_refusesDrop_28 KD_110 (by decide) ⟨Nat.zero_le _, Nat.zero_le _⟩ (Nat.le_of_ble_eq_true rfl) ?_
        refine r_ifeq_b (tgt := 38) dX6_refusesDrop_31 (by decide) (fun c_4 => ?_) (fun c_4 => ?_)
        · refine r_iconst dX6_refusesDrop_38 ?_
          exact r_ret_i dX6_refusesDrop_39 rfl ⟨Nat.zero_le _, Nat.zero_le _⟩ (by unfold rf_refusesDrop; (repeat' split) <;> omega) ⟨rfl, rfl, (by first | rfl | omega), rfl, rfl⟩
        · refine r_iconst dX6_refusesDrop_34 ?_
          refine r_goto (tgt := 39) dX6_refusesDrop_35 (by decide) ?_
          exact r_ret_i dX6_refusesDrop_39 rfl ⟨Nat.zero_le _, Nat.zero_le _⟩ (by unfold rf_refusesDrop; (repeat' split) <;> omega) ⟨rfl, rfl, (by first | rfl | omega), rfl, rfl⟩
    · refine r_iconst dX6_refusesDrop_17 ?_
      exact r_ret_i dX6_refusesDrop_18 rfl ⟨Nat.zero_le _, Nat.zero_le _⟩ (by unfold rf_refusesDrop; (repeat' split) <;> omega) ⟨rfl, rfl, (by first | rfl | omega), rfl, rfl⟩

def rf_refusesRename (σ : ST) (a b : Int) : Int := if ¬ (0 ≤ a ∧ a ≤ 8 - 1 ∧ 0 ≤ b ∧ b ≤ 8 - 1) then 1 else if plM σ (σ 111 0 - 1) a = -1 ∨ plM σ (σ 111 0 - 1) b ≠ -1 ∨ σ 111 0 = 12 then 2 else 0
set_option maxRecDepth 100000 in
set_option maxHeartbeats 4000000 in
theorem ct_X6_refusesRename {l : Launch} {G : GG} {π : Nat → Option Nat} {σ τ : ST} (hJ : MJ σ) (a : Int) (ha : inR a) (b : Int) (hb : inR b) : Ct l G mX6_refusesRename (3, 0, 0) [.ref 110, .int (iI a), .int (iI b)] 117 KD σ τ (RHO π) (KQ (some (.int (iI (rf_refusesRename σ a b)))) 117 KD σ τ (RHO π)) := by
  have hz := hJ.sz
  have hmk := hJ.mk
  have hro := hJ.ro
  have hpa := plM_rng hJ (σ 111 0 - 1) a (by omega) (by omega)
  have hpb := plM_rng hJ (σ 111 0 - 1) b (by omega) (by omega)
  have ra := ha
  unfold inR at ra
  have rb := hb
  unfold inR at rb
  refine ct_intro (own := "ShapedRowsModel") rfl (by decide +kernel) (Nat.le_of_ble_eq_true rfl) (L := _) rfl ?_
  refine r_iload_n dX6_refusesRename_0 rfl (by rfl) ?_
  refine r_callS1 (ct_X6_isLetter _ (by first | exact hJ | omega | exact ha | exact hb | (unfold inR; omega))) fX6_isLetter qX6_51 dX6_refusesRename_1 (by decide) ⟨Nat.zero_le _, Nat.zero_le _⟩ (Nat.le_of_ble_eq_true rfl) ?_
  refine r_ifeq_b (tgt := 14) dX6_refusesRename_4 (by decide) (fun c_1 => ?_) (fun c_1 => ?_)
  · refine r_iconst dX6_refusesRename_14 ?_
    exact r_ret_i dX6_refusesRename_15 rfl ⟨Nat.zero_le _, Nat.zero_le _⟩ (by unfold rf_refusesRename; (repeat' split) <;> omega) ⟨rfl, rfl, (by first | rfl | omega), rfl, rfl⟩
  · refine r_iload_n dX6_refusesRename_7 rfl (by rfl) ?_
    refine r_callS1 (ct_X6_isLetter _ (by first | exact hJ | omega | exact ha | exact hb | (unfold inR; omega))) fX6_isLetter qX6_51 dX6_refusesRename_8 (by decide) ⟨Nat.zero_le _, Nat.zero_le _⟩ (Nat.le_of_ble_eq_true rfl) ?_
    refine r_ifne_b (tgt := 16) dX6_refusesRename_11 (by decide) (fun c_2 => ?_) (fun c_2 => ?_)
    · refine r_aload_n dX6_refusesRename_16 rfl (by rfl) ?_
      refine r_iload_n dX6_refusesRename_17 rfl (by rfl) ?_
      refine r_callV1 (ct_X6_has (by first | exact hJ | omega | exact ha | exact hb | (unfold inR; omega)) _ (by first | exact hJ | omega | exact ha | exact hb | (unfold inR; omega))) fX6_has qX6_55 dX6_refusesRename_18 KD_110 (by decide) ⟨Nat.zero_le _, Nat.zero_le _⟩ (Nat.le_of_ble_eq_true rfl) ?_
      refine r_ifeq_b (tgt := 39) dX6_refusesRename_21 (by decide) (fun c_3 => ?_) (fun c_3 => ?_)
      · refine r_iconst dX6_refusesRename_39 ?_
        refine r_goto (tgt := 44) dX6_refusesRename_40 (by decide) ?_
        exact r_ret_i dX6_refusesRename_44 rfl ⟨Nat.zero_le _, Nat.zero_le _⟩ (by unfold rf_refusesRename; (repeat' split) <;> omega) ⟨rfl, rfl, (by first | rfl | omega), rfl, rfl⟩
      · refine r_aload_n dX6_refusesRename_24 rfl (by rfl) ?_
        refine r_iload_n dX6_refusesRename_25 rfl (by rfl) ?_
        refine r_callV1 (ct_X6_has (by first | exact hJ | omega | exact ha | exact hb | (unfold inR; omega)) _ (by first | exact hJ | omega | exact ha | exact hb | (unfold inR; omega))) fX6_has qX6_55 dX6_refusesRename_26 KD_110 (by decide) ⟨Nat.zero_le _, Nat.zero_le _⟩ (Nat.le_of_ble_eq_true rfl) ?_
        refine r_ifne_b (tgt := 39) dX6_refusesRename_29 (by decide) (fun c_4 => ?_) (fun c_4 => ?_)
        · refine r_iconst dX6_refusesRename_39 ?_
          refine r_goto (tgt := 44) dX6_refusesRename_40 (by decide) ?_
          exact r_ret_i dX6_refusesRename_44 rfl ⟨Nat.zero_le _, Nat.zero_le _⟩ (by unfold rf_refusesRename; (repeat' split) <;> omega) ⟨rfl, rfl, (by first | rfl | omega), rfl, rfl⟩
        · refine r_aload_n dX6_refusesRename_32 rfl (by rfl) ?_
          refine r_callV0 (ct_X6_isFull (by first | exact hJ | omega | exact ha | exact hb | (unfold inR; omega))) fX6_isFull qX6_58 dX6_refusesRename_33 KD_110 (by decide) ⟨Nat.zero_le _, Nat.zero_le _⟩ (Nat.le_of_ble_eq_true rfl) ?_
          refine r_ifeq_b (tgt := 43) dX6_refusesRename_36 (by decide) (fun c_5 => ?_) (fun c_5 => ?_)
          · refine r_iconst dX6_refusesRename_43 ?_
            exact r_ret_i dX6_refusesRename_44 rfl ⟨Nat.zero_le _, Nat.zero_le _⟩ (by unfold rf_refusesRename; (repeat' split) <;> omega) ⟨rfl, rfl, (by first | rfl | omega), rfl, rfl⟩
          · refine r_iconst dX6_refusesRename_39 ?_
            refine r_goto (tgt := 44) dX6_refusesRename_40 (by decide) ?_
            exact r_ret_i dX6_refusesRename_44 rfl ⟨Nat.zero_le _, Nat.zero_le _⟩ (by unfold rf_refusesRename; (repeat' split) <;> omega) ⟨rfl, rfl, (by first | rfl | omega), rfl, rfl⟩
    · refine r_iconst dX6_refusesRename_14 ?_
      exact r_ret_i dX6_refusesRename_15 rfl ⟨Nat.zero_le _, Nat.zero_le _⟩ (by unfold rf_refusesRename; (repeat' split) <;> omega) ⟨rfl, rfl, (by first | rfl | omega), rfl, rfl⟩

def rf_refusesCopy (σ : ST) (a b c : Int) : Int := if ¬ (0 ≤ a ∧ a ≤ 8 - 1 ∧ 0 ≤ b ∧ b ≤ 8 - 1 ∧ -1 ≤ c ∧ c ≤ 8 - 1) then 1 else if plM σ (σ 111 0 - 1) a ≠ -1 ∨ plM σ (σ 111 0 - 1) b = -1 ∨ (c ≠ -1 ∧ plM σ (σ 111 0 - 1) c = -1) ∨ σ 111 0 = 12 then 2 else 0
set_option maxRecDepth 100000 in
set_option maxHeartbeats 4000000 in
theorem ct_X6_refusesCopy {l : Launch} {G : GG} {π : Nat → Option Nat} {σ τ : ST} (hJ : MJ σ) (a : Int) (ha : inR a) (b : Int) (hb : inR b) (c : Int) (hc : inR c) : Ct l G mX6_refusesCopy (3, 0, 0) [.ref 110, .int (iI a), .int (iI b), .int (iI c)] 117 KD σ τ (RHO π) (KQ (some (.int (iI (rf_refusesCopy σ a b c)))) 117 KD σ τ (RHO π)) := by
  have hz := hJ.sz
  have hmk := hJ.mk
  have hro := hJ.ro
  have hpa := plM_rng hJ (σ 111 0 - 1) a (by omega) (by omega)
  have hpb := plM_rng hJ (σ 111 0 - 1) b (by omega) (by omega)
  have hpc := plM_rng hJ (σ 111 0 - 1) c (by omega) (by omega)
  have ra := ha
  unfold inR at ra
  have rb := hb
  unfold inR at rb
  have rc := hc
  unfold inR at rc
  refine ct_intro (own := "ShapedRowsModel") rfl (by decide +kernel) (Nat.le_of_ble_eq_true rfl) (L := _) rfl ?_
  refine r_iload_n dX6_refusesCopy_0 rfl (by rfl) ?_
  refine r_callS1 (ct_X6_isLetter _ (by first | exact hJ | omega | exact ha | exact hb | exact hc | (unfold inR; omega))) fX6_isLetter qX6_51 dX6_refusesCopy_1 (by decide) ⟨Nat.zero_le _, Nat.zero_le _⟩ (Nat.le_of_ble_eq_true rfl) ?_
  refine r_ifeq_b (tgt := 24) dX6_refusesCopy_4 (by decide) (fun c_1 => ?_) (fun c_1 => ?_)
  · refine r_iconst dX6_refusesCopy_24 ?_
    exact r_ret_i dX6_refusesCopy_25 rfl ⟨Nat.zero_le _, Nat.zero_le _⟩ (by unfold rf_refusesCopy; (repeat' split) <;> omega) ⟨rfl, rfl, (by first | rfl | omega), rfl, rfl⟩
  · refine r_iload_n dX6_refusesCopy_7 rfl (by rfl) ?_
    refine r_callS1 (ct_X6_isLetter _ (by first | exact hJ | omega | exact ha | exact hb | exact hc | (unfold inR; omega))) fX6_isLetter qX6_51 dX6_refusesCopy_8 (by decide) ⟨Nat.zero_le _, Nat.zero_le _⟩ (Nat.le_of_ble_eq_true rfl) ?_
    refine r_ifeq_b (tgt := 24) dX6_refusesCopy_11 (by decide) (fun c_2 => ?_) (fun c_2 => ?_)
    · refine r_iconst dX6_refusesCopy_24 ?_
      exact r_ret_i dX6_refusesCopy_25 rfl ⟨Nat.zero_le _, Nat.zero_le _⟩ (by unfold rf_refusesCopy; (repeat' split) <;> omega) ⟨rfl, rfl, (by first | rfl | omega), rfl, rfl⟩
    · refine r_iload_n dX6_refusesCopy_14 rfl (by rfl) ?_
      refine r_iconst dX6_refusesCopy_15 ?_
      refine r_bipush dX6_refusesCopy_16 (by decide) ?_
      refine r_callS3 (ct_X6_in _ (by first | exact hJ | omega | exact ha | exact hb | exact hc | (unfold inR; omega)) _ (by first | exact hJ | omega | exact ha | exact hb | exact hc | (unfold inR; omega)) _ (by first | exact hJ | omega | exact ha | exact hb | exact hc | (unfold inR; omega))) fX6_in qX6_32 dX6_refusesCopy_18 (by decide) ⟨Nat.zero_le _, Nat.zero_le _⟩ (Nat.le_of_ble_eq_true rfl) ?_
      refine r_ifne_b (tgt := 26) dX6_refusesCopy_21 (by decide) (fun c_3 => ?_) (fun c_3 => ?_)
      · refine r_aload_n dX6_refusesCopy_26 rfl (by rfl) ?_
        refine r_iload_n dX6_refusesCopy_27 rfl (by rfl) ?_
        refine r_callV1 (ct_X6_has (by first | exact hJ | omega | exact ha | exact hb | exact hc | (unfold inR; omega)) _ (by first | exact hJ | omega | exact ha | exact hb | exact hc | (unfold inR; omega))) fX6_has qX6_55 dX6_refusesCopy_28 KD_110 (by decide) ⟨Nat.zero_le _, Nat.zero_le _⟩ (Nat.le_of_ble_eq_true rfl) ?_
        refine r_ifne_b (tgt := 62) dX6_refusesCopy_31 (by decide) (fun c_4 => ?_) (fun c_4 => ?_)
        · refine r_iconst dX6_refusesCopy_62 ?_
          refine r_goto (tgt := 67) dX6_refusesCopy_63 (by decide) ?_
          exact r_ret_i dX6_refusesCopy_67 rfl ⟨Nat.zero_le _, Nat.zero_le _⟩ (by unfold rf_refusesCopy; (repeat' split) <;> omega) ⟨rfl, rfl, (by first | rfl | omega), rfl, rfl⟩
        · refine r_aload_n dX6_refusesCopy_34 rfl (by rfl) ?_
          refine r_iload_n dX6_refusesCopy_35 rfl (by rfl) ?_
          refine r_callV1 (ct_X6_has (by first | exact hJ | omega | exact ha | exact hb | exact hc | (unfold inR; omega)) _ (by first | exact hJ | omega | exact ha | exact hb | exact hc | (unfold inR; omega))) fX6_has qX6_55 dX6_refusesCopy_36 KD_110 (by decide) ⟨Nat.zero_le _, Nat.zero_le _⟩ (Nat.le_of_ble_eq_true rfl) ?_
          refine r_ifeq_b (tgt := 62) dX6_refusesCopy_39 (by decide) (fun c_5 => ?_) (fun c_5 => ?_)
          · refine r_iconst dX6_refusesCopy_62 ?_
            refine r_goto (tgt := 67) dX6_refusesCopy_63 (by decide) ?_
            exact r_ret_i dX6_refusesCopy_67 rfl ⟨Nat.zero_le _, Nat.zero_le _⟩ (by unfold rf_refusesCopy; (repeat' split) <;> omega) ⟨rfl, rfl, (by first | rfl | omega), rfl, rfl⟩
          · refine r_iload_n dX6_refusesCopy_42 rfl (by rfl) ?_
            refine r_iconst dX6_refusesCopy_43 ?_
            refine r_icmp_eq (tgt := 55) dX6_refusesCopy_44 (by decide) (by unfold inR; omega) (by unfold inR; omega) (fun c_6 => ?_) (fun c_6 => ?_)
            · refine r_aload_n dX6_refusesCopy_55 rfl (by rfl) ?_
              refine r_callV0 (ct_X6_isFull (by first | exact hJ | omega | exact ha | exact hb | exact hc | (unfold inR; omega))) fX6_isFull qX6_58 dX6_refusesCopy_56 KD_110 (by decide) ⟨Nat.zero_le _, Nat.zero_le _⟩ (Nat.le_of_ble_eq_true rfl) ?_
              refine r_ifeq_b (tgt := 66) dX6_refusesCopy_59 (by decide) (fun c_7 => ?_) (fun c_7 => ?_)
              · refine r_iconst dX6_refusesCopy_66 ?_
                exact r_ret_i dX6_refusesCopy_67 rfl ⟨Nat.zero_le _, Nat.zero_le _⟩ (by unfold rf_refusesCopy; (repeat' split) <;> omega) ⟨rfl, rfl, (by first | rfl | omega), rfl, rfl⟩
              · refine r_iconst dX6_refusesCopy_62 ?_
                refine r_goto (tgt := 67) dX6_refusesCopy_63 (by decide) ?_
                exact r_ret_i dX6_refusesCopy_67 rfl ⟨Nat.zero_le _, Nat.zero_le _⟩ (by unfold rf_refusesCopy; (repeat' split) <;> omega) ⟨rfl, rfl, (by first | rfl | omega), rfl, rfl⟩
            · refine r_aload_n dX6_refusesCopy_47 rfl (by rfl) ?_
              refine r_iload_n dX6_refusesCopy_48 rfl (by rfl) ?_
              refine r_callV1 (ct_X6_has (by first | exact hJ | omega | exact ha | exact hb | exact hc | (unfold inR; omega)) _ (by first | exact hJ | omega | exact ha | exact hb | exact hc | (unfold inR; omega))) fX6_has qX6_55 dX6_refusesCopy_49 KD_110 (by decide) ⟨Nat.zero_le _, Nat.zero_le _⟩ (Nat.le_of_ble_eq_true rfl) ?_
              refine r_ifeq_b (tgt := 62) dX6_refusesCopy_52 (by decide) (fun c_8 => ?_) (fun c_8 => ?_)
              · refine r_iconst dX6_refusesCopy_62 ?_
                refine r_goto (tgt := 67) dX6_refusesCopy_63 (by decide) ?_
                exact r_ret_i dX6_refusesCopy_67 rfl ⟨Nat.zero_le _, Nat.zero_le _⟩ (by unfold rf_refusesCopy; (repeat' split) <;> omega) ⟨rfl, rfl, (by first | rfl | omega), rfl, rfl⟩
              · refine r_aload_n dX6_refusesCopy_55 rfl (by rfl) ?_
                refine r_callV0 (ct_X6_isFull (by first | exact hJ | omega | exact ha | exact hb | exact hc | (unfold inR; omega))) fX6_isFull qX6_58 dX6_refusesCopy_56 KD_110 (by decide) ⟨Nat.zero_le _, Nat.zero_le _⟩ (Nat.le_of_ble_eq_true rfl) ?_
                refine r_ifeq_b (tgt := 66) dX6_refusesCopy_59 (by decide) (fun c_9 => ?_) (fun c_9 => ?_)
                · refine r_iconst dX6_refusesCopy_66 ?_
                  exact r_ret_i dX6_refusesCopy_67 rfl ⟨Nat.zero_le _, Nat.zero_le _⟩ (by unfold rf_refusesCopy; (repeat' split) <;> omega) ⟨rfl, rfl, (by first | rfl | omega), rfl, rfl⟩
                · refine r_iconst dX6_refusesCopy_62 ?_
                  refine r_goto (tgt := 67) dX6_refusesCopy_63 (by decide) ?_
                  exact r_ret_i dX6_refusesCopy_67 rfl ⟨Nat.zero_le _, Nat.zero_le _⟩ (by unfold rf_refusesCopy; (repeat' split) <;> omega) ⟨rfl, rfl, (by first | rfl | omega), rfl, rfl⟩
      · refine r_iconst dX6_refusesCopy_24 ?_
        exact r_ret_i dX6_refusesCopy_25 rfl ⟨Nat.zero_le _, Nat.zero_le _⟩ (by unfold rf_refusesCopy; (repeat' split) <;> omega) ⟨rfl, rfl, (by first | rfl | omega), rfl, rfl⟩
