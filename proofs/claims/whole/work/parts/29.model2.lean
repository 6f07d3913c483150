set_option maxRecDepth 100000 in
set_option maxHeartbeats 4000000 in
theorem ct_X6_isLetter {l : Launch} {G : GG} {π : Nat → Option Nat} {σ τ : ST} (a : Int) (ha : inR a) : Ct l G mX6_isLetter (1, 0, 0) [.int (iI a)] 117 KD σ τ (RHO π) (KQ (some (.int (iI (if 0 ≤ a ∧ a ≤ 8 - 1 then 1 else 0)))) 117 KD σ τ (RHO π)) := by
  have ra := ha
  unfold inR at ra
  refine ct_intro (own := "ShapedRowsModel") rfl (by decide +kernel) (Nat.le_of_ble_eq_true rfl) (L := _) rfl ?_
  refine r_iload_n dX6_isLetter_0 rfl (by rfl) ?_
  refine r_iconst dX6_isLetter_1 ?_
  refine r_bipush dX6_isLetter_2 (by decide) ?_
  refine r_callS3 (ct_X6_in _ (by first | exact hJ | omega | exact ha | (unfold inR; omega)) _ (by first | exact hJ | omega | exact ha | (unfold inR; omega)) _ (by first | exact hJ | omega | exact ha | (unfold inR; omega))) fX6_in qX6_32 dX6_isLetter_4 (by decide) ⟨Nat.zero_le _, Nat.zero_le _⟩ (Nat.le_of_ble_eq_true rfl) ?_
  exact r_ret_z dX6_isLetter_7 rfl ⟨Nat.zero_le _, Nat.zero_le _⟩ (by first | exact Or.inl rfl | exact Or.inr rfl | (split <;> omega)) (by first | rfl | omega | (split <;> omega)) ⟨rfl, rfl, (by first | rfl | omega), rfl, rfl⟩

set_option maxRecDepth 100000 in
set_option maxHeartbeats 4000000 in
theorem ct_X6_isReader {l : Launch} {G : GG} {π : Nat → Option Nat} {σ τ : ST} (a : Int) (ha : inR a) : Ct l G mX6_isReader (1, 0, 0) [.int (iI a)] 117 KD σ τ (RHO π) (KQ (some (.int (iI (if 0 ≤ a ∧ a ≤ 4 - 1 then 1 else 0)))) 117 KD σ τ (RHO π)) := by
  have ra := ha
  unfold inR at ra
  refine ct_intro (own := "ShapedRowsModel") rfl (by decide +kernel) (Nat.le_of_ble_eq_true rfl) (L := _) rfl ?_
  refine r_iload_n dX6_isReader_0 rfl (by rfl) ?_
  refine r_iconst dX6_isReader_1 ?_
  refine r_iconst dX6_isReader_2 ?_
  refine r_callS3 (ct_X6_in _ (by first | exact hJ | omega | exact ha | (unfold inR; omega)) _ (by first | exact hJ | omega | exact ha | (unfold inR; omega)) _ (by first | exact hJ | omega | exact ha | (unfold inR; omega))) fX6_in qX6_32 dX6_isReader_3 (by decide) ⟨Nat.zero_le _, Nat.zero_le _⟩ (Nat.le_of_ble_eq_true rfl) ?_
  exact r_ret_z dX6_isReader_6 rfl ⟨Nat.zero_le _, Nat.zero_le _⟩ (by first | exact Or.inl rfl | exact Or.inr rfl | (split <;> omega)) (by first | rfl | omega | (split <;> omega)) ⟨rfl, rfl, (by first | rfl | omega), rfl, rfl⟩

set_option maxRecDepth 100000 in
set_option maxHeartbeats 4000000 in
theorem ct_X6_isShape {l : Launch} {G : GG} {π : Nat → Option Nat} {σ τ : ST} (hJ : MJ σ) (s : Int) (hs : inR s) : Ct l G mX6_isShape (1, 0, 0) [.ref 110, .int (iI s)] 117 KD σ τ (RHO π) (KQ (some (.int (iI (if 0 ≤ s ∧ s ≤ σ 111 0 - 1 then 1 else 0)))) 117 KD σ τ (RHO π)) := by
  have hz := hJ.sz
  have hmk := hJ.mk
  have hro := hJ.ro
  have rs := hs
  unfold inR at rs
  refine ct_intro (own := "ShapedRowsModel") rfl (by decide +kernel) (Nat.le_of_ble_eq_true rfl) (L := _) rfl ?_
  refine r_iload_n dX6_isShape_0 rfl (by rfl) ?_
  refine r_iconst dX6_isShape_1 ?_
  refine r_aload_n dX6_isShape_2 rfl (by rfl) ?_
  refine r_get_r kX6_7 dX6_isShape_3 KD_110 (RHO_110_1 _) ?_
  refine r_iconst dX6_isShape_6 ?_
  refine r_iaload (k := 0) dX6_isShape_7 KD_111 (by omega) (by omega) (by decide) ?_
  refine r_iconst dX6_isShape_8 ?_
  refine r_isub dX6_isShape_9 ?_
  refine r_callS3 (ct_X6_in _ (by first | exact hJ | omega | exact hs | (unfold inR; omega)) _ (by first | exact hJ | omega | exact hs | (unfold inR; omega)) _ (by first | exact hJ | omega | exact hs | (unfold inR; omega))) fX6_in qX6_32 dX6_isShape_10 (by decide) ⟨Nat.zero_le _, Nat.zero_le _⟩ (Nat.le_of_ble_eq_true rfl) ?_
  exact r_ret_z dX6_isShape_13 rfl ⟨Nat.zero_le _, Nat.zero_le _⟩ (by first | exact Or.inl rfl | exact Or.inr rfl | (split <;> omega)) (by first | rfl | omega | (split <;> omega)) ⟨rfl, rfl, (by first | rfl | omega), rfl, rfl⟩

set_option maxRecDepth 100000 in
set_option maxHeartbeats 4000000 in
theorem ct_X6_isInUse {l : Launch} {G : GG} {π : Nat → Option Nat} {σ τ : ST} (hJ : MJ σ) (s : Int) (hs : inR s) : Ct l G mX6_isInUse (1, 0, 0) [.ref 110, .int (iI s)] 117 KD σ τ (RHO π) (KQ (some (.int (iI (if σ 111 1 ≤ s ∧ s ≤ σ 111 0 - 1 then 1 else 0)))) 117 KD σ τ (RHO π)) := by
  have hz := hJ.sz
  have hmk := hJ.mk
  have hro := hJ.ro
  have rs := hs
  unfold inR at rs
  refine ct_intro (own := "ShapedRowsModel") rfl (by decide +kernel) (Nat.le_of_ble_eq_true rfl) (L := _) rfl ?_
  refine r_iload_n dX6_isInUse_0 rfl (by rfl) ?_
  refine r_aload_n dX6_isInUse_1 rfl (by rfl) ?_
  refine r_get_r kX6_7 dX6_isInUse_2 KD_110 (RHO_110_1 _) ?_
  refine r_iconst dX6_isInUse_5 ?_
  refine r_iaload (k := 1) dX6_isInUse_6 KD_111 (by omega) (by omega) (by decide) ?_
  refine r_aload_n dX6_isInUse_7 rfl (by rfl) ?_
  refine r_get_r kX6_7 dX6_isInUse_8 KD_110 (RHO_110_1 _) ?_
  refine r_iconst dX6_isInUse_11 ?_
  refine r_iaload (k := 0) dX6_isInUse_12 KD_111 (by omega) (by omega) (by decide) ?_
  refine r_iconst dX6_isInUse_13 ?_
  refine r_isub dX6_isInUse_14 ?_
  refine r_callS3 (ct_X6_in _ (by first | exact hJ | omega | exact hs | (unfold inR; omega)) _ (by first | exact hJ | omega | exact hs | (unfold inR; omega)) _ (by first | exact hJ | omega | exact hs | (unfold inR; omega))) fX6_in qX6_32 dX6_isInUse_15 (by decide) ⟨Nat.zero_le _, Nat.zero_le _⟩ (Nat.le_of_ble_eq_true rfl) ?_
  exact r_ret_z dX6_isInUse_18 rfl ⟨Nat.zero_le _, Nat.zero_le _⟩ (by first | exact Or.inl rfl | exact Or.inr rfl | (split <;> omega)) (by first | rfl | omega | (split <;> omega)) ⟨rfl, rfl, (by first | rfl | omega), rfl, rfl⟩

set_option maxRecDepth 100000 in
set_option maxHeartbeats 4000000 in
theorem ct_X6_isRow {l : Launch} {G : GG} {π : Nat → Option Nat} {σ τ : ST} (hJ : MJ σ) (r : Int) (hr : inR r) : Ct l G mX6_isRow (1, 0, 0) [.ref 110, .int (iI r)] 117 KD σ τ (RHO π) (KQ (some (.int (iI (if 0 ≤ r ∧ r ≤ σ 111 2 - 1 then 1 else 0)))) 117 KD σ τ (RHO π)) := by
  have hz := hJ.sz
  have hmk := hJ.mk
  have hro := hJ.ro
  have rr := hr
  unfold inR at rr
  refine ct_intro (own := "ShapedRowsModel") rfl (by decide +kernel) (Nat.le_of_ble_eq_true rfl) (L := _) rfl ?_
  refine r_iload_n dX6_isRow_0 rfl (by rfl) ?_
  refine r_iconst dX6_isRow_1 ?_
  refine r_aload_n dX6_isRow_2 rfl (by rfl) ?_
  refine r_get_r kX6_7 dX6_isRow_3 KD_110 (RHO_110_1 _) ?_
  refine r_iconst dX6_isRow_6 ?_
  refine r_iaload (k := 2) dX6_isRow_7 KD_111 (by omega) (by omega) (by decide) ?_
  refine r_iconst dX6_isRow_8 ?_
  refine r_isub dX6_isRow_9 ?_
  refine r_callS3 (ct_X6_in _ (by first | exact hJ | omega | exact hr | (unfold inR; omega)) _ (by first | exact hJ | omega | exact hr | (unfold inR; omega)) _ (by first | exact hJ | omega | exact hr | (unfold inR; omega))) fX6_in qX6_32 dX6_isRow_10 (by decide) ⟨Nat.zero_le _, Nat.zero_le _⟩ (Nat.le_of_ble_eq_true rfl) ?_
  exact r_ret_z dX6_isRow_13 rfl ⟨Nat.zero_le _, Nat.zero_le _⟩ (by first | exact Or.inl rfl | exact Or.inr rfl | (split <;> omega)) (by first | rfl | omega | (split <;> omega)) ⟨rfl, rfl, (by first | rfl | omega), rfl, rfl⟩

set_option maxRecDepth 100000 in
set_option maxHeartbeats 4000000 in
theorem ct_X6_isFull {l : Launch} {G : GG} {π : Nat → Option Nat} {σ τ : ST} (hJ : MJ σ)  : Ct l G mX6_isFull (0, 0, 0) [.ref 110] 117 KD σ τ (RHO π) (KQ (some (.int (iI (if σ 111 0 = 12 then 1 else 0)))) 117 KD σ τ (RHO π)) := by
  have hz := hJ.sz
  have hmk := hJ.mk
  have hro := hJ.ro
  refine ct_intro (own := "ShapedRowsModel") rfl (by decide +kernel) (Nat.le_of_ble_eq_true rfl) (L := _) rfl ?_
  refine r_aload_n dX6_isFull_0 rfl (by rfl) ?_
  refine r_get_r kX6_7 dX6_isFull_1 KD_110 (RHO_110_1 _) ?_
  refine r_iconst dX6_isFull_4 ?_
  refine r_iaload (k := 0) dX6_isFull_5 KD_111 (by omega) (by omega) (by decide) ?_
  refine r_bipush dX6_isFull_6 (by decide) ?_
  refine r_icmp_ne (tgt := 15) dX6_isFull_8 (by decide) (by unfold inR; omega) (by unfold inR; omega) (fun c_1 => ?_) (fun c_1 => ?_)
  · refine r_iconst dX6_isFull_15 ?_
    exact r_ret_z dX6_isFull_16 rfl ⟨Nat.zero_le _, Nat.zero_le _⟩ (by first | exact Or.inl rfl | exact Or.inr rfl | (split <;> omega)) (by first | rfl | omega | (split <;> omega)) ⟨rfl, rfl, (by first | rfl | omega), rfl, rfl⟩
  · refine r_iconst dX6_isFull_11 ?_
    refine r_goto (tgt := 16) dX6_isFull_12 (by decide) ?_
    exact r_ret_z dX6_isFull_16 rfl ⟨Nat.zero_le _, Nat.zero_le _⟩ (by first | exact Or.inl rfl | exact Or.inr rfl | (split <;> omega)) (by first | rfl | omega | (split <;> omega)) ⟨rfl, rfl, (by first | rfl | omega), rfl, rfl⟩
