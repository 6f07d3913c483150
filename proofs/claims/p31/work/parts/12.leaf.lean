section Rows3
variable {l : Launch} {G : GG} {own : String} {X : MI} {dm : Nat × Nat × Nat} {K : KK} {KE : KX} {n0 pc : Nat} {L : List (Option Value)} {S : List Value} {n : Nat} {kd : KT} {σ τ : ST} {ρ : RT} {ce sl : Nat}
theorem r_ldcw {idx : Nat} {v : Int32} {a : Int} (hc : Jvm.Cond.constant own idx v ∈ TBg) (hv : v = iI a) (hd : decode X.2.1 pc = .ok (.ldc_w idx, 3)) (k : WP l G own X dm K KE n0 (pc + 3) L (.int (iI a) :: S) n kd σ τ ρ ce sl) : WP l G own X dm K KE n0 pc L S n kd σ τ ρ ce sl := by
  subst hv
  exact r_pure (fun ad p e R s m args below meth c H locs ls Z hx hb hL hown hts kk => lv_ldcw hx hb hown (hts _ hc) hd kk) k
theorem r_iald {p len : Nat} {i : Int} (hd : decode X.2.1 pc = .ok (.iaload, 1)) (hk : kd p = (1, len)) (h0 : 0 ≤ i) (hlt : i < (len : Int)) (hlen : len < 2147483648) (kk : WP l G own X dm K KE n0 (pc + 1) L (.int (iI (σ p i.toNat)) :: S) n kd σ τ ρ ce sl) : WP l G own X dm K KE n0 pc L (.int (iI i) :: .ref p :: S) n kd σ τ ρ ce sl :=
  r_iaload (k := i.toNat) hd hk (by omega) (by omega) hlen kk
theorem r_iast {p len : Nat} {i a : Int} (hd : decode X.2.1 pc = .ok (.iastore, 1)) (hk : kd p = (1, len)) (h0 : 0 ≤ i) (hlt : i < (len : Int)) (hlen : len < 2147483648) (kk : WP l G own X dm K KE n0 (pc + 1) L S n kd (up2 σ p i.toNat a) τ ρ ce sl) : WP l G own X dm K KE n0 pc L (.int (iI a) :: .int (iI i) :: .ref p :: S) n kd σ τ ρ ce sl :=
  r_iastore (k := i.toNat) hd hk (by omega) (by omega) hlen kk
end Rows3

set_option maxRecDepth 100000 in
set_option maxHeartbeats 4000000 in
theorem ct_X5_at {l : Launch} {G : GG} {π : Nat → Option Nat} {σ τ : ST} {p len : Nat} (hk : KD p = (1, len)) (hlen : len < 2147483648) (i : Int) (h0 : 0 ≤ i) (h1 : i < (len : Int)) : Ct l G mX5_at (0, 0, 0) [.ref p, .int (iI i)] 110 KD σ τ (RHO π) (KQ (some (.int (iI (σ p i.toNat)))) 110 KD σ τ (RHO π)) := by
  refine ct_intro (own := "ShapedRows") rfl (by decide +kernel) (Nat.le_of_ble_eq_true rfl) (L := _) rfl ?_
  refine r_iload_n dX5_at_0 rfl (by rfl) ?_
  refine r_if_lt (tgt := 16) dX5_at_1 (by decide) (by unfold inR; omega) (fun c_1 => ?_) (fun c_1 => ?_)
  · refine r_iconst dX5_at_16 ?_
    exact r_ret_i dX5_at_17 rfl ⟨Nat.zero_le _, Nat.zero_le _⟩ (by first | rfl | omega | (split <;> omega)) ⟨rfl, rfl, (by first | rfl | omega), rfl, rfl⟩
  · refine r_iload_n dX5_at_4 rfl (by rfl) ?_
    refine r_aload_n dX5_at_5 rfl (by rfl) ?_
    refine r_alen (by decide) dX5_at_6 hk ?_
    refine r_icmp_ge (tgt := 16) dX5_at_7 (by decide) (by unfold inR; omega) (by unfold inR; omega) (fun c_2 => ?_) (fun c_2 => ?_)
    · refine r_iconst dX5_at_16 ?_
      exact r_ret_i dX5_at_17 rfl ⟨Nat.zero_le _, Nat.zero_le _⟩ (by first | rfl | omega | (split <;> omega)) ⟨rfl, rfl, (by first | rfl | omega), rfl, rfl⟩
    · refine r_aload_n dX5_at_10 rfl (by rfl) ?_
      refine r_iload_n dX5_at_11 rfl (by rfl) ?_
      refine r_iald dX5_at_12 hk (by omega) (by omega) (by first | decide | omega) ?_
      refine r_goto (tgt := 17) dX5_at_13 (by decide) ?_
      exact r_ret_i dX5_at_17 rfl ⟨Nat.zero_le _, Nat.zero_le _⟩ (by first | rfl | omega | (split <;> omega)) ⟨rfl, rfl, (by first | rfl | omega), rfl, rfl⟩

set_option maxRecDepth 100000 in
set_option maxHeartbeats 4000000 in
theorem ct_X5_put {l : Launch} {G : GG} {π : Nat → Option Nat} {σ τ : ST} {p len : Nat} (hk : KD p = (1, len)) (hlen : len < 2147483648) (i : Int) (h0 : 0 ≤ i) (h1 : i < (len : Int)) (v : Int) : Ct l G mX5_put (0, 0, 0) [.ref p, .int (iI i), .int (iI v)] 110 KD σ τ (RHO π) (KQ none 110 KD (up2 σ p i.toNat v) τ (RHO π)) := by
  refine ct_intro (own := "ShapedRows") rfl (by decide +kernel) (Nat.le_of_ble_eq_true rfl) (L := _) rfl ?_
  refine r_iload_n dX5_put_0 rfl (by rfl) ?_
  refine r_if_lt (tgt := 14) dX5_put_1 (by decide) (by unfold inR; omega) (fun c_1 => ?_) (fun c_1 => ?_)
  · exact r_ret_v dX5_put_14 rfl ⟨Nat.zero_le _, Nat.zero_le _⟩ ⟨rfl, rfl, (by first | rfl | omega), rfl, rfl⟩
  · refine r_iload_n dX5_put_4 rfl (by rfl) ?_
    refine r_aload_n dX5_put_5 rfl (by rfl) ?_
    refine r_alen (by decide) dX5_put_6 hk ?_
    refine r_icmp_ge (tgt := 14) dX5_put_7 (by decide) (by unfold inR; omega) (by unfold inR; omega) (fun c_2 => ?_) (fun c_2 => ?_)
    · exact r_ret_v dX5_put_14 rfl ⟨Nat.zero_le _, Nat.zero_le _⟩ ⟨rfl, rfl, (by first | rfl | omega), rfl, rfl⟩
    · refine r_aload_n dX5_put_10 rfl (by rfl) ?_
      refine r_iload_n dX5_put_11 rfl (by rfl) ?_
      refine r_iload_n dX5_put_12 rfl (by rfl) ?_
      refine r_iast dX5_put_13 hk (by omega) (by omega) (by first | decide | omega) ?_
      exact r_ret_v dX5_put_14 rfl ⟨Nat.zero_le _, Nat.zero_le _⟩ ⟨rfl, rfl, (by first | rfl | omega), rfl, rfl⟩

set_option maxRecDepth 100000 in
set_option maxHeartbeats 4000000 in
theorem ct_X5_isLetter {l : Launch} {G : GG} {π : Nat → Option Nat} {σ τ : ST} (a : Int) (ha : inR a) : Ct l G mX5_isLetter (0, 0, 0) [.int (iI a)] 110 KD σ τ (RHO π) (KQ (some (.int (iI (if 0 ≤ a ∧ a < 8 then 1 else 0)))) 110 KD σ τ (RHO π)) := by
  unfold inR at ha
  refine ct_intro (own := "ShapedRows") rfl (by decide +kernel) (Nat.le_of_ble_eq_true rfl) (L := _) rfl ?_
  refine r_iload_n dX5_isLetter_0 rfl (by rfl) ?_
  refine r_if_lt (tgt := 14) dX5_isLetter_1 (by decide) (by unfold inR; omega) (fun c_1 => ?_) (fun c_1 => ?_)
  · refine r_iconst dX5_isLetter_14 ?_
    exact r_ret_z dX5_isLetter_15 rfl ⟨Nat.zero_le _, Nat.zero_le _⟩ (by first | exact Or.inl rfl | exact Or.inr rfl | (split <;> omega)) (by first | rfl | omega | (split <;> omega)) ⟨rfl, rfl, (by first | rfl | omega), rfl, rfl⟩
  · refine r_iload_n dX5_isLetter_4 rfl (by rfl) ?_
    refine r_bipush dX5_isLetter_5 (by decide) ?_
    refine r_icmp_ge (tgt := 14) dX5_isLetter_7 (by decide) (by unfold inR; omega) (by unfold inR; omega) (fun c_2 => ?_) (fun c_2 => ?_)
    · refine r_iconst dX5_isLetter_14 ?_
      exact r_ret_z dX5_isLetter_15 rfl ⟨Nat.zero_le _, Nat.zero_le _⟩ (by first | exact Or.inl rfl | exact Or.inr rfl | (split <;> omega)) (by first | rfl | omega | (split <;> omega)) ⟨rfl, rfl, (by first | rfl | omega), rfl, rfl⟩
    · refine r_iconst dX5_isLetter_10 ?_
      refine r_goto (tgt := 15) dX5_isLetter_11 (by decide) ?_
      exact r_ret_z dX5_isLetter_15 rfl ⟨Nat.zero_le _, Nat.zero_le _⟩ (by first | exact Or.inl rfl | exact Or.inr rfl | (split <;> omega)) (by first | rfl | omega | (split <;> omega)) ⟨rfl, rfl, (by first | rfl | omega), rfl, rfl⟩

set_option maxRecDepth 100000 in
set_option maxHeartbeats 4000000 in
theorem ct_X5_isNumber {l : Launch} {G : GG} {π : Nat → Option Nat} {σ τ : ST} (a : Int) (ha : inR a) : Ct l G mX5_isNumber (0, 0, 0) [.int (iI a)] 110 KD σ τ (RHO π) (KQ (some (.int (iI (if 0 ≤ a ∧ a ≤ 99 then 1 else 0)))) 110 KD σ τ (RHO π)) := by
  unfold inR at ha
  refine ct_intro (own := "ShapedRows") rfl (by decide +kernel) (Nat.le_of_ble_eq_true rfl) (L := _) rfl ?_
  refine r_iload_n dX5_isNumber_0 rfl (by rfl) ?_
  refine r_if_lt (tgt := 14) dX5_isNumber_1 (by decide) (by unfold inR; omega) (fun c_1 => ?_) (fun c_1 => ?_)
  · refine r_iconst dX5_isNumber_14 ?_
    exact r_ret_z dX5_isNumber_15 rfl ⟨Nat.zero_le _, Nat.zero_le _⟩ (by first | exact Or.inl rfl | exact Or.inr rfl | (split <;> omega)) (by first | rfl | omega | (split <;> omega)) ⟨rfl, rfl, (by first | rfl | omega), rfl, rfl⟩
  · refine r_iload_n dX5_isNumber_4 rfl (by rfl) ?_
    refine r_bipush dX5_isNumber_5 (by decide) ?_
    refine r_icmp_gt (tgt := 14) dX5_isNumber_7 (by decide) (by unfold inR; omega) (by unfold inR; omega) (fun c_2 => ?_) (fun c_2 => ?_)
    · refine r_iconst dX5_isNumber_14 ?_
      exact r_ret_z dX5_isNumber_15 rfl ⟨Nat.zero_le _, Nat.zero_le _⟩ (by first | exact Or.inl rfl | exact Or.inr rfl | (split <;> omega)) (by first | rfl | omega | (split <;> omega)) ⟨rfl, rfl, (by first | rfl | omega), rfl, rfl⟩
    · refine r_iconst dX5_isNumber_10 ?_
      refine r_goto (tgt := 15) dX5_isNumber_11 (by decide) ?_
      exact r_ret_z dX5_isNumber_15 rfl ⟨Nat.zero_le _, Nat.zero_le _⟩ (by first | exact Or.inl rfl | exact Or.inr rfl | (split <;> omega)) (by first | rfl | omega | (split <;> omega)) ⟨rfl, rfl, (by first | rfl | omega), rfl, rfl⟩

set_option maxRecDepth 100000 in
set_option maxHeartbeats 4000000 in
theorem ct_X5_isValue {l : Launch} {G : GG} {π : Nat → Option Nat} {σ τ : ST} (a : Int) (ha : inR a) : Ct l G mX5_isValue (0, 0, 0) [.int (iI a)] 110 KD σ τ (RHO π) (KQ (some (.int (iI (if 0 ≤ a ∧ a ≤ 99999 then 1 else 0)))) 110 KD σ τ (RHO π)) := by
  unfold inR at ha
  refine ct_intro (own := "ShapedRows") rfl (by decide +kernel) (Nat.le_of_ble_eq_true rfl) (L := _) rfl ?_
  refine r_iload_n dX5_isValue_0 rfl (by rfl) ?_
  refine r_if_lt (tgt := 15) dX5_isValue_1 (by decide) (by unfold inR; omega) (fun c_1 => ?_) (fun c_1 => ?_)
  · refine r_iconst dX5_isValue_15 ?_
    exact r_ret_z dX5_isValue_16 rfl ⟨Nat.zero_le _, Nat.zero_le _⟩ (by first | exact Or.inl rfl | exact Or.inr rfl | (split <;> omega)) (by first | rfl | omega | (split <;> omega)) ⟨rfl, rfl, (by first | rfl | omega), rfl, rfl⟩
  · refine r_iload_n dX5_isValue_4 rfl (by rfl) ?_
    refine r_ldcw (a := 99999) qc_X5_332 (by decide) dX5_isValue_5 ?_
    refine r_icmp_gt (tgt := 15) dX5_isValue_8 (by decide) (by unfold inR; omega) (by unfold inR; omega) (fun c_2 => ?_) (fun c_2 => ?_)
    · refine r_iconst dX5_isValue_15 ?_
      exact r_ret_z dX5_isValue_16 rfl ⟨Nat.zero_le _, Nat.zero_le _⟩ (by first | exact Or.inl rfl | exact Or.inr rfl | (split <;> omega)) (by first | rfl | omega | (split <;> omega)) ⟨rfl, rfl, (by first | rfl | omega), rfl, rfl⟩
    · refine r_iconst dX5_isValue_11 ?_
      refine r_goto (tgt := 16) dX5_isValue_12 (by decide) ?_
      exact r_ret_z dX5_isValue_16 rfl ⟨Nat.zero_le _, Nat.zero_le _⟩ (by first | exact Or.inl rfl | exact Or.inr rfl | (split <;> omega)) (by first | rfl | omega | (split <;> omega)) ⟨rfl, rfl, (by first | rfl | omega), rfl, rfl⟩

set_option maxRecDepth 100000 in
set_option maxHeartbeats 4000000 in
theorem ct_X5_isReader {l : Launch} {G : GG} {π : Nat → Option Nat} {σ τ : ST} (a : Int) (ha : inR a) : Ct l G mX5_isReader (0, 0, 0) [.int (iI a)] 110 KD σ τ (RHO π) (KQ (some (.int (iI (if 0 ≤ a ∧ a < 4 then 1 else 0)))) 110 KD σ τ (RHO π)) := by
  unfold inR at ha
  refine ct_intro (own := "ShapedRows") rfl (by decide +kernel) (Nat.le_of_ble_eq_true rfl) (L := _) rfl ?_
  refine r_iload_n dX5_isReader_0 rfl (by rfl) ?_
  refine r_if_lt (tgt := 13) dX5_isReader_1 (by decide) (by unfold inR; omega) (fun c_1 => ?_) (fun c_1 => ?_)
  · refine r_iconst dX5_isReader_13 ?_
    exact r_ret_z dX5_isReader_14 rfl ⟨Nat.zero_le _, Nat.zero_le _⟩ (by first | exact Or.inl rfl | exact Or.inr rfl | (split <;> omega)) (by first | rfl | omega | (split <;> omega)) ⟨rfl, rfl, (by first | rfl | omega), rfl, rfl⟩
  · refine r_iload_n dX5_isReader_4 rfl (by rfl) ?_
    refine r_iconst dX5_isReader_5 ?_
    refine r_icmp_ge (tgt := 13) dX5_isReader_6 (by decide) (by unfold inR; omega) (by unfold inR; omega) (fun c_2 => ?_) (fun c_2 => ?_)
    · refine r_iconst dX5_isReader_13 ?_
      exact r_ret_z dX5_isReader_14 rfl ⟨Nat.zero_le _, Nat.zero_le _⟩ (by first | exact Or.inl rfl | exact Or.inr rfl | (split <;> omega)) (by first | rfl | omega | (split <;> omega)) ⟨rfl, rfl, (by first | rfl | omega), rfl, rfl⟩
    · refine r_iconst dX5_isReader_9 ?_
      refine r_goto (tgt := 14) dX5_isReader_10 (by decide) ?_
      exact r_ret_z dX5_isReader_14 rfl ⟨Nat.zero_le _, Nat.zero_le _⟩ (by first | exact Or.inl rfl | exact Or.inr rfl | (split <;> omega)) (by first | rfl | omega | (split <;> omega)) ⟨rfl, rfl, (by first | rfl | omega), rfl, rfl⟩

set_option maxRecDepth 100000 in
set_option maxHeartbeats 4000000 in
theorem ct_X5_isLetterOrNone {l : Launch} {G : GG} {π : Nat → Option Nat} {σ τ : ST} (a : Int) (ha : inR a) : Ct l G mX5_isLetterOrNone (1, 0, 0) [.int (iI a)] 110 KD σ τ (RHO π) (KQ (some (.int (iI (if a = -1 ∨ 0 ≤ a ∧ a < 8 then 1 else 0)))) 110 KD σ τ (RHO π)) := by
  have ha0 := ha
  unfold inR at ha0
  refine ct_intro (own := "ShapedRows") rfl (by decide +kernel) (Nat.le_of_ble_eq_true rfl) (L := _) rfl ?_
  refine r_iload_n dX5_isLetterOrNone_0 rfl (by rfl) ?_
  refine r_iconst dX5_isLetterOrNone_1 ?_
  refine r_icmp_eq (tgt := 12) dX5_isLetterOrNone_2 (by decide) (by unfold inR; omega) (by unfold inR; omega) (fun c_1 => ?_) (fun c_1 => ?_)
  · refine r_iconst dX5_isLetterOrNone_12 ?_
    refine r_goto (tgt := 17) dX5_isLetterOrNone_13 (by decide) ?_
    exact r_ret_z dX5_isLetterOrNone_17 rfl ⟨Nat.zero_le _, Nat.zero_le _⟩ (by first | exact Or.inl rfl | exact Or.inr rfl | (split <;> omega)) (by first | rfl | omega | (split <;> omega)) ⟨rfl, rfl, (by first | rfl | omega), rfl, rfl⟩
  · refine r_iload_n dX5_isLetterOrNone_5 rfl (by rfl) ?_
    refine r_callS1 (ct_X5_isLetter _ (by exact ha)) fX5_isLetter qX5_30 dX5_isLetterOrNone_6 (by decide) ⟨Nat.zero_le _, Nat.zero_le _⟩ (Nat.le_of_ble_eq_true rfl) ?_
    refine r_ifeq_b (tgt := 16) dX5_isLetterOrNone_9 (by decide) (fun c_2 => ?_) (fun c_2 => ?_)
    · refine r_iconst dX5_isLetterOrNone_16 ?_
      exact r_ret_z dX5_isLetterOrNone_17 rfl ⟨Nat.zero_le _, Nat.zero_le _⟩ (by first | exact Or.inl rfl | exact Or.inr rfl | (split <;> omega)) (by first | rfl | omega | (split <;> omega)) ⟨rfl, rfl, (by first | rfl | omega), rfl, rfl⟩
    · refine r_iconst dX5_isLetterOrNone_12 ?_
      refine r_goto (tgt := 17) dX5_isLetterOrNone_13 (by decide) ?_
      exact r_ret_z dX5_isLetterOrNone_17 rfl ⟨Nat.zero_le _, Nat.zero_le _⟩ (by first | exact Or.inl rfl | exact Or.inr rfl | (split <;> omega)) (by first | rfl | omega | (split <;> omega)) ⟨rfl, rfl, (by first | rfl | omega), rfl, rfl⟩

set_option maxRecDepth 100000 in
set_option maxHeartbeats 4000000 in
theorem ct_X2_size {l : Launch} {G : GG} {π : Nat → Option Nat} {σ τ : ST}  : Ct l G mX2_size (0, 0, 0) [.ref 2] 110 KD σ τ (RHO π) (KQ (some (.int (iI (σ 2 0)))) 110 KD σ τ (RHO π)) := by
  refine ct_intro (own := "ShapedRows$Shapes") rfl (by decide +kernel) (Nat.le_of_ble_eq_true rfl) (L := _) rfl ?_
  refine r_aload_n dX2_size_0 rfl (by rfl) ?_
  refine r_get_i kX2_9 dX2_size_1 KD_2 ?_
  exact r_ret_i dX2_size_4 rfl ⟨Nat.zero_le _, Nat.zero_le _⟩ (by first | rfl | omega | (split <;> omega)) ⟨rfl, rfl, (by first | rfl | omega), rfl, rfl⟩

set_option maxRecDepth 100000 in
set_option maxHeartbeats 4000000 in
theorem ct_X2_mark {l : Launch} {G : GG} {π : Nat → Option Nat} {σ τ : ST}  : Ct l G mX2_mark (0, 0, 0) [.ref 2] 110 KD σ τ (RHO π) (KQ (some (.int (iI (σ 2 1)))) 110 KD σ τ (RHO π)) := by
  refine ct_intro (own := "ShapedRows$Shapes") rfl (by decide +kernel) (Nat.le_of_ble_eq_true rfl) (L := _) rfl ?_
  refine r_aload_n dX2_mark_0 rfl (by rfl) ?_
  refine r_get_i kX2_15 dX2_mark_1 KD_2 ?_
  exact r_ret_i dX2_mark_4 rfl ⟨Nat.zero_le _, Nat.zero_le _⟩ (by first | rfl | omega | (split <;> omega)) ⟨rfl, rfl, (by first | rfl | omega), rfl, rfl⟩

set_option maxRecDepth 100000 in
set_option maxHeartbeats 4000000 in
theorem ct_X2_newest {l : Launch} {G : GG} {π : Nat → Option Nat} {σ τ : ST}  : Ct l G mX2_newest (0, 0, 0) [.ref 2] 110 KD σ τ (RHO π) (KQ (some (.int (iI (σ 2 0 - 1)))) 110 KD σ τ (RHO π)) := by
  refine ct_intro (own := "ShapedRows$Shapes") rfl (by decide +kernel) (Nat.le_of_ble_eq_true rfl) (L := _) rfl ?_
  refine r_aload_n dX2_newest_0 rfl (by rfl) ?_
  refine r_get_i kX2_9 dX2_newest_1 KD_2 ?_
  refine r_iconst dX2_newest_4 ?_
  refine r_isub dX2_newest_5 ?_
  exact r_ret_i dX2_newest_6 rfl ⟨Nat.zero_le _, Nat.zero_le _⟩ (by first | rfl | omega | (split <;> omega)) ⟨rfl, rfl, (by first | rfl | omega), rfl, rfl⟩

set_option maxRecDepth 100000 in
set_option maxHeartbeats 4000000 in
theorem ct_X2_isThere {l : Launch} {G : GG} {π : Nat → Option Nat} {σ τ : ST} (hI : CI σ) (s : Int) (hs : inR s) : Ct l G mX2_isThere (0, 0, 0) [.ref 2, .int (iI s)] 110 KD σ τ (RHO π) (KQ (some (.int (iI (if 0 ≤ s ∧ s < σ 2 0 then 1 else 0)))) 110 KD σ τ (RHO π)) := by
  unfold inR at hs
  have hz := hI.sz
  refine ct_intro (own := "ShapedRows$Shapes") rfl (by decide +kernel) (Nat.le_of_ble_eq_true rfl) (L := _) rfl ?_
  refine r_iload_n dX2_isThere_0 rfl (by rfl) ?_
  refine r_if_lt (tgt := 16) dX2_isThere_1 (by decide) (by unfold inR; omega) (fun c_1 => ?_) (fun c_1 => ?_)
  · refine r_iconst dX2_isThere_16 ?_
    exact r_ret_z dX2_isThere_17 rfl ⟨Nat.zero_le _, Nat.zero_le _⟩ (by first | exact Or.inl rfl | exact Or.inr rfl | (split <;> omega)) (by first | rfl | omega | (split <;> omega)) ⟨rfl, rfl, (by first | rfl | omega), rfl, rfl⟩
  · refine r_iload_n dX2_isThere_4 rfl (by rfl) ?_
    refine r_aload_n dX2_isThere_5 rfl (by rfl) ?_
    refine r_get_i kX2_9 dX2_isThere_6 KD_2 ?_
    refine r_icmp_ge (tgt := 16) dX2_isThere_9 (by decide) (by unfold inR; omega) (by unfold inR; omega) (fun c_2 => ?_) (fun c_2 => ?_)
    · refine r_iconst dX2_isThere_16 ?_
      exact r_ret_z dX2_isThere_17 rfl ⟨Nat.zero_le _, Nat.zero_le _⟩ (by first | exact Or.inl rfl | exact Or.inr rfl | (split <;> omega)) (by first | rfl | omega | (split <;> omega)) ⟨rfl, rfl, (by first | rfl | omega), rfl, rfl⟩
    · refine r_iconst dX2_isThere_12 ?_
      refine r_goto (tgt := 17) dX2_isThere_13 (by decide) ?_
      exact r_ret_z dX2_isThere_17 rfl ⟨Nat.zero_le _, Nat.zero_le _⟩ (by first | exact Or.inl rfl | exact Or.inr rfl | (split <;> omega)) (by first | rfl | omega | (split <;> omega)) ⟨rfl, rfl, (by first | rfl | omega), rfl, rfl⟩

set_option maxRecDepth 100000 in
set_option maxHeartbeats 4000000 in
theorem ct_X2_isRetired {l : Launch} {G : GG} {π : Nat → Option Nat} {σ τ : ST} (hI : CI σ) (s : Int) (hs : inR s) : Ct l G mX2_isRetired (0, 0, 0) [.ref 2, .int (iI s)] 110 KD σ τ (RHO π) (KQ (some (.int (iI (if s < σ 2 1 then 1 else 0)))) 110 KD σ τ (RHO π)) := by
  unfold inR at hs
  have hz := hI.mk
  refine ct_intro (own := "ShapedRows$Shapes") rfl (by decide +kernel) (Nat.le_of_ble_eq_true rfl) (L := _) rfl ?_
  refine r_iload_n dX2_isRetired_0 rfl (by rfl) ?_
  refine r_aload_n dX2_isRetired_1 rfl (by rfl) ?_
  refine r_get_i kX2_15 dX2_isRetired_2 KD_2 ?_
  refine r_icmp_ge (tgt := 12) dX2_isRetired_5 (by decide) (by unfold inR; omega) (by unfold inR; omega) (fun c_1 => ?_) (fun c_1 => ?_)
  · refine r_iconst dX2_isRetired_12 ?_
    exact r_ret_z dX2_isRetired_13 rfl ⟨Nat.zero_le _, Nat.zero_le _⟩ (by first | exact Or.inl rfl | exact Or.inr rfl | (split <;> omega)) (by first | rfl | omega | (split <;> omega)) ⟨rfl, rfl, (by first | rfl | omega), rfl, rfl⟩
  · refine r_iconst dX2_isRetired_8 ?_
    refine r_goto (tgt := 13) dX2_isRetired_9 (by decide) ?_
    exact r_ret_z dX2_isRetired_13 rfl ⟨Nat.zero_le _, Nat.zero_le _⟩ (by first | exact Or.inl rfl | exact Or.inr rfl | (split <;> omega)) (by first | rfl | omega | (split <;> omega)) ⟨rfl, rfl, (by first | rfl | omega), rfl, rfl⟩

set_option maxRecDepth 100000 in
set_option maxHeartbeats 4000000 in
theorem ct_X2_isUsable {l : Launch} {G : GG} {π : Nat → Option Nat} {σ τ : ST} (hI : CI σ) (s : Int) (hs : inR s) : Ct l G mX2_isUsable (1, 0, 0) [.ref 2, .int (iI s)] 110 KD σ τ (RHO π) (KQ (some (.int (iI (if σ 2 1 ≤ s ∧ s < σ 2 0 then 1 else 0)))) 110 KD σ τ (RHO π)) := by
  have hz := hI.mk
  refine ct_intro (own := "ShapedRows$Shapes") rfl (by decide +kernel) (Nat.le_of_ble_eq_true rfl) (L := _) rfl ?_
  refine r_aload_n dX2_isUsable_0 rfl (by rfl) ?_
  refine r_iload_n dX2_isUsable_1 rfl (by rfl) ?_
  refine r_callV1 (ct_X2_isThere hI _ (by exact hs)) fX2_isThere qX2_40 dX2_isUsable_2 KD_2 (by decide) ⟨Nat.zero_le _, Nat.zero_le _⟩ (Nat.le_of_ble_eq_true rfl) ?_
  refine r_ifeq_b (tgt := 20) dX2_isUsable_5 (by decide) (fun c_1 => ?_) (fun c_1 => ?_)
  · refine r_iconst dX2_isUsable_20 ?_
    exact r_ret_z dX2_isUsable_21 rfl ⟨Nat.zero_le _, Nat.zero_le _⟩ (by first | exact Or.inl rfl | exact Or.inr rfl | (split <;> omega)) (by first | rfl | omega | (split <;> omega)) ⟨rfl, rfl, (by first | rfl | omega), rfl, rfl⟩
  · refine r_aload_n dX2_isUsable_8 rfl (by rfl) ?_
    refine r_iload_n dX2_isUsable_9 rfl (by rfl) ?_
    refine r_callV1 (ct_X2_isRetired hI _ (by exact hs)) fX2_isRetired qX2_44 dX2_isUsable_10 KD_2 (by decide) ⟨Nat.zero_le _, Nat.zero_le _⟩ (Nat.le_of_ble_eq_true rfl) ?_
    refine r_ifne_b (tgt := 20) dX2_isUsable_13 (by decide) (fun c_2 => ?_) (fun c_2 => ?_)
    · refine r_iconst dX2_isUsable_20 ?_
      exact r_ret_z dX2_isUsable_21 rfl ⟨Nat.zero_le _, Nat.zero_le _⟩ (by first | exact Or.inl rfl | exact Or.inr rfl | (split <;> omega)) (by first | rfl | omega | (split <;> omega)) ⟨rfl, rfl, (by first | rfl | omega), rfl, rfl⟩
    · refine r_iconst dX2_isUsable_16 ?_
      refine r_goto (tgt := 21) dX2_isUsable_17 (by decide) ?_
      exact r_ret_z dX2_isUsable_21 rfl ⟨Nat.zero_le _, Nat.zero_le _⟩ (by first | exact Or.inl rfl | exact Or.inr rfl | (split <;> omega)) (by first | rfl | omega | (split <;> omega)) ⟨rfl, rfl, (by first | rfl | omega), rfl, rfl⟩

set_option maxRecDepth 100000 in
set_option maxHeartbeats 4000000 in
theorem ct_X2_width {l : Launch} {G : GG} {π : Nat → Option Nat} {σ τ : ST} (s : Int) (h0 : 0 ≤ s) (h1 : s < 12) : Ct l G mX2_width (1, 0, 0) [.ref 2, .int (iI s)] 110 KD σ τ (RHO π) (KQ (some (.int (iI (σ 7 s.toNat)))) 110 KD σ τ (RHO π)) := by
  refine ct_intro (own := "ShapedRows$Shapes") rfl (by decide +kernel) (Nat.le_of_ble_eq_true rfl) (L := _) rfl ?_
  refine r_aload_n dX2_width_0 rfl (by rfl) ?_
  refine r_get_r kX2_31 dX2_width_1 KD_2 (RHO_2_6 _) ?_
  refine r_iload_n dX2_width_4 rfl (by rfl) ?_
  refine r_callN2 (ct_X5_at KD_7 (by decide) _ (by omega) (by omega)) fX5_at qX2_47 dX2_width_5 (by decide) ⟨Nat.zero_le _, Nat.zero_le _⟩ (Nat.le_of_ble_eq_true rfl) ?_
  exact r_ret_i dX2_width_8 rfl ⟨Nat.zero_le _, Nat.zero_le _⟩ (by first | rfl | omega | (split <;> omega)) ⟨rfl, rfl, (by first | rfl | omega), rfl, rfl⟩

set_option maxRecDepth 100000 in
set_option maxHeartbeats 4000000 in
theorem ct_X2_changeOf {l : Launch} {G : GG} {π : Nat → Option Nat} {σ τ : ST} (s : Int) (h0 : 0 ≤ s) (h1 : s < 12) : Ct l G mX2_changeOf (1, 0, 0) [.ref 2, .int (iI s)] 110 KD σ τ (RHO π) (KQ (some (.int (iI (σ 3 s.toNat)))) 110 KD σ τ (RHO π)) := by
  refine ct_intro (own := "ShapedRows$Shapes") rfl (by decide +kernel) (Nat.le_of_ble_eq_true rfl) (L := _) rfl ?_
  refine r_aload_n dX2_changeOf_0 rfl (by rfl) ?_
  refine r_get_r kX2_18 dX2_changeOf_1 KD_2 (RHO_2_2 _) ?_
  refine r_iload_n dX2_changeOf_4 rfl (by rfl) ?_
  refine r_callN2 (ct_X5_at KD_3 (by decide) _ (by omega) (by omega)) fX5_at qX2_47 dX2_changeOf_5 (by decide) ⟨Nat.zero_le _, Nat.zero_le _⟩ (Nat.le_of_ble_eq_true rfl) ?_
  exact r_ret_i dX2_changeOf_8 rfl ⟨Nat.zero_le _, Nat.zero_le _⟩ (by first | rfl | omega | (split <;> omega)) ⟨rfl, rfl, (by first | rfl | omega), rfl, rfl⟩

set_option maxRecDepth 100000 in
set_option maxHeartbeats 4000000 in
theorem ct_X2_columnAt {l : Launch} {G : GG} {π : Nat → Option Nat} {σ τ : ST} (s : Int) (h0 : 0 ≤ s) (h1 : s < 12) (q : Int) (h2 : 0 ≤ q) (h3 : q < 8) : Ct l G mX2_columnAt (1, 0, 0) [.ref 2, .int (iI s), .int (iI q)] 110 KD σ τ (RHO π) (KQ (some (.int (iI (σ 8 (8 * s.toNat + q.toNat))))) 110 KD σ τ (RHO π)) := by
  refine ct_intro (own := "ShapedRows$Shapes") rfl (by decide +kernel) (Nat.le_of_ble_eq_true rfl) (L := _) rfl ?_
  refine r_aload_n dX2_columnAt_0 rfl (by rfl) ?_
  refine r_get_r kX2_34 dX2_columnAt_1 KD_2 (RHO_2_7 _) ?_
  refine r_iload_n dX2_columnAt_4 rfl (by rfl) ?_
  refine r_bipush dX2_columnAt_5 (by decide) ?_
  refine r_imul dX2_columnAt_7 ?_
  refine r_iload_n dX2_columnAt_8 rfl (by rfl) ?_
  refine r_iadd dX2_columnAt_9 ?_
  refine r_callN2 (ct_X5_at KD_8 (by decide) _ (by omega) (by omega)) fX5_at qX2_47 dX2_columnAt_10 (by decide) ⟨Nat.zero_le _, Nat.zero_le _⟩ (Nat.le_of_ble_eq_true rfl) ?_
  exact r_ret_i dX2_columnAt_13 rfl ⟨Nat.zero_le _, Nat.zero_le _⟩ (by rw [show (s * 8 + q).toNat = 8 * s.toNat + q.toNat by omega]) ⟨rfl, rfl, (by first | rfl | omega), rfl, rfl⟩

set_option maxRecDepth 100000 in
set_option maxHeartbeats 4000000 in
theorem ct_X2_letterAt {l : Launch} {G : GG} {π : Nat → Option Nat} {σ τ : ST} (s : Int) (h0 : 0 ≤ s) (h1 : s < 12) (q : Int) (h2 : 0 ≤ q) (h3 : q < 8) : Ct l G mX2_letterAt (1, 0, 0) [.ref 2, .int (iI s), .int (iI q)] 110 KD σ τ (RHO π) (KQ (some (.int (iI (σ 9 (8 * s.toNat + q.toNat))))) 110 KD σ τ (RHO π)) := by
  refine ct_intro (own := "ShapedRows$Shapes") rfl (by decide +kernel) (Nat.le_of_ble_eq_true rfl) (L := _) rfl ?_
  refine r_aload_n dX2_letterAt_0 rfl (by rfl) ?_
  refine r_get_r kX2_37 dX2_letterAt_1 KD_2 (RHO_2_8 _) ?_
  refine r_iload_n dX2_letterAt_4 rfl (by rfl) ?_
  refine r_bipush dX2_letterAt_5 (by decide) ?_
  refine r_imul dX2_letterAt_7 ?_
  refine r_iload_n dX2_letterAt_8 rfl (by rfl) ?_
  refine r_iadd dX2_letterAt_9 ?_
  refine r_callN2 (ct_X5_at KD_9 (by decide) _ (by omega) (by omega)) fX5_at qX2_47 dX2_letterAt_10 (by decide) ⟨Nat.zero_le _, Nat.zero_le _⟩ (Nat.le_of_ble_eq_true rfl) ?_
  exact r_ret_i dX2_letterAt_13 rfl ⟨Nat.zero_le _, Nat.zero_le _⟩ (by rw [show (s * 8 + q).toNat = 8 * s.toNat + q.toNat by omega]) ⟨rfl, rfl, (by first | rfl | omega), rfl, rfl⟩
