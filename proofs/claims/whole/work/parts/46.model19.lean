/-! the model: a sign taken -/
def tkW (σ : ST) (a b : Int) : Int := if σ 110 9 = 1 ∧ a ≤ sgM σ ∧ sgM σ ≤ b then 1 else 0
def tkS (σ : ST) (a b : Int) : ST := up2 (up2 σ 110 9 (tkW σ a b)) 110 8 (σ 110 8 + tkW σ a b)
theorem BJ_9 {σ : ST} (h : BJ σ) {v : Int} (hv : v = 0 ∨ v = 1) : BJ (up2 σ 110 9 v) := by
  obtain ⟨b1, b2, b3, b4⟩ := h
  refine ⟨?_, ?_, ?_, ?_⟩
  · rw [up2_el _ _ _ (by decide)]; exact b1
  · rw [up2_el _ _ _ (by decide)]; exact b2
  · rw [up2_at]; exact hv
  · rw [up2_off _ (by decide)]; exact b4
theorem sgM_9 (σ : ST) (v : Int) : sgM (up2 σ 110 9 v) = sgM σ := by
  unfold sgM
  rw [up2_el _ _ _ (by decide), up2_el _ _ _ (by decide), up2_off _ (by decide)]

set_option maxRecDepth 100000 in
set_option maxHeartbeats 4000000 in
theorem ct_X6_takes {l : Launch} {G : GG} {π : Nat → Option Nat} {σ τ : ST} (hB : BJ σ) (a : Int) (ha : inR a) (b : Int) (hb : inR b) : Ct l G mX6_takes (1, 0, 0) [.ref 110, .int (iI a), .int (iI b)] 117 KD σ τ (RHO π) (KQ (some (.int (iI (sgM σ - a)))) 117 KD (tkS σ a b) τ (RHO π)) := by
  have hs := sgM_rng hB
  have h9 := hB.2.2.1
  have ra := ha
  unfold inR at ra
  have rb := hb
  unfold inR at rb
  refine ct_intro (own := "ShapedRowsModel") rfl (by decide +kernel) (Nat.le_of_ble_eq_true rfl) (L := _) rfl ?_
  refine r_aload_n dX6_takes_0 rfl (by rfl) ?_
  refine r_aload_n dX6_takes_1 rfl (by rfl) ?_
  refine r_get_i kX6_157 dX6_takes_2 KD_110 ?_
  refine r_if_eq (tgt := 24) dX6_takes_5 (by decide) (by unfold inR; omega) (fun c_1 => ?_) (fun c_1 => ?_)
  · refine r_iconst dX6_takes_24 ?_
    refine r_put_z (by first | exact Or.inl rfl | exact Or.inr rfl | (split <;> omega)) kX6_157 dX6_takes_25 KD_110 ?_
    refine r_aload_n dX6_takes_28 rfl (by rfl) ?_
    refine r_callV0 (ct_X6_sign (by first | exact hB | exact BJ_9 hB (Or.inl rfl) | exact BJ_9 hB (Or.inr rfl) | exact ha | exact hb | (unfold inR; omega))) fX6_sign qX6_161 dX6_takes_29 KD_110 (by decide) ⟨Nat.zero_le _, Nat.zero_le _⟩ (Nat.le_of_ble_eq_true rfl) ?_
    rw [sgM_9]
    refine r_iload_n dX6_takes_32 rfl (by rfl) ?_
    refine r_isub dX6_takes_33 ?_
    refine r_istore_n dX6_takes_34 rfl (Nat.le_of_ble_eq_true rfl) (L' := [_, _, _, _]) (by rfl) ?_
    refine r_aload_n dX6_takes_35 rfl (by rfl) ?_
    refine r_dup dX6_takes_36 rfl ?_
    refine r_get_i kX6_154 dX6_takes_37 KD_110 ?_
    refine r_aload_n dX6_takes_40 rfl (by rfl) ?_
    refine r_get_i kX6_157 dX6_takes_41 KD_110 ?_
    rw [up2_at]
    refine r_if_eq (tgt := 51) dX6_takes_44 (by decide) (by unfold inR; omega) (fun c_2 => ?_) (fun c_2 => ?_)
    · refine r_iconst dX6_takes_51 ?_
      rw [up2_el _ _ _ (by decide)]
      refine r_iadd dX6_takes_52 ?_
      refine r_put_i kX6_154 dX6_takes_53 KD_110 ?_
      refine r_iload_n dX6_takes_56 rfl (by rfl) ?_
      exact r_ret_i dX6_takes_57 rfl ⟨Nat.zero_le _, Nat.zero_le _⟩ (by first | rfl | omega | (split <;> omega)) ⟨rfl, rfl, (by unfold tkS; first | (exfalso; omega) | (rw [show tkW σ a b = 1 by unfold tkW; rw [if_pos (by omega)]]; done) | (rw [show tkW σ a b = 0 by unfold tkW; rw [if_neg (by omega)]]; done)), rfl, rfl⟩
    · refine r_iconst dX6_takes_47 ?_
      refine r_goto (tgt := 52) dX6_takes_48 (by decide) ?_
      rw [up2_el _ _ _ (by decide)]
      refine r_iadd dX6_takes_52 ?_
      refine r_put_i kX6_154 dX6_takes_53 KD_110 ?_
      refine r_iload_n dX6_takes_56 rfl (by rfl) ?_
      exact r_ret_i dX6_takes_57 rfl ⟨Nat.zero_le _, Nat.zero_le _⟩ (by first | rfl | omega | (split <;> omega)) ⟨rfl, rfl, (by unfold tkS; first | (exfalso; omega) | (rw [show tkW σ a b = 1 by unfold tkW; rw [if_pos (by omega)]]; done) | (rw [show tkW σ a b = 0 by unfold tkW; rw [if_neg (by omega)]]; done)), rfl, rfl⟩
  · refine r_aload_n dX6_takes_8 rfl (by rfl) ?_
    refine r_callV0 (ct_X6_sign (by first | exact hB | exact BJ_9 hB (Or.inl rfl) | exact BJ_9 hB (Or.inr rfl) | exact ha | exact hb | (unfold inR; omega))) fX6_sign qX6_161 dX6_takes_9 KD_110 (by decide) ⟨Nat.zero_le _, Nat.zero_le _⟩ (Nat.le_of_ble_eq_true rfl) ?_
    refine r_iload_n dX6_takes_12 rfl (by rfl) ?_
    refine r_iload_n dX6_takes_13 rfl (by rfl) ?_
    refine r_callS3 (ct_X6_in _ (by first | exact hB | exact BJ_9 hB (Or.inl rfl) | exact BJ_9 hB (Or.inr rfl) | exact ha | exact hb | (unfold inR; omega)) _ (by first | exact hB | exact BJ_9 hB (Or.inl rfl) | exact BJ_9 hB (Or.inr rfl) | exact ha | exact hb | (unfold inR; omega)) _ (by first | exact hB | exact BJ_9 hB (Or.inl rfl) | exact BJ_9 hB (Or.inr rfl) | exact ha | exact hb | (unfold inR; omega))) fX6_in qX6_32 dX6_takes_14 (by decide) ⟨Nat.zero_le _, Nat.zero_le _⟩ (Nat.le_of_ble_eq_true rfl) ?_
    refine r_ifeq_b (tgt := 24) dX6_takes_17 (by decide) (fun c_3 => ?_) (fun c_3 => ?_)
    · refine r_iconst dX6_takes_24 ?_
      refine r_put_z (by first | exact Or.inl rfl | exact Or.inr rfl | (split <;> omega)) kX6_157 dX6_takes_25 KD_110 ?_
      refine r_aload_n dX6_takes_28 rfl (by rfl) ?_
      refine r_callV0 (ct_X6_sign (by first | exact hB | exact BJ_9 hB (Or.inl rfl) | exact BJ_9 hB (Or.inr rfl) | exact ha | exact hb | (unfold inR; omega))) fX6_sign qX6_161 dX6_takes_29 KD_110 (by decide) ⟨Nat.zero_le _, Nat.zero_le _⟩ (Nat.le_of_ble_eq_true rfl) ?_
      rw [sgM_9]
      refine r_iload_n dX6_takes_32 rfl (by rfl) ?_
      refine r_isub dX6_takes_33 ?_
      refine r_istore_n dX6_takes_34 rfl (Nat.le_of_ble_eq_true rfl) (L' := [_, _, _, _]) (by rfl) ?_
      refine r_aload_n dX6_takes_35 rfl (by rfl) ?_
      refine r_dup dX6_takes_36 rfl ?_
      refine r_get_i kX6_154 dX6_takes_37 KD_110 ?_
      refine r_aload_n dX6_takes_40 rfl (by rfl) ?_
      refine r_get_i kX6_157 dX6_takes_41 KD_110 ?_
      rw [up2_at]
      refine r_if_eq (tgt := 51) dX6_takes_44 (by decide) (by unfold inR; omega) (fun c_4 => ?_) (fun c_4 => ?_)
      · refine r_iconst dX6_takes_51 ?_
        rw [up2_el _ _ _ (by decide)]
        refine r_iadd dX6_takes_52 ?_
        refine r_put_i kX6_154 dX6_takes_53 KD_110 ?_
        refine r_iload_n dX6_takes_56 rfl (by rfl) ?_
        exact r_ret_i dX6_takes_57 rfl ⟨Nat.zero_le _, Nat.zero_le _⟩ (by first | rfl | omega | (split <;> omega)) ⟨rfl, rfl, (by unfold tkS; first | (exfalso; omega) | (rw [show tkW σ a b = 1 by unfold tkW; rw [if_pos (by omega)]]; done) | (rw [show tkW σ a b = 0 by unfold tkW; rw [if_neg (by omega)]]; done)), rfl, rfl⟩
      · refine r_iconst dX6_takes_47 ?_
        refine r_goto (tgt := 52) dX6_takes_48 (by decide) ?_
        rw [up2_el _ _ _ (by decide)]
        refine r_iadd dX6_takes_52 ?_
        refine r_put_i kX6_154 dX6_takes_53 KD_110 ?_
        refine r_iload_n dX6_takes_56 rfl (by rfl) ?_
        exact r_ret_i dX6_takes_57 rfl ⟨Nat.zero_le _, Nat.zero_le _⟩ (by first | rfl | omega | (split <;> omega)) ⟨rfl, rfl, (by unfold tkS; first | (exfalso; omega) | (rw [show tkW σ a b = 1 by unfold tkW; rw [if_pos (by omega)]]; done) | (rw [show tkW σ a b = 0 by unfold tkW; rw [if_neg (by omega)]]; done)), rfl, rfl⟩
    · refine r_iconst dX6_takes_20 ?_
      refine r_goto (tgt := 25) dX6_takes_21 (by decide) ?_
      refine r_put_z (by first | exact Or.inl rfl | exact Or.inr rfl | (split <;> omega)) kX6_157 dX6_takes_25 KD_110 ?_
      refine r_aload_n dX6_takes_28 rfl (by rfl) ?_
      refine r_callV0 (ct_X6_sign (by first | exact hB | exact BJ_9 hB (Or.inl rfl) | exact BJ_9 hB (Or.inr rfl) | exact ha | exact hb | (unfold inR; omega))) fX6_sign qX6_161 dX6_takes_29 KD_110 (by decide) ⟨Nat.zero_le _, Nat.zero_le _⟩ (Nat.le_of_ble_eq_true rfl) ?_
      rw [sgM_9]
      refine r_iload_n dX6_takes_32 rfl (by rfl) ?_
      refine r_isub dX6_takes_33 ?_
      refine r_istore_n dX6_takes_34 rfl (Nat.le_of_ble_eq_true rfl) (L' := [_, _, _, _]) (by rfl) ?_
      refine r_aload_n dX6_takes_35 rfl (by rfl) ?_
      refine r_dup dX6_takes_36 rfl ?_
      refine r_get_i kX6_154 dX6_takes_37 KD_110 ?_
      refine r_aload_n dX6_takes_40 rfl (by rfl) ?_
      refine r_get_i kX6_157 dX6_takes_41 KD_110 ?_
      rw [up2_at]
      refine r_if_eq (tgt := 51) dX6_takes_44 (by decide) (by unfold inR; omega) (fun c_5 => ?_) (fun c_5 => ?_)
      · refine r_iconst dX6_takes_51 ?_
        rw [up2_el _ _ _ (by decide)]
        refine r_iadd dX6_takes_52 ?_
        refine r_put_i kX6_154 dX6_takes_53 KD_110 ?_
        refine r_iload_n dX6_takes_56 rfl (by rfl) ?_
        exact r_ret_i dX6_takes_57 rfl ⟨Nat.zero_le _, Nat.zero_le _⟩ (by first | rfl | omega | (split <;> omega)) ⟨rfl, rfl, (by unfold tkS; first | (exfalso; omega) | (rw [show tkW σ a b = 1 by unfold tkW; rw [if_pos (by omega)]]; done) | (rw [show tkW σ a b = 0 by unfold tkW; rw [if_neg (by omega)]]; done)), rfl, rfl⟩
      · refine r_iconst dX6_takes_47 ?_
        refine r_goto (tgt := 52) dX6_takes_48 (by decide) ?_
        rw [up2_el _ _ _ (by decide)]
        refine r_iadd dX6_takes_52 ?_
        refine r_put_i kX6_154 dX6_takes_53 KD_110 ?_
        refine r_iload_n dX6_takes_56 rfl (by rfl) ?_
        exact r_ret_i dX6_takes_57 rfl ⟨Nat.zero_le _, Nat.zero_le _⟩ (by first | rfl | omega | (split <;> omega)) ⟨rfl, rfl, (by unfold tkS; first | (exfalso; omega) | (rw [show tkW σ a b = 1 by unfold tkW; rw [if_pos (by omega)]]; done) | (rw [show tkW σ a b = 0 by unfold tkW; rw [if_neg (by omega)]]; done)), rfl, rfl⟩
