/-! the constructors -/
theorem up2_id {σ : ST} {p k : Nat} {v : Int} (h : σ p k = v) : up2 σ p k v = σ := by
  funext a b
  unfold up2
  split
  · rename_i e
    rw [e.1, e.2, h]
  · rfl
theorem okS_c {n a : Nat} {S : List Value} (h : a < n) (k : okS n S = true) : okS n (.ref a :: S) = true := by
  unfold okS at k ⊢
  rw [List.all_cons, k]
  show (decide (a < n) && true) = true
  rw [decide_eq_true h]
  rfl
theorem okL_c {n a : Nat} {S : List (Option Value)} (h : a < n) (k : okL n S = true) : okL n (some (.ref a) :: S) = true := by
  unfold okL at k ⊢
  rw [List.all_cons, k]
  show (decide (a < n) && true) = true
  rw [decide_eq_true h]
  rfl
def sR2 (ρ : RT) (q : Nat) : RT := upR (upR (upR (upR (upR (upR (upR ρ q 2 (some (q + 1))) q 3 (some (q + 2))) q 4 (some (q + 3))) q 5 (some (q + 4))) q 6 (some (q + 5))) q 7 (some (q + 6))) q 8 (some (q + 7))
def sR1 (ρ : RT) (q : Nat) : RT := upR (upR (upR ρ q 4 (some (q + 1))) q 5 (some (q + 2))) q 6 (some (q + 3))
theorem sR2_off {ρ : RT} {q p : Nat} (h : p ≠ q) : sR2 ρ q p = ρ p := by unfold sR2; repeat rw [upR_off _ h]
theorem sR1_off {ρ : RT} {q p : Nat} (h : p ≠ q) : sR1 ρ q p = ρ p := by unfold sR1; repeat rw [upR_off _ h]
def sR3 (ρ : RT) (q : Nat) : RT := upR (upR (upR (sR1 (upR (sR2 ρ (q + 1)) q 0 (some (q + 1))) (q + 9)) q 1 (some (q + 9))) q 2 (some (q + 13))) q 3 (some (q + 14))
theorem sR3_off {ρ : RT} {q p : Nat} (h : p < q ∨ q + 15 ≤ p) : sR3 ρ q p = ρ p := by
  unfold sR3
  rw [upR_off _ (by omega), upR_off _ (by omega), upR_off _ (by omega), sR1_off (by omega), upR_off _ (by omega), sR2_off (by omega)]
def kB2 (q : Nat) : Prop := KD q = (0, 2) ∧ KD (q + 1) = (1, 12) ∧ KD (q + 2) = (1, 12) ∧ KD (q + 3) = (1, 12) ∧ KD (q + 4) = (1, 12) ∧ KD (q + 5) = (1, 12) ∧ KD (q + 6) = (1, 96) ∧ KD (q + 7) = (1, 96)
def kB1 (q : Nat) : Prop := KD q = (0, 1) ∧ KD (q + 1) = (1, 12) ∧ KD (q + 2) = (1, 12) ∧ KD (q + 3) = (1, 144)
def kB3 (q : Nat) : Prop := KD q = (0, 3) ∧ kB2 (q + 1) ∧ kB1 (q + 9) ∧ KD (q + 13) = (1, 4) ∧ KD (q + 14) = (1, 12)

set_option maxRecDepth 100000 in
set_option maxHeartbeats 4000000 in
theorem ci_X2 {l : Launch} {G : GG} {σ τ : ST} {ρ : RT} (q : Nat) (hk : kB2 q) (hσ : ∀ p, q ≤ p → σ p = fun _ => 0) (hρ : ∀ p, q ≤ p → ρ p = fun _ => none) : Ct l G mX2_init (1, 7, 252) [.ref q] (q + 1) (kdN (q + 1)) σ τ ρ (KQ none (q + 8) (kdN (q + 8)) (up2 σ q 0 1) τ (sR2 ρ q)) := by
  obtain ⟨k0, k1, k2, k3, k4, k5, k6, k7⟩ := hk
  refine ct_intro (own := "ShapedRows$Shapes") rfl (by decide +kernel) (Nat.le_of_ble_eq_true rfl) (L := [some (.ref q)]) rfl ?_
  refine r_aload_n dX2_init_0 rfl (by rfl) ?_
  refine r_objInit oi_2 dX2_init_1 (Nat.le_of_ble_eq_true rfl) (Nat.zero_le _) ?_
  refine r_aload_n dX2_init_4 rfl (by rfl) ?_
  refine r_iconst dX2_init_5 ?_
  refine r_put_i kX2_9 dX2_init_6 ((kdN_in (by omega)).trans k0) ?_
  refine r_aload_n dX2_init_9 rfl (by rfl) ?_
  refine r_iconst dX2_init_10 ?_
  refine r_put_i kX2_15 dX2_init_11 ((kdN_in (by omega)).trans k0) ?_
  rw [up2_id (show up2 σ q 0 1 q 1 = 0 from by unfold up2; rw [if_neg (by omega)]; exact congrFun (hσ q (Nat.le_refl _)) 1)]
  refine r_aload_n dX2_init_14 rfl (by rfl) ?_
  refine r_bipush dX2_init_15 (by decide) ?_
  refine r_newI dX2_init_17 (k1) (by decide) (by omega) (by rw [up2_off _ (by omega)]; exact hσ _ (by omega)) (by (repeat rw [upR_off _ (by omega)]); exact hρ _ (by omega)) (okS_c (by omega) rfl) (okL_c (by omega) rfl) ⟨Nat.le_of_ble_eq_true rfl, Nat.le_of_ble_eq_true rfl⟩ ?_
  refine r_put_rF (Or.inr ⟨_, rfl⟩) rfl rfl (by omega) kX2_18 dX2_init_19 ((kdN_in (by omega)).trans (k0)) ?_
  refine r_aload_n dX2_init_22 rfl (by rfl) ?_
  refine r_bipush dX2_init_23 (by decide) ?_
  refine r_newI dX2_init_25 (k2) (by decide) (by omega) (by rw [up2_off _ (by omega)]; exact hσ _ (by omega)) (by (repeat rw [upR_off _ (by omega)]); exact hρ _ (by omega)) (okS_c (by omega) rfl) (okL_c (by omega) rfl) ⟨Nat.le_of_ble_eq_true rfl, Nat.le_of_ble_eq_true rfl⟩ ?_
  refine r_put_rF (Or.inr ⟨_, rfl⟩) rfl rfl (by omega) kX2_22 dX2_init_27 ((kdN_in (by omega)).trans (k0)) ?_
  refine r_aload_n dX2_init_30 rfl (by rfl) ?_
  refine r_bipush dX2_init_31 (by decide) ?_
  refine r_newI dX2_init_33 (k3) (by decide) (by omega) (by rw [up2_off _ (by omega)]; exact hσ _ (by omega)) (by (repeat rw [upR_off _ (by omega)]); exact hρ _ (by omega)) (okS_c (by omega) rfl) (okL_c (by omega) rfl) ⟨Nat.le_of_ble_eq_true rfl, Nat.le_of_ble_eq_true rfl⟩ ?_
  refine r_put_rF (Or.inr ⟨_, rfl⟩) rfl rfl (by omega) kX2_25 dX2_init_35 ((kdN_in (by omega)).trans (k0)) ?_
  refine r_aload_n dX2_init_38 rfl (by rfl) ?_
  refine r_bipush dX2_init_39 (by decide) ?_
  refine r_newI dX2_init_41 (k4) (by decide) (by omega) (by rw [up2_off _ (by omega)]; exact hσ _ (by omega)) (by (repeat rw [upR_off _ (by omega)]); exact hρ _ (by omega)) (okS_c (by omega) rfl) (okL_c (by omega) rfl) ⟨Nat.le_of_ble_eq_true rfl, Nat.le_of_ble_eq_true rfl⟩ ?_
  refine r_put_rF (Or.inr ⟨_, rfl⟩) rfl rfl (by omega) kX2_28 dX2_init_43 ((kdN_in (by omega)).trans (k0)) ?_
  refine r_aload_n dX2_init_46 rfl (by rfl) ?_
  refine r_bipush dX2_init_47 (by decide) ?_
  refine r_newI dX2_init_49 (k5) (by decide) (by omega) (by rw [up2_off _ (by omega)]; exact hσ _ (by omega)) (by (repeat rw [upR_off _ (by omega)]); exact hρ _ (by omega)) (okS_c (by omega) rfl) (okL_c (by omega) rfl) ⟨Nat.le_of_ble_eq_true rfl, Nat.le_of_ble_eq_true rfl⟩ ?_
  refine r_put_rF (Or.inr ⟨_, rfl⟩) rfl rfl (by omega) kX2_31 dX2_init_51 ((kdN_in (by omega)).trans (k0)) ?_
  refine r_aload_n dX2_init_54 rfl (by rfl) ?_
  refine r_bipush dX2_init_55 (by decide) ?_
  refine r_newI dX2_init_57 (k6) (by decide) (by omega) (by rw [up2_off _ (by omega)]; exact hσ _ (by omega)) (by (repeat rw [upR_off _ (by omega)]); exact hρ _ (by omega)) (okS_c (by omega) rfl) (okL_c (by omega) rfl) ⟨Nat.le_of_ble_eq_true rfl, Nat.le_of_ble_eq_true rfl⟩ ?_
  refine r_put_rF (Or.inr ⟨_, rfl⟩) rfl rfl (by omega) kX2_34 dX2_init_59 ((kdN_in (by omega)).trans (k0)) ?_
  refine r_aload_n dX2_init_62 rfl (by rfl) ?_
  refine r_bipush dX2_init_63 (by decide) ?_
  refine r_newI dX2_init_65 (k7) (by decide) (by omega) (by rw [up2_off _ (by omega)]; exact hσ _ (by omega)) (by (repeat rw [upR_off _ (by omega)]); exact hρ _ (by omega)) (okS_c (by omega) rfl) (okL_c (by omega) rfl) ⟨Nat.le_of_ble_eq_true rfl, Nat.le_of_ble_eq_true rfl⟩ ?_
  refine r_put_rF (Or.inr ⟨_, rfl⟩) rfl rfl (by omega) kX2_37 dX2_init_67 ((kdN_in (by omega)).trans (k0)) ?_
  exact r_ret_v dX2_init_70 rfl ⟨Nat.le_of_ble_eq_true rfl, Nat.le_of_ble_eq_true rfl⟩ ⟨rfl, rfl, rfl, rfl, rfl⟩
set_option maxRecDepth 100000 in
set_option maxHeartbeats 4000000 in
theorem ci_X1 {l : Launch} {G : GG} {σ τ : ST} {ρ : RT} (q : Nat) (hk : kB1 q) (hσ : ∀ p, q ≤ p → σ p = fun _ => 0) (hρ : ∀ p, q ≤ p → ρ p = fun _ => none) : Ct l G mX1_init (1, 3, 168) [.ref q] (q + 1) (kdN (q + 1)) σ τ ρ (KQ none (q + 4) (kdN (q + 4)) σ τ (sR1 ρ q)) := by
  obtain ⟨k0, k1, k2, k3⟩ := hk
  refine ct_intro (own := "ShapedRows$Rows") rfl (by decide +kernel) (Nat.le_of_ble_eq_true rfl) (L := [some (.ref q)]) rfl ?_
  refine r_aload_n dX1_init_0 rfl (by rfl) ?_
  refine r_objInit oi_1 dX1_init_1 (Nat.le_of_ble_eq_true rfl) (Nat.zero_le _) ?_
  refine r_aload_n dX1_init_4 rfl (by rfl) ?_
  refine r_iconst dX1_init_5 ?_
  refine r_put_i kX1_9 dX1_init_6 ((kdN_in (by omega)).trans k0) ?_
  rw [up2_id (show σ q 0 = 0 from congrFun (hσ q (Nat.le_refl _)) 0)]
  refine r_aload_n dX1_init_9 rfl (by rfl) ?_
  refine r_iconst dX1_init_10 ?_
  refine r_put_i kX1_15 dX1_init_11 ((kdN_in (by omega)).trans k0) ?_
  rw [up2_id (show σ q 1 = 0 from congrFun (hσ q (Nat.le_refl _)) 1)]
  refine r_aload_n dX1_init_14 rfl (by rfl) ?_
  refine r_iconst dX1_init_15 ?_
  refine r_put_i kX1_18 dX1_init_16 ((kdN_in (by omega)).trans k0) ?_
  rw [up2_id (show σ q 2 = 0 from congrFun (hσ q (Nat.le_refl _)) 2)]
  refine r_aload_n dX1_init_19 rfl (by rfl) ?_
  refine r_iconst dX1_init_20 ?_
  refine r_put_i kX1_21 dX1_init_21 ((kdN_in (by omega)).trans k0) ?_
  rw [up2_id (show σ q 3 = 0 from congrFun (hσ q (Nat.le_refl _)) 3)]
  refine r_aload_n dX1_init_24 rfl (by rfl) ?_
  refine r_bipush dX1_init_25 (by decide) ?_
  refine r_newI dX1_init_27 (k1) (by decide) (by omega) (by exact hσ _ (by omega)) (by (repeat rw [upR_off _ (by omega)]); exact hρ _ (by omega)) (okS_c (by omega) rfl) (okL_c (by omega) rfl) ⟨Nat.le_of_ble_eq_true rfl, Nat.le_of_ble_eq_true rfl⟩ ?_
  refine r_put_rF (Or.inr ⟨_, rfl⟩) rfl rfl (by omega) kX1_24 dX1_init_29 ((kdN_in (by omega)).trans (k0)) ?_
  refine r_aload_n dX1_init_32 rfl (by rfl) ?_
  refine r_bipush dX1_init_33 (by decide) ?_
  refine r_newI dX1_init_35 (k2) (by decide) (by omega) (by exact hσ _ (by omega)) (by (repeat rw [upR_off _ (by omega)]); exact hρ _ (by omega)) (okS_c (by omega) rfl) (okL_c (by omega) rfl) ⟨Nat.le_of_ble_eq_true rfl, Nat.le_of_ble_eq_true rfl⟩ ?_
  refine r_put_rF (Or.inr ⟨_, rfl⟩) rfl rfl (by omega) kX1_28 dX1_init_37 ((kdN_in (by omega)).trans (k0)) ?_
  refine r_aload_n dX1_init_40 rfl (by rfl) ?_
  refine r_sipush dX1_init_41 (by decide) ?_
  refine r_newI dX1_init_44 (k3) (by decide) (by omega) (by exact hσ _ (by omega)) (by (repeat rw [upR_off _ (by omega)]); exact hρ _ (by omega)) (okS_c (by omega) rfl) (okL_c (by omega) rfl) ⟨Nat.le_of_ble_eq_true rfl, Nat.le_of_ble_eq_true rfl⟩ ?_
  refine r_put_rF (Or.inr ⟨_, rfl⟩) rfl rfl (by omega) kX1_31 dX1_init_46 ((kdN_in (by omega)).trans (k0)) ?_
  exact r_ret_v dX1_init_49 rfl ⟨Nat.le_of_ble_eq_true rfl, Nat.le_of_ble_eq_true rfl⟩ ⟨rfl, rfl, rfl, rfl, rfl⟩
set_option maxRecDepth 100000 in
set_option maxHeartbeats 4000000 in
theorem ci_X3 {l : Launch} {G : GG} {σ τ : ST} {ρ : RT} (q : Nat) (hk : kB3 q) (hσ : ∀ p, q ≤ p → σ p = fun _ => 0) (hτ : ∀ p, q ≤ p → τ p = fun _ => 0) (hρ : ∀ p, q ≤ p → ρ p = fun _ => none) : Ct l G mX3_init (2, 14, 452) [.ref q] (q + 1) (kdN (q + 1)) σ τ ρ (KQ none (q + 15) (kdN (q + 15)) (up2 σ (q + 1) 0 1) τ (sR3 ρ q)) := by
  obtain ⟨k0, k1, k2, k3, k4⟩ := hk
  refine ct_intro (own := "ShapedRows$State") rfl (by decide +kernel) (Nat.le_of_ble_eq_true rfl) (L := [some (.ref q)]) rfl ?_
  refine r_aload_n dX3_init_0 rfl (by rfl) ?_
  refine r_objInit oi_3 dX3_init_1 (Nat.le_of_ble_eq_true rfl) (Nat.zero_le _) ?_
  refine r_aload_n dX3_init_4 rfl (by rfl) ?_
  refine r_new cl_2 nl_3_9 dX3_init_5 k1.1 (by omega) (hσ _ (by omega)) (hτ _ (by omega)) (hρ _ (by omega)) (okS_c (by omega) rfl) (okL_c (by omega) rfl) ⟨Nat.le_of_ble_eq_true rfl, Nat.le_of_ble_eq_true rfl⟩ ?_
  refine r_dup dX3_init_8 rfl ?_
  refine r_callIN (ci_X2 (q + 1) k1 (fun p hp => hσ p (by omega)) (fun p hp => hρ p (by omega))) fX2_init qX3_11 dX3_init_9 (by omega) (by omega) (okS_c (by omega) (okS_c (by omega) rfl)) (okL_c (by omega) rfl) ⟨Nat.le_of_ble_eq_true rfl, Nat.le_of_ble_eq_true rfl⟩ ⟨Nat.le_of_ble_eq_true rfl, Nat.le_of_ble_eq_true rfl⟩ (Nat.le_of_ble_eq_true rfl) ?_
  refine r_put_rF (Or.inl ⟨_, rfl⟩) rfl rfl (by omega) kX3_12 dX3_init_12 ((kdN_in (by omega)).trans (k0)) ?_
  refine r_aload_n dX3_init_15 rfl (by rfl) ?_
  refine r_new cl_1 nl_3_18 dX3_init_16 k2.1 (by omega) (by rw [up2_off _ (by omega)]; exact hσ _ (by omega)) (hτ _ (by omega)) (by rw [upR_off _ (by omega), sR2_off (by omega)]; exact hρ _ (by omega)) (okS_c (by omega) rfl) (okL_c (by omega) rfl) ⟨Nat.le_of_ble_eq_true rfl, Nat.le_of_ble_eq_true rfl⟩ ?_
  refine r_dup dX3_init_19 rfl ?_
  refine r_callIN (ci_X1 (q + 9) k2 (fun p hp => by rw [up2_off _ (by omega)]; exact hσ p (by omega)) (fun p hp => by rw [upR_off _ (by omega), sR2_off (by omega)]; exact hρ p (by omega))) fX1_init qX3_20 dX3_init_20 (by omega) (by omega) (okS_c (by omega) (okS_c (by omega) rfl)) (okL_c (by omega) rfl) ⟨Nat.le_of_ble_eq_true rfl, Nat.le_of_ble_eq_true rfl⟩ ⟨Nat.le_of_ble_eq_true rfl, Nat.le_of_ble_eq_true rfl⟩ (Nat.le_of_ble_eq_true rfl) ?_
  refine r_put_rF (Or.inl ⟨_, rfl⟩) rfl rfl (by omega) kX3_21 dX3_init_23 ((kdN_in (by omega)).trans (k0)) ?_
  refine r_aload_n dX3_init_26 rfl (by rfl) ?_
  refine r_iconst dX3_init_27 ?_
  refine r_newI dX3_init_28 (k3) (by decide) (by omega) (by rw [up2_off _ (by omega)]; exact hσ _ (by omega)) (by (repeat rw [upR_off _ (by omega)]); rw [sR1_off (by omega), upR_off _ (by omega), sR2_off (by omega)]; exact hρ _ (by omega)) (okS_c (by omega) rfl) (okL_c (by omega) rfl) ⟨Nat.le_of_ble_eq_true rfl, Nat.le_of_ble_eq_true rfl⟩ ?_
  refine r_put_rF (Or.inr ⟨_, rfl⟩) rfl rfl (by omega) kX3_25 dX3_init_30 ((kdN_in (by omega)).trans (k0)) ?_
  refine r_aload_n dX3_init_33 rfl (by rfl) ?_
  refine r_bipush dX3_init_34 (by decide) ?_
  refine r_newI dX3_init_36 (k4) (by decide) (by omega) (by rw [up2_off _ (by omega)]; exact hσ _ (by omega)) (by (repeat rw [upR_off _ (by omega)]); rw [sR1_off (by omega), upR_off _ (by omega), sR2_off (by omega)]; exact hρ _ (by omega)) (okS_c (by omega) rfl) (okL_c (by omega) rfl) ⟨Nat.le_of_ble_eq_true rfl, Nat.le_of_ble_eq_true rfl⟩ ?_
  refine r_put_rF (Or.inr ⟨_, rfl⟩) rfl rfl (by omega) kX3_29 dX3_init_38 ((kdN_in (by omega)).trans (k0)) ?_
  exact r_ret_v dX3_init_41 rfl ⟨Nat.le_of_ble_eq_true rfl, Nat.le_of_ble_eq_true rfl⟩ ⟨rfl, rfl, rfl, rfl, rfl⟩
set_option maxRecDepth 100000 in
set_option maxHeartbeats 4000000 in
theorem ci_X4 {l : Launch} {G : GG} {σ τ : ST} {ρ : RT} (hσ : ∀ p, 108 ≤ p → σ p = fun _ => 0) (hρ : ∀ p, 108 ≤ p → ρ p = fun _ => none) : Ct l G mX4_init (1, 1, 60) [.ref 108] 109 (kdN 109) σ τ ρ (KQ none 110 (kdN 110) σ τ (upR ρ 108 0 (some 109))) := by
  refine ct_intro (own := "ShapedRows$Text") rfl (by decide +kernel) (Nat.le_of_ble_eq_true rfl) (L := [some (.ref 108)]) rfl ?_
  refine r_aload_n dX4_init_0 rfl (by rfl) ?_
  refine r_objInit oi_4 dX4_init_1 (Nat.le_of_ble_eq_true rfl) (Nat.zero_le _) ?_
  refine r_aload_n dX4_init_4 rfl (by rfl) ?_
  refine r_bipush dX4_init_5 (by decide) ?_
  refine r_newI dX4_init_7 (KD_109) (by decide) (by omega) (by exact hσ _ (by omega)) (by exact hρ _ (by omega)) (okS_c (by omega) rfl) (okL_c (by omega) rfl) ⟨Nat.le_of_ble_eq_true rfl, Nat.le_of_ble_eq_true rfl⟩ ?_
  refine r_put_rF (Or.inr ⟨_, rfl⟩) rfl rfl (by omega) kX4_9 dX4_init_9 ((kdN_in (by omega)).trans (KD_108)) ?_
  refine r_aload_n dX4_init_12 rfl (by rfl) ?_
  refine r_iconst dX4_init_13 ?_
  refine r_put_i kX4_15 dX4_init_14 ((kdN_in (by omega)).trans KD_108) ?_
  rw [up2_id (show σ 108 1 = 0 from congrFun (hσ 108 (Nat.le_refl _)) 1)]
  exact r_ret_v dX4_init_17 rfl ⟨Nat.le_of_ble_eq_true rfl, Nat.le_of_ble_eq_true rfl⟩ ⟨rfl, rfl, rfl, rfl, rfl⟩
