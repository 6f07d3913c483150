theorem sr_2 (σ : ST) (f : Nat → Int) : sr σ 15 f 2 = σ 2 := sr_off σ f (by decide)
theorem sr_3 (σ : ST) (f : Nat → Int) : sr σ 15 f 3 = σ 3 := sr_off σ f (by decide)
theorem sr_4 (σ : ST) (f : Nat → Int) : sr σ 15 f 4 = σ 4 := sr_off σ f (by decide)
theorem sr_5 (σ : ST) (f : Nat → Int) : sr σ 15 f 5 = σ 5 := sr_off σ f (by decide)
theorem sr_6 (σ : ST) (f : Nat → Int) : sr σ 15 f 6 = σ 6 := sr_off σ f (by decide)
theorem sr_7 (σ : ST) (f : Nat → Int) : sr σ 15 f 7 = σ 7 := sr_off σ f (by decide)
theorem sr_8 (σ : ST) (f : Nat → Int) : sr σ 15 f 8 = σ 8 := sr_off σ f (by decide)
theorem sr_9 (σ : ST) (f : Nat → Int) : sr σ 15 f 9 = σ 9 := sr_off σ f (by decide)
theorem sr_10 (σ : ST) (f : Nat → Int) : sr σ 15 f 10 = σ 10 := sr_off σ f (by decide)
theorem sr_11 (σ : ST) (f : Nat → Int) : sr σ 15 f 11 = σ 11 := sr_off σ f (by decide)
theorem sr_12 (σ : ST) (f : Nat → Int) : sr σ 15 f 12 = σ 12 := sr_off σ f (by decide)
theorem sr_13 (σ : ST) (f : Nat → Int) : sr σ 15 f 13 = σ 13 := sr_off σ f (by decide)
theorem sr_14 (σ : ST) (f : Nat → Int) : sr σ 15 f 14 = σ 14 := sr_off σ f (by decide)
theorem sr_16 (σ : ST) (f : Nat → Int) : sr σ 15 f 16 = σ 16 := sr_off σ f (by decide)
theorem sr_109 (σ : ST) (f : Nat → Int) : sr σ 15 f 109 = σ 109 := sr_off σ f (by decide)
theorem sr_110 (σ : ST) (f : Nat → Int) : sr σ 15 f 110 = σ 110 := sr_off σ f (by decide)
theorem sr_111 (σ : ST) (f : Nat → Int) : sr σ 15 f 111 = σ 111 := sr_off σ f (by decide)
theorem CI_sr {σ : ST} {f : Nat → Int} (h : CI σ) : CI (sr σ 15 f) := by
  unfold CI at h ⊢
  simp only [sr_2, sr_3, sr_4, sr_5, sr_6, sr_7, sr_8, sr_9, sr_10, sr_11, sr_12, sr_13, sr_14]
  exact h
theorem plc_sr (σ : ST) (f : Nat → Int) (s : Nat) (a : Int) : plc (sr σ 15 f) s a = plc σ s a := by unfold plc; rw [sr_9, sr_7]
theorem pcl_sr (σ : ST) (f : Nat → Int) (s : Nat) (a : Int) : pcl (sr σ 15 f) s a = pcl σ s a := by unfold pcl; rw [sr_8, sr_7]
theorem colL_sr (σ : ST) (f : Nat → Int) (s : Nat) (a : Int) : colL (sr σ 15 f) s a = colL σ s a := by unfold colL; rw [plc_sr, sr_8]
theorem lmask_sr (σ : ST) (f : Nat → Int) (s : Nat) : ∀ n, lmask (sr σ 15 f) s n = lmask σ s n
  | 0 => rfl
  | n + 1 => by unfold lmask; rw [plc_sr, lmask_sr σ f s n]
theorem cf_sr (σ : ST) (f v : Nat → Int) (a : Nat) : ∀ n, cf (sr σ 15 f) v a n = cf σ v a n
  | 0 => rfl
  | n + 1 => by
    show cfS (sr σ 15 f) (cf (sr σ 15 f) v a n) (a + n + 1) = cfS σ (cf σ v a n) (a + n + 1)
    rw [cf_sr σ f v a n]; unfold cfS; rw [sr_3, sr_4, sr_5, sr_6]
theorem cb_sr (σ : ST) (f v : Nat → Int) (a : Nat) : ∀ n, cb (sr σ 15 f) v a n = cb σ v a n
  | 0 => rfl
  | n + 1 => by
    show cbS (sr σ 15 f) (cb (sr σ 15 f) v a n) (a - n) = cbS σ (cb σ v a n) (a - n)
    rw [cb_sr σ f v a n]; unfold cbS; rw [sr_3, sr_4, sr_5]
/-- the values of a row read by a shape, by column -/
def vR (σ : ST) (r s : Nat) : Nat → Int := cb σ (cf σ (fun j => σ 13 (12 * r + j)) (σ 11 r).toNat (s - (σ 11 r).toNat)) (σ 11 r).toNat ((σ 11 r).toNat - s)
theorem vR_sr (σ : ST) (f : Nat → Int) (r s : Nat) : vR (sr σ 15 f) r s = vR σ r s := by unfold vR; rw [sr_11, sr_13, cf_sr, cb_sr]
theorem vR_bd {σ : ST} (hI : CI σ) (r s : Nat) : bdV (vR σ r s) := cb_bd hI (cf_bd hI (fun j _ => hI.va _) _ _) _ _
theorem cpV_sr (σ : ST) (r : Int) : cpV σ r 12 = sr σ 15 (cpV σ r 12 15) := by
  funext a b
  unfold sr
  by_cases h : a = 15
  · rw [if_pos h, h]
  · rw [if_neg h]; unfold cpV; rw [cpR_off _ _ _ _ h]
theorem cpV_el (σ : ST) (r : Int) (j : Nat) (hj : j < 12) : cpV σ r 12 15 j = σ 13 (12 * r.toNat + j) := by
  unfold cpV cpR
  rw [if_pos ⟨rfl, by omega, by omega⟩, Nat.sub_zero]
def rwV (σ : ST) (r s : Int) (v : Nat → Int) : ST := up2 (up2 (up2 (cpR σ 13 (12 * r.toNat) 12 v) 11 r.toNat s) 12 r.toNat (σ 12 r.toNat + 1)) 10 2 (σ 10 2 + 1)
theorem cpR_sr (σ : ST) (f : Nat → Int) (lo n : Nat) (g : Nat → Int) : cpR (sr σ 15 f) 13 lo n g = sr (cpR σ 13 lo n g) 15 f := by
  funext a b
  show (if a = 13 ∧ lo ≤ b ∧ b < lo + n then g (b - lo) else if a = 15 then f b else σ a b) = (if a = 15 then f b else if a = 13 ∧ lo ≤ b ∧ b < lo + n then g (b - lo) else σ a b)
  by_cases h : a = 15
  · rw [if_neg (fun q => by omega), if_pos h, if_pos h]
  · rw [if_neg h, if_neg h]
theorem cpR_cg (σ : ST) (p lo n : Nat) {g h : Nat → Int} (e : ∀ j, j < n → g j = h j) : cpR σ p lo n g = cpR σ p lo n h := by
  funext a b
  unfold cpR
  by_cases q : a = p ∧ lo ≤ b ∧ b < lo + n
  · rw [if_pos q, if_pos q, e _ (by omega)]
  · rw [if_neg q, if_neg q]
theorem up2_srn (σ : ST) (f : Nat → Int) {p : Nat} (k : Nat) (v : Int) (h : p ≠ 15) : up2 (sr σ 15 f) p k v = sr (up2 σ p k v) 15 f := by
  funext a b
  show (if a = p ∧ b = k then v else if a = 15 then f b else σ a b) = (if a = 15 then f b else if a = p ∧ b = k then v else σ a b)
  by_cases g : a = 15
  · rw [if_neg (fun q => h (q.1.symm.trans g)), if_pos g, if_pos g]
  · rw [if_neg g, if_neg g]
theorem rwF_sr (σ : ST) (f v : Nat → Int) (r s : Int) (h : ∀ j, j < 12 → f j = v j) : rwF (sr σ 15 f) r s = sr (rwV σ r s v) 15 f := by
  unfold rwF rwM rwV
  rw [sr_row, sr_12, sr_10, cpR_sr, up2_srn _ _ _ _ (by decide), up2_srn _ _ _ _ (by decide), up2_srn _ _ _ _ (by decide), cpR_cg _ _ _ _ h]

set_option maxRecDepth 100000 in
set_option maxHeartbeats 4000000 in
theorem ct_X3_heldBy {l : Launch} {G : GG} {π : Nat → Option Nat} {σ τ : ST} (r : Int) (h0 : 0 ≤ r) (h1 : r < 4) : Ct l G mX3_heldBy (1, 0, 0) [.ref 1, .int (iI r)] 110 KD σ τ (RHO π) (KQ (some (.int (iI (σ 14 r.toNat)))) 110 KD σ τ (RHO π)) := by
  refine ct_intro (own := "ShapedRows$State") rfl (by decide +kernel) (Nat.le_of_ble_eq_true rfl) (L := _) rfl ?_
  refine r_aload_n dX3_heldBy_0 rfl (by rfl) ?_
  refine r_get_r kX3_25 dX3_heldBy_1 KD_1 (RHO_1_2 _) ?_
  refine r_iload_n dX3_heldBy_4 rfl (by rfl) ?_
  refine r_callN2 (ct_X5_at KD_14 (by decide) _ (by omega) (by omega)) fX5_at qX3_32 dX3_heldBy_5 (by decide) ⟨Nat.zero_le _, Nat.zero_le _⟩ (Nat.le_of_ble_eq_true rfl) ?_
  exact r_ret_i dX3_heldBy_8 rfl ⟨Nat.zero_le _, Nat.zero_le _⟩ (by first | rfl | omega | (split <;> omega)) ⟨rfl, rfl, (by first | rfl | omega), rfl, rfl⟩

set_option maxRecDepth 100000 in
set_option maxHeartbeats 4000000 in
theorem ct_X3_letHold {l : Launch} {G : GG} {π : Nat → Option Nat} {σ τ : ST} (r : Int) (h0 : 0 ≤ r) (h1 : r < 4) (s : Int) : Ct l G mX3_letHold (2, 0, 0) [.ref 1, .int (iI r), .int (iI s)] 110 KD σ τ (RHO π) (KQ (some (.int (iI (σ 14 r.toNat)))) 110 KD (up2 σ 14 r.toNat s) τ (RHO π)) := by
  refine ct_intro (own := "ShapedRows$State") rfl (by decide +kernel) (Nat.le_of_ble_eq_true rfl) (L := _) rfl ?_
  refine r_aload_n dX3_letHold_0 rfl (by rfl) ?_
  refine r_iload_n dX3_letHold_1 rfl (by rfl) ?_
  refine r_callV1 (ct_X3_heldBy _ (by omega) (by omega)) fX3_heldBy qX3_36 dX3_letHold_2 KD_1 (by decide) ⟨Nat.zero_le _, Nat.zero_le _⟩ (Nat.le_of_ble_eq_true rfl) ?_
  refine r_istore_n dX3_letHold_5 rfl (Nat.le_of_ble_eq_true rfl) (L' := [_, _, _, _]) (by rfl) ?_
  refine r_aload_n dX3_letHold_6 rfl (by rfl) ?_
  refine r_get_r kX3_25 dX3_letHold_7 KD_1 (RHO_1_2 _) ?_
  refine r_iload_n dX3_letHold_10 rfl (by rfl) ?_
  refine r_iload_n dX3_letHold_11 rfl (by rfl) ?_
  refine r_callN3 (ct_X5_put KD_14 (by decide) _ (by omega) (by omega) _) fX5_put qX3_40 dX3_letHold_12 (by decide) ⟨Nat.zero_le _, Nat.zero_le _⟩ (Nat.le_of_ble_eq_true rfl) ?_
  refine r_iload_n dX3_letHold_15 rfl (by rfl) ?_
  exact r_ret_i dX3_letHold_16 rfl ⟨Nat.zero_le _, Nat.zero_le _⟩ (by first | rfl | omega | (split <;> omega)) ⟨rfl, rfl, (by first | rfl | omega), rfl, rfl⟩

set_option maxRecDepth 100000 in
set_option maxHeartbeats 4000000 in
theorem ct_X3_valuesRead {l : Launch} {G : GG} {π : Nat → Option Nat} {σ τ : ST} (hI : CI σ) (r : Int) (h0 : 0 ≤ r) (h1 : r < 12) (s : Int) (h2 : 0 ≤ s) (h3 : s < 12) : Ct l G mX3_valuesRead (2, 0, 0) [.ref 1, .int (iI r), .int (iI s)] 110 KD σ τ (RHO π) (KSP (some (.ref 15)) σ τ π (fun f => ∀ j, j < 12 → f j = vR σ r.toNat s.toNat j)) := by
  have ho := hI.rs r.toNat
  refine ct_intro (own := "ShapedRows$State") rfl (by decide +kernel) (Nat.le_of_ble_eq_true rfl) (L := _) rfl ?_
  refine r_aload_n dX3_valuesRead_0 rfl (by rfl) ?_
  refine r_get_r kX3_21 dX3_valuesRead_1 KD_1 (RHO_1_1 _) ?_
  refine r_iload_n dX3_valuesRead_4 rfl (by rfl) ?_
  refine r_aload_n dX3_valuesRead_5 rfl (by rfl) ?_
  refine r_get_r kX3_29 dX3_valuesRead_6 KD_1 (RHO_1_3 _) ?_
  refine r_callV2 (ct_X1_copyValues _ (by omega) (by omega)) fX1_copyValues qX3_44 dX3_valuesRead_9 KD_10 (by decide) ⟨Nat.zero_le _, Nat.zero_le _⟩ (Nat.le_of_ble_eq_true rfl) ?_
  refine WP.mem (cpV_sr σ r) ?_
  obtain ⟨g, hg⟩ : ∃ g, g = cpV σ r 12 15 := ⟨_, rfl⟩
  rw [← hg]
  have hge : ∀ j, j < 12 → g j = σ 13 (12 * r.toNat + j) := fun j hj => by rw [hg]; exact cpV_el σ r j hj
  refine r_aload_n dX3_valuesRead_12 rfl (by rfl) ?_
  refine r_get_r kX3_12 dX3_valuesRead_13 KD_1 (RHO_1_0 _) ?_
  refine r_aload_n dX3_valuesRead_16 rfl (by rfl) ?_
  refine r_get_r kX3_29 dX3_valuesRead_17 KD_1 (RHO_1_3 _) ?_
  refine r_aload_n dX3_valuesRead_20 rfl (by rfl) ?_
  refine r_get_r kX3_21 dX3_valuesRead_21 KD_1 (RHO_1_1 _) ?_
  refine r_iload_n dX3_valuesRead_24 rfl (by rfl) ?_
  refine r_callV1 (ct_X1_shapeOf _ (by omega) (by omega)) fX1_shapeOf qX3_48 dX3_valuesRead_25 KD_10 (by decide) ⟨Nat.zero_le _, Nat.zero_le _⟩ (Nat.le_of_ble_eq_true rfl) ?_
  try simp only [sr_2, sr_3, sr_4, sr_5, sr_6, sr_7, sr_8, sr_9, sr_10, sr_11, sr_12, sr_13, sr_14, sr_16, sr_109, sr_110, sr_111, sr_sr, sr_row, plc_sr, pcl_sr, colL_sr, lmask_sr, cf_sr, cb_sr, vR_sr]
  refine r_iload_n dX3_valuesRead_28 rfl (by rfl) ?_
  refine r_callV3 (ct_X2_carryForth (CI_sr hI) (by first | omega | (rw [sr_row]; exact fun j hj => by rw [hge j hj]; exact hI.va _)) _ _ (by first | omega | (rw [sr_row]; exact fun j hj => by rw [hge j hj]; exact hI.va _)) (by first | omega | (rw [sr_row]; exact fun j hj => by rw [hge j hj]; exact hI.va _)) (by first | omega | (rw [sr_row]; exact fun j hj => by rw [hge j hj]; exact hI.va _)) (by first | omega | (rw [sr_row]; exact fun j hj => by rw [hge j hj]; exact hI.va _))) fX2_carryForth qX3_51 dX3_valuesRead_29 KD_2 (by decide) ⟨Nat.zero_le _, Nat.zero_le _⟩ (Nat.le_of_ble_eq_true rfl) ?_
  try simp only [sr_2, sr_3, sr_4, sr_5, sr_6, sr_7, sr_8, sr_9, sr_10, sr_11, sr_12, sr_13, sr_14, sr_16, sr_109, sr_110, sr_111, sr_sr, sr_row, plc_sr, pcl_sr, colL_sr, lmask_sr, cf_sr, cb_sr, vR_sr]
  refine r_aload_n dX3_valuesRead_32 rfl (by rfl) ?_
  refine r_get_r kX3_12 dX3_valuesRead_33 KD_1 (RHO_1_0 _) ?_
  refine r_aload_n dX3_valuesRead_36 rfl (by rfl) ?_
  refine r_get_r kX3_29 dX3_valuesRead_37 KD_1 (RHO_1_3 _) ?_
  refine r_aload_n dX3_valuesRead_40 rfl (by rfl) ?_
  refine r_get_r kX3_21 dX3_valuesRead_41 KD_1 (RHO_1_1 _) ?_
  refine r_iload_n dX3_valuesRead_44 rfl (by rfl) ?_
  refine r_callV1 (ct_X1_shapeOf _ (by omega) (by omega)) fX1_shapeOf qX3_48 dX3_valuesRead_45 KD_10 (by decide) ⟨Nat.zero_le _, Nat.zero_le _⟩ (Nat.le_of_ble_eq_true rfl) ?_
  try simp only [sr_2, sr_3, sr_4, sr_5, sr_6, sr_7, sr_8, sr_9, sr_10, sr_11, sr_12, sr_13, sr_14, sr_16, sr_109, sr_110, sr_111, sr_sr, sr_row, plc_sr, pcl_sr, colL_sr, lmask_sr, cf_sr, cb_sr, vR_sr]
  refine r_iload_n dX3_valuesRead_48 rfl (by rfl) ?_
  refine r_callV3 (ct_X2_carryBack (CI_sr hI) _ _ (by omega) (by omega) (by omega) (by omega)) fX2_carryBack qX3_54 dX3_valuesRead_49 KD_2 (by decide) ⟨Nat.zero_le _, Nat.zero_le _⟩ (Nat.le_of_ble_eq_true rfl) ?_
  try simp only [sr_2, sr_3, sr_4, sr_5, sr_6, sr_7, sr_8, sr_9, sr_10, sr_11, sr_12, sr_13, sr_14, sr_16, sr_109, sr_110, sr_111, sr_sr, sr_row, plc_sr, pcl_sr, colL_sr, lmask_sr, cf_sr, cb_sr, vR_sr]
  refine r_aload_n dX3_valuesRead_52 rfl (by rfl) ?_
  refine r_get_r kX3_29 dX3_valuesRead_53 KD_1 (RHO_1_3 _) ?_
  exact r_ret_rs dX3_valuesRead_56 rfl (by first | exact Or.inl ⟨_, rfl⟩ | exact Or.inr ⟨_, rfl⟩) ⟨Nat.zero_le _, Nat.zero_le _⟩ (by decide) (by rfl) (by first | rfl | exact (sr_self _ _).symm) (by intro j hj; rw [show (σ 11 r.toNat - s).toNat = (σ 11 r.toNat).toNat - s.toNat by omega, show (s - σ 11 r.toNat).toNat = s.toNat - (σ 11 r.toNat).toNat by omega]; exact cb_cg (cf_cg hI hge _ _) _ _ j hj)

def vRd (σ : ST) (r s : Nat) (a : Int) : Int := if colL σ s a = -1 then -1 else vR σ r s (colL σ s a).toNat
theorem vRd_sr (σ : ST) (f : Nat → Int) (r s : Nat) (a : Int) : vRd (sr σ 15 f) r s a = vRd σ r s a := by unfold vRd; rw [colL_sr, vR_sr]
theorem vRd_rng {σ : ST} (hI : CI σ) (r s : Nat) (a : Int) : -1 ≤ vRd σ r s a ∧ vRd σ r s a ≤ 99999 := by
  have h := colL_rng hI s a
  unfold vRd
  split
  · omega
  · have := vR_bd hI r s (colL σ s a).toNat (by omega); omega
def refu (σ : ST) (r s : Nat) (a : Int) : Int := if colL σ s a = -1 then 1 else if σ 11 r < (s : Int) ∨ pcl σ (σ 11 r).toNat (colL σ s a) ≠ -1 then 0 else 2

set_option maxRecDepth 100000 in
set_option maxHeartbeats 4000000 in
theorem ct_X3_valueRead {l : Launch} {G : GG} {π : Nat → Option Nat} {σ τ : ST} (hI : CI σ) (r : Int) (h0 : 0 ≤ r) (h1 : r < 12) (s : Int) (h2 : 0 ≤ s) (h3 : s < 12) (a : Int) (ha : inR a) : Ct l G mX3_valueRead (3, 0, 0) [.ref 1, .int (iI r), .int (iI s), .int (iI a)] 110 KD σ τ (RHO π) (KSP (some (.int (iI (vRd σ r.toNat s.toNat a)))) σ τ π (fun _ => True)) := by
  have hc := colL_rng hI s.toNat a
  have ho := hI.rs r.toNat
  refine ct_intro (own := "ShapedRows$State") rfl (by decide +kernel) (Nat.le_of_ble_eq_true rfl) (L := _) rfl ?_
  refine r_aload_n dX3_valueRead_0 rfl (by rfl) ?_
  refine r_get_r kX3_12 dX3_valueRead_1 KD_1 (RHO_1_0 _) ?_
  refine r_iload_n dX3_valueRead_4 rfl (by rfl) ?_
  refine r_iload_n dX3_valueRead_5 rfl (by rfl) ?_
  refine r_callV2 (ct_X2_columnOfLetter hI _ (by first | exact ha | omega) (by first | exact ha | omega) _ (by first | exact ha | omega)) fX2_columnOfLetter qX3_57 dX3_valueRead_6 KD_2 (by decide) ⟨Nat.zero_le _, Nat.zero_le _⟩ (Nat.le_of_ble_eq_true rfl) ?_
  refine r_istore dX3_valueRead_9 (Nat.le_of_ble_eq_true rfl) (L' := [_, _, _, _, _]) (by rfl) ?_
  refine r_iload dX3_valueRead_11 (by rfl) ?_
  refine r_iconst dX3_valueRead_13 ?_
  refine r_icmp_ne (tgt := 21) dX3_valueRead_14 (by decide) (by unfold inR; omega) (by unfold inR; omega) (fun hc1 => ?_) (fun hc1 => ?_)
  · refine r_aload_n dX3_valueRead_21 rfl (by rfl) ?_
    refine r_iload_n dX3_valueRead_22 rfl (by rfl) ?_
    refine r_iload_n dX3_valueRead_23 rfl (by rfl) ?_
    refine r_callY2 (ct_X3_valuesRead hI _ (by first | exact ha | omega) (by first | exact ha | omega) _ (by first | exact ha | omega) (by first | exact ha | omega)) fX3_valuesRead qX3_61 dX3_valueRead_24 KD_1 (by decide) ⟨Nat.zero_le _, Nat.zero_le _⟩ (Nat.le_of_ble_eq_true rfl) (fun f_1 hf_1 => ?_)
    try simp only [sr_2, sr_3, sr_4, sr_5, sr_6, sr_7, sr_8, sr_9, sr_10, sr_11, sr_12, sr_13, sr_14, sr_16, sr_109, sr_110, sr_111, sr_sr, sr_row, plc_sr, pcl_sr, colL_sr, lmask_sr, cf_sr, cb_sr, vR_sr]
    refine r_iload dX3_valueRead_27 (by rfl) ?_
    refine r_callN2 (ct_X5_at KD_15 (by decide) _ (by first | exact ha | omega) (by first | exact ha | omega)) fX5_at qX3_32 dX3_valueRead_29 (by decide) ⟨Nat.zero_le _, Nat.zero_le _⟩ (Nat.le_of_ble_eq_true rfl) ?_
    try simp only [sr_2, sr_3, sr_4, sr_5, sr_6, sr_7, sr_8, sr_9, sr_10, sr_11, sr_12, sr_13, sr_14, sr_16, sr_109, sr_110, sr_111, sr_sr, sr_row, plc_sr, pcl_sr, colL_sr, lmask_sr, cf_sr, cb_sr, vR_sr]
    exact r_ret_is dX3_valueRead_32 rfl ⟨Nat.zero_le _, Nat.zero_le _⟩ (by unfold vRd; first | (rw [if_pos (by omega)]; done) | (rw [if_neg (by omega), hf_3 _ (by omega)]; done) | (rw [if_neg (by omega)]; exact hf_1 _ (by omega))) (by first | rfl | exact (sr_self _ _).symm) (by exact trivial)
  · refine r_iconst dX3_valueRead_17 ?_
    refine r_goto (tgt := 32) dX3_valueRead_18 (by decide) ?_
    exact r_ret_is dX3_valueRead_32 rfl ⟨Nat.zero_le _, Nat.zero_le _⟩ (by unfold vRd; first | (rw [if_pos (by omega)]; done) | (rw [if_neg (by omega), hf_3 _ (by omega)]; done) | (rw [if_neg (by omega)]; exact hf_1 _ (by omega))) (by first | rfl | exact (sr_self _ _).symm) (by exact trivial)

set_option maxRecDepth 100000 in
set_option maxHeartbeats 4000000 in
theorem ct_X3_refusal {l : Launch} {G : GG} {π : Nat → Option Nat} {σ τ : ST} (hI : CI σ) (r : Int) (h0 : 0 ≤ r) (h1 : r < 12) (s : Int) (h2 : 0 ≤ s) (h3 : s < 12) (a : Int) (ha : inR a) : Ct l G mX3_refusal (3, 0, 0) [.ref 1, .int (iI r), .int (iI s), .int (iI a)] 110 KD σ τ (RHO π) (KQ (some (.int (iI (refu σ r.toNat s.toNat a)))) 110 KD σ τ (RHO π)) := by
  have hc := colL_rng hI s.toNat a
  have ho := hI.rs r.toNat
  refine ct_intro (own := "ShapedRows$State") rfl (by decide +kernel) (Nat.le_of_ble_eq_true rfl) (L := _) rfl ?_
  refine r_aload_n dX3_refusal_0 rfl (by rfl) ?_
  refine r_get_r kX3_12 dX3_refusal_1 KD_1 (RHO_1_0 _) ?_
  refine r_iload_n dX3_refusal_4 rfl (by rfl) ?_
  refine r_iload_n dX3_refusal_5 rfl (by rfl) ?_
  refine r_callV2 (ct_X2_columnOfLetter hI _ (by first | exact ha | omega | (unfold inR; omega)) (by first | exact ha | omega | (unfold inR; omega)) _ (by first | exact ha | omega | (unfold inR; omega))) fX2_columnOfLetter qX3_57 dX3_refusal_6 KD_2 (by decide) ⟨Nat.zero_le _, Nat.zero_le _⟩ (Nat.le_of_ble_eq_true rfl) ?_
  refine r_istore dX3_refusal_9 (Nat.le_of_ble_eq_true rfl) (L' := [_, _, _, _, _, _]) (by rfl) ?_
  refine r_iload dX3_refusal_11 (by rfl) ?_
  refine r_iconst dX3_refusal_13 ?_
  refine r_icmp_ne (tgt := 19) dX3_refusal_14 (by decide) (by unfold inR; omega) (by unfold inR; omega) (fun c_1 => ?_) (fun c_1 => ?_)
  · refine r_aload_n dX3_refusal_19 rfl (by rfl) ?_
    refine r_get_r kX3_21 dX3_refusal_20 KD_1 (RHO_1_1 _) ?_
    refine r_iload_n dX3_refusal_23 rfl (by rfl) ?_
    refine r_callV1 (ct_X1_shapeOf _ (by first | exact ha | omega | (unfold inR; omega)) (by first | exact ha | omega | (unfold inR; omega))) fX1_shapeOf qX3_48 dX3_refusal_24 KD_10 (by decide) ⟨Nat.zero_le _, Nat.zero_le _⟩ (Nat.le_of_ble_eq_true rfl) ?_
    refine r_istore dX3_refusal_27 (Nat.le_of_ble_eq_true rfl) (L' := [_, _, _, _, _, _]) (by rfl) ?_
    refine r_iload dX3_refusal_29 (by rfl) ?_
    refine r_iload_n dX3_refusal_31 rfl (by rfl) ?_
    refine r_icmp_lt (tgt := 49) dX3_refusal_32 (by decide) (by unfold inR; omega) (by unfold inR; omega) (fun c_2 => ?_) (fun c_2 => ?_)
    · refine r_iconst dX3_refusal_49 ?_
      refine r_goto (tgt := 54) dX3_refusal_50 (by decide) ?_
      exact r_ret_i dX3_refusal_54 rfl ⟨Nat.zero_le _, Nat.zero_le _⟩ (by unfold refu; first | (rw [if_pos (by omega)]; done) | (rw [if_neg (by omega), if_pos (by omega)]; done) | (rw [if_neg (by omega), if_neg (by omega)]; done)) ⟨rfl, rfl, (by first | rfl | omega), rfl, rfl⟩
    · refine r_aload_n dX3_refusal_35 rfl (by rfl) ?_
      refine r_get_r kX3_12 dX3_refusal_36 KD_1 (RHO_1_0 _) ?_
      refine r_iload dX3_refusal_39 (by rfl) ?_
      refine r_iload dX3_refusal_41 (by rfl) ?_
      refine r_callV2 (ct_X2_hasColumn hI _ (by first | exact ha | omega | (unfold inR; omega)) (by first | exact ha | omega | (unfold inR; omega)) _ (by first | exact ha | omega | (unfold inR; omega))) fX2_hasColumn qX3_65 dX3_refusal_43 KD_2 (by decide) ⟨Nat.zero_le _, Nat.zero_le _⟩ (Nat.le_of_ble_eq_true rfl) ?_
      refine r_ifeq_b (tgt := 53) dX3_refusal_46 (by decide) (fun c_3 => ?_) (fun c_3 => ?_)
      · refine r_iconst dX3_refusal_53 ?_
        exact r_ret_i dX3_refusal_54 rfl ⟨Nat.zero_le _, Nat.zero_le _⟩ (by unfold refu; first | (rw [if_pos (by omega)]; done) | (rw [if_neg (by omega), if_pos (by omega)]; done) | (rw [if_neg (by omega), if_neg (by omega)]; done)) ⟨rfl, rfl, (by first | rfl | omega), rfl, rfl⟩
      · refine r_iconst dX3_refusal_49 ?_
        refine r_goto (tgt := 54) dX3_refusal_50 (by decide) ?_
        exact r_ret_i dX3_refusal_54 rfl ⟨Nat.zero_le _, Nat.zero_le _⟩ (by unfold refu; first | (rw [if_pos (by omega)]; done) | (rw [if_neg (by omega), if_pos (by omega)]; done) | (rw [if_neg (by omega), if_neg (by omega)]; done)) ⟨rfl, rfl, (by first | rfl | omega), rfl, rfl⟩
  · refine r_iconst dX3_refusal_17 ?_
    exact r_ret_i dX3_refusal_18 rfl ⟨Nat.zero_le _, Nat.zero_le _⟩ (by unfold refu; first | (rw [if_pos (by omega)]; done) | (rw [if_neg (by omega), if_pos (by omega)]; done) | (rw [if_neg (by omega), if_neg (by omega)]; done)) ⟨rfl, rfl, (by first | rfl | omega), rfl, rfl⟩

def wrV (σ : ST) (r s : Int) (a v : Int) : ST :=
  let σ1 := if pcl σ (σ 11 r.toNat).toNat (colL σ s.toNat a) ≠ -1 then σ else rwV σ r s (vR σ r.toNat s.toNat)
  up2 (up2 σ1 13 (12 * r.toNat + (colL σ s.toNat a).toNat) v) 10 3 (σ1 10 3 + 1)
def st1 (σ : ST) : ST := if σ 10 0 = 0 then σ else
  let r : Int := if σ 10 1 < σ 10 0 then σ 10 1 else 0
  up2 (if σ 11 r.toNat < σ 2 0 - 1 then rwV σ r (σ 2 0 - 1) (vR σ r.toNat (σ 2 0 - 1).toNat) else σ) 10 1 (r + 1)

set_option maxRecDepth 100000 in
set_option maxHeartbeats 4000000 in
theorem ct_X3_writeValue {l : Launch} {G : GG} {π : Nat → Option Nat} {σ τ : ST} (hI : CI σ) (r : Int) (h0 : 0 ≤ r) (h1 : r < 12) (s : Int) (h2 : 0 ≤ s) (h3 : s < 12) (a : Int) (ha : inR a) (v : Int) (hr : colL σ s.toNat a ≠ -1) : Ct l G mX3_writeValue (3, 0, 0) [.ref 1, .int (iI r), .int (iI s), .int (iI a), .int (iI v)] 110 KD σ τ (RHO π) (KSP (some (.int (iI (wrV σ r s a v 11 r.toNat)))) (wrV σ r s a v) τ π (fun _ => True)) := by
  have hc := colL_rng hI s.toNat a
  have ho := hI.rs r.toNat
  refine ct_intro (own := "ShapedRows$State") rfl (by decide +kernel) (Nat.le_of_ble_eq_true rfl) (L := _) rfl ?_
  refine r_aload_n dX3_writeValue_0 rfl (by rfl) ?_
  refine r_get_r kX3_12 dX3_writeValue_1 KD_1 (RHO_1_0 _) ?_
  refine r_iload_n dX3_writeValue_4 rfl (by rfl) ?_
  refine r_iload_n dX3_writeValue_5 rfl (by rfl) ?_
  refine r_callV2 (ct_X2_columnOfLetter hI _ (by first | exact ha | omega | (unfold inR; omega)) (by first | exact ha | omega | (unfold inR; omega)) _ (by first | exact ha | omega | (unfold inR; omega))) fX2_columnOfLetter qX3_57 dX3_writeValue_6 KD_2 (by decide) ⟨Nat.zero_le _, Nat.zero_le _⟩ (Nat.le_of_ble_eq_true rfl) ?_
  refine r_istore dX3_writeValue_9 (Nat.le_of_ble_eq_true rfl) (L' := [_, _, _, _, _, _]) (by rfl) ?_
  refine r_aload_n dX3_writeValue_11 rfl (by rfl) ?_
  refine r_get_r kX3_12 dX3_writeValue_12 KD_1 (RHO_1_0 _) ?_
  refine r_aload_n dX3_writeValue_15 rfl (by rfl) ?_
  refine r_get_r kX3_21 dX3_writeValue_16 KD_1 (RHO_1_1 _) ?_
  refine r_iload_n dX3_writeValue_19 rfl (by rfl) ?_
  refine r_callV1 (ct_X1_shapeOf _ (by first | exact ha | omega | (unfold inR; omega)) (by first | exact ha | omega | (unfold inR; omega))) fX1_shapeOf qX3_48 dX3_writeValue_20 KD_10 (by decide) ⟨Nat.zero_le _, Nat.zero_le _⟩ (Nat.le_of_ble_eq_true rfl) ?_
  refine r_iload dX3_writeValue_23 (by rfl) ?_
  refine r_callV2 (ct_X2_hasColumn hI _ (by first | exact ha | omega | (unfold inR; omega)) (by first | exact ha | omega | (unfold inR; omega)) _ (by first | exact ha | omega | (unfold inR; omega))) fX2_hasColumn qX3_65 dX3_writeValue_25 KD_2 (by decide) ⟨Nat.zero_le _, Nat.zero_le _⟩ (Nat.le_of_ble_eq_true rfl) ?_
  refine r_ifne_b (tgt := 46) dX3_writeValue_28 (by decide) (fun hq => ?_) (fun hq => ?_)
  · refine r_aload_n dX3_writeValue_46 rfl (by rfl) ?_
    refine r_get_r kX3_21 dX3_writeValue_47 KD_1 (RHO_1_1 _) ?_
    refine r_iload_n dX3_writeValue_50 rfl (by rfl) ?_
    refine r_iload dX3_writeValue_51 (by rfl) ?_
    refine r_iload dX3_writeValue_53 (by rfl) ?_
    refine r_callV3 (ct_X1_overwrite _ (by first | exact ha | omega | (unfold inR; omega)) (by first | exact ha | omega | (unfold inR; omega)) _ (by first | exact ha | omega | (unfold inR; omega)) (by first | exact ha | omega | (unfold inR; omega)) _) fX1_overwrite qX3_73 dX3_writeValue_55 KD_10 (by decide) ⟨Nat.zero_le _, Nat.zero_le _⟩ (Nat.le_of_ble_eq_true rfl) ?_
    refine r_aload_n dX3_writeValue_58 rfl (by rfl) ?_
    refine r_get_r kX3_21 dX3_writeValue_59 KD_1 (RHO_1_1 _) ?_
    refine r_iload_n dX3_writeValue_62 rfl (by rfl) ?_
    refine r_callV1 (ct_X1_shapeOf _ (by first | exact ha | omega | (unfold inR; omega)) (by first | exact ha | omega | (unfold inR; omega))) fX1_shapeOf qX3_48 dX3_writeValue_63 KD_10 (by decide) ⟨Nat.zero_le _, Nat.zero_le _⟩ (Nat.le_of_ble_eq_true rfl) ?_
    exact r_ret_is dX3_writeValue_66 rfl ⟨Nat.zero_le _, Nat.zero_le _⟩ (by unfold wrV; first | (rw [if_pos hq]; done) | (rw [if_neg hq]; rw [up2_ne _ _ _ _ (by decide), up2_ne _ _ _ _ (by decide), up2_ne _ _ _ _ (by decide), up2_ne _ _ _ _ (by decide), sr_11])) (by unfold wrV; first | (rw [if_pos hq]; exact (sr_self _ _).symm) | (rw [if_neg hq, up2_srn _ _ _ _ (by decide), sr_10, up2_srn _ _ _ _ (by decide)])) (by exact trivial)
  · refine r_aload_n dX3_writeValue_31 rfl (by rfl) ?_
    refine r_get_r kX3_21 dX3_writeValue_32 KD_1 (RHO_1_1 _) ?_
    refine r_iload_n dX3_writeValue_35 rfl (by rfl) ?_
    refine r_iload_n dX3_writeValue_36 rfl (by rfl) ?_
    refine r_aload_n dX3_writeValue_37 rfl (by rfl) ?_
    refine r_iload_n dX3_writeValue_38 rfl (by rfl) ?_
    refine r_iload_n dX3_writeValue_39 rfl (by rfl) ?_
    refine r_callY2 (ct_X3_valuesRead hI _ (by first | exact ha | omega | (unfold inR; omega)) (by first | exact ha | omega | (unfold inR; omega)) _ (by first | exact ha | omega | (unfold inR; omega)) (by first | exact ha | omega | (unfold inR; omega))) fX3_valuesRead qX3_61 dX3_writeValue_40 KD_1 (by decide) ⟨Nat.zero_le _, Nat.zero_le _⟩ (Nat.le_of_ble_eq_true rfl) (fun f_1 hf_1 => ?_)
    refine r_callV3 (ct_X1_rewrite _ (by first | exact ha | omega | (unfold inR; omega)) (by first | exact ha | omega | (unfold inR; omega)) _) fX1_rewrite qX3_69 dX3_writeValue_43 KD_10 (by decide) ⟨Nat.zero_le _, Nat.zero_le _⟩ (Nat.le_of_ble_eq_true rfl) ?_
    rw [rwF_sr _ _ _ _ _ hf_1]
    refine r_aload_n dX3_writeValue_46 rfl (by rfl) ?_
    refine r_get_r kX3_21 dX3_writeValue_47 KD_1 (RHO_1_1 _) ?_
    refine r_iload_n dX3_writeValue_50 rfl (by rfl) ?_
    refine r_iload dX3_writeValue_51 (by rfl) ?_
    refine r_iload dX3_writeValue_53 (by rfl) ?_
    refine r_callV3 (ct_X1_overwrite _ (by first | exact ha | omega | (unfold inR; omega)) (by first | exact ha | omega | (unfold inR; omega)) _ (by first | exact ha | omega | (unfold inR; omega)) (by first | exact ha | omega | (unfold inR; omega)) _) fX1_overwrite qX3_73 dX3_writeValue_55 KD_10 (by decide) ⟨Nat.zero_le _, Nat.zero_le _⟩ (Nat.le_of_ble_eq_true rfl) ?_
    refine r_aload_n dX3_writeValue_58 rfl (by rfl) ?_
    refine r_get_r kX3_21 dX3_writeValue_59 KD_1 (RHO_1_1 _) ?_
    refine r_iload_n dX3_writeValue_62 rfl (by rfl) ?_
    refine r_callV1 (ct_X1_shapeOf _ (by first | exact ha | omega | (unfold inR; omega)) (by first | exact ha | omega | (unfold inR; omega))) fX1_shapeOf qX3_48 dX3_writeValue_63 KD_10 (by decide) ⟨Nat.zero_le _, Nat.zero_le _⟩ (Nat.le_of_ble_eq_true rfl) ?_
    exact r_ret_is dX3_writeValue_66 rfl ⟨Nat.zero_le _, Nat.zero_le _⟩ (by unfold wrV; first | (rw [if_pos hq]; done) | (rw [if_neg hq]; rw [up2_ne _ _ _ _ (by decide), up2_ne _ _ _ _ (by decide), up2_ne _ _ _ _ (by decide), up2_ne _ _ _ _ (by decide), sr_11])) (by unfold wrV; first | (rw [if_pos hq]; exact (sr_self _ _).symm) | (rw [if_neg hq, up2_srn _ _ _ _ (by decide), sr_10, up2_srn _ _ _ _ (by decide)])) (by exact trivial)

set_option maxRecDepth 100000 in
set_option maxHeartbeats 4000000 in
theorem ct_X3_isBehind {l : Launch} {G : GG} {π : Nat → Option Nat} {σ τ : ST} (hI : CI σ) (r : Int) (h0 : 0 ≤ r) (h1 : r < 12) : Ct l G mX3_isBehind (2, 0, 0) [.ref 1, .int (iI r)] 110 KD σ τ (RHO π) (KQ (some (.int (iI (if σ 11 r.toNat < σ 2 0 - 1 then 1 else 0)))) 110 KD σ τ (RHO π)) := by
  have ho := hI.rs r.toNat
  have hz := hI.sz
  refine ct_intro (own := "ShapedRows$State") rfl (by decide +kernel) (Nat.le_of_ble_eq_true rfl) (L := _) rfl ?_
  refine r_aload_n dX3_isBehind_0 rfl (by rfl) ?_
  refine r_get_r kX3_21 dX3_isBehind_1 KD_1 (RHO_1_1 _) ?_
  refine r_iload_n dX3_isBehind_4 rfl (by rfl) ?_
  refine r_callV1 (ct_X1_shapeOf _ (by omega) (by omega)) fX1_shapeOf qX3_48 dX3_isBehind_5 KD_10 (by decide) ⟨Nat.zero_le _, Nat.zero_le _⟩ (Nat.le_of_ble_eq_true rfl) ?_
  refine r_aload_n dX3_isBehind_8 rfl (by rfl) ?_
  refine r_get_r kX3_12 dX3_isBehind_9 KD_1 (RHO_1_0 _) ?_
  refine r_callV0 ct_X2_newest fX2_newest qX3_94 dX3_isBehind_12 KD_2 (by decide) ⟨Nat.zero_le _, Nat.zero_le _⟩ (Nat.le_of_ble_eq_true rfl) ?_
  refine r_icmp_ge (tgt := 22) dX3_isBehind_15 (by decide) (by unfold inR; omega) (by unfold inR; omega) (fun c_1 => ?_) (fun c_1 => ?_)
  · refine r_iconst dX3_isBehind_22 ?_
    exact r_ret_z dX3_isBehind_23 rfl ⟨Nat.zero_le _, Nat.zero_le _⟩ (by first | exact Or.inl rfl | exact Or.inr rfl | (split <;> omega)) (by first | rfl | omega | (split <;> omega)) ⟨rfl, rfl, (by first | rfl | omega), rfl, rfl⟩
  · refine r_iconst dX3_isBehind_18 ?_
    refine r_goto (tgt := 23) dX3_isBehind_19 (by decide) ?_
    exact r_ret_z dX3_isBehind_23 rfl ⟨Nat.zero_le _, Nat.zero_le _⟩ (by first | exact Or.inl rfl | exact Or.inr rfl | (split <;> omega)) (by first | rfl | omega | (split <;> omega)) ⟨rfl, rfl, (by first | rfl | omega), rfl, rfl⟩

set_option maxRecDepth 100000 in
set_option maxHeartbeats 4000000 in
theorem ct_X3_stepOnce {l : Launch} {G : GG} {π : Nat → Option Nat} {σ τ : ST} (hI : CI σ)  : Ct l G mX3_stepOnce (3, 0, 0) [.ref 1] 110 KD σ τ (RHO π) (KSP none (st1 σ) τ π (fun _ => True)) := by
  have hz := hI.sz
  have hr := hI.ro
  have hc := hI.cu
  refine ct_intro (own := "ShapedRows$State") rfl (by decide +kernel) (Nat.le_of_ble_eq_true rfl) (L := _) rfl ?_
  refine r_aload_n dX3_stepOnce_0 rfl (by rfl) ?_
  refine r_get_r kX3_21 dX3_stepOnce_1 KD_1 (RHO_1_1 _) ?_
  refine r_callV0 ct_X1_size fX1_size qX3_84 dX3_stepOnce_4 KD_10 (by decide) ⟨Nat.zero_le _, Nat.zero_le _⟩ (Nat.le_of_ble_eq_true rfl) ?_
  refine r_if_ne (tgt := 11) dX3_stepOnce_7 (by decide) (by unfold inR; omega) (fun h0 => ?_) (fun h0 => ?_)
  · refine r_aload_n dX3_stepOnce_11 rfl (by rfl) ?_
    refine r_get_r kX3_21 dX3_stepOnce_12 KD_1 (RHO_1_1 _) ?_
    refine r_callV0 (ct_X1_nextRow hI) fX1_nextRow qX3_87 dX3_stepOnce_15 KD_10 (by decide) ⟨Nat.zero_le _, Nat.zero_le _⟩ (Nat.le_of_ble_eq_true rfl) ?_
    obtain ⟨r, hre⟩ : ∃ r : Int, r = if σ 10 1 < σ 10 0 then σ 10 1 else 0 := ⟨_, rfl⟩
    rw [← hre]
    have hr0 : 0 ≤ r ∧ r < 12 := by rw [hre]; split <;> omega
    refine r_istore_n dX3_stepOnce_18 rfl (Nat.le_of_ble_eq_true rfl) (L' := [_, _]) (by rfl) ?_
    refine r_aload_n dX3_stepOnce_19 rfl (by rfl) ?_
    refine r_iload_n dX3_stepOnce_20 rfl (by rfl) ?_
    refine r_callV1 (ct_X3_isBehind hI _ (by omega) (by omega)) fX3_isBehind qX3_90 dX3_stepOnce_21 KD_1 (by decide) ⟨Nat.zero_le _, Nat.zero_le _⟩ (Nat.le_of_ble_eq_true rfl) ?_
    refine r_ifeq_b (tgt := 54) dX3_stepOnce_24 (by decide) (fun hb => ?_) (fun hb => ?_)
    · refine r_aload_n dX3_stepOnce_54 rfl (by rfl) ?_
      refine r_get_r kX3_21 dX3_stepOnce_55 KD_1 (RHO_1_1 _) ?_
      refine r_iload_n dX3_stepOnce_58 rfl (by rfl) ?_
      refine r_iconst dX3_stepOnce_59 ?_
      refine r_iadd dX3_stepOnce_60 ?_
      refine r_callV1 (ct_X1_setCursor _) fX1_setCursor qX3_147 dX3_stepOnce_61 KD_10 (by decide) ⟨Nat.zero_le _, Nat.zero_le _⟩ (Nat.le_of_ble_eq_true rfl) ?_
      exact r_ret_vs dX3_stepOnce_64 rfl ⟨Nat.zero_le _, Nat.zero_le _⟩ (by unfold st1; rw [if_neg h0]; simp only [← hre]; first | (rw [if_pos hb, up2_srn _ _ _ _ (by decide)]; done) | (rw [if_neg hb]; exact (sr_self _ _).symm)) (by exact trivial)
    · refine r_aload_n dX3_stepOnce_27 rfl (by rfl) ?_
      refine r_get_r kX3_21 dX3_stepOnce_28 KD_1 (RHO_1_1 _) ?_
      refine r_iload_n dX3_stepOnce_31 rfl (by rfl) ?_
      refine r_aload_n dX3_stepOnce_32 rfl (by rfl) ?_
      refine r_get_r kX3_12 dX3_stepOnce_33 KD_1 (RHO_1_0 _) ?_
      refine r_callV0 ct_X2_newest fX2_newest qX3_94 dX3_stepOnce_36 KD_2 (by decide) ⟨Nat.zero_le _, Nat.zero_le _⟩ (Nat.le_of_ble_eq_true rfl) ?_
      refine r_aload_n dX3_stepOnce_39 rfl (by rfl) ?_
      refine r_iload_n dX3_stepOnce_40 rfl (by rfl) ?_
      refine r_aload_n dX3_stepOnce_41 rfl (by rfl) ?_
      refine r_get_r kX3_12 dX3_stepOnce_42 KD_1 (RHO_1_0 _) ?_
      refine r_callV0 ct_X2_newest fX2_newest qX3_94 dX3_stepOnce_45 KD_2 (by decide) ⟨Nat.zero_le _, Nat.zero_le _⟩ (Nat.le_of_ble_eq_true rfl) ?_
      refine r_callY2 (ct_X3_valuesRead hI _ (by omega) (by omega) _ (by omega) (by omega)) fX3_valuesRead qX3_61 dX3_stepOnce_48 KD_1 (by decide) ⟨Nat.zero_le _, Nat.zero_le _⟩ (Nat.le_of_ble_eq_true rfl) (fun f_1 hf_1 => ?_)
      refine r_callV3 (ct_X1_rewrite _ (by omega) (by omega) _) fX1_rewrite qX3_69 dX3_stepOnce_51 KD_10 (by decide) ⟨Nat.zero_le _, Nat.zero_le _⟩ (Nat.le_of_ble_eq_true rfl) ?_
      rw [rwF_sr _ _ _ _ _ hf_1]
      refine r_aload_n dX3_stepOnce_54 rfl (by rfl) ?_
      refine r_get_r kX3_21 dX3_stepOnce_55 KD_1 (RHO_1_1 _) ?_
      refine r_iload_n dX3_stepOnce_58 rfl (by rfl) ?_
      refine r_iconst dX3_stepOnce_59 ?_
      refine r_iadd dX3_stepOnce_60 ?_
      refine r_callV1 (ct_X1_setCursor _) fX1_setCursor qX3_147 dX3_stepOnce_61 KD_10 (by decide) ⟨Nat.zero_le _, Nat.zero_le _⟩ (Nat.le_of_ble_eq_true rfl) ?_
      exact r_ret_vs dX3_stepOnce_64 rfl ⟨Nat.zero_le _, Nat.zero_le _⟩ (by unfold st1; rw [if_neg h0]; simp only [← hre]; first | (rw [if_pos hb, up2_srn _ _ _ _ (by decide)]; done) | (rw [if_neg hb]; exact (sr_self _ _).symm)) (by exact trivial)
  · exact r_ret_vs dX3_stepOnce_10 rfl ⟨Nat.zero_le _, Nat.zero_le _⟩ (by unfold st1; rw [if_pos h0]; exact (sr_self _ _).symm) (by exact trivial)
