/-! the model: a row told; the signs of the buffer -/
def sgM (σ : ST) : Int := if σ 110 8 < σ 110 5 then σ 113 (σ 110 8).toNat else 0
def BJ (σ : ST) : Prop := (0 ≤ σ 110 5 ∧ σ 110 5 ≤ 60) ∧ (0 ≤ σ 110 8 ∧ σ 110 8 ≤ 1000) ∧ (σ 110 9 = 0 ∨ σ 110 9 = 1) ∧ ∀ k, 0 ≤ σ 113 k ∧ σ 113 k ≤ 126
theorem sgM_rng {σ : ST} (h : BJ σ) : 0 ≤ sgM σ ∧ sgM σ ≤ 126 := by
  unfold sgM
  split
  · exact h.2.2.2 _
  · omega

set_option maxRecDepth 100000 in
set_option maxHeartbeats 4000000 in
theorem ct_X6_tellsRow {l : Launch} {G : GG} {π : Nat → Option Nat} {σ τ : ST} (hJ : MJ σ) (r : Int) (r0 : 0 ≤ r) (r1 : r < σ 111 2) (w : Int) (w0 : 0 ≤ w) (w1 : w ≤ 5) (h4 : rdO σ r (oM σ r 0)) (m4 : 0 ≤ reM σ r (oM σ r 0) 110 7 ∧ reM σ r (oM σ r 0) 110 7 ≤ 8) (h5 : rdO σ r (σ 111 0 - 1)) (m5 : 0 ≤ reM σ r (σ 111 0 - 1) 110 7 ∧ reM σ r (σ 111 0 - 1) 110 7 ≤ 8) : Ct l G mX6_tellsRow (5, 0, 0) [.ref 110, .int (iI r), .int (iI w)] 117 KD σ τ (RHO π) (KQ (some (.int (iI (trM σ r w)))) 117 KD (trS σ r w) τ (RHO π)) := by
  have hz := hJ.sz
  have hmk := hJ.mk
  have hro := hJ.ro
  have hrs := hJ.rs r r0 r1
  refine ct_intro (own := "ShapedRowsModel") rfl (by decide +kernel) (Nat.le_of_ble_eq_true rfl) (L := _) rfl ?_
  refine r_aload_n dX6_tellsRow_0 rfl (by rfl) ?_
  refine r_iload_n dX6_tellsRow_1 rfl (by rfl) ?_
  refine r_iconst dX6_tellsRow_2 ?_
  refine r_callV2 (ct_X6_rowOf _ _ (by first | exact hJ | exact h4 | exact h5 | exact m4 | exact m5 | omega | (unfold inR; omega)) (by first | exact hJ | exact h4 | exact h5 | exact m4 | exact m5 | omega | (unfold inR; omega))) fX6_rowOf qX6_108 dX6_tellsRow_3 KD_110 (by decide) ⟨Nat.zero_le _, Nat.zero_le _⟩ (Nat.le_of_ble_eq_true rfl) ?_
  refine r_istore_n dX6_tellsRow_6 rfl (Nat.le_of_ble_eq_true rfl) (L' := [_, _, _, _]) (by rfl) ?_
  refine r_iload_n dX6_tellsRow_7 rfl (by rfl) ?_
  rcases (show w = 0 ∨ w = 1 ∨ w = 2 ∨ w = 3 ∨ w = 4 ∨ (w < 0 ∨ 4 < w) by omega) with t_1 | t_1 | t_1 | t_1 | t_1 | t_1
  · refine r_tsw (tgt := 44) (a := w) dX6_tellsRow_8 (by unfold inR; omega) (by omega) (by omega) (by rw [t_1]; rfl) (by decide) ?_
    refine r_iload_n dX6_tellsRow_44 rfl (by rfl) ?_
    exact r_ret_i dX6_tellsRow_45 rfl ⟨Nat.zero_le _, Nat.zero_le _⟩ (by unfold trM; first | (rw [if_pos (show w = 0 by omega)]; done) | (rw [if_neg (show ¬ w = 0 by omega), if_pos (show w = 1 by omega)]; done) | (rw [if_neg (show ¬ w = 0 by omega), if_neg (show ¬ w = 1 by omega), if_pos (show w = 2 by omega)]; done) | (rw [if_neg (show ¬ w = 0 by omega), if_neg (show ¬ w = 1 by omega), if_neg (show ¬ w = 2 by omega), if_pos (show w = 3 by omega)]; done) | (rw [if_neg (show ¬ w = 0 by omega), if_neg (show ¬ w = 1 by omega), if_neg (show ¬ w = 2 by omega), if_neg (show ¬ w = 3 by omega), if_pos (show w = 4 by omega)]; done) | (rw [if_neg (show ¬ w = 0 by omega), if_neg (show ¬ w = 1 by omega), if_neg (show ¬ w = 2 by omega), if_neg (show ¬ w = 3 by omega), if_neg (show ¬ w = 4 by omega)]; done)) ⟨rfl, rfl, (by unfold trS; first | (rw [if_pos (show w ≤ 3 by omega)]; done) | (rw [if_neg (show ¬ w ≤ 3 by omega), if_pos (show w = 4 by omega)]; done) | (rw [if_neg (show ¬ w ≤ 3 by omega), if_neg (show ¬ w = 4 by omega)]; done)), rfl, rfl⟩
  · refine r_tsw (tgt := 46) (a := w) dX6_tellsRow_8 (by unfold inR; omega) (by omega) (by omega) (by rw [t_1]; rfl) (by decide) ?_
    refine r_aload_n dX6_tellsRow_46 rfl (by rfl) ?_
    refine r_iload_n dX6_tellsRow_47 rfl (by rfl) ?_
    refine r_iconst dX6_tellsRow_48 ?_
    refine r_callV2 (ct_X6_get _ _ (by first | exact hJ | exact h4 | exact h5 | exact m4 | exact m5 | omega | (unfold inR; omega)) (by first | exact hJ | exact h4 | exact h5 | exact m4 | exact m5 | omega | (unfold inR; omega))) fX6_get qX6_36 dX6_tellsRow_49 KD_110 (by decide) ⟨Nat.zero_le _, Nat.zero_le _⟩ (Nat.le_of_ble_eq_true rfl) ?_
    exact r_ret_i dX6_tellsRow_52 rfl ⟨Nat.zero_le _, Nat.zero_le _⟩ (by unfold trM; first | (rw [if_pos (show w = 0 by omega)]; done) | (rw [if_neg (show ¬ w = 0 by omega), if_pos (show w = 1 by omega)]; done) | (rw [if_neg (show ¬ w = 0 by omega), if_neg (show ¬ w = 1 by omega), if_pos (show w = 2 by omega)]; done) | (rw [if_neg (show ¬ w = 0 by omega), if_neg (show ¬ w = 1 by omega), if_neg (show ¬ w = 2 by omega), if_pos (show w = 3 by omega)]; done) | (rw [if_neg (show ¬ w = 0 by omega), if_neg (show ¬ w = 1 by omega), if_neg (show ¬ w = 2 by omega), if_neg (show ¬ w = 3 by omega), if_pos (show w = 4 by omega)]; done) | (rw [if_neg (show ¬ w = 0 by omega), if_neg (show ¬ w = 1 by omega), if_neg (show ¬ w = 2 by omega), if_neg (show ¬ w = 3 by omega), if_neg (show ¬ w = 4 by omega)]; done)) ⟨rfl, rfl, (by unfold trS; first | (rw [if_pos (show w ≤ 3 by omega)]; done) | (rw [if_neg (show ¬ w ≤ 3 by omega), if_pos (show w = 4 by omega)]; done) | (rw [if_neg (show ¬ w ≤ 3 by omega), if_neg (show ¬ w = 4 by omega)]; done)), rfl, rfl⟩
  · refine r_tsw (tgt := 53) (a := w) dX6_tellsRow_8 (by unfold inR; omega) (by omega) (by omega) (by rw [t_1]; rfl) (by decide) ?_
    refine r_aload_n dX6_tellsRow_53 rfl (by rfl) ?_
    refine r_callV0 ct_X6_newest fX6_newest qX6_44 dX6_tellsRow_54 KD_110 (by decide) ⟨Nat.zero_le _, Nat.zero_le _⟩ (Nat.le_of_ble_eq_true rfl) ?_
    refine r_iload_n dX6_tellsRow_57 rfl (by rfl) ?_
    refine r_isub dX6_tellsRow_58 ?_
    exact r_ret_i dX6_tellsRow_59 rfl ⟨Nat.zero_le _, Nat.zero_le _⟩ (by unfold trM; first | (rw [if_pos (show w = 0 by omega)]; done) | (rw [if_neg (show ¬ w = 0 by omega), if_pos (show w = 1 by omega)]; done) | (rw [if_neg (show ¬ w = 0 by omega), if_neg (show ¬ w = 1 by omega), if_pos (show w = 2 by omega)]; done) | (rw [if_neg (show ¬ w = 0 by omega), if_neg (show ¬ w = 1 by omega), if_neg (show ¬ w = 2 by omega), if_pos (show w = 3 by omega)]; done) | (rw [if_neg (show ¬ w = 0 by omega), if_neg (show ¬ w = 1 by omega), if_neg (show ¬ w = 2 by omega), if_neg (show ¬ w = 3 by omega), if_pos (show w = 4 by omega)]; done) | (rw [if_neg (show ¬ w = 0 by omega), if_neg (show ¬ w = 1 by omega), if_neg (show ¬ w = 2 by omega), if_neg (show ¬ w = 3 by omega), if_neg (show ¬ w = 4 by omega)]; done)) ⟨rfl, rfl, (by unfold trS; first | (rw [if_pos (show w ≤ 3 by omega)]; done) | (rw [if_neg (show ¬ w ≤ 3 by omega), if_pos (show w = 4 by omega)]; done) | (rw [if_neg (show ¬ w ≤ 3 by omega), if_neg (show ¬ w = 4 by omega)]; done)), rfl, rfl⟩
  · refine r_tsw (tgt := 60) (a := w) dX6_tellsRow_8 (by unfold inR; omega) (by omega) (by omega) (by rw [t_1]; rfl) (by decide) ?_
    refine r_aload_n dX6_tellsRow_60 rfl (by rfl) ?_
    refine r_iload_n dX6_tellsRow_61 rfl (by rfl) ?_
    refine r_iconst dX6_tellsRow_62 ?_
    refine r_callV2 (ct_X6_rowOf _ _ (by first | exact hJ | exact h4 | exact h5 | exact m4 | exact m5 | omega | (unfold inR; omega)) (by first | exact hJ | exact h4 | exact h5 | exact m4 | exact m5 | omega | (unfold inR; omega))) fX6_rowOf qX6_108 dX6_tellsRow_63 KD_110 (by decide) ⟨Nat.zero_le _, Nat.zero_le _⟩ (Nat.le_of_ble_eq_true rfl) ?_
    exact r_ret_i dX6_tellsRow_66 rfl ⟨Nat.zero_le _, Nat.zero_le _⟩ (by unfold trM; first | (rw [if_pos (show w = 0 by omega)]; done) | (rw [if_neg (show ¬ w = 0 by omega), if_pos (show w = 1 by omega)]; done) | (rw [if_neg (show ¬ w = 0 by omega), if_neg (show ¬ w = 1 by omega), if_pos (show w = 2 by omega)]; done) | (rw [if_neg (show ¬ w = 0 by omega), if_neg (show ¬ w = 1 by omega), if_neg (show ¬ w = 2 by omega), if_pos (show w = 3 by omega)]; done) | (rw [if_neg (show ¬ w = 0 by omega), if_neg (show ¬ w = 1 by omega), if_neg (show ¬ w = 2 by omega), if_neg (show ¬ w = 3 by omega), if_pos (show w = 4 by omega)]; done) | (rw [if_neg (show ¬ w = 0 by omega), if_neg (show ¬ w = 1 by omega), if_neg (show ¬ w = 2 by omega), if_neg (show ¬ w = 3 by omega), if_neg (show ¬ w = 4 by omega)]; done)) ⟨rfl, rfl, (by unfold trS; first | (rw [if_pos (show w ≤ 3 by omega)]; done) | (rw [if_neg (show ¬ w ≤ 3 by omega), if_pos (show w = 4 by omega)]; done) | (rw [if_neg (show ¬ w ≤ 3 by omega), if_neg (show ¬ w = 4 by omega)]; done)), rfl, rfl⟩
  · refine r_tsw (tgt := 67) (a := w) dX6_tellsRow_8 (by unfold inR; omega) (by omega) (by omega) (by rw [t_1]; rfl) (by decide) ?_
    refine r_aload_n dX6_tellsRow_67 rfl (by rfl) ?_
    refine r_iload_n dX6_tellsRow_68 rfl (by rfl) ?_
    refine r_iload_n dX6_tellsRow_69 rfl (by rfl) ?_
    refine r_callV2 (ct_X6_sumBy (by first | exact hJ | exact h4 | exact h5 | exact m4 | exact m5 | omega | (unfold inR; omega)) _ _ (by first | exact hJ | exact h4 | exact h5 | exact m4 | exact m5 | omega | (unfold inR; omega)) (by first | exact hJ | exact h4 | exact h5 | exact m4 | exact m5 | omega | (unfold inR; omega)) (by first | exact hJ | exact h4 | exact h5 | exact m4 | exact m5 | omega | (unfold inR; omega)) (by first | exact hJ | exact h4 | exact h5 | exact m4 | exact m5 | omega | (unfold inR; omega)) (by first | exact hJ | exact h4 | exact h5 | exact m4 | exact m5 | omega | (unfold inR; omega)) (by first | exact hJ | exact h4 | exact h5 | exact m4 | exact m5 | omega | (unfold inR; omega))) fX6_sumBy qX6_210 dX6_tellsRow_70 KD_110 (by decide) ⟨Nat.zero_le _, Nat.zero_le _⟩ (Nat.le_of_ble_eq_true rfl) ?_
    exact r_ret_i dX6_tellsRow_73 rfl ⟨Nat.zero_le _, Nat.zero_le _⟩ (by unfold trM; first | (rw [if_pos (show w = 0 by omega)]; done) | (rw [if_neg (show ¬ w = 0 by omega), if_pos (show w = 1 by omega)]; done) | (rw [if_neg (show ¬ w = 0 by omega), if_neg (show ¬ w = 1 by omega), if_pos (show w = 2 by omega)]; done) | (rw [if_neg (show ¬ w = 0 by omega), if_neg (show ¬ w = 1 by omega), if_neg (show ¬ w = 2 by omega), if_pos (show w = 3 by omega)]; done) | (rw [if_neg (show ¬ w = 0 by omega), if_neg (show ¬ w = 1 by omega), if_neg (show ¬ w = 2 by omega), if_neg (show ¬ w = 3 by omega), if_pos (show w = 4 by omega)]; done) | (rw [if_neg (show ¬ w = 0 by omega), if_neg (show ¬ w = 1 by omega), if_neg (show ¬ w = 2 by omega), if_neg (show ¬ w = 3 by omega), if_neg (show ¬ w = 4 by omega)]; done)) ⟨rfl, rfl, (by unfold trS; first | (rw [if_pos (show w ≤ 3 by omega)]; done) | (rw [if_neg (show ¬ w ≤ 3 by omega), if_pos (show w = 4 by omega)]; done) | (rw [if_neg (show ¬ w ≤ 3 by omega), if_neg (show ¬ w = 4 by omega)]; done)), rfl, rfl⟩
  · refine r_tsd (tgt := 74) (a := w) dX6_tellsRow_8 (by unfold inR; omega) t_1 (by decide) ?_
    refine r_aload_n dX6_tellsRow_74 rfl (by rfl) ?_
    refine r_iload_n dX6_tellsRow_75 rfl (by rfl) ?_
    refine r_aload_n dX6_tellsRow_76 rfl (by rfl) ?_
    refine r_callV0 ct_X6_newest fX6_newest qX6_44 dX6_tellsRow_77 KD_110 (by decide) ⟨Nat.zero_le _, Nat.zero_le _⟩ (Nat.le_of_ble_eq_true rfl) ?_
    refine r_callV2 (ct_X6_sumBy (by first | exact hJ | exact h4 | exact h5 | exact m4 | exact m5 | omega | (unfold inR; omega)) _ _ (by first | exact hJ | exact h4 | exact h5 | exact m4 | exact m5 | omega | (unfold inR; omega)) (by first | exact hJ | exact h4 | exact h5 | exact m4 | exact m5 | omega | (unfold inR; omega)) (by first | exact hJ | exact h4 | exact h5 | exact m4 | exact m5 | omega | (unfold inR; omega)) (by first | exact hJ | exact h4 | exact h5 | exact m4 | exact m5 | omega | (unfold inR; omega)) (by first | exact hJ | exact h4 | exact h5 | exact m4 | exact m5 | omega | (unfold inR; omega)) (by first | exact hJ | exact h4 | exact h5 | exact m4 | exact m5 | omega | (unfold inR; omega))) fX6_sumBy qX6_210 dX6_tellsRow_80 KD_110 (by decide) ⟨Nat.zero_le _, Nat.zero_le _⟩ (Nat.le_of_ble_eq_true rfl) ?_
    exact r_ret_i dX6_tellsRow_83 rfl ⟨Nat.zero_le _, Nat.zero_le _⟩ (by unfold trM; first | (rw [if_pos (show w = 0 by omega)]; done) | (rw [if_neg (show ¬ w = 0 by omega), if_pos (show w = 1 by omega)]; done) | (rw [if_neg (show ¬ w = 0 by omega), if_neg (show ¬ w = 1 by omega), if_pos (show w = 2 by omega)]; done) | (rw [if_neg (show ¬ w = 0 by omega), if_neg (show ¬ w = 1 by omega), if_neg (show ¬ w = 2 by omega), if_pos (show w = 3 by omega)]; done) | (rw [if_neg (show ¬ w = 0 by omega), if_neg (show ¬ w = 1 by omega), if_neg (show ¬ w = 2 by omega), if_neg (show ¬ w = 3 by omega), if_pos (show w = 4 by omega)]; done) | (rw [if_neg (show ¬ w = 0 by omega), if_neg (show ¬ w = 1 by omega), if_neg (show ¬ w = 2 by omega), if_neg (show ¬ w = 3 by omega), if_neg (show ¬ w = 4 by omega)]; done)) ⟨rfl, rfl, (by unfold trS; first | (rw [if_pos (show w ≤ 3 by omega)]; done) | (rw [if_neg (show ¬ w ≤ 3 by omega), if_pos (show w = 4 by omega)]; done) | (rw [if_neg (show ¬ w ≤ 3 by omega), if_neg (show ¬ w = 4 by omega)]; done)), rfl, rfl⟩

set_option maxRecDepth 100000 in
set_option maxHeartbeats 4000000 in
theorem ct_X6_sign {l : Launch} {G : GG} {π : Nat → Option Nat} {σ τ : ST} (hB : BJ σ) : Ct l G mX6_sign (0, 0, 0) [.ref 110] 117 KD σ τ (RHO π) (KQ (some (.int (iI (sgM σ)))) 117 KD σ τ (RHO π)) := by
  obtain ⟨b1, b2, b3, b4⟩ := hB
  refine ct_intro (own := "ShapedRowsModel") rfl (by decide +kernel) (Nat.le_of_ble_eq_true rfl) (L := _) rfl ?_
  refine r_aload_n dX6_sign_0 rfl (by rfl) ?_
  refine r_get_i kX6_154 dX6_sign_1 KD_110 ?_
  refine r_aload_n dX6_sign_4 rfl (by rfl) ?_
  refine r_get_i kX6_151 dX6_sign_5 KD_110 ?_
  refine r_icmp_ge (tgt := 23) dX6_sign_8 (by decide) (by unfold inR; omega) (by unfold inR; omega) (fun c_1 => ?_) (fun c_1 => ?_)
  · refine r_iconst dX6_sign_23 ?_
    exact r_ret_i dX6_sign_24 rfl ⟨Nat.zero_le _, Nat.zero_le _⟩ (by unfold sgM; first | (rw [if_pos (by omega)]; done) | (rw [if_neg (by omega)]; done)) ⟨rfl, rfl, (by first | rfl | omega), rfl, rfl⟩
  · refine r_aload_n dX6_sign_11 rfl (by rfl) ?_
    refine r_get_r kX6_16 dX6_sign_12 KD_110 (RHO_110_4 _) ?_
    refine r_aload_n dX6_sign_15 rfl (by rfl) ?_
    refine r_get_i kX6_154 dX6_sign_16 KD_110 ?_
    refine r_iald dX6_sign_19 KD_113 (by omega) (by omega) (by first | decide | omega) ?_
    refine r_goto (tgt := 24) dX6_sign_20 (by decide) ?_
    exact r_ret_i dX6_sign_24 rfl ⟨Nat.zero_le _, Nat.zero_le _⟩ (by unfold sgM; first | (rw [if_pos (by omega)]; done) | (rw [if_neg (by omega)]; done)) ⟨rfl, rfl, (by first | rfl | omega), rfl, rfl⟩
