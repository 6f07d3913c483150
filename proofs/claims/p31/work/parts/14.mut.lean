/-! the class: shapes that come, rows that are written -/
def come1 (σ : ST) (ch : Int) : ST := up2 (up2 σ 3 (σ 2 0).toNat ch) 7 (σ 2 0).toNat (σ 7 (σ 2 0 - 1).toNat)
def comeM (σ : ST) (ch : Int) (k : Nat) : ST := cpR (cpR (come1 σ ch) 8 (8 * (σ 2 0).toNat) k (fun j => σ 8 (8 * (σ 2 0 - 1).toNat + j))) 9 (8 * (σ 2 0).toNat) k (fun j => σ 9 (8 * (σ 2 0 - 1).toNat + j))
def comeF (σ : ST) (ch : Int) : ST := up2 (comeM σ ch (σ 7 (σ 2 0 - 1).toNat).toNat) 2 0 (σ 2 0 + 1)
theorem comeM_7 {σ : ST} (hI : CI σ) (ch : Int) (k : Nat) : comeM σ ch k 7 (σ 2 0 - 1).toNat = σ 7 (σ 2 0 - 1).toNat := by
  have hz := hI.sz
  unfold comeM come1
  rw [cpR_off _ _ _ _ (by decide), cpR_off _ _ _ _ (by decide), up2_el _ _ _ (by omega), up2_ne _ _ _ _ (by decide)]
theorem comeM_8 {σ : ST} (hI : CI σ) (ch : Int) (k j : Nat) (hj : j < 8) : comeM σ ch k 8 (8 * (σ 2 0 - 1).toNat + j) = σ 8 (8 * (σ 2 0 - 1).toNat + j) := by
  have hz := hI.sz
  unfold comeM come1
  rw [cpR_off _ _ _ _ (by decide), cpR_out _ _ _ _ (by omega), up2_ne _ _ _ _ (by decide), up2_ne _ _ _ _ (by decide)]
theorem comeM_9 {σ : ST} (hI : CI σ) (ch : Int) (k j : Nat) (hj : j < 8) : comeM σ ch k 9 (8 * (σ 2 0 - 1).toNat + j) = σ 9 (8 * (σ 2 0 - 1).toNat + j) := by
  have hz := hI.sz
  unfold comeM come1
  rw [cpR_out _ _ _ _ (by omega), cpR_off _ _ _ _ (by decide), up2_ne _ _ _ _ (by decide), up2_ne _ _ _ _ (by decide)]
theorem comeM_20 (σ : ST) (ch : Int) (k : Nat) : comeM σ ch k 2 0 = σ 2 0 := by
  unfold comeM come1
  rw [cpR_off _ _ _ _ (by decide), cpR_off _ _ _ _ (by decide), up2_ne _ _ _ _ (by decide), up2_ne _ _ _ _ (by decide)]
theorem comeM_s (σ : ST) (ch : Int) (k : Nat) : up2 (up2 (comeM σ ch k) 8 (8 * (σ 2 0).toNat + k) (σ 8 (8 * (σ 2 0 - 1).toNat + k))) 9 (8 * (σ 2 0).toNat + k) (σ 9 (8 * (σ 2 0 - 1).toNat + k)) = comeM σ ch (k + 1) := by
  unfold comeM
  rw [cpR_ne _ _ _ _ _ _ (by decide), cpR_up _ 8 _ k (fun j => σ 8 (8 * (σ 2 0 - 1).toNat + j)), cpR_up _ 9 _ k (fun j => σ 9 (8 * (σ 2 0 - 1).toNat + j))]
theorem comeF_7 {σ : ST} (hI : CI σ) (ch : Int) : comeF σ ch 7 (σ 2 0).toNat = σ 7 (σ 2 0 - 1).toNat := by
  have hz := hI.sz
  unfold comeF comeM come1
  rw [up2_ne _ _ _ _ (by decide), cpR_off _ _ _ _ (by decide), cpR_off _ _ _ _ (by decide), up2_at]
def addLF (σ : ST) (s a : Int) : ST := up2 (up2 (up2 σ 7 s.toNat (σ 7 s.toNat + 1)) 8 (8 * s.toNat + (σ 7 s.toNat).toNat) s) 9 (8 * s.toNat + (σ 7 s.toNat).toNat) a
def gapM (σ : ST) (s g : Int) (k : Nat) : ST := cpR (cpR σ 8 (8 * s.toNat + g.toNat) k (fun j => σ 8 (8 * s.toNat + (g.toNat + j + 1)))) 9 (8 * s.toNat + g.toNat) k (fun j => σ 9 (8 * s.toNat + (g.toNat + j + 1)))
def gapF (σ : ST) (s g : Int) : ST := up2 (gapM σ s g (σ 7 s.toNat - 1 - g).toNat) 7 s.toNat (σ 7 s.toNat - 1)
theorem gapM_8 (σ : ST) (s g : Int) (k j : Nat) (h : g.toNat + k ≤ j) : gapM σ s g k 8 (8 * s.toNat + j) = σ 8 (8 * s.toNat + j) := by
  unfold gapM
  rw [cpR_off _ _ _ _ (by decide), cpR_out _ _ _ _ (by omega)]
theorem gapM_9 (σ : ST) (s g : Int) (k j : Nat) (h : g.toNat + k ≤ j) : gapM σ s g k 9 (8 * s.toNat + j) = σ 9 (8 * s.toNat + j) := by
  unfold gapM
  rw [cpR_out _ _ _ _ (by omega), cpR_off _ _ _ _ (by decide)]
theorem gapM_s (σ : ST) (s g : Int) (k : Nat) : up2 (up2 (gapM σ s g k) 8 (8 * s.toNat + g.toNat + k) (σ 8 (8 * s.toNat + (g.toNat + k + 1)))) 9 (8 * s.toNat + g.toNat + k) (σ 9 (8 * s.toNat + (g.toNat + k + 1))) = gapM σ s g (k + 1) := by
  unfold gapM
  rw [cpR_ne _ _ _ _ _ _ (by decide), cpR_up _ 8 _ k (fun j => σ 8 (8 * s.toNat + (g.toNat + j + 1))), cpR_up _ 9 _ k (fun j => σ 9 (8 * s.toNat + (g.toNat + j + 1)))]

set_option maxRecDepth 100000 in
set_option maxHeartbeats 4000000 in
theorem ct_X2_comeBy {l : Launch} {G : GG} {π : Nat → Option Nat} {σ τ : ST} (hI : CI σ) (hz : σ 2 0 < 12) (ch : Int) : Ct l G mX2_comeBy (2, 0, 0) [.ref 2, .int (iI ch)] 110 KD σ τ (RHO π) (KQ (some (.int (iI (σ 2 0)))) 110 KD (comeF σ ch) τ (RHO π)) := by
  have hz1 := hI.sz
  have hw := hI.wd (σ 2 0 - 1).toNat
  refine ct_intro (own := "ShapedRows$Shapes") rfl (by decide +kernel) (Nat.le_of_ble_eq_true rfl) (L := _) rfl ?_
  have cut_35 : ∀ (N : Nat) (k : Int), (0 ≤ k) → (k ≤ σ 7 (σ 2 0 - 1).toNat) → σ 7 (σ 2 0 - 1).toNat - k < (N : Int) → WP l G "ShapedRows$Shapes" mX2_comeBy (2, 0, 0) (KQ (some (.int (iI (σ 2 0)))) 110 KD (comeF σ ch) τ (RHO π)) noX 110 35 [some (.ref 2), some (.int (iI ch)), some (.int (iI (σ 2 0))), some (.int (iI (σ 2 0 - 1))), some (.int (iI k))] [] 110 KD (comeM σ ch k.toNat) τ (RHO π) 0 0 := by
    intro N
    induction N with
    | zero => intro k k0 k1 hm; exact absurd hm (by omega)
    | succ N ih =>
      intro k k0 k1 hm
      refine r_iload dX2_comeBy_35 (by rfl) ?_
      refine r_aload_n dX2_comeBy_37 rfl (by rfl) ?_
      refine r_iload_n dX2_comeBy_38 rfl (by rfl) ?_
      refine r_callV1 (ct_X2_width _ (by omega) (by omega)) fX2_width qX2_61 dX2_comeBy_39 KD_2 (by decide) ⟨Nat.zero_le _, Nat.zero_le _⟩ (Nat.le_of_ble_eq_true rfl) ?_
      rw [comeM_7 hI]
      refine r_icmp_ge (tgt := 93) dX2_comeBy_42 (by decide) (by unfold inR; omega) (by unfold inR; omega) (fun c_1 => ?_) (fun c_1 => ?_)
      · refine r_aload_n dX2_comeBy_93 rfl (by rfl) ?_
        refine r_dup dX2_comeBy_94 rfl ?_
        refine r_get_i kX2_9 dX2_comeBy_95 KD_2 ?_
        rw [comeM_20]
        refine r_iconst dX2_comeBy_98 ?_
        refine r_iadd dX2_comeBy_99 ?_
        refine r_put_i kX2_9 dX2_comeBy_100 KD_2 ?_
        refine r_iload_n dX2_comeBy_103 rfl (by rfl) ?_
        exact r_ret_i dX2_comeBy_104 rfl ⟨Nat.zero_le _, Nat.zero_le _⟩ (by first | rfl | omega | (split <;> omega)) ⟨rfl, rfl, (by unfold comeF; rw [show k = σ 7 (σ 2 0 - 1).toNat by omega]), rfl, rfl⟩
      · refine r_aload_n dX2_comeBy_45 rfl (by rfl) ?_
        refine r_get_r kX2_34 dX2_comeBy_46 KD_2 (RHO_2_7 _) ?_
        refine r_iload_n dX2_comeBy_49 rfl (by rfl) ?_
        refine r_bipush dX2_comeBy_50 (by decide) ?_
        refine r_imul dX2_comeBy_52 ?_
        refine r_iload dX2_comeBy_53 (by rfl) ?_
        refine r_iadd dX2_comeBy_55 ?_
        refine r_aload_n dX2_comeBy_56 rfl (by rfl) ?_
        refine r_iload_n dX2_comeBy_57 rfl (by rfl) ?_
        refine r_iload dX2_comeBy_58 (by rfl) ?_
        refine r_callV2 (ct_X2_columnAt _ (by omega) (by omega) _ (by omega) (by omega)) fX2_columnAt qX2_55 dX2_comeBy_60 KD_2 (by decide) ⟨Nat.zero_le _, Nat.zero_le _⟩ (Nat.le_of_ble_eq_true rfl) ?_
        refine r_callN3 (ct_X5_put KD_8 (by decide) _ (by omega) (by omega) _) fX5_put qX2_82 dX2_comeBy_63 (by decide) ⟨Nat.zero_le _, Nat.zero_le _⟩ (Nat.le_of_ble_eq_true rfl) ?_
        refine r_aload_n dX2_comeBy_66 rfl (by rfl) ?_
        refine r_get_r kX2_37 dX2_comeBy_67 KD_2 (RHO_2_8 _) ?_
        refine r_iload_n dX2_comeBy_70 rfl (by rfl) ?_
        refine r_bipush dX2_comeBy_71 (by decide) ?_
        refine r_imul dX2_comeBy_73 ?_
        refine r_iload dX2_comeBy_74 (by rfl) ?_
        refine r_iadd dX2_comeBy_76 ?_
        refine r_aload_n dX2_comeBy_77 rfl (by rfl) ?_
        refine r_iload_n dX2_comeBy_78 rfl (by rfl) ?_
        refine r_iload dX2_comeBy_79 (by rfl) ?_
        refine r_callV2 (ct_X2_letterAt _ (by omega) (by omega) _ (by omega) (by omega)) fX2_letterAt qX2_65 dX2_comeBy_81 KD_2 (by decide) ⟨Nat.zero_le _, Nat.zero_le _⟩ (Nat.le_of_ble_eq_true rfl) ?_
        refine r_callN3 (ct_X5_put KD_9 (by decide) _ (by omega) (by omega) _) fX5_put qX2_82 dX2_comeBy_84 (by decide) ⟨Nat.zero_le _, Nat.zero_le _⟩ (Nat.le_of_ble_eq_true rfl) ?_
        refine r_iinc dX2_comeBy_87 (by rfl) (Nat.le_of_ble_eq_true rfl) (L' := [_, _, _, _, _]) (by rfl) ?_
        refine r_goto (tgt := 35) dX2_comeBy_90 (by decide) ?_
        refine WP.mem (σ' := comeM σ ch (k + 1).toNat) ?_ (ih (k + 1) (by omega) (by omega) (by omega))
        rw [up2_ne _ _ _ _ (by decide), comeM_8 hI _ _ _ (by omega), comeM_9 hI _ _ _ (by omega), show (σ 2 0 * 8 + k).toNat = 8 * (σ 2 0).toNat + k.toNat by omega, show (k + 1).toNat = k.toNat + 1 by omega, comeM_s]
  refine r_aload_n dX2_comeBy_0 rfl (by rfl) ?_
  refine r_get_i kX2_9 dX2_comeBy_1 KD_2 ?_
  refine r_istore_n dX2_comeBy_4 rfl (Nat.le_of_ble_eq_true rfl) (L' := [_, _, _, _, _]) (by rfl) ?_
  refine r_aload_n dX2_comeBy_5 rfl (by rfl) ?_
  refine r_callV0 ct_X2_newest fX2_newest qX2_68 dX2_comeBy_6 KD_2 (by decide) ⟨Nat.zero_le _, Nat.zero_le _⟩ (Nat.le_of_ble_eq_true rfl) ?_
  refine r_istore_n dX2_comeBy_9 rfl (Nat.le_of_ble_eq_true rfl) (L' := [_, _, _, _, _]) (by rfl) ?_
  refine r_aload_n dX2_comeBy_10 rfl (by rfl) ?_
  refine r_get_r kX2_18 dX2_comeBy_11 KD_2 (RHO_2_2 _) ?_
  refine r_iload_n dX2_comeBy_14 rfl (by rfl) ?_
  refine r_iload_n dX2_comeBy_15 rfl (by rfl) ?_
  refine r_callN3 (ct_X5_put KD_3 (by decide) _ (by omega) (by omega) _) fX5_put qX2_82 dX2_comeBy_16 (by decide) ⟨Nat.zero_le _, Nat.zero_le _⟩ (Nat.le_of_ble_eq_true rfl) ?_
  refine r_aload_n dX2_comeBy_19 rfl (by rfl) ?_
  refine r_get_r kX2_31 dX2_comeBy_20 KD_2 (RHO_2_6 _) ?_
  refine r_iload_n dX2_comeBy_23 rfl (by rfl) ?_
  refine r_aload_n dX2_comeBy_24 rfl (by rfl) ?_
  refine r_iload_n dX2_comeBy_25 rfl (by rfl) ?_
  refine r_callV1 (ct_X2_width _ (by omega) (by omega)) fX2_width qX2_61 dX2_comeBy_26 KD_2 (by decide) ⟨Nat.zero_le _, Nat.zero_le _⟩ (Nat.le_of_ble_eq_true rfl) ?_
  refine r_callN3 (ct_X5_put KD_7 (by decide) _ (by omega) (by omega) _) fX5_put qX2_82 dX2_comeBy_29 (by decide) ⟨Nat.zero_le _, Nat.zero_le _⟩ (Nat.le_of_ble_eq_true rfl) ?_
  refine r_iconst dX2_comeBy_32 ?_
  refine r_istore dX2_comeBy_33 (Nat.le_of_ble_eq_true rfl) (L' := [_, _, _, _, _]) (by rfl) ?_
  refine WP.mem (σ' := comeM σ ch (0 : Int).toNat) ?_ (cut_35 9 0 (by omega) (by omega) (by omega))
  unfold comeM come1
  rw [show (0 : Int).toNat = 0 from rfl, cpR_0, cpR_0, up2_ne _ _ _ _ (by decide)]

set_option maxRecDepth 100000 in
set_option maxHeartbeats 4000000 in
theorem ct_X2_addLast {l : Launch} {G : GG} {π : Nat → Option Nat} {σ τ : ST} (s : Int) (h0 : 0 ≤ s) (h1 : s < 12) (hw0 : 0 ≤ σ 7 s.toNat) (hw : σ 7 s.toNat < 8) (a : Int) : Ct l G mX2_addLast (2, 0, 0) [.ref 2, .int (iI s), .int (iI a)] 110 KD σ τ (RHO π) (KQ none 110 KD (addLF σ s a) τ (RHO π)) := by
  refine ct_intro (own := "ShapedRows$Shapes") rfl (by decide +kernel) (Nat.le_of_ble_eq_true rfl) (L := _) rfl ?_
  refine r_aload_n dX2_addLast_0 rfl (by rfl) ?_
  refine r_iload_n dX2_addLast_1 rfl (by rfl) ?_
  refine r_callV1 (ct_X2_width _ (by omega) (by omega)) fX2_width qX2_61 dX2_addLast_2 KD_2 (by decide) ⟨Nat.zero_le _, Nat.zero_le _⟩ (Nat.le_of_ble_eq_true rfl) ?_
  refine r_istore_n dX2_addLast_5 rfl (Nat.le_of_ble_eq_true rfl) (L' := [_, _, _, _]) (by rfl) ?_
  refine r_aload_n dX2_addLast_6 rfl (by rfl) ?_
  refine r_get_r kX2_31 dX2_addLast_7 KD_2 (RHO_2_6 _) ?_
  refine r_iload_n dX2_addLast_10 rfl (by rfl) ?_
  refine r_iload_n dX2_addLast_11 rfl (by rfl) ?_
  refine r_iconst dX2_addLast_12 ?_
  refine r_iadd dX2_addLast_13 ?_
  refine r_callN3 (ct_X5_put KD_7 (by decide) _ (by omega) (by omega) _) fX5_put qX2_82 dX2_addLast_14 (by decide) ⟨Nat.zero_le _, Nat.zero_le _⟩ (Nat.le_of_ble_eq_true rfl) ?_
  refine r_aload_n dX2_addLast_17 rfl (by rfl) ?_
  refine r_get_r kX2_34 dX2_addLast_18 KD_2 (RHO_2_7 _) ?_
  refine r_iload_n dX2_addLast_21 rfl (by rfl) ?_
  refine r_bipush dX2_addLast_22 (by decide) ?_
  refine r_imul dX2_addLast_24 ?_
  refine r_iload_n dX2_addLast_25 rfl (by rfl) ?_
  refine r_iadd dX2_addLast_26 ?_
  refine r_iload_n dX2_addLast_27 rfl (by rfl) ?_
  refine r_callN3 (ct_X5_put KD_8 (by decide) _ (by omega) (by omega) _) fX5_put qX2_82 dX2_addLast_28 (by decide) ⟨Nat.zero_le _, Nat.zero_le _⟩ (Nat.le_of_ble_eq_true rfl) ?_
  refine r_aload_n dX2_addLast_31 rfl (by rfl) ?_
  refine r_get_r kX2_37 dX2_addLast_32 KD_2 (RHO_2_8 _) ?_
  refine r_iload_n dX2_addLast_35 rfl (by rfl) ?_
  refine r_bipush dX2_addLast_36 (by decide) ?_
  refine r_imul dX2_addLast_38 ?_
  refine r_iload_n dX2_addLast_39 rfl (by rfl) ?_
  refine r_iadd dX2_addLast_40 ?_
  refine r_iload_n dX2_addLast_41 rfl (by rfl) ?_
  refine r_callN3 (ct_X5_put KD_9 (by decide) _ (by omega) (by omega) _) fX5_put qX2_82 dX2_addLast_42 (by decide) ⟨Nat.zero_le _, Nat.zero_le _⟩ (Nat.le_of_ble_eq_true rfl) ?_
  exact r_ret_v dX2_addLast_45 rfl ⟨Nat.zero_le _, Nat.zero_le _⟩ ⟨rfl, rfl, (by unfold addLF; rw [show (s * 8 + σ 7 s.toNat).toNat = 8 * s.toNat + (σ 7 s.toNat).toNat by omega]), rfl, rfl⟩

set_option maxRecDepth 100000 in
set_option maxHeartbeats 4000000 in
theorem ct_X2_closeGap {l : Launch} {G : GG} {π : Nat → Option Nat} {σ τ : ST} (s : Int) (h0 : 0 ≤ s) (h1 : s < 12) (hw : σ 7 s.toNat ≤ 8) (g : Int) (h2 : 0 ≤ g) (h3 : g < σ 7 s.toNat) : Ct l G mX2_closeGap (2, 0, 0) [.ref 2, .int (iI s), .int (iI g)] 110 KD σ τ (RHO π) (KQ none 110 KD (gapF σ s g) τ (RHO π)) := by
  refine ct_intro (own := "ShapedRows$Shapes") rfl (by decide +kernel) (Nat.le_of_ble_eq_true rfl) (L := _) rfl ?_
  have cut_11 : ∀ (N : Nat) (k : Int), (g ≤ k) → (k ≤ σ 7 s.toNat - 1) → σ 7 s.toNat - 1 - k < (N : Int) → WP l G "ShapedRows$Shapes" mX2_closeGap (2, 0, 0) (KQ none 110 KD (gapF σ s g) τ (RHO π)) noX 110 11 [some (.ref 2), some (.int (iI s)), some (.int (iI g)), some (.int (iI (σ 7 s.toNat - 1))), some (.int (iI k))] [] 110 KD (gapM σ s g (k - g).toNat) τ (RHO π) 0 0 := by
    intro N
    induction N with
    | zero => intro k k0 k1 hm; exact absurd hm (by omega)
    | succ N ih =>
      intro k k0 k1 hm
      refine r_iload dX2_closeGap_11 (by rfl) ?_
      refine r_iload_n dX2_closeGap_13 rfl (by rfl) ?_
      refine r_icmp_ge (tgt := 69) dX2_closeGap_14 (by decide) (by unfold inR; omega) (by unfold inR; omega) (fun c_1 => ?_) (fun c_1 => ?_)
      · refine r_aload_n dX2_closeGap_69 rfl (by rfl) ?_
        refine r_get_r kX2_31 dX2_closeGap_70 KD_2 (RHO_2_6 _) ?_
        refine r_iload_n dX2_closeGap_73 rfl (by rfl) ?_
        refine r_iload_n dX2_closeGap_74 rfl (by rfl) ?_
        refine r_callN3 (ct_X5_put KD_7 (by decide) _ (by omega) (by omega) _) fX5_put qX2_82 dX2_closeGap_75 (by decide) ⟨Nat.zero_le _, Nat.zero_le _⟩ (Nat.le_of_ble_eq_true rfl) ?_
        exact r_ret_v dX2_closeGap_78 rfl ⟨Nat.zero_le _, Nat.zero_le _⟩ ⟨rfl, rfl, (by unfold gapF; rw [show k = σ 7 s.toNat - 1 by omega]), rfl, rfl⟩
      · refine r_aload_n dX2_closeGap_17 rfl (by rfl) ?_
        refine r_get_r kX2_34 dX2_closeGap_18 KD_2 (RHO_2_7 _) ?_
        refine r_iload_n dX2_closeGap_21 rfl (by rfl) ?_
        refine r_bipush dX2_closeGap_22 (by decide) ?_
        refine r_imul dX2_closeGap_24 ?_
        refine r_iload dX2_closeGap_25 (by rfl) ?_
        refine r_iadd dX2_closeGap_27 ?_
        refine r_aload_n dX2_closeGap_28 rfl (by rfl) ?_
        refine r_iload_n dX2_closeGap_29 rfl (by rfl) ?_
        refine r_iload dX2_closeGap_30 (by rfl) ?_
        refine r_iconst dX2_closeGap_32 ?_
        refine r_iadd dX2_closeGap_33 ?_
        refine r_callV2 (ct_X2_columnAt _ (by omega) (by omega) _ (by omega) (by omega)) fX2_columnAt qX2_55 dX2_closeGap_34 KD_2 (by decide) ⟨Nat.zero_le _, Nat.zero_le _⟩ (Nat.le_of_ble_eq_true rfl) ?_
        refine r_callN3 (ct_X5_put KD_8 (by decide) _ (by omega) (by omega) _) fX5_put qX2_82 dX2_closeGap_37 (by decide) ⟨Nat.zero_le _, Nat.zero_le _⟩ (Nat.le_of_ble_eq_true rfl) ?_
        refine r_aload_n dX2_closeGap_40 rfl (by rfl) ?_
        refine r_get_r kX2_37 dX2_closeGap_41 KD_2 (RHO_2_8 _) ?_
        refine r_iload_n dX2_closeGap_44 rfl (by rfl) ?_
        refine r_bipush dX2_closeGap_45 (by decide) ?_
        refine r_imul dX2_closeGap_47 ?_
        refine r_iload dX2_closeGap_48 (by rfl) ?_
        refine r_iadd dX2_closeGap_50 ?_
        refine r_aload_n dX2_closeGap_51 rfl (by rfl) ?_
        refine r_iload_n dX2_closeGap_52 rfl (by rfl) ?_
        refine r_iload dX2_closeGap_53 (by rfl) ?_
        refine r_iconst dX2_closeGap_55 ?_
        refine r_iadd dX2_closeGap_56 ?_
        refine r_callV2 (ct_X2_letterAt _ (by omega) (by omega) _ (by omega) (by omega)) fX2_letterAt qX2_65 dX2_closeGap_57 KD_2 (by decide) ⟨Nat.zero_le _, Nat.zero_le _⟩ (Nat.le_of_ble_eq_true rfl) ?_
        refine r_callN3 (ct_X5_put KD_9 (by decide) _ (by omega) (by omega) _) fX5_put qX2_82 dX2_closeGap_60 (by decide) ⟨Nat.zero_le _, Nat.zero_le _⟩ (Nat.le_of_ble_eq_true rfl) ?_
        refine r_iinc dX2_closeGap_63 (by rfl) (Nat.le_of_ble_eq_true rfl) (L' := [_, _, _, _, _]) (by rfl) ?_
        refine r_goto (tgt := 11) dX2_closeGap_66 (by decide) ?_
        refine WP.mem (σ' := gapM σ s g (k + 1 - g).toNat) ?_ (ih (k + 1) (by omega) (by omega) (by omega))
        rw [up2_ne _ _ _ _ (by decide), gapM_8 _ _ _ _ _ (by omega), gapM_9 _ _ _ _ _ (by omega), show (s * 8 + k).toNat = 8 * s.toNat + g.toNat + (k - g).toNat by omega, show (k + 1).toNat = g.toNat + (k - g).toNat + 1 by omega, show (k + 1 - g).toNat = (k - g).toNat + 1 by omega, gapM_s]
  refine r_aload_n dX2_closeGap_0 rfl (by rfl) ?_
  refine r_iload_n dX2_closeGap_1 rfl (by rfl) ?_
  refine r_callV1 (ct_X2_width _ (by omega) (by omega)) fX2_width qX2_61 dX2_closeGap_2 KD_2 (by decide) ⟨Nat.zero_le _, Nat.zero_le _⟩ (Nat.le_of_ble_eq_true rfl) ?_
  refine r_iconst dX2_closeGap_5 ?_
  refine r_isub dX2_closeGap_6 ?_
  refine r_istore_n dX2_closeGap_7 rfl (Nat.le_of_ble_eq_true rfl) (L' := [_, _, _, _, _]) (by rfl) ?_
  refine r_iload_n dX2_closeGap_8 rfl (by rfl) ?_
  refine r_istore dX2_closeGap_9 (Nat.le_of_ble_eq_true rfl) (L' := [_, _, _, _, _]) (by rfl) ?_
  refine WP.mem (σ' := gapM σ s g (g - g).toNat) ?_ (cut_11 9 g (by omega) (by omega) (by omega))
  unfold gapM
  rw [show (g - g).toNat = 0 by omega, cpR_0, cpR_0]

def exN (σ : ST) (a m : Int) : ST := addLF (up2 (comeF σ 1) 4 (σ 2 0).toNat m) (σ 2 0) a
def exC (σ : ST) (a b c : Int) : ST := addLF (up2 (up2 (comeF σ (if c = -1 then 2 else 3)) 5 (σ 2 0).toNat (colL σ (σ 2 0 - 1).toNat b)) 6 (σ 2 0).toNat (colL σ (σ 2 0 - 1).toNat c)) (σ 2 0) a
def lvO (σ : ST) (a m : Int) : ST := gapF (up2 (up2 (comeF σ 4) 5 (σ 2 0).toNat (σ 8 (8 * (σ 2 0 - 1).toNat + (plc σ (σ 2 0 - 1).toNat a).toNat))) 4 (σ 2 0).toNat m) (σ 2 0) (plc σ (σ 2 0 - 1).toNat a)
def xcL (σ : ST) (a b : Int) : ST := up2 (comeF σ 5) 9 (8 * (σ 2 0).toNat + (plc σ (σ 2 0 - 1).toNat a).toNat) b

set_option maxRecDepth 100000 in
set_option maxHeartbeats 4000000 in
theorem ct_X2_extendByNumber {l : Launch} {G : GG} {π : Nat → Option Nat} {σ τ : ST} (hI : CI σ) (hz : σ 2 0 < 12) (hw : σ 7 (σ 2 0 - 1).toNat < 8) (a m : Int) : Ct l G mX2_extendByNumber (3, 0, 0) [.ref 2, .int (iI a), .int (iI m)] 110 KD σ τ (RHO π) (KQ (some (.int (iI (σ 2 0)))) 110 KD (exN σ a m) τ (RHO π)) := by
  have hz1 := hI.sz
  have hw1 := hI.wd (σ 2 0 - 1).toNat
  have e7 := comeF_7 hI 1
  refine ct_intro (own := "ShapedRows$Shapes") rfl (by decide +kernel) (Nat.le_of_ble_eq_true rfl) (L := _) rfl ?_
  refine r_aload_n dX2_extendByNumber_0 rfl (by rfl) ?_
  refine r_iconst dX2_extendByNumber_1 ?_
  refine r_callV1 (ct_X2_comeBy hI (by first | omega | (rw [up2_ne _ _ _ _ (by decide)]; omega)) _) fX2_comeBy qX2_79 dX2_extendByNumber_2 KD_2 (by decide) ⟨Nat.zero_le _, Nat.zero_le _⟩ (Nat.le_of_ble_eq_true rfl) ?_
  refine r_istore_n dX2_extendByNumber_5 rfl (Nat.le_of_ble_eq_true rfl) (L' := [_, _, _, _]) (by rfl) ?_
  refine r_aload_n dX2_extendByNumber_6 rfl (by rfl) ?_
  refine r_get_r kX2_22 dX2_extendByNumber_7 KD_2 (RHO_2_3 _) ?_
  refine r_iload_n dX2_extendByNumber_10 rfl (by rfl) ?_
  refine r_iload_n dX2_extendByNumber_11 rfl (by rfl) ?_
  refine r_callN3 (ct_X5_put KD_4 (by decide) _ (by first | omega | (rw [up2_ne _ _ _ _ (by decide)]; omega)) (by first | omega | (rw [up2_ne _ _ _ _ (by decide)]; omega)) _) fX5_put qX2_82 dX2_extendByNumber_12 (by decide) ⟨Nat.zero_le _, Nat.zero_le _⟩ (Nat.le_of_ble_eq_true rfl) ?_
  refine r_aload_n dX2_extendByNumber_15 rfl (by rfl) ?_
  refine r_iload_n dX2_extendByNumber_16 rfl (by rfl) ?_
  refine r_iload_n dX2_extendByNumber_17 rfl (by rfl) ?_
  refine r_callV2 (ct_X2_addLast _ (by first | omega | (rw [up2_ne _ _ _ _ (by decide)]; omega)) (by first | omega | (rw [up2_ne _ _ _ _ (by decide)]; omega)) (by first | omega | (rw [up2_ne _ _ _ _ (by decide)]; omega)) (by first | omega | (rw [up2_ne _ _ _ _ (by decide)]; omega)) _) fX2_addLast qX2_86 dX2_extendByNumber_18 KD_2 (by decide) ⟨Nat.zero_le _, Nat.zero_le _⟩ (Nat.le_of_ble_eq_true rfl) ?_
  refine r_iload_n dX2_extendByNumber_21 rfl (by rfl) ?_
  exact r_ret_i dX2_extendByNumber_22 rfl ⟨Nat.zero_le _, Nat.zero_le _⟩ (by first | rfl | omega | (split <;> omega)) ⟨rfl, rfl, (by first | rfl | omega), rfl, rfl⟩

set_option maxRecDepth 100000 in
set_option maxHeartbeats 4000000 in
theorem ct_X2_extendFrom {l : Launch} {G : GG} {π : Nat → Option Nat} {σ τ : ST} (hI : CI σ) (hz : σ 2 0 < 12) (hw : σ 7 (σ 2 0 - 1).toNat < 8) (a b c : Int) (hb : inR b) (hc : inR c) : Ct l G mX2_extendFrom (3, 0, 0) [.ref 2, .int (iI a), .int (iI b), .int (iI c)] 110 KD σ τ (RHO π) (KQ (some (.int (iI (σ 2 0)))) 110 KD (exC σ a b c) τ (RHO π)) := by
  have hz1 := hI.sz
  have hw1 := hI.wd (σ 2 0 - 1).toNat
  have e7 := comeF_7 hI 2
  have e8 := comeF_7 hI 3
  have hc0 := hc
  unfold inR at hc0
  refine ct_intro (own := "ShapedRows$Shapes") rfl (by decide +kernel) (Nat.le_of_ble_eq_true rfl) (L := _) rfl ?_
  refine r_aload_n dX2_extendFrom_0 rfl (by rfl) ?_
  refine r_aload_n dX2_extendFrom_1 rfl (by rfl) ?_
  refine r_callV0 ct_X2_newest fX2_newest qX2_68 dX2_extendFrom_2 KD_2 (by decide) ⟨Nat.zero_le _, Nat.zero_le _⟩ (Nat.le_of_ble_eq_true rfl) ?_
  refine r_iload_n dX2_extendFrom_5 rfl (by rfl) ?_
  refine r_callV2 (ct_X2_columnOfLetter hI _ (by first | exact hb | exact hc | omega | (rw [up2_ne _ _ _ _ (by decide), up2_ne _ _ _ _ (by decide)]; omega)) (by first | exact hb | exact hc | omega | (rw [up2_ne _ _ _ _ (by decide), up2_ne _ _ _ _ (by decide)]; omega)) _ (by first | exact hb | exact hc | omega | (rw [up2_ne _ _ _ _ (by decide), up2_ne _ _ _ _ (by decide)]; omega))) fX2_columnOfLetter qX2_90 dX2_extendFrom_6 KD_2 (by decide) ⟨Nat.zero_le _, Nat.zero_le _⟩ (Nat.le_of_ble_eq_true rfl) ?_
  refine r_istore dX2_extendFrom_9 (Nat.le_of_ble_eq_true rfl) (L' := [_, _, _, _, _, _, _]) (by rfl) ?_
  refine r_aload_n dX2_extendFrom_11 rfl (by rfl) ?_
  refine r_aload_n dX2_extendFrom_12 rfl (by rfl) ?_
  refine r_callV0 ct_X2_newest fX2_newest qX2_68 dX2_extendFrom_13 KD_2 (by decide) ⟨Nat.zero_le _, Nat.zero_le _⟩ (Nat.le_of_ble_eq_true rfl) ?_
  refine r_iload_n dX2_extendFrom_16 rfl (by rfl) ?_
  refine r_callV2 (ct_X2_columnOfLetter hI _ (by first | exact hb | exact hc | omega | (rw [up2_ne _ _ _ _ (by decide), up2_ne _ _ _ _ (by decide)]; omega)) (by first | exact hb | exact hc | omega | (rw [up2_ne _ _ _ _ (by decide), up2_ne _ _ _ _ (by decide)]; omega)) _ (by first | exact hb | exact hc | omega | (rw [up2_ne _ _ _ _ (by decide), up2_ne _ _ _ _ (by decide)]; omega))) fX2_columnOfLetter qX2_90 dX2_extendFrom_17 KD_2 (by decide) ⟨Nat.zero_le _, Nat.zero_le _⟩ (Nat.le_of_ble_eq_true rfl) ?_
  refine r_istore dX2_extendFrom_20 (Nat.le_of_ble_eq_true rfl) (L' := [_, _, _, _, _, _, _]) (by rfl) ?_
  refine r_aload_n dX2_extendFrom_22 rfl (by rfl) ?_
  refine r_iload_n dX2_extendFrom_23 rfl (by rfl) ?_
  refine r_iconst dX2_extendFrom_24 ?_
  refine r_icmp_ne (tgt := 32) dX2_extendFrom_25 (by decide) (by unfold inR; omega) (by unfold inR; omega) (fun c_1 => ?_) (fun c_1 => ?_)
  · refine r_iconst dX2_extendFrom_32 ?_
    refine r_callV1 (ct_X2_comeBy hI (by first | exact hb | exact hc | omega | (rw [up2_ne _ _ _ _ (by decide), up2_ne _ _ _ _ (by decide)]; omega)) _) fX2_comeBy qX2_79 dX2_extendFrom_33 KD_2 (by decide) ⟨Nat.zero_le _, Nat.zero_le _⟩ (Nat.le_of_ble_eq_true rfl) ?_
    refine r_istore dX2_extendFrom_36 (Nat.le_of_ble_eq_true rfl) (L' := [_, _, _, _, _, _, _]) (by rfl) ?_
    refine r_aload_n dX2_extendFrom_38 rfl (by rfl) ?_
    refine r_get_r kX2_25 dX2_extendFrom_39 KD_2 (RHO_2_4 _) ?_
    refine r_iload dX2_extendFrom_42 (by rfl) ?_
    refine r_iload dX2_extendFrom_44 (by rfl) ?_
    refine r_callN3 (ct_X5_put KD_5 (by decide) _ (by first | exact hb | exact hc | omega | (rw [up2_ne _ _ _ _ (by decide), up2_ne _ _ _ _ (by decide)]; omega)) (by first | exact hb | exact hc | omega | (rw [up2_ne _ _ _ _ (by decide), up2_ne _ _ _ _ (by decide)]; omega)) _) fX5_put qX2_82 dX2_extendFrom_46 (by decide) ⟨Nat.zero_le _, Nat.zero_le _⟩ (Nat.le_of_ble_eq_true rfl) ?_
    refine r_aload_n dX2_extendFrom_49 rfl (by rfl) ?_
    refine r_get_r kX2_28 dX2_extendFrom_50 KD_2 (RHO_2_5 _) ?_
    refine r_iload dX2_extendFrom_53 (by rfl) ?_
    refine r_iload dX2_extendFrom_55 (by rfl) ?_
    refine r_callN3 (ct_X5_put KD_6 (by decide) _ (by first | exact hb | exact hc | omega | (rw [up2_ne _ _ _ _ (by decide), up2_ne _ _ _ _ (by decide)]; omega)) (by first | exact hb | exact hc | omega | (rw [up2_ne _ _ _ _ (by decide), up2_ne _ _ _ _ (by decide)]; omega)) _) fX5_put qX2_82 dX2_extendFrom_57 (by decide) ⟨Nat.zero_le _, Nat.zero_le _⟩ (Nat.le_of_ble_eq_true rfl) ?_
    refine r_aload_n dX2_extendFrom_60 rfl (by rfl) ?_
    refine r_iload dX2_extendFrom_61 (by rfl) ?_
    refine r_iload_n dX2_extendFrom_63 rfl (by rfl) ?_
    refine r_callV2 (ct_X2_addLast _ (by first | exact hb | exact hc | omega | (rw [up2_ne _ _ _ _ (by decide), up2_ne _ _ _ _ (by decide)]; omega)) (by first | exact hb | exact hc | omega | (rw [up2_ne _ _ _ _ (by decide), up2_ne _ _ _ _ (by decide)]; omega)) (by first | exact hb | exact hc | omega | (rw [up2_ne _ _ _ _ (by decide), up2_ne _ _ _ _ (by decide)]; omega)) (by first | exact hb | exact hc | omega | (rw [up2_ne _ _ _ _ (by decide), up2_ne _ _ _ _ (by decide)]; omega)) _) fX2_addLast qX2_86 dX2_extendFrom_64 KD_2 (by decide) ⟨Nat.zero_le _, Nat.zero_le _⟩ (Nat.le_of_ble_eq_true rfl) ?_
    refine r_iload dX2_extendFrom_67 (by rfl) ?_
    exact r_ret_i dX2_extendFrom_69 rfl ⟨Nat.zero_le _, Nat.zero_le _⟩ (by first | rfl | omega | (split <;> omega)) ⟨rfl, rfl, (by unfold exC; first | rw [if_pos (by omega)] | rw [if_neg (by omega)]), rfl, rfl⟩
  · refine r_iconst dX2_extendFrom_28 ?_
    refine r_goto (tgt := 33) dX2_extendFrom_29 (by decide) ?_
    refine r_callV1 (ct_X2_comeBy hI (by first | exact hb | exact hc | omega | (rw [up2_ne _ _ _ _ (by decide), up2_ne _ _ _ _ (by decide)]; omega)) _) fX2_comeBy qX2_79 dX2_extendFrom_33 KD_2 (by decide) ⟨Nat.zero_le _, Nat.zero_le _⟩ (Nat.le_of_ble_eq_true rfl) ?_
    refine r_istore dX2_extendFrom_36 (Nat.le_of_ble_eq_true rfl) (L' := [_, _, _, _, _, _, _]) (by rfl) ?_
    refine r_aload_n dX2_extendFrom_38 rfl (by rfl) ?_
    refine r_get_r kX2_25 dX2_extendFrom_39 KD_2 (RHO_2_4 _) ?_
    refine r_iload dX2_extendFrom_42 (by rfl) ?_
    refine r_iload dX2_extendFrom_44 (by rfl) ?_
    refine r_callN3 (ct_X5_put KD_5 (by decide) _ (by first | exact hb | exact hc | omega | (rw [up2_ne _ _ _ _ (by decide), up2_ne _ _ _ _ (by decide)]; omega)) (by first | exact hb | exact hc | omega | (rw [up2_ne _ _ _ _ (by decide), up2_ne _ _ _ _ (by decide)]; omega)) _) fX5_put qX2_82 dX2_extendFrom_46 (by decide) ⟨Nat.zero_le _, Nat.zero_le _⟩ (Nat.le_of_ble_eq_true rfl) ?_
    refine r_aload_n dX2_extendFrom_49 rfl (by rfl) ?_
    refine r_get_r kX2_28 dX2_extendFrom_50 KD_2 (RHO_2_5 _) ?_
    refine r_iload dX2_extendFrom_53 (by rfl) ?_
    refine r_iload dX2_extendFrom_55 (by rfl) ?_
    refine r_callN3 (ct_X5_put KD_6 (by decide) _ (by first | exact hb | exact hc | omega | (rw [up2_ne _ _ _ _ (by decide), up2_ne _ _ _ _ (by decide)]; omega)) (by first | exact hb | exact hc | omega | (rw [up2_ne _ _ _ _ (by decide), up2_ne _ _ _ _ (by decide)]; omega)) _) fX5_put qX2_82 dX2_extendFrom_57 (by decide) ⟨Nat.zero_le _, Nat.zero_le _⟩ (Nat.le_of_ble_eq_true rfl) ?_
    refine r_aload_n dX2_extendFrom_60 rfl (by rfl) ?_
    refine r_iload dX2_extendFrom_61 (by rfl) ?_
    refine r_iload_n dX2_extendFrom_63 rfl (by rfl) ?_
    refine r_callV2 (ct_X2_addLast _ (by first | exact hb | exact hc | omega | (rw [up2_ne _ _ _ _ (by decide), up2_ne _ _ _ _ (by decide)]; omega)) (by first | exact hb | exact hc | omega | (rw [up2_ne _ _ _ _ (by decide), up2_ne _ _ _ _ (by decide)]; omega)) (by first | exact hb | exact hc | omega | (rw [up2_ne _ _ _ _ (by decide), up2_ne _ _ _ _ (by decide)]; omega)) (by first | exact hb | exact hc | omega | (rw [up2_ne _ _ _ _ (by decide), up2_ne _ _ _ _ (by decide)]; omega)) _) fX2_addLast qX2_86 dX2_extendFrom_64 KD_2 (by decide) ⟨Nat.zero_le _, Nat.zero_le _⟩ (Nat.le_of_ble_eq_true rfl) ?_
    refine r_iload dX2_extendFrom_67 (by rfl) ?_
    exact r_ret_i dX2_extendFrom_69 rfl ⟨Nat.zero_le _, Nat.zero_le _⟩ (by first | rfl | omega | (split <;> omega)) ⟨rfl, rfl, (by unfold exC; first | rw [if_pos (by omega)] | rw [if_neg (by omega)]), rfl, rfl⟩

set_option maxRecDepth 100000 in
set_option maxHeartbeats 4000000 in
theorem ct_X2_leaveOut {l : Launch} {G : GG} {π : Nat → Option Nat} {σ τ : ST} (hI : CI σ) (hz : σ 2 0 < 12) (a m : Int) (ha : inR a) (hp : plc σ (σ 2 0 - 1).toNat a ≠ -1) : Ct l G mX2_leaveOut (3, 0, 0) [.ref 2, .int (iI a), .int (iI m)] 110 KD σ τ (RHO π) (KQ (some (.int (iI (σ 2 0)))) 110 KD (lvO σ a m) τ (RHO π)) := by
  have hz1 := hI.sz
  have hw1 := hI.wd (σ 2 0 - 1).toNat
  have e7 := comeF_7 hI 4
  have hp1 := plc_rng hI (σ 2 0 - 1).toNat a
  refine ct_intro (own := "ShapedRows$Shapes") rfl (by decide +kernel) (Nat.le_of_ble_eq_true rfl) (L := _) rfl ?_
  refine r_aload_n dX2_leaveOut_0 rfl (by rfl) ?_
  refine r_aload_n dX2_leaveOut_1 rfl (by rfl) ?_
  refine r_callV0 ct_X2_newest fX2_newest qX2_68 dX2_leaveOut_2 KD_2 (by decide) ⟨Nat.zero_le _, Nat.zero_le _⟩ (Nat.le_of_ble_eq_true rfl) ?_
  refine r_iload_n dX2_leaveOut_5 rfl (by rfl) ?_
  refine r_callV2 (ct_X2_placeOfLetter hI _ (by first | exact ha | omega | (rw [up2_ne _ _ _ _ (by decide), up2_ne _ _ _ _ (by decide)]; omega)) (by first | exact ha | omega | (rw [up2_ne _ _ _ _ (by decide), up2_ne _ _ _ _ (by decide)]; omega)) _ (by first | exact ha | omega | (rw [up2_ne _ _ _ _ (by decide), up2_ne _ _ _ _ (by decide)]; omega))) fX2_placeOfLetter qX2_51 dX2_leaveOut_6 KD_2 (by decide) ⟨Nat.zero_le _, Nat.zero_le _⟩ (Nat.le_of_ble_eq_true rfl) ?_
  refine r_istore_n dX2_leaveOut_9 rfl (Nat.le_of_ble_eq_true rfl) (L' := [_, _, _, _, _, _]) (by rfl) ?_
  refine r_aload_n dX2_leaveOut_10 rfl (by rfl) ?_
  refine r_aload_n dX2_leaveOut_11 rfl (by rfl) ?_
  refine r_callV0 ct_X2_newest fX2_newest qX2_68 dX2_leaveOut_12 KD_2 (by decide) ⟨Nat.zero_le _, Nat.zero_le _⟩ (Nat.le_of_ble_eq_true rfl) ?_
  refine r_iload_n dX2_leaveOut_15 rfl (by rfl) ?_
  refine r_callV2 (ct_X2_columnAt _ (by first | exact ha | omega | (rw [up2_ne _ _ _ _ (by decide), up2_ne _ _ _ _ (by decide)]; omega)) (by first | exact ha | omega | (rw [up2_ne _ _ _ _ (by decide), up2_ne _ _ _ _ (by decide)]; omega)) _ (by first | exact ha | omega | (rw [up2_ne _ _ _ _ (by decide), up2_ne _ _ _ _ (by decide)]; omega)) (by first | exact ha | omega | (rw [up2_ne _ _ _ _ (by decide), up2_ne _ _ _ _ (by decide)]; omega))) fX2_columnAt qX2_55 dX2_leaveOut_16 KD_2 (by decide) ⟨Nat.zero_le _, Nat.zero_le _⟩ (Nat.le_of_ble_eq_true rfl) ?_
  refine r_istore dX2_leaveOut_19 (Nat.le_of_ble_eq_true rfl) (L' := [_, _, _, _, _, _]) (by rfl) ?_
  refine r_aload_n dX2_leaveOut_21 rfl (by rfl) ?_
  refine r_iconst dX2_leaveOut_22 ?_
  refine r_callV1 (ct_X2_comeBy hI (by first | exact ha | omega | (rw [up2_ne _ _ _ _ (by decide), up2_ne _ _ _ _ (by decide)]; omega)) _) fX2_comeBy qX2_79 dX2_leaveOut_23 KD_2 (by decide) ⟨Nat.zero_le _, Nat.zero_le _⟩ (Nat.le_of_ble_eq_true rfl) ?_
  refine r_istore dX2_leaveOut_26 (Nat.le_of_ble_eq_true rfl) (L' := [_, _, _, _, _, _]) (by rfl) ?_
  refine r_aload_n dX2_leaveOut_28 rfl (by rfl) ?_
  refine r_get_r kX2_25 dX2_leaveOut_29 KD_2 (RHO_2_4 _) ?_
  refine r_iload dX2_leaveOut_32 (by rfl) ?_
  refine r_iload dX2_leaveOut_34 (by rfl) ?_
  refine r_callN3 (ct_X5_put KD_5 (by decide) _ (by first | exact ha | omega | (rw [up2_ne _ _ _ _ (by decide), up2_ne _ _ _ _ (by decide)]; omega)) (by first | exact ha | omega | (rw [up2_ne _ _ _ _ (by decide), up2_ne _ _ _ _ (by decide)]; omega)) _) fX5_put qX2_82 dX2_leaveOut_36 (by decide) ⟨Nat.zero_le _, Nat.zero_le _⟩ (Nat.le_of_ble_eq_true rfl) ?_
  refine r_aload_n dX2_leaveOut_39 rfl (by rfl) ?_
  refine r_get_r kX2_22 dX2_leaveOut_40 KD_2 (RHO_2_3 _) ?_
  refine r_iload dX2_leaveOut_43 (by rfl) ?_
  refine r_iload_n dX2_leaveOut_45 rfl (by rfl) ?_
  refine r_callN3 (ct_X5_put KD_4 (by decide) _ (by first | exact ha | omega | (rw [up2_ne _ _ _ _ (by decide), up2_ne _ _ _ _ (by decide)]; omega)) (by first | exact ha | omega | (rw [up2_ne _ _ _ _ (by decide), up2_ne _ _ _ _ (by decide)]; omega)) _) fX5_put qX2_82 dX2_leaveOut_46 (by decide) ⟨Nat.zero_le _, Nat.zero_le _⟩ (Nat.le_of_ble_eq_true rfl) ?_
  refine r_aload_n dX2_leaveOut_49 rfl (by rfl) ?_
  refine r_iload dX2_leaveOut_50 (by rfl) ?_
  refine r_iload_n dX2_leaveOut_52 rfl (by rfl) ?_
  refine r_callV2 (ct_X2_closeGap _ (by first | exact ha | omega | (rw [up2_ne _ _ _ _ (by decide), up2_ne _ _ _ _ (by decide)]; omega)) (by first | exact ha | omega | (rw [up2_ne _ _ _ _ (by decide), up2_ne _ _ _ _ (by decide)]; omega)) (by first | exact ha | omega | (rw [up2_ne _ _ _ _ (by decide), up2_ne _ _ _ _ (by decide)]; omega)) _ (by first | exact ha | omega | (rw [up2_ne _ _ _ _ (by decide), up2_ne _ _ _ _ (by decide)]; omega)) (by first | exact ha | omega | (rw [up2_ne _ _ _ _ (by decide), up2_ne _ _ _ _ (by decide)]; omega))) fX2_closeGap qX2_93 dX2_leaveOut_53 KD_2 (by decide) ⟨Nat.zero_le _, Nat.zero_le _⟩ (Nat.le_of_ble_eq_true rfl) ?_
  refine r_iload dX2_leaveOut_56 (by rfl) ?_
  exact r_ret_i dX2_leaveOut_58 rfl ⟨Nat.zero_le _, Nat.zero_le _⟩ (by first | rfl | omega | (split <;> omega)) ⟨rfl, rfl, (by first | rfl | omega), rfl, rfl⟩

set_option maxRecDepth 100000 in
set_option maxHeartbeats 4000000 in
theorem ct_X2_exchangeLetter {l : Launch} {G : GG} {π : Nat → Option Nat} {σ τ : ST} (hI : CI σ) (hz : σ 2 0 < 12) (a b : Int) (ha : inR a) (hp : plc σ (σ 2 0 - 1).toNat a ≠ -1) : Ct l G mX2_exchangeLetter (3, 0, 0) [.ref 2, .int (iI a), .int (iI b)] 110 KD σ τ (RHO π) (KQ (some (.int (iI (σ 2 0)))) 110 KD (xcL σ a b) τ (RHO π)) := by
  have hz1 := hI.sz
  have hp1 := plc_rng hI (σ 2 0 - 1).toNat a
  refine ct_intro (own := "ShapedRows$Shapes") rfl (by decide +kernel) (Nat.le_of_ble_eq_true rfl) (L := _) rfl ?_
  refine r_aload_n dX2_exchangeLetter_0 rfl (by rfl) ?_
  refine r_aload_n dX2_exchangeLetter_1 rfl (by rfl) ?_
  refine r_callV0 ct_X2_newest fX2_newest qX2_68 dX2_exchangeLetter_2 KD_2 (by decide) ⟨Nat.zero_le _, Nat.zero_le _⟩ (Nat.le_of_ble_eq_true rfl) ?_
  refine r_iload_n dX2_exchangeLetter_5 rfl (by rfl) ?_
  refine r_callV2 (ct_X2_placeOfLetter hI _ (by first | exact ha | omega) (by first | exact ha | omega) _ (by first | exact ha | omega)) fX2_placeOfLetter qX2_51 dX2_exchangeLetter_6 KD_2 (by decide) ⟨Nat.zero_le _, Nat.zero_le _⟩ (Nat.le_of_ble_eq_true rfl) ?_
  refine r_istore_n dX2_exchangeLetter_9 rfl (Nat.le_of_ble_eq_true rfl) (L' := [_, _, _, _, _]) (by rfl) ?_
  refine r_aload_n dX2_exchangeLetter_10 rfl (by rfl) ?_
  refine r_iconst dX2_exchangeLetter_11 ?_
  refine r_callV1 (ct_X2_comeBy hI (by first | exact ha | omega) _) fX2_comeBy qX2_79 dX2_exchangeLetter_12 KD_2 (by decide) ⟨Nat.zero_le _, Nat.zero_le _⟩ (Nat.le_of_ble_eq_true rfl) ?_
  refine r_istore dX2_exchangeLetter_15 (Nat.le_of_ble_eq_true rfl) (L' := [_, _, _, _, _]) (by rfl) ?_
  refine r_aload_n dX2_exchangeLetter_17 rfl (by rfl) ?_
  refine r_get_r kX2_37 dX2_exchangeLetter_18 KD_2 (RHO_2_8 _) ?_
  refine r_iload dX2_exchangeLetter_21 (by rfl) ?_
  refine r_bipush dX2_exchangeLetter_23 (by decide) ?_
  refine r_imul dX2_exchangeLetter_25 ?_
  refine r_iload_n dX2_exchangeLetter_26 rfl (by rfl) ?_
  refine r_iadd dX2_exchangeLetter_27 ?_
  refine r_iload_n dX2_exchangeLetter_28 rfl (by rfl) ?_
  refine r_callN3 (ct_X5_put KD_9 (by decide) _ (by first | exact ha | omega) (by first | exact ha | omega) _) fX5_put qX2_82 dX2_exchangeLetter_29 (by decide) ⟨Nat.zero_le _, Nat.zero_le _⟩ (Nat.le_of_ble_eq_true rfl) ?_
  refine r_iload dX2_exchangeLetter_32 (by rfl) ?_
  exact r_ret_i dX2_exchangeLetter_34 rfl ⟨Nat.zero_le _, Nat.zero_le _⟩ (by first | rfl | omega | (split <;> omega)) ⟨rfl, rfl, (by unfold xcL; rw [show (σ 2 0 * 8 + plc σ (σ 2 0 - 1).toNat a).toNat = 8 * (σ 2 0).toNat + (plc σ (σ 2 0 - 1).toNat a).toNat by omega]), rfl, rfl⟩

set_option maxRecDepth 100000 in
set_option maxHeartbeats 4000000 in
theorem ct_X2_setMark {l : Launch} {G : GG} {π : Nat → Option Nat} {σ τ : ST} (s : Int) : Ct l G mX2_setMark (0, 0, 0) [.ref 2, .int (iI s)] 110 KD σ τ (RHO π) (KQ (some (.int (iI (σ 2 0 - s)))) 110 KD (up2 σ 2 1 s) τ (RHO π)) := by
  refine ct_intro (own := "ShapedRows$Shapes") rfl (by decide +kernel) (Nat.le_of_ble_eq_true rfl) (L := _) rfl ?_
  refine r_aload_n dX2_setMark_0 rfl (by rfl) ?_
  refine r_iload_n dX2_setMark_1 rfl (by rfl) ?_
  refine r_put_i kX2_15 dX2_setMark_2 KD_2 ?_
  refine r_aload_n dX2_setMark_5 rfl (by rfl) ?_
  refine r_get_i kX2_9 dX2_setMark_6 KD_2 ?_
  refine r_aload_n dX2_setMark_9 rfl (by rfl) ?_
  refine r_get_i kX2_15 dX2_setMark_10 KD_2 ?_
  refine r_isub dX2_setMark_13 ?_
  exact r_ret_i dX2_setMark_14 rfl ⟨Nat.zero_le _, Nat.zero_le _⟩ (by rw [up2_at, up2_el _ _ _ (by decide)]) ⟨rfl, rfl, (by first | rfl | omega), rfl, rfl⟩

set_option maxRecDepth 100000 in
set_option maxHeartbeats 4000000 in
theorem ct_X1_size {l : Launch} {G : GG} {π : Nat → Option Nat} {σ τ : ST}  : Ct l G mX1_size (0, 0, 0) [.ref 10] 110 KD σ τ (RHO π) (KQ (some (.int (iI (σ 10 0)))) 110 KD σ τ (RHO π)) := by
  refine ct_intro (own := "ShapedRows$Rows") rfl (by decide +kernel) (Nat.le_of_ble_eq_true rfl) (L := _) rfl ?_
  refine r_aload_n dX1_size_0 rfl (by rfl) ?_
  refine r_get_i kX1_9 dX1_size_1 KD_10 ?_
  exact r_ret_i dX1_size_4 rfl ⟨Nat.zero_le _, Nat.zero_le _⟩ (by first | rfl | omega | (split <;> omega)) ⟨rfl, rfl, (by first | rfl | omega), rfl, rfl⟩

set_option maxRecDepth 100000 in
set_option maxHeartbeats 4000000 in
theorem ct_X1_cursor {l : Launch} {G : GG} {π : Nat → Option Nat} {σ τ : ST}  : Ct l G mX1_cursor (0, 0, 0) [.ref 10] 110 KD σ τ (RHO π) (KQ (some (.int (iI (σ 10 1)))) 110 KD σ τ (RHO π)) := by
  refine ct_intro (own := "ShapedRows$Rows") rfl (by decide +kernel) (Nat.le_of_ble_eq_true rfl) (L := _) rfl ?_
  refine r_aload_n dX1_cursor_0 rfl (by rfl) ?_
  refine r_get_i kX1_15 dX1_cursor_1 KD_10 ?_
  exact r_ret_i dX1_cursor_4 rfl ⟨Nat.zero_le _, Nat.zero_le _⟩ (by first | rfl | omega | (split <;> omega)) ⟨rfl, rfl, (by first | rfl | omega), rfl, rfl⟩

set_option maxRecDepth 100000 in
set_option maxHeartbeats 4000000 in
theorem ct_X1_rewritten {l : Launch} {G : GG} {π : Nat → Option Nat} {σ τ : ST}  : Ct l G mX1_rewritten (0, 0, 0) [.ref 10] 110 KD σ τ (RHO π) (KQ (some (.int (iI (σ 10 2)))) 110 KD σ τ (RHO π)) := by
  refine ct_intro (own := "ShapedRows$Rows") rfl (by decide +kernel) (Nat.le_of_ble_eq_true rfl) (L := _) rfl ?_
  refine r_aload_n dX1_rewritten_0 rfl (by rfl) ?_
  refine r_get_i kX1_18 dX1_rewritten_1 KD_10 ?_
  exact r_ret_i dX1_rewritten_4 rfl ⟨Nat.zero_le _, Nat.zero_le _⟩ (by first | rfl | omega | (split <;> omega)) ⟨rfl, rfl, (by first | rfl | omega), rfl, rfl⟩

set_option maxRecDepth 100000 in
set_option maxHeartbeats 4000000 in
theorem ct_X1_writes {l : Launch} {G : GG} {π : Nat → Option Nat} {σ τ : ST}  : Ct l G mX1_writes (0, 0, 0) [.ref 10] 110 KD σ τ (RHO π) (KQ (some (.int (iI (σ 10 3)))) 110 KD σ τ (RHO π)) := by
  refine ct_intro (own := "ShapedRows$Rows") rfl (by decide +kernel) (Nat.le_of_ble_eq_true rfl) (L := _) rfl ?_
  refine r_aload_n dX1_writes_0 rfl (by rfl) ?_
  refine r_get_i kX1_21 dX1_writes_1 KD_10 ?_
  exact r_ret_i dX1_writes_4 rfl ⟨Nat.zero_le _, Nat.zero_le _⟩ (by first | rfl | omega | (split <;> omega)) ⟨rfl, rfl, (by first | rfl | omega), rfl, rfl⟩

set_option maxRecDepth 100000 in
set_option maxHeartbeats 4000000 in
theorem ct_X1_isThere {l : Launch} {G : GG} {π : Nat → Option Nat} {σ τ : ST} (hI : CI σ) (r : Int) (hr : inR r) : Ct l G mX1_isThere (0, 0, 0) [.ref 10, .int (iI r)] 110 KD σ τ (RHO π) (KQ (some (.int (iI (if 0 ≤ r ∧ r < σ 10 0 then 1 else 0)))) 110 KD σ τ (RHO π)) := by
  unfold inR at hr
  have hz := hI.ro
  refine ct_intro (own := "ShapedRows$Rows") rfl (by decide +kernel) (Nat.le_of_ble_eq_true rfl) (L := _) rfl ?_
  refine r_iload_n dX1_isThere_0 rfl (by rfl) ?_
  refine r_if_lt (tgt := 16) dX1_isThere_1 (by decide) (by unfold inR; omega) (fun c_1 => ?_) (fun c_1 => ?_)
  · refine r_iconst dX1_isThere_16 ?_
    exact r_ret_z dX1_isThere_17 rfl ⟨Nat.zero_le _, Nat.zero_le _⟩ (by first | exact Or.inl rfl | exact Or.inr rfl | (split <;> omega)) (by first | rfl | omega | (split <;> omega)) ⟨rfl, rfl, (by first | rfl | omega), rfl, rfl⟩
  · refine r_iload_n dX1_isThere_4 rfl (by rfl) ?_
    refine r_aload_n dX1_isThere_5 rfl (by rfl) ?_
    refine r_get_i kX1_9 dX1_isThere_6 KD_10 ?_
    refine r_icmp_ge (tgt := 16) dX1_isThere_9 (by decide) (by unfold inR; omega) (by unfold inR; omega) (fun c_2 => ?_) (fun c_2 => ?_)
    · refine r_iconst dX1_isThere_16 ?_
      exact r_ret_z dX1_isThere_17 rfl ⟨Nat.zero_le _, Nat.zero_le _⟩ (by first | exact Or.inl rfl | exact Or.inr rfl | (split <;> omega)) (by first | rfl | omega | (split <;> omega)) ⟨rfl, rfl, (by first | rfl | omega), rfl, rfl⟩
    · refine r_iconst dX1_isThere_12 ?_
      refine r_goto (tgt := 17) dX1_isThere_13 (by decide) ?_
      exact r_ret_z dX1_isThere_17 rfl ⟨Nat.zero_le _, Nat.zero_le _⟩ (by first | exact Or.inl rfl | exact Or.inr rfl | (split <;> omega)) (by first | rfl | omega | (split <;> omega)) ⟨rfl, rfl, (by first | rfl | omega), rfl, rfl⟩

set_option maxRecDepth 100000 in
set_option maxHeartbeats 4000000 in
theorem ct_X1_isFull {l : Launch} {G : GG} {π : Nat → Option Nat} {σ τ : ST} (hI : CI σ)  : Ct l G mX1_isFull (0, 0, 0) [.ref 10] 110 KD σ τ (RHO π) (KQ (some (.int (iI (if 12 ≤ σ 10 0 then 1 else 0)))) 110 KD σ τ (RHO π)) := by
  have hz := hI.ro
  refine ct_intro (own := "ShapedRows$Rows") rfl (by decide +kernel) (Nat.le_of_ble_eq_true rfl) (L := _) rfl ?_
  refine r_aload_n dX1_isFull_0 rfl (by rfl) ?_
  refine r_get_i kX1_9 dX1_isFull_1 KD_10 ?_
  refine r_bipush dX1_isFull_4 (by decide) ?_
  refine r_icmp_lt (tgt := 13) dX1_isFull_6 (by decide) (by unfold inR; omega) (by unfold inR; omega) (fun c_1 => ?_) (fun c_1 => ?_)
  · refine r_iconst dX1_isFull_13 ?_
    exact r_ret_z dX1_isFull_14 rfl ⟨Nat.zero_le _, Nat.zero_le _⟩ (by first | exact Or.inl rfl | exact Or.inr rfl | (split <;> omega)) (by first | rfl | omega | (split <;> omega)) ⟨rfl, rfl, (by first | rfl | omega), rfl, rfl⟩
  · refine r_iconst dX1_isFull_9 ?_
    refine r_goto (tgt := 14) dX1_isFull_10 (by decide) ?_
    exact r_ret_z dX1_isFull_14 rfl ⟨Nat.zero_le _, Nat.zero_le _⟩ (by first | exact Or.inl rfl | exact Or.inr rfl | (split <;> omega)) (by first | rfl | omega | (split <;> omega)) ⟨rfl, rfl, (by first | rfl | omega), rfl, rfl⟩

set_option maxRecDepth 100000 in
set_option maxHeartbeats 4000000 in
theorem ct_X1_shapeOf {l : Launch} {G : GG} {π : Nat → Option Nat} {σ τ : ST} (r : Int) (h0 : 0 ≤ r) (h1 : r < 12) : Ct l G mX1_shapeOf (1, 0, 0) [.ref 10, .int (iI r)] 110 KD σ τ (RHO π) (KQ (some (.int (iI (σ 11 r.toNat)))) 110 KD σ τ (RHO π)) := by
  refine ct_intro (own := "ShapedRows$Rows") rfl (by decide +kernel) (Nat.le_of_ble_eq_true rfl) (L := _) rfl ?_
  refine r_aload_n dX1_shapeOf_0 rfl (by rfl) ?_
  refine r_get_r kX1_24 dX1_shapeOf_1 KD_10 (RHO_10_4 _) ?_
  refine r_iload_n dX1_shapeOf_4 rfl (by rfl) ?_
  refine r_callN2 (ct_X5_at KD_11 (by decide) _ (by omega) (by omega)) fX5_at qX1_34 dX1_shapeOf_5 (by decide) ⟨Nat.zero_le _, Nat.zero_le _⟩ (Nat.le_of_ble_eq_true rfl) ?_
  exact r_ret_i dX1_shapeOf_8 rfl ⟨Nat.zero_le _, Nat.zero_le _⟩ (by first | rfl | omega | (split <;> omega)) ⟨rfl, rfl, (by first | rfl | omega), rfl, rfl⟩

set_option maxRecDepth 100000 in
set_option maxHeartbeats 4000000 in
theorem ct_X1_rewritesOf {l : Launch} {G : GG} {π : Nat → Option Nat} {σ τ : ST} (r : Int) (h0 : 0 ≤ r) (h1 : r < 12) : Ct l G mX1_rewritesOf (1, 0, 0) [.ref 10, .int (iI r)] 110 KD σ τ (RHO π) (KQ (some (.int (iI (σ 12 r.toNat)))) 110 KD σ τ (RHO π)) := by
  refine ct_intro (own := "ShapedRows$Rows") rfl (by decide +kernel) (Nat.le_of_ble_eq_true rfl) (L := _) rfl ?_
  refine r_aload_n dX1_rewritesOf_0 rfl (by rfl) ?_
  refine r_get_r kX1_28 dX1_rewritesOf_1 KD_10 (RHO_10_5 _) ?_
  refine r_iload_n dX1_rewritesOf_4 rfl (by rfl) ?_
  refine r_callN2 (ct_X5_at KD_12 (by decide) _ (by omega) (by omega)) fX5_at qX1_34 dX1_rewritesOf_5 (by decide) ⟨Nat.zero_le _, Nat.zero_le _⟩ (Nat.le_of_ble_eq_true rfl) ?_
  exact r_ret_i dX1_rewritesOf_8 rfl ⟨Nat.zero_le _, Nat.zero_le _⟩ (by first | rfl | omega | (split <;> omega)) ⟨rfl, rfl, (by first | rfl | omega), rfl, rfl⟩

set_option maxRecDepth 100000 in
set_option maxHeartbeats 4000000 in
theorem ct_X1_value {l : Launch} {G : GG} {π : Nat → Option Nat} {σ τ : ST} (r : Int) (h0 : 0 ≤ r) (h1 : r < 12) (c : Int) (h2 : 0 ≤ c) (h3 : c < 12) : Ct l G mX1_value (1, 0, 0) [.ref 10, .int (iI r), .int (iI c)] 110 KD σ τ (RHO π) (KQ (some (.int (iI (σ 13 (12 * r.toNat + c.toNat))))) 110 KD σ τ (RHO π)) := by
  refine ct_intro (own := "ShapedRows$Rows") rfl (by decide +kernel) (Nat.le_of_ble_eq_true rfl) (L := _) rfl ?_
  refine r_aload_n dX1_value_0 rfl (by rfl) ?_
  refine r_get_r kX1_31 dX1_value_1 KD_10 (RHO_10_6 _) ?_
  refine r_iload_n dX1_value_4 rfl (by rfl) ?_
  refine r_bipush dX1_value_5 (by decide) ?_
  refine r_imul dX1_value_7 ?_
  refine r_iload_n dX1_value_8 rfl (by rfl) ?_
  refine r_iadd dX1_value_9 ?_
  refine r_callN2 (ct_X5_at KD_13 (by decide) _ (by omega) (by omega)) fX5_at qX1_34 dX1_value_10 (by decide) ⟨Nat.zero_le _, Nat.zero_le _⟩ (Nat.le_of_ble_eq_true rfl) ?_
  exact r_ret_i dX1_value_13 rfl ⟨Nat.zero_le _, Nat.zero_le _⟩ (by rw [show (r * 12 + c).toNat = 12 * r.toNat + c.toNat by omega]) ⟨rfl, rfl, (by first | rfl | omega), rfl, rfl⟩

set_option maxRecDepth 100000 in
set_option maxHeartbeats 4000000 in
theorem ct_X1_nextRow {l : Launch} {G : GG} {π : Nat → Option Nat} {σ τ : ST} (hI : CI σ)  : Ct l G mX1_nextRow (1, 0, 0) [.ref 10] 110 KD σ τ (RHO π) (KQ (some (.int (iI (if σ 10 1 < σ 10 0 then σ 10 1 else 0)))) 110 KD σ τ (RHO π)) := by
  have hz := hI.cu
  have hz2 := hI.ro
  refine ct_intro (own := "ShapedRows$Rows") rfl (by decide +kernel) (Nat.le_of_ble_eq_true rfl) (L := _) rfl ?_
  refine r_aload_n dX1_nextRow_0 rfl (by rfl) ?_
  refine r_aload_n dX1_nextRow_1 rfl (by rfl) ?_
  refine r_get_i kX1_15 dX1_nextRow_2 KD_10 ?_
  refine r_callV1 (ct_X1_isThere hI _ (by unfold inR; omega)) fX1_isThere qX1_50 dX1_nextRow_5 KD_10 (by decide) ⟨Nat.zero_le _, Nat.zero_le _⟩ (Nat.le_of_ble_eq_true rfl) ?_
  refine r_ifeq_b (tgt := 18) dX1_nextRow_8 (by decide) (fun c_1 => ?_) (fun c_1 => ?_)
  · refine r_iconst dX1_nextRow_18 ?_
    exact r_ret_i dX1_nextRow_19 rfl ⟨Nat.zero_le _, Nat.zero_le _⟩ (by first | (rw [if_pos (by omega)]; done) | (rw [if_neg (by omega)]; done)) ⟨rfl, rfl, (by first | rfl | omega), rfl, rfl⟩
  · refine r_aload_n dX1_nextRow_11 rfl (by rfl) ?_
    refine r_get_i kX1_15 dX1_nextRow_12 KD_10 ?_
    refine r_goto (tgt := 19) dX1_nextRow_15 (by decide) ?_
    exact r_ret_i dX1_nextRow_19 rfl ⟨Nat.zero_le _, Nat.zero_le _⟩ (by first | (rw [if_pos (by omega)]; done) | (rw [if_neg (by omega)]; done)) ⟨rfl, rfl, (by first | rfl | omega), rfl, rfl⟩

set_option maxRecDepth 100000 in
set_option maxHeartbeats 4000000 in
theorem ct_X1_setCursor {l : Launch} {G : GG} {π : Nat → Option Nat} {σ τ : ST} (c : Int) : Ct l G mX1_setCursor (0, 0, 0) [.ref 10, .int (iI c)] 110 KD σ τ (RHO π) (KQ none 110 KD (up2 σ 10 1 c) τ (RHO π)) := by
  refine ct_intro (own := "ShapedRows$Rows") rfl (by decide +kernel) (Nat.le_of_ble_eq_true rfl) (L := _) rfl ?_
  refine r_aload_n dX1_setCursor_0 rfl (by rfl) ?_
  refine r_iload_n dX1_setCursor_1 rfl (by rfl) ?_
  refine r_put_i kX1_15 dX1_setCursor_2 KD_10 ?_
  exact r_ret_v dX1_setCursor_5 rfl ⟨Nat.zero_le _, Nat.zero_le _⟩ ⟨rfl, rfl, (by first | rfl | omega), rfl, rfl⟩

set_option maxRecDepth 100000 in
set_option maxHeartbeats 4000000 in
theorem ct_X1_overwrite {l : Launch} {G : GG} {π : Nat → Option Nat} {σ τ : ST} (r : Int) (h0 : 0 ≤ r) (h1 : r < 12) (c : Int) (h2 : 0 ≤ c) (h3 : c < 12) (v : Int) : Ct l G mX1_overwrite (1, 0, 0) [.ref 10, .int (iI r), .int (iI c), .int (iI v)] 110 KD σ τ (RHO π) (KQ none 110 KD (up2 (up2 σ 13 (12 * r.toNat + c.toNat) v) 10 3 (σ 10 3 + 1)) τ (RHO π)) := by
  refine ct_intro (own := "ShapedRows$Rows") rfl (by decide +kernel) (Nat.le_of_ble_eq_true rfl) (L := _) rfl ?_
  refine r_aload_n dX1_overwrite_0 rfl (by rfl) ?_
  refine r_get_r kX1_31 dX1_overwrite_1 KD_10 (RHO_10_6 _) ?_
  refine r_iload_n dX1_overwrite_4 rfl (by rfl) ?_
  refine r_bipush dX1_overwrite_5 (by decide) ?_
  refine r_imul dX1_overwrite_7 ?_
  refine r_iload_n dX1_overwrite_8 rfl (by rfl) ?_
  refine r_iadd dX1_overwrite_9 ?_
  refine r_iload_n dX1_overwrite_10 rfl (by rfl) ?_
  refine r_callN3 (ct_X5_put KD_13 (by decide) _ (by omega) (by omega) _) fX5_put qX1_38 dX1_overwrite_11 (by decide) ⟨Nat.zero_le _, Nat.zero_le _⟩ (Nat.le_of_ble_eq_true rfl) ?_
  refine r_aload_n dX1_overwrite_14 rfl (by rfl) ?_
  refine r_dup dX1_overwrite_15 rfl ?_
  refine r_get_i kX1_21 dX1_overwrite_16 KD_10 ?_
  refine r_iconst dX1_overwrite_19 ?_
  refine r_iadd dX1_overwrite_20 ?_
  refine r_put_i kX1_21 dX1_overwrite_21 KD_10 ?_
  exact r_ret_v dX1_overwrite_24 rfl ⟨Nat.zero_le _, Nat.zero_le _⟩ ⟨rfl, rfl, (by rw [up2_ne _ _ _ _ (by decide), show (r * 12 + c).toNat = 12 * r.toNat + c.toNat by omega]), rfl, rfl⟩

def adRM (σ : ST) (s : Int) (k : Nat) : ST := cpR (up2 (up2 σ 11 (σ 10 0).toNat s) 12 (σ 10 0).toNat 0) 13 (12 * (σ 10 0).toNat) k (fun _ => 0)
def adR (σ : ST) (s : Int) : ST := up2 (adRM σ s 12) 10 0 (σ 10 0 + 1)
def mvM (σ : ST) (r : Int) (k : Nat) : ST := cpR (up2 (up2 σ 11 (r - 1).toNat (σ 11 r.toNat)) 12 (r - 1).toNat (σ 12 r.toNat)) 13 (12 * (r - 1).toNat) k (fun j => σ 13 (12 * r.toNat + j))
def mvD (σ : ST) (r : Int) : ST := mvM σ r 12
def rwM (σ : ST) (r : Int) (k : Nat) : ST := cpR σ 13 (12 * r.toNat) k (fun j => σ 15 j)
def rwF (σ : ST) (r s : Int) : ST := up2 (up2 (up2 (rwM σ r 12) 11 r.toNat s) 12 r.toNat (σ 12 r.toNat + 1)) 10 2 (σ 10 2 + 1)
def cpV (σ : ST) (r : Int) (k : Nat) : ST := cpR σ 15 0 k (fun j => σ 13 (12 * r.toNat + j))

set_option maxRecDepth 100000 in
set_option maxHeartbeats 4000000 in
theorem ct_X1_addRow {l : Launch} {G : GG} {π : Nat → Option Nat} {σ τ : ST} (hI : CI σ) (hz : σ 10 0 < 12) (s : Int) : Ct l G mX1_addRow (1, 0, 0) [.ref 10, .int (iI s)] 110 KD σ τ (RHO π) (KQ (some (.int (iI (σ 10 0)))) 110 KD (adR σ s) τ (RHO π)) := by
  have hz1 := hI.ro
  refine ct_intro (own := "ShapedRows$Rows") rfl (by decide +kernel) (Nat.le_of_ble_eq_true rfl) (L := _) rfl ?_
  have cut_25 : ∀ (N : Nat) (k : Int), (0 ≤ k) → (k ≤ 12) → 12 - k < (N : Int) → WP l G "ShapedRows$Rows" mX1_addRow (1, 0, 0) (KQ (some (.int (iI (σ 10 0)))) 110 KD (adR σ s) τ (RHO π)) noX 110 25 [some (.ref 10), some (.int (iI s)), some (.int (iI (σ 10 0))), some (.int (iI k))] [] 110 KD (adRM σ s k.toNat) τ (RHO π) 0 0 := by
    intro N
    induction N with
    | zero => intro k k0 k1 hm; exact absurd hm (by omega)
    | succ N ih =>
      intro k k0 k1 hm
      refine r_iload_n dX1_addRow_25 rfl (by rfl) ?_
      refine r_bipush dX1_addRow_26 (by decide) ?_
      refine r_icmp_ge (tgt := 51) dX1_addRow_28 (by decide) (by unfold inR; omega) (by unfold inR; omega) (fun c_1 => ?_) (fun c_1 => ?_)
      · refine r_aload_n dX1_addRow_51 rfl (by rfl) ?_
        refine r_dup dX1_addRow_52 rfl ?_
        refine r_get_i kX1_9 dX1_addRow_53 KD_10 ?_
        rw [show adRM σ s k.toNat 10 0 = σ 10 0 by unfold adRM; rw [cpR_off _ _ _ _ (by decide), up2_ne _ _ _ _ (by decide), up2_ne _ _ _ _ (by decide)]]
        refine r_iconst dX1_addRow_56 ?_
        refine r_iadd dX1_addRow_57 ?_
        refine r_put_i kX1_9 dX1_addRow_58 KD_10 ?_
        refine r_iload_n dX1_addRow_61 rfl (by rfl) ?_
        exact r_ret_i dX1_addRow_62 rfl ⟨Nat.zero_le _, Nat.zero_le _⟩ (by first | rfl | omega | (split <;> omega)) ⟨rfl, rfl, (by unfold adR; rw [show k.toNat = 12 by omega]), rfl, rfl⟩
      · refine r_aload_n dX1_addRow_31 rfl (by rfl) ?_
        refine r_get_r kX1_31 dX1_addRow_32 KD_10 (RHO_10_6 _) ?_
        refine r_iload_n dX1_addRow_35 rfl (by rfl) ?_
        refine r_bipush dX1_addRow_36 (by decide) ?_
        refine r_imul dX1_addRow_38 ?_
        refine r_iload_n dX1_addRow_39 rfl (by rfl) ?_
        refine r_iadd dX1_addRow_40 ?_
        refine r_iconst dX1_addRow_41 ?_
        refine r_callN3 (ct_X5_put KD_13 (by decide) _ (by omega) (by omega) _) fX5_put qX1_38 dX1_addRow_42 (by decide) ⟨Nat.zero_le _, Nat.zero_le _⟩ (Nat.le_of_ble_eq_true rfl) ?_
        refine r_iinc dX1_addRow_45 (by rfl) (Nat.le_of_ble_eq_true rfl) (L' := [_, _, _, _]) (by rfl) ?_
        refine r_goto (tgt := 25) dX1_addRow_48 (by decide) ?_
        refine WP.mem (σ' := adRM σ s (k + 1).toNat) ?_ (ih (k + 1) (by omega) (by omega) (by omega))
        unfold adRM
        rw [show (σ 10 0 * 12 + k).toNat = 12 * (σ 10 0).toNat + k.toNat by omega, show (k + 1).toNat = k.toNat + 1 by omega, cpR_up _ 13 _ _ (fun _ => 0)]
  refine r_aload_n dX1_addRow_0 rfl (by rfl) ?_
  refine r_get_i kX1_9 dX1_addRow_1 KD_10 ?_
  refine r_istore_n dX1_addRow_4 rfl (Nat.le_of_ble_eq_true rfl) (L' := [_, _, _, _]) (by rfl) ?_
  refine r_aload_n dX1_addRow_5 rfl (by rfl) ?_
  refine r_get_r kX1_24 dX1_addRow_6 KD_10 (RHO_10_4 _) ?_
  refine r_iload_n dX1_addRow_9 rfl (by rfl) ?_
  refine r_iload_n dX1_addRow_10 rfl (by rfl) ?_
  refine r_callN3 (ct_X5_put KD_11 (by decide) _ (by omega) (by omega) _) fX5_put qX1_38 dX1_addRow_11 (by decide) ⟨Nat.zero_le _, Nat.zero_le _⟩ (Nat.le_of_ble_eq_true rfl) ?_
  refine r_aload_n dX1_addRow_14 rfl (by rfl) ?_
  refine r_get_r kX1_28 dX1_addRow_15 KD_10 (RHO_10_5 _) ?_
  refine r_iload_n dX1_addRow_18 rfl (by rfl) ?_
  refine r_iconst dX1_addRow_19 ?_
  refine r_callN3 (ct_X5_put KD_12 (by decide) _ (by omega) (by omega) _) fX5_put qX1_38 dX1_addRow_20 (by decide) ⟨Nat.zero_le _, Nat.zero_le _⟩ (Nat.le_of_ble_eq_true rfl) ?_
  refine r_iconst dX1_addRow_23 ?_
  refine r_istore_n dX1_addRow_24 rfl (Nat.le_of_ble_eq_true rfl) (L' := [_, _, _, _]) (by rfl) ?_
  refine WP.mem (σ' := adRM σ s (0 : Int).toNat) ?_ (cut_25 13 0 (by omega) (by omega) (by omega))
  unfold adRM
  rw [show (0 : Int).toNat = 0 from rfl, cpR_0]

set_option maxRecDepth 100000 in
set_option maxHeartbeats 4000000 in
theorem ct_X1_moveDown {l : Launch} {G : GG} {π : Nat → Option Nat} {σ τ : ST} (r : Int) (h0 : 1 ≤ r) (h1 : r < 12) : Ct l G mX1_moveDown (2, 0, 0) [.ref 10, .int (iI r)] 110 KD σ τ (RHO π) (KQ none 110 KD (mvD σ r) τ (RHO π)) := by
  refine ct_intro (own := "ShapedRows$Rows") rfl (by decide +kernel) (Nat.le_of_ble_eq_true rfl) (L := _) rfl ?_
  have cut_32 : ∀ (N : Nat) (k : Int), (0 ≤ k) → (k ≤ 12) → 12 - k < (N : Int) → WP l G "ShapedRows$Rows" mX1_moveDown (2, 0, 0) (KQ none 110 KD (mvD σ r) τ (RHO π)) noX 110 32 [some (.ref 10), some (.int (iI r)), some (.int (iI k))] [] 110 KD (mvM σ r k.toNat) τ (RHO π) 0 0 := by
    intro N
    induction N with
    | zero => intro k k0 k1 hm; exact absurd hm (by omega)
    | succ N ih =>
      intro k k0 k1 hm
      refine r_iload_n dX1_moveDown_32 rfl (by rfl) ?_
      refine r_bipush dX1_moveDown_33 (by decide) ?_
      refine r_icmp_ge (tgt := 65) dX1_moveDown_35 (by decide) (by unfold inR; omega) (by unfold inR; omega) (fun c_1 => ?_) (fun c_1 => ?_)
      · exact r_ret_v dX1_moveDown_65 rfl ⟨Nat.zero_le _, Nat.zero_le _⟩ ⟨rfl, rfl, (by unfold mvD; rw [show k.toNat = 12 by omega]), rfl, rfl⟩
      · refine r_aload_n dX1_moveDown_38 rfl (by rfl) ?_
        refine r_get_r kX1_31 dX1_moveDown_39 KD_10 (RHO_10_6 _) ?_
        refine r_iload_n dX1_moveDown_42 rfl (by rfl) ?_
        refine r_iconst dX1_moveDown_43 ?_
        refine r_isub dX1_moveDown_44 ?_
        refine r_bipush dX1_moveDown_45 (by decide) ?_
        refine r_imul dX1_moveDown_47 ?_
        refine r_iload_n dX1_moveDown_48 rfl (by rfl) ?_
        refine r_iadd dX1_moveDown_49 ?_
        refine r_aload_n dX1_moveDown_50 rfl (by rfl) ?_
        refine r_iload_n dX1_moveDown_51 rfl (by rfl) ?_
        refine r_iload_n dX1_moveDown_52 rfl (by rfl) ?_
        refine r_callV2 (ct_X1_value _ (by omega) (by omega) _ (by omega) (by omega)) fX1_value qX1_61 dX1_moveDown_53 KD_10 (by decide) ⟨Nat.zero_le _, Nat.zero_le _⟩ (Nat.le_of_ble_eq_true rfl) ?_
        refine r_callN3 (ct_X5_put KD_13 (by decide) _ (by omega) (by omega) _) fX5_put qX1_38 dX1_moveDown_56 (by decide) ⟨Nat.zero_le _, Nat.zero_le _⟩ (Nat.le_of_ble_eq_true rfl) ?_
        refine r_iinc dX1_moveDown_59 (by rfl) (Nat.le_of_ble_eq_true rfl) (L' := [_, _, _]) (by rfl) ?_
        refine r_goto (tgt := 32) dX1_moveDown_62 (by decide) ?_
        refine WP.mem (σ' := mvM σ r (k + 1).toNat) ?_ (ih (k + 1) (by omega) (by omega) (by omega))
        unfold mvM
        rw [cpR_out _ _ _ _ (by omega), up2_ne _ _ _ _ (by decide), up2_ne _ _ _ _ (by decide), show ((r - 1) * 12 + k).toNat = 12 * (r - 1).toNat + k.toNat by omega, show (k + 1).toNat = k.toNat + 1 by omega, cpR_up _ 13 _ _ (fun j => σ 13 (12 * r.toNat + j))]
  refine r_aload_n dX1_moveDown_0 rfl (by rfl) ?_
  refine r_get_r kX1_24 dX1_moveDown_1 KD_10 (RHO_10_4 _) ?_
  refine r_iload_n dX1_moveDown_4 rfl (by rfl) ?_
  refine r_iconst dX1_moveDown_5 ?_
  refine r_isub dX1_moveDown_6 ?_
  refine r_aload_n dX1_moveDown_7 rfl (by rfl) ?_
  refine r_iload_n dX1_moveDown_8 rfl (by rfl) ?_
  refine r_callV1 (ct_X1_shapeOf _ (by omega) (by omega)) fX1_shapeOf qX1_58 dX1_moveDown_9 KD_10 (by decide) ⟨Nat.zero_le _, Nat.zero_le _⟩ (Nat.le_of_ble_eq_true rfl) ?_
  refine r_callN3 (ct_X5_put KD_11 (by decide) _ (by omega) (by omega) _) fX5_put qX1_38 dX1_moveDown_12 (by decide) ⟨Nat.zero_le _, Nat.zero_le _⟩ (Nat.le_of_ble_eq_true rfl) ?_
  refine r_aload_n dX1_moveDown_15 rfl (by rfl) ?_
  refine r_get_r kX1_28 dX1_moveDown_16 KD_10 (RHO_10_5 _) ?_
  refine r_iload_n dX1_moveDown_19 rfl (by rfl) ?_
  refine r_iconst dX1_moveDown_20 ?_
  refine r_isub dX1_moveDown_21 ?_
  refine r_aload_n dX1_moveDown_22 rfl (by rfl) ?_
  refine r_iload_n dX1_moveDown_23 rfl (by rfl) ?_
  refine r_callV1 (ct_X1_rewritesOf _ (by omega) (by omega)) fX1_rewritesOf qX1_46 dX1_moveDown_24 KD_10 (by decide) ⟨Nat.zero_le _, Nat.zero_le _⟩ (Nat.le_of_ble_eq_true rfl) ?_
  refine r_callN3 (ct_X5_put KD_12 (by decide) _ (by omega) (by omega) _) fX5_put qX1_38 dX1_moveDown_27 (by decide) ⟨Nat.zero_le _, Nat.zero_le _⟩ (Nat.le_of_ble_eq_true rfl) ?_
  refine r_iconst dX1_moveDown_30 ?_
  refine r_istore_n dX1_moveDown_31 rfl (Nat.le_of_ble_eq_true rfl) (L' := [_, _, _]) (by rfl) ?_
  refine WP.mem (σ' := mvM σ r (0 : Int).toNat) ?_ (cut_32 13 0 (by omega) (by omega) (by omega))
  unfold mvM
  rw [show (0 : Int).toNat = 0 from rfl, cpR_0, up2_ne _ _ _ _ (by decide)]

set_option maxRecDepth 100000 in
set_option maxHeartbeats 4000000 in
theorem ct_X1_rewrite {l : Launch} {G : GG} {π : Nat → Option Nat} {σ τ : ST} (r : Int) (h0 : 0 ≤ r) (h1 : r < 12) (s : Int) : Ct l G mX1_rewrite (2, 0, 0) [.ref 10, .int (iI r), .int (iI s), .ref 15] 110 KD σ τ (RHO π) (KQ none 110 KD (rwF σ r s) τ (RHO π)) := by
  refine ct_intro (own := "ShapedRows$Rows") rfl (by decide +kernel) (Nat.le_of_ble_eq_true rfl) (L := _) rfl ?_
  have cut_3 : ∀ (N : Nat) (k : Int), (0 ≤ k) → (k ≤ 12) → 12 - k < (N : Int) → WP l G "ShapedRows$Rows" mX1_rewrite (2, 0, 0) (KQ none 110 KD (rwF σ r s) τ (RHO π)) noX 110 3 [some (.ref 10), some (.int (iI r)), some (.int (iI s)), some (.ref 15), some (.int (iI k))] [] 110 KD (rwM σ r k.toNat) τ (RHO π) 0 0 := by
    intro N
    induction N with
    | zero => intro k k0 k1 hm; exact absurd hm (by omega)
    | succ N ih =>
      intro k k0 k1 hm
      refine r_iload dX1_rewrite_3 (by rfl) ?_
      refine r_bipush dX1_rewrite_5 (by decide) ?_
      refine r_icmp_ge (tgt := 36) dX1_rewrite_7 (by decide) (by unfold inR; omega) (by unfold inR; omega) (fun c_1 => ?_) (fun c_1 => ?_)
      · refine r_aload_n dX1_rewrite_36 rfl (by rfl) ?_
        refine r_get_r kX1_24 dX1_rewrite_37 KD_10 (RHO_10_4 _) ?_
        refine r_iload_n dX1_rewrite_40 rfl (by rfl) ?_
        refine r_iload_n dX1_rewrite_41 rfl (by rfl) ?_
        refine r_callN3 (ct_X5_put KD_11 (by decide) _ (by omega) (by omega) _) fX5_put qX1_38 dX1_rewrite_42 (by decide) ⟨Nat.zero_le _, Nat.zero_le _⟩ (Nat.le_of_ble_eq_true rfl) ?_
        refine r_aload_n dX1_rewrite_45 rfl (by rfl) ?_
        refine r_get_r kX1_28 dX1_rewrite_46 KD_10 (RHO_10_5 _) ?_
        refine r_iload_n dX1_rewrite_49 rfl (by rfl) ?_
        refine r_aload_n dX1_rewrite_50 rfl (by rfl) ?_
        refine r_iload_n dX1_rewrite_51 rfl (by rfl) ?_
        refine r_callV1 (ct_X1_rewritesOf _ (by omega) (by omega)) fX1_rewritesOf qX1_46 dX1_rewrite_52 KD_10 (by decide) ⟨Nat.zero_le _, Nat.zero_le _⟩ (Nat.le_of_ble_eq_true rfl) ?_
        refine r_iconst dX1_rewrite_55 ?_
        refine r_iadd dX1_rewrite_56 ?_
        refine r_callN3 (ct_X5_put KD_12 (by decide) _ (by omega) (by omega) _) fX5_put qX1_38 dX1_rewrite_57 (by decide) ⟨Nat.zero_le _, Nat.zero_le _⟩ (Nat.le_of_ble_eq_true rfl) ?_
        refine r_aload_n dX1_rewrite_60 rfl (by rfl) ?_
        refine r_dup dX1_rewrite_61 rfl ?_
        refine r_get_i kX1_18 dX1_rewrite_62 KD_10 ?_
        refine r_iconst dX1_rewrite_65 ?_
        refine r_iadd dX1_rewrite_66 ?_
        refine r_put_i kX1_18 dX1_rewrite_67 KD_10 ?_
        exact r_ret_v dX1_rewrite_70 rfl ⟨Nat.zero_le _, Nat.zero_le _⟩ ⟨rfl, rfl, (by unfold rwF; rw [show k.toNat = 12 by omega, up2_ne _ _ _ _ (by decide), up2_ne _ _ _ _ (by decide), up2_ne _ _ _ _ (by decide), show rwM σ r 12 12 = σ 12 by unfold rwM; rw [cpR_off _ _ _ _ (by decide)], show rwM σ r 12 10 = σ 10 by unfold rwM; rw [cpR_off _ _ _ _ (by decide)]]), rfl, rfl⟩
      · refine r_aload_n dX1_rewrite_10 rfl (by rfl) ?_
        refine r_get_r kX1_31 dX1_rewrite_11 KD_10 (RHO_10_6 _) ?_
        refine r_iload_n dX1_rewrite_14 rfl (by rfl) ?_
        refine r_bipush dX1_rewrite_15 (by decide) ?_
        refine r_imul dX1_rewrite_17 ?_
        refine r_iload dX1_rewrite_18 (by rfl) ?_
        refine r_iadd dX1_rewrite_20 ?_
        refine r_aload_n dX1_rewrite_21 rfl (by rfl) ?_
        refine r_iload dX1_rewrite_22 (by rfl) ?_
        refine r_callN2 (ct_X5_at KD_15 (by decide) _ (by omega) (by omega)) fX5_at qX1_34 dX1_rewrite_24 (by decide) ⟨Nat.zero_le _, Nat.zero_le _⟩ (Nat.le_of_ble_eq_true rfl) ?_
        refine r_callN3 (ct_X5_put KD_13 (by decide) _ (by omega) (by omega) _) fX5_put qX1_38 dX1_rewrite_27 (by decide) ⟨Nat.zero_le _, Nat.zero_le _⟩ (Nat.le_of_ble_eq_true rfl) ?_
        refine r_iinc dX1_rewrite_30 (by rfl) (Nat.le_of_ble_eq_true rfl) (L' := [_, _, _, _, _]) (by rfl) ?_
        refine r_goto (tgt := 3) dX1_rewrite_33 (by decide) ?_
        refine WP.mem (σ' := rwM σ r (k + 1).toNat) ?_ (ih (k + 1) (by omega) (by omega) (by omega))
        unfold rwM
        rw [cpR_off _ _ _ _ (by decide), show (r * 12 + k).toNat = 12 * r.toNat + k.toNat by omega, show (k + 1).toNat = k.toNat + 1 by omega, cpR_up _ 13 _ _ (fun j => σ 15 j)]
  refine r_iconst dX1_rewrite_0 ?_
  refine r_istore dX1_rewrite_1 (Nat.le_of_ble_eq_true rfl) (L' := [_, _, _, _, _]) (by rfl) ?_
  refine WP.mem (σ' := rwM σ r (0 : Int).toNat) ?_ (cut_3 13 0 (by omega) (by omega) (by omega))
  unfold rwM
  rw [show (0 : Int).toNat = 0 from rfl, cpR_0]

set_option maxRecDepth 100000 in
set_option maxHeartbeats 4000000 in
theorem ct_X1_copyValues {l : Launch} {G : GG} {π : Nat → Option Nat} {σ τ : ST} (r : Int) (h0 : 0 ≤ r) (h1 : r < 12) : Ct l G mX1_copyValues (1, 0, 0) [.ref 10, .int (iI r), .ref 15] 110 KD σ τ (RHO π) (KQ none 110 KD (cpV σ r 12) τ (RHO π)) := by
  refine ct_intro (own := "ShapedRows$Rows") rfl (by decide +kernel) (Nat.le_of_ble_eq_true rfl) (L := _) rfl ?_
  have cut_2 : ∀ (N : Nat) (k : Int), (0 ≤ k) → (k ≤ 12) → 12 - k < (N : Int) → WP l G "ShapedRows$Rows" mX1_copyValues (1, 0, 0) (KQ none 110 KD (cpV σ r 12) τ (RHO π)) noX 110 2 [some (.ref 10), some (.int (iI r)), some (.ref 15), some (.int (iI k))] [] 110 KD (cpV σ r k.toNat) τ (RHO π) 0 0 := by
    intro N
    induction N with
    | zero => intro k k0 k1 hm; exact absurd hm (by omega)
    | succ N ih =>
      intro k k0 k1 hm
      refine r_iload_n dX1_copyValues_2 rfl (by rfl) ?_
      refine r_bipush dX1_copyValues_3 (by decide) ?_
      refine r_icmp_ge (tgt := 32) dX1_copyValues_5 (by decide) (by unfold inR; omega) (by unfold inR; omega) (fun c_1 => ?_) (fun c_1 => ?_)
      · exact r_ret_v dX1_copyValues_32 rfl ⟨Nat.zero_le _, Nat.zero_le _⟩ ⟨rfl, rfl, (by rw [show k.toNat = 12 by omega]), rfl, rfl⟩
      · refine r_aload_n dX1_copyValues_8 rfl (by rfl) ?_
        refine r_iload_n dX1_copyValues_9 rfl (by rfl) ?_
        refine r_aload_n dX1_copyValues_10 rfl (by rfl) ?_
        refine r_get_r kX1_31 dX1_copyValues_11 KD_10 (RHO_10_6 _) ?_
        refine r_iload_n dX1_copyValues_14 rfl (by rfl) ?_
        refine r_bipush dX1_copyValues_15 (by decide) ?_
        refine r_imul dX1_copyValues_17 ?_
        refine r_iload_n dX1_copyValues_18 rfl (by rfl) ?_
        refine r_iadd dX1_copyValues_19 ?_
        refine r_callN2 (ct_X5_at KD_13 (by decide) _ (by omega) (by omega)) fX5_at qX1_34 dX1_copyValues_20 (by decide) ⟨Nat.zero_le _, Nat.zero_le _⟩ (Nat.le_of_ble_eq_true rfl) ?_
        refine r_callN3 (ct_X5_put KD_15 (by decide) _ (by omega) (by omega) _) fX5_put qX1_38 dX1_copyValues_23 (by decide) ⟨Nat.zero_le _, Nat.zero_le _⟩ (Nat.le_of_ble_eq_true rfl) ?_
        refine r_iinc dX1_copyValues_26 (by rfl) (Nat.le_of_ble_eq_true rfl) (L' := [_, _, _, _]) (by rfl) ?_
        refine r_goto (tgt := 2) dX1_copyValues_29 (by decide) ?_
        refine WP.mem (σ' := cpV σ r (k + 1).toNat) ?_ (ih (k + 1) (by omega) (by omega) (by omega))
        unfold cpV
        rw [cpR_off _ _ _ _ (by decide), show (r * 12 + k).toNat = 12 * r.toNat + k.toNat by omega, show (k + 1).toNat = k.toNat + 1 by omega]
        have e := cpR_up σ 15 0 k.toNat (fun j => σ 13 (12 * r.toNat + j))
        rw [Nat.zero_add] at e
        exact e
  refine r_iconst dX1_copyValues_0 ?_
  refine r_istore_n dX1_copyValues_1 rfl (Nat.le_of_ble_eq_true rfl) (L' := [_, _, _, _]) (by rfl) ?_
  refine WP.mem (σ' := cpV σ r (0 : Int).toNat) ?_ (cut_2 13 0 (by omega) (by omega) (by omega))
  unfold cpV
  rw [show (0 : Int).toNat = 0 from rfl, cpR_0]
