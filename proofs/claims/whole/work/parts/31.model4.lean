/-! the model: shapes that come -/
theorem lyM_0 (σ : ST) (s w v : Int) (h : 0 < 10 + 20 * s + w) : lyM σ s w v 111 0 = σ 111 0 := by unfold lyM; rw [up2_el _ _ _ (by omega)]
def cyM (σ : ST) (k : Nat) : ST := cpR σ 111 (10 + 20 * σ 111 0).toNat k (fun j => σ 111 ((10 + 20 * (σ 111 0 - 1)).toNat + j))
theorem cyM_g {σ : ST} (h : 1 ≤ σ 111 0) {k : Int} (k0 : 0 ≤ k) (k1 : k < 20) : gM (cyM σ k.toNat) (σ 111 0 - 1) k = σ 111 ((10 + 20 * (σ 111 0 - 1)).toNat + k.toNat) := by
  unfold gM cyM
  rw [show (10 + 20 * (σ 111 0 - 1) + k).toNat = (10 + 20 * (σ 111 0 - 1)).toNat + k.toNat by omega, cpR_out _ _ _ _ (by omega)]
theorem cyM_0 {σ : ST} (h : 1 ≤ σ 111 0) (k : Nat) : cyM σ k 111 0 = σ 111 0 := by unfold cyM; rw [cpR_out _ _ _ _ (by omega)]
theorem cyM_s {σ : ST} (h : 1 ≤ σ 111 0) {k : Int} (k0 : 0 ≤ k) : lyM (cyM σ k.toNat) (σ 111 0) k (σ 111 ((10 + 20 * (σ 111 0 - 1)).toNat + k.toNat)) = cyM σ (k + 1).toNat := by
  unfold lyM cyM
  rw [show (10 + 20 * σ 111 0 + k).toNat = (10 + 20 * σ 111 0).toNat + k.toNat by omega, show (k + 1).toNat = k.toNat + 1 by omega]
  exact cpR_up σ 111 _ _ (fun j => σ 111 ((10 + 20 * (σ 111 0 - 1)).toNat + j))
def cmM (σ : ST) (c x y : Int) : ST := up2 (lyM (lyM (lyM (cyM σ 20) (σ 111 0) 17 c) (σ 111 0) 18 x) (σ 111 0) 19 y) 111 0 (σ 111 0 + 1)
def gcM (σ : ST) (a : Int) : ST := lyM (lyM (lyM σ (σ 111 0 - 1) (1 + gM σ (σ 111 0 - 1) 0) (σ 111 0 - 1)) (σ 111 0 - 1) (9 + gM σ (σ 111 0 - 1) 0) a) (σ 111 0 - 1) 0 (gM σ (σ 111 0 - 1) 0 + 1)

set_option maxRecDepth 100000 in
set_option maxHeartbeats 4000000 in
theorem ct_X6_comes {l : Launch} {G : GG} {π : Nat → Option Nat} {σ τ : ST} (hz0 : 1 ≤ σ 111 0) (hz : σ 111 0 < 12) (c x y : Int) : Ct l G mX6_comes (1, 0, 0) [.ref 110, .int (iI c), .int (iI x), .int (iI y)] 117 KD σ τ (RHO π) (KQ none 117 KD (cmM σ c x y) τ (RHO π)) := by
  refine ct_intro (own := "ShapedRowsModel") rfl (by decide +kernel) (Nat.le_of_ble_eq_true rfl) (L := _) rfl ?_
  have cut_11 : ∀ (N : Nat) (k : Int), (0 ≤ k) → (k ≤ 20) → 20 - k < (N : Int) → WP l G "ShapedRowsModel" mX6_comes (1, 0, 0) (KQ none 117 KD (cmM σ c x y) τ (RHO π)) noX 117 11 [some (.ref 110), some (.int (iI c)), some (.int (iI x)), some (.int (iI y)), some (.int (iI (σ 111 0))), some (.int (iI k))] [] 117 KD (cyM σ k.toNat) τ (RHO π) 0 0 := by
    intro N
    induction N with
    | zero => intro k k0 k1 hm; exact absurd hm (by omega)
    | succ N ih =>
      intro k k0 k1 hm
      refine r_iload dX6_comes_11 (by rfl) ?_
      refine r_bipush dX6_comes_13 (by decide) ?_
      refine r_icmp_ge (tgt := 42) dX6_comes_15 (by decide) (by unfold inR; omega) (by unfold inR; omega) (fun c_1 => ?_) (fun c_1 => ?_)
      · refine r_aload_n dX6_comes_42 rfl (by rfl) ?_
        refine r_iload dX6_comes_43 (by rfl) ?_
        refine r_bipush dX6_comes_45 (by decide) ?_
        refine r_iload_n dX6_comes_47 rfl (by rfl) ?_
        refine r_callV3 (ct_X6_lay _ _ (by omega) (by omega) _) fX6_lay qX6_40 dX6_comes_48 KD_110 (by decide) ⟨Nat.zero_le _, Nat.zero_le _⟩ (Nat.le_of_ble_eq_true rfl) ?_
        refine r_aload_n dX6_comes_51 rfl (by rfl) ?_
        refine r_iload dX6_comes_52 (by rfl) ?_
        refine r_bipush dX6_comes_54 (by decide) ?_
        refine r_iload_n dX6_comes_56 rfl (by rfl) ?_
        refine r_callV3 (ct_X6_lay _ _ (by omega) (by omega) _) fX6_lay qX6_40 dX6_comes_57 KD_110 (by decide) ⟨Nat.zero_le _, Nat.zero_le _⟩ (Nat.le_of_ble_eq_true rfl) ?_
        refine r_aload_n dX6_comes_60 rfl (by rfl) ?_
        refine r_iload dX6_comes_61 (by rfl) ?_
        refine r_bipush dX6_comes_63 (by decide) ?_
        refine r_iload_n dX6_comes_65 rfl (by rfl) ?_
        refine r_callV3 (ct_X6_lay _ _ (by omega) (by omega) _) fX6_lay qX6_40 dX6_comes_66 KD_110 (by decide) ⟨Nat.zero_le _, Nat.zero_le _⟩ (Nat.le_of_ble_eq_true rfl) ?_
        refine r_aload_n dX6_comes_69 rfl (by rfl) ?_
        refine r_get_r kX6_7 dX6_comes_70 KD_110 (RHO_110_1 _) ?_
        refine r_iconst dX6_comes_73 ?_
        refine r_dup2 dX6_comes_74 rfl rfl ?_
        refine r_iaload (k := 0) dX6_comes_75 KD_111 (by omega) (by omega) (by decide) ?_
        refine r_iconst dX6_comes_76 ?_
        refine r_iadd dX6_comes_77 ?_
        refine r_iastore (k := 0) dX6_comes_78 KD_111 (by omega) (by omega) (by decide) ?_
        exact r_ret_v dX6_comes_79 rfl ⟨Nat.zero_le _, Nat.zero_le _⟩ ⟨rfl, rfl, (by unfold cmM; rw [lyM_0 _ _ _ _ (by omega), lyM_0 _ _ _ _ (by omega), lyM_0 _ _ _ _ (by omega), cyM_0 hz0, show k.toNat = 20 by omega]), rfl, rfl⟩
      · refine r_aload_n dX6_comes_18 rfl (by rfl) ?_
        refine r_iload dX6_comes_19 (by rfl) ?_
        refine r_iload dX6_comes_21 (by rfl) ?_
        refine r_aload_n dX6_comes_23 rfl (by rfl) ?_
        refine r_iload dX6_comes_24 (by rfl) ?_
        refine r_iconst dX6_comes_26 ?_
        refine r_isub dX6_comes_27 ?_
        refine r_iload dX6_comes_28 (by rfl) ?_
        refine r_callV2 (ct_X6_get _ _ (by omega) (by omega)) fX6_get qX6_36 dX6_comes_30 KD_110 (by decide) ⟨Nat.zero_le _, Nat.zero_le _⟩ (Nat.le_of_ble_eq_true rfl) ?_
        refine r_callV3 (ct_X6_lay _ _ (by omega) (by omega) _) fX6_lay qX6_40 dX6_comes_33 KD_110 (by decide) ⟨Nat.zero_le _, Nat.zero_le _⟩ (Nat.le_of_ble_eq_true rfl) ?_
        refine r_iinc dX6_comes_36 (by rfl) (Nat.le_of_ble_eq_true rfl) (L' := [_, _, _, _, _, _]) (by rfl) ?_
        refine r_goto (tgt := 11) dX6_comes_39 (by decide) ?_
        refine WP.mem (σ' := cyM σ (k + 1).toNat) ?_ (ih (k + 1) (by omega) (by omega) (by omega))
        rw [cyM_g hz0 k0 (by omega), cyM_s hz0 k0]
  refine r_aload_n dX6_comes_0 rfl (by rfl) ?_
  refine r_get_r kX6_7 dX6_comes_1 KD_110 (RHO_110_1 _) ?_
  refine r_iconst dX6_comes_4 ?_
  refine r_iaload (k := 0) dX6_comes_5 KD_111 (by omega) (by omega) (by decide) ?_
  refine r_istore dX6_comes_6 (Nat.le_of_ble_eq_true rfl) (L' := [_, _, _, _, _, _]) (by rfl) ?_
  refine r_iconst dX6_comes_8 ?_
  refine r_istore dX6_comes_9 (Nat.le_of_ble_eq_true rfl) (L' := [_, _, _, _, _, _]) (by rfl) ?_
  refine WP.mem (σ' := cyM σ (0 : Int).toNat) ?_ (cut_11 21 0 (by omega) (by omega) (by omega))
  unfold cyM
  rw [show (0 : Int).toNat = 0 from rfl, cpR_0]

set_option maxRecDepth 100000 in
set_option maxHeartbeats 4000000 in
theorem ct_X6_getsColumn {l : Launch} {G : GG} {π : Nat → Option Nat} {σ τ : ST} (hz0 : 1 ≤ σ 111 0) (hz : σ 111 0 ≤ 12) (hw : 0 ≤ gM σ (σ 111 0 - 1) 0) (hw1 : gM σ (σ 111 0 - 1) 0 < 8) (a : Int) : Ct l G mX6_getsColumn (1, 0, 0) [.ref 110, .int (iI a)] 117 KD σ τ (RHO π) (KQ none 117 KD (gcM σ a) τ (RHO π)) := by
  refine ct_intro (own := "ShapedRowsModel") rfl (by decide +kernel) (Nat.le_of_ble_eq_true rfl) (L := _) rfl ?_
  refine r_aload_n dX6_getsColumn_0 rfl (by rfl) ?_
  refine r_aload_n dX6_getsColumn_1 rfl (by rfl) ?_
  refine r_callV0 ct_X6_newest fX6_newest qX6_44 dX6_getsColumn_2 KD_110 (by decide) ⟨Nat.zero_le _, Nat.zero_le _⟩ (Nat.le_of_ble_eq_true rfl) ?_
  refine r_iconst dX6_getsColumn_5 ?_
  refine r_callV2 (ct_X6_get _ _ (by omega) (by omega)) fX6_get qX6_36 dX6_getsColumn_6 KD_110 (by decide) ⟨Nat.zero_le _, Nat.zero_le _⟩ (Nat.le_of_ble_eq_true rfl) ?_
  refine r_istore_n dX6_getsColumn_9 rfl (Nat.le_of_ble_eq_true rfl) (L' := [_, _, _]) (by rfl) ?_
  refine r_aload_n dX6_getsColumn_10 rfl (by rfl) ?_
  refine r_aload_n dX6_getsColumn_11 rfl (by rfl) ?_
  refine r_callV0 ct_X6_newest fX6_newest qX6_44 dX6_getsColumn_12 KD_110 (by decide) ⟨Nat.zero_le _, Nat.zero_le _⟩ (Nat.le_of_ble_eq_true rfl) ?_
  refine r_iconst dX6_getsColumn_15 ?_
  refine r_iload_n dX6_getsColumn_16 rfl (by rfl) ?_
  refine r_iadd dX6_getsColumn_17 ?_
  refine r_aload_n dX6_getsColumn_18 rfl (by rfl) ?_
  refine r_callV0 ct_X6_newest fX6_newest qX6_44 dX6_getsColumn_19 KD_110 (by decide) ⟨Nat.zero_le _, Nat.zero_le _⟩ (Nat.le_of_ble_eq_true rfl) ?_
  refine r_callV3 (ct_X6_lay _ _ (by omega) (by omega) _) fX6_lay qX6_40 dX6_getsColumn_22 KD_110 (by decide) ⟨Nat.zero_le _, Nat.zero_le _⟩ (Nat.le_of_ble_eq_true rfl) ?_
  refine r_aload_n dX6_getsColumn_25 rfl (by rfl) ?_
  refine r_aload_n dX6_getsColumn_26 rfl (by rfl) ?_
  refine r_callV0 ct_X6_newest fX6_newest qX6_44 dX6_getsColumn_27 KD_110 (by decide) ⟨Nat.zero_le _, Nat.zero_le _⟩ (Nat.le_of_ble_eq_true rfl) ?_
  rw [lyM_0 _ _ _ _ (by omega)]
  refine r_bipush dX6_getsColumn_30 (by decide) ?_
  refine r_iload_n dX6_getsColumn_32 rfl (by rfl) ?_
  refine r_iadd dX6_getsColumn_33 ?_
  refine r_iload_n dX6_getsColumn_34 rfl (by rfl) ?_
  refine r_callV3 (ct_X6_lay _ _ (by omega) (by omega) _) fX6_lay qX6_40 dX6_getsColumn_35 KD_110 (by decide) ⟨Nat.zero_le _, Nat.zero_le _⟩ (Nat.le_of_ble_eq_true rfl) ?_
  refine r_aload_n dX6_getsColumn_38 rfl (by rfl) ?_
  refine r_aload_n dX6_getsColumn_39 rfl (by rfl) ?_
  refine r_callV0 ct_X6_newest fX6_newest qX6_44 dX6_getsColumn_40 KD_110 (by decide) ⟨Nat.zero_le _, Nat.zero_le _⟩ (Nat.le_of_ble_eq_true rfl) ?_
  rw [lyM_0 _ _ _ _ (by omega), lyM_0 _ _ _ _ (by omega)]
  refine r_iconst dX6_getsColumn_43 ?_
  refine r_iload_n dX6_getsColumn_44 rfl (by rfl) ?_
  refine r_iconst dX6_getsColumn_45 ?_
  refine r_iadd dX6_getsColumn_46 ?_
  refine r_callV3 (ct_X6_lay _ _ (by omega) (by omega) _) fX6_lay qX6_40 dX6_getsColumn_47 KD_110 (by decide) ⟨Nat.zero_le _, Nat.zero_le _⟩ (Nat.le_of_ble_eq_true rfl) ?_
  exact r_ret_v dX6_getsColumn_50 rfl ⟨Nat.zero_le _, Nat.zero_le _⟩ ⟨rfl, rfl, (by first | rfl | omega), rfl, rfl⟩
