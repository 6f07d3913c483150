/-! the model: a column dropped -/
theorem cpR_cm (σ : ST) (p lo n i : Nat) (f : Nat → Int) (v : Int) (h : i < lo ∨ lo + n ≤ i) : up2 (cpR σ p lo n f) p i v = cpR (up2 σ p i v) p lo n f := by
  funext a b
  show (if a = p ∧ b = i then v else if a = p ∧ lo ≤ b ∧ b < lo + n then f (b - lo) else σ a b) = (if a = p ∧ lo ≤ b ∧ b < lo + n then f (b - lo) else if a = p ∧ b = i then v else σ a b)
  by_cases h1 : a = p ∧ b = i
  · rw [if_pos h1, if_neg (by omega), if_pos h1]
  · rw [if_neg h1]
    by_cases h2 : a = p ∧ lo ≤ b ∧ b < lo + n
    · rw [if_pos h2, if_pos h2]
    · rw [if_neg h2, if_neg h2, if_neg h1]
/-- n places from p on are taken over from one further on, in shape s -/
def dpL (μ : ST) (s p : Int) (n : Nat) : ST := cpR (cpR μ 111 (11 + 20 * s + p).toNat n (fun j => μ 111 ((11 + 20 * s + p).toNat + j + 1))) 111 (19 + 20 * s + p).toNat n (fun j => μ 111 ((19 + 20 * s + p).toNat + j + 1))
theorem dpL_s {μ : ST} {s p : Int} (s0 : 0 ≤ s) (p0 : 0 ≤ p) {n : Nat} (h : p + (n : Int) < 8) : up2 (up2 (dpL μ s p n) 111 ((11 + 20 * s + p).toNat + n) (μ 111 ((11 + 20 * s + p).toNat + n + 1))) 111 ((19 + 20 * s + p).toNat + n) (μ 111 ((19 + 20 * s + p).toNat + n + 1)) = dpL μ s p (n + 1) := by
  unfold dpL
  rw [cpR_cm _ _ _ _ _ _ _ (by omega), cpR_up μ 111 _ _ (fun j => μ 111 ((11 + 20 * s + p).toNat + j + 1)), cpR_up _ 111 _ _ (fun j => μ 111 ((19 + 20 * s + p).toNat + j + 1))]
theorem dpL_o {μ : ST} {s p : Int} (s0 : 0 ≤ s) (p0 : 0 ≤ p) {n : Nat} (h : p + (n : Int) < 8) {i : Nat} (hi : i < (11 + 20 * s + p).toNat ∨ ((11 + 20 * s + p).toNat + n ≤ i ∧ i < (19 + 20 * s + p).toNat) ∨ (19 + 20 * s + p).toNat + n ≤ i) : dpL μ s p n 111 i = μ 111 i := by
  unfold dpL
  rw [cpR_out _ _ _ _ (by omega), cpR_out _ _ _ _ (by omega)]
def dpM (σ : ST) (a m : Int) : ST :=
  let S := σ 111 0
  let p := plM σ (S - 1) a
  let q := gM σ (S - 1) 0 - 1
  lyM (lyM (lyM (dpL (cmM σ 4 p m) S p (q - p).toNat) S (1 + q) 0) S (9 + q) 0) S 0 q

set_option maxRecDepth 100000 in
set_option maxHeartbeats 4000000 in
theorem ct_X6_drops {l : Launch} {G : GG} {π : Nat → Option Nat} {σ τ : ST} (hJ : MJ σ) (h12 : σ 111 0 < 12) (a : Int) (ha : inR a) (m : Int) (hp0 : plM σ (σ 111 0 - 1) a ≠ -1) : Ct l G mX6_drops (2, 0, 0) [.ref 110, .int (iI a), .int (iI m)] 117 KD σ τ (RHO π) (KQ none 117 KD (dpM σ a m) τ (RHO π)) := by
  have hz := hJ.sz
  have hmk := hJ.mk
  have hro := hJ.ro
  have hww := hJ.wd (σ 111 0 - 1) (by omega) (by omega)
  have hpl := plM_rng hJ (σ 111 0 - 1) a (by omega) (by omega)
  have c0 := fun c x y => cmM_0 σ c x y
  have cw := fun c x y => cmM_c hz.1 c x y (w := 0) (by omega) (by omega)
  have eS : σ 111 0 + 1 - 1 = σ 111 0 := by omega
  obtain ⟨p, hp⟩ : ∃ p, p = plM σ (σ 111 0 - 1) a := ⟨_, rfl⟩
  obtain ⟨μ, hμ⟩ : ∃ μ, μ = cmM σ 4 p m := ⟨_, rfl⟩
  obtain ⟨q, hq⟩ : ∃ q, q = gM σ (σ 111 0 - 1) 0 - 1 := ⟨_, rfl⟩
  have ra := ha
  unfold inR at ra
  refine ct_intro (own := "ShapedRowsModel") rfl (by decide +kernel) (Nat.le_of_ble_eq_true rfl) (L := _) rfl ?_
  have cut_37 : ∀ (N : Nat) (k : Int), (p ≤ k) → (k ≤ q) → q - k < (N : Int) → WP l G "ShapedRowsModel" mX6_drops (2, 0, 0) (KQ none 117 KD (dpM σ a m) τ (RHO π)) noX 117 37 [some (.ref 110), some (.int (iI a)), some (.int (iI m)), some (.int (iI p)), some (.int (iI (σ 111 0))), some (.int (iI q)), some (.int (iI k))] [] 117 KD (dpL μ (σ 111 0) p (k - p).toNat) τ (RHO π) 0 0 := by
    intro N
    induction N with
    | zero => intro k k0 k1 hm; exact absurd hm (by omega)
    | succ N ih =>
      intro k k0 k1 hm
      refine r_iload dX6_drops_37 (by rfl) ?_
      refine r_iload dX6_drops_39 (by rfl) ?_
      refine r_icmp_ge (tgt := 96) dX6_drops_41 (by decide) (by unfold inR; omega) (by unfold inR; omega) (fun c_1 => ?_) (fun c_1 => ?_)
      · refine r_aload_n dX6_drops_96 rfl (by rfl) ?_
        refine r_iload dX6_drops_97 (by rfl) ?_
        refine r_iconst dX6_drops_99 ?_
        refine r_iload dX6_drops_100 (by rfl) ?_
        refine r_iadd dX6_drops_102 ?_
        refine r_iconst dX6_drops_103 ?_
        refine r_callV3 (ct_X6_lay _ _ (by first | exact hJ | exact ha | omega | (unfold inR; omega)) (by first | exact hJ | exact ha | omega | (unfold inR; omega)) _) fX6_lay qX6_40 dX6_drops_104 KD_110 (by decide) ⟨Nat.zero_le _, Nat.zero_le _⟩ (Nat.le_of_ble_eq_true rfl) ?_
        refine r_aload_n dX6_drops_107 rfl (by rfl) ?_
        refine r_iload dX6_drops_108 (by rfl) ?_
        refine r_bipush dX6_drops_110 (by decide) ?_
        refine r_iload dX6_drops_112 (by rfl) ?_
        refine r_iadd dX6_drops_114 ?_
        refine r_iconst dX6_drops_115 ?_
        refine r_callV3 (ct_X6_lay _ _ (by first | exact hJ | exact ha | omega | (unfold inR; omega)) (by first | exact hJ | exact ha | omega | (unfold inR; omega)) _) fX6_lay qX6_40 dX6_drops_116 KD_110 (by decide) ⟨Nat.zero_le _, Nat.zero_le _⟩ (Nat.le_of_ble_eq_true rfl) ?_
        refine r_aload_n dX6_drops_119 rfl (by rfl) ?_
        refine r_iload dX6_drops_120 (by rfl) ?_
        refine r_iconst dX6_drops_122 ?_
        refine r_iload dX6_drops_123 (by rfl) ?_
        refine r_callV3 (ct_X6_lay _ _ (by first | exact hJ | exact ha | omega | (unfold inR; omega)) (by first | exact hJ | exact ha | omega | (unfold inR; omega)) _) fX6_lay qX6_40 dX6_drops_125 KD_110 (by decide) ⟨Nat.zero_le _, Nat.zero_le _⟩ (Nat.le_of_ble_eq_true rfl) ?_
        exact r_ret_v dX6_drops_128 rfl ⟨Nat.zero_le _, Nat.zero_le _⟩ ⟨rfl, rfl, (by unfold dpM; simp only [← hp, ← hμ, ← hq]; rw [show k = q by omega]), rfl, rfl⟩
      · refine r_aload_n dX6_drops_44 rfl (by rfl) ?_
        refine r_iload dX6_drops_45 (by rfl) ?_
        refine r_iconst dX6_drops_47 ?_
        refine r_iload dX6_drops_48 (by rfl) ?_
        refine r_iadd dX6_drops_50 ?_
        refine r_aload_n dX6_drops_51 rfl (by rfl) ?_
        refine r_iload dX6_drops_52 (by rfl) ?_
        refine r_iconst dX6_drops_54 ?_
        refine r_iload dX6_drops_55 (by rfl) ?_
        refine r_iadd dX6_drops_57 ?_
        refine r_iconst dX6_drops_58 ?_
        refine r_iadd dX6_drops_59 ?_
        refine r_callV2 (ct_X6_get _ _ (by first | exact hJ | exact ha | omega | (unfold inR; omega)) (by first | exact hJ | exact ha | omega | (unfold inR; omega))) fX6_get qX6_36 dX6_drops_60 KD_110 (by decide) ⟨Nat.zero_le _, Nat.zero_le _⟩ (Nat.le_of_ble_eq_true rfl) ?_
        refine r_callV3 (ct_X6_lay _ _ (by first | exact hJ | exact ha | omega | (unfold inR; omega)) (by first | exact hJ | exact ha | omega | (unfold inR; omega)) _) fX6_lay qX6_40 dX6_drops_63 KD_110 (by decide) ⟨Nat.zero_le _, Nat.zero_le _⟩ (Nat.le_of_ble_eq_true rfl) ?_
        refine r_aload_n dX6_drops_66 rfl (by rfl) ?_
        refine r_iload dX6_drops_67 (by rfl) ?_
        refine r_bipush dX6_drops_69 (by decide) ?_
        refine r_iload dX6_drops_71 (by rfl) ?_
        refine r_iadd dX6_drops_73 ?_
        refine r_aload_n dX6_drops_74 rfl (by rfl) ?_
        refine r_iload dX6_drops_75 (by rfl) ?_
        refine r_bipush dX6_drops_77 (by decide) ?_
        refine r_iload dX6_drops_79 (by rfl) ?_
        refine r_iadd dX6_drops_81 ?_
        refine r_iconst dX6_drops_82 ?_
        refine r_iadd dX6_drops_83 ?_
        refine r_callV2 (ct_X6_get _ _ (by first | exact hJ | exact ha | omega | (unfold inR; omega)) (by first | exact hJ | exact ha | omega | (unfold inR; omega))) fX6_get qX6_36 dX6_drops_84 KD_110 (by decide) ⟨Nat.zero_le _, Nat.zero_le _⟩ (Nat.le_of_ble_eq_true rfl) ?_
        refine r_callV3 (ct_X6_lay _ _ (by first | exact hJ | exact ha | omega | (unfold inR; omega)) (by first | exact hJ | exact ha | omega | (unfold inR; omega)) _) fX6_lay qX6_40 dX6_drops_87 KD_110 (by decide) ⟨Nat.zero_le _, Nat.zero_le _⟩ (Nat.le_of_ble_eq_true rfl) ?_
        refine r_iinc dX6_drops_90 (by rfl) (Nat.le_of_ble_eq_true rfl) (L' := [_, _, _, _, _, _, _]) (by rfl) ?_
        refine r_goto (tgt := 37) dX6_drops_93 (by decide) ?_
        refine WP.mem (σ' := dpL μ (σ 111 0) p (k + 1 - p).toNat) ?_ (ih (k + 1) (by omega) (by omega) (by omega))
        rw [show (k + 1 - p).toNat = (k - p).toNat + 1 by omega, ← dpL_s (by omega) (by omega) (by omega)]
        unfold lyM gM
        rw [up2_el _ _ _ (by omega), dpL_o (by omega) (by omega) (by omega) (by omega), dpL_o (by omega) (by omega) (by omega) (by omega), show (10 + 20 * σ 111 0 + (1 + k)).toNat = (11 + 20 * σ 111 0 + p).toNat + (k - p).toNat by omega, show (10 + 20 * σ 111 0 + (1 + k + 1)).toNat = (11 + 20 * σ 111 0 + p).toNat + (k - p).toNat + 1 by omega, show (10 + 20 * σ 111 0 + (9 + k)).toNat = (19 + 20 * σ 111 0 + p).toNat + (k - p).toNat by omega, show (10 + 20 * σ 111 0 + (9 + k + 1)).toNat = (19 + 20 * σ 111 0 + p).toNat + (k - p).toNat + 1 by omega]
  refine r_aload_n dX6_drops_0 rfl (by rfl) ?_
  refine r_aload_n dX6_drops_1 rfl (by rfl) ?_
  refine r_callV0 ct_X6_newest fX6_newest qX6_44 dX6_drops_2 KD_110 (by decide) ⟨Nat.zero_le _, Nat.zero_le _⟩ (Nat.le_of_ble_eq_true rfl) ?_
  refine r_iload_n dX6_drops_5 rfl (by rfl) ?_
  refine r_callV2 (ct_X6_placeOf (by first | exact hJ | exact ha | omega | (unfold inR; omega)) _ (by first | exact hJ | exact ha | omega | (unfold inR; omega)) (by first | exact hJ | exact ha | omega | (unfold inR; omega)) _ (by first | exact hJ | exact ha | omega | (unfold inR; omega))) fX6_placeOf qX6_48 dX6_drops_6 KD_110 (by decide) ⟨Nat.zero_le _, Nat.zero_le _⟩ (Nat.le_of_ble_eq_true rfl) ?_
  rw [← hp]
  refine r_istore_n dX6_drops_9 rfl (Nat.le_of_ble_eq_true rfl) (L' := [_, _, _, _, _, _, _]) (by rfl) ?_
  refine r_aload_n dX6_drops_10 rfl (by rfl) ?_
  refine r_iconst dX6_drops_11 ?_
  refine r_iload_n dX6_drops_12 rfl (by rfl) ?_
  refine r_iload_n dX6_drops_13 rfl (by rfl) ?_
  refine r_callV3 (ct_X6_comes (by first | exact hJ | exact ha | omega | (unfold inR; omega)) (by first | exact hJ | exact ha | omega | (unfold inR; omega)) _ _ _) fX6_comes qX6_62 dX6_drops_14 KD_110 (by decide) ⟨Nat.zero_le _, Nat.zero_le _⟩ (Nat.le_of_ble_eq_true rfl) ?_
  rw [← hμ]
  refine r_aload_n dX6_drops_17 rfl (by rfl) ?_
  refine r_callV0 ct_X6_newest fX6_newest qX6_44 dX6_drops_18 KD_110 (by decide) ⟨Nat.zero_le _, Nat.zero_le _⟩ (Nat.le_of_ble_eq_true rfl) ?_
  rw [show μ 111 0 = σ 111 0 + 1 by rw [hμ, c0], eS]
  refine r_istore dX6_drops_21 (Nat.le_of_ble_eq_true rfl) (L' := [_, _, _, _, _, _, _]) (by rfl) ?_
  refine r_aload_n dX6_drops_23 rfl (by rfl) ?_
  refine r_iload dX6_drops_24 (by rfl) ?_
  refine r_iconst dX6_drops_26 ?_
  refine r_callV2 (ct_X6_get _ _ (by first | exact hJ | exact ha | omega | (unfold inR; omega)) (by first | exact hJ | exact ha | omega | (unfold inR; omega))) fX6_get qX6_36 dX6_drops_27 KD_110 (by decide) ⟨Nat.zero_le _, Nat.zero_le _⟩ (Nat.le_of_ble_eq_true rfl) ?_
  rw [show gM μ (σ 111 0) 0 = gM σ (σ 111 0 - 1) 0 by rw [hμ, cw]]
  refine r_iconst dX6_drops_30 ?_
  refine r_isub dX6_drops_31 ?_
  rw [← hq]
  refine r_istore dX6_drops_32 (Nat.le_of_ble_eq_true rfl) (L' := [_, _, _, _, _, _, _]) (by rfl) ?_
  refine r_iload_n dX6_drops_34 rfl (by rfl) ?_
  refine r_istore dX6_drops_35 (Nat.le_of_ble_eq_true rfl) (L' := [_, _, _, _, _, _, _]) (by rfl) ?_
  refine WP.mem (σ' := dpL μ (σ 111 0) p (p - p).toNat) ?_ (cut_37 9 p (by omega) (by omega) (by omega))
  unfold dpL
  rw [show (p - p).toNat = 0 by omega, cpR_0, cpR_0]

set_option maxRecDepth 100000 in
set_option maxHeartbeats 4000000 in
theorem ct_X6_drop {l : Launch} {G : GG} {π : Nat → Option Nat} {σ τ : ST} (hJ : MJ σ) (hn0 : 0 ≤ σ 110 3) (hn1 : σ 110 3 ≤ 6) (a : Int) (ha : inR a) (m : Int) (hm : inR m) : Ct l G mX6_drop (4, 0, 0) [.ref 110, .int (iI a), .int (iI m)] 117 KD σ τ (RHO π) (KQ (some (.int (iI (if rf_refusesDrop σ a m = 0 then dpM (svM (up2 σ 110 0 0)) a m 111 0 - 1 else 0)))) 117 KD (if rf_refusesDrop σ a m = 0 then dpM (svM (up2 σ 110 0 0)) a m else up2 σ 110 0 (rf_refusesDrop σ a m)) τ (RHO π)) := by
  have hz := hJ.sz
  have hmk := hJ.mk
  have hro := hJ.ro
  have u3 : ∀ e, up2 σ 110 0 e 110 3 = σ 110 3 := fun e => up2_el _ _ _ (by decide)
  have s1 := fun e => sv1 σ e
  have sJ := fun e => MJ_cg (sv1 σ e) hJ
  have sg := fun e => gM_cg (sv1 σ e)
  have sp := fun e => plM_cg (sv1 σ e)
  have er : 0 ≤ rf_refusesDrop σ a m ∧ rf_refusesDrop σ a m ≤ 2 := by unfold rf_refusesDrop; (repeat' split) <;> omega
  have ra := ha
  unfold inR at ra
  have rm := hm
  unfold inR at rm
  refine ct_intro (own := "ShapedRowsModel") rfl (by decide +kernel) (Nat.le_of_ble_eq_true rfl) (L := _) rfl ?_
  refine r_aload_n dX6_drop_0 rfl (by rfl) ?_
  refine r_aload_n dX6_drop_1 rfl (by rfl) ?_
  refine r_iload_n dX6_drop_2 rfl (by rfl) ?_
  refine r_iload_n dX6_drop_3 rfl (by rfl) ?_
  refine r_callV2 (ct_X6_refusesDrop (by first | exact hJ | exact sJ _ | omega | (unfold inR; omega) | (rw [u3]; omega) | (simp only [s1, sg, sp]; omega) | exact ha | exact hm) _ (by first | exact hJ | exact sJ _ | omega | (unfold inR; omega) | (rw [u3]; omega) | (simp only [s1, sg, sp]; omega) | exact ha | exact hm) _ (by first | exact hJ | exact sJ _ | omega | (unfold inR; omega) | (rw [u3]; omega) | (simp only [s1, sg, sp]; omega) | exact ha | exact hm)) fX6_refusesDrop qX6_86 dX6_drop_4 KD_110 (by decide) ⟨Nat.zero_le _, Nat.zero_le _⟩ (Nat.le_of_ble_eq_true rfl) ?_
  refine r_put_i kX6_25 dX6_drop_7 KD_110 ?_
  refine r_aload_n dX6_drop_10 rfl (by rfl) ?_
  refine r_get_i kX6_25 dX6_drop_11 KD_110 ?_
  rw [up2_at]
  refine r_if_eq (tgt := 19) dX6_drop_14 (by decide) (by unfold inR; omega) (fun hq => ?_) (fun hq => ?_)
  · have f0 : plM σ (σ 111 0 - 1) a ≠ -1 ∧ σ 111 0 ≠ 12 := by
      unfold rf_refusesDrop at hq
      (repeat' split at hq) <;> omega
    skip
    refine r_aload_n dX6_drop_19 rfl (by rfl) ?_
    refine r_callV0 (ct_X6_saves (by first | exact hJ | exact sJ _ | omega | (unfold inR; omega) | (rw [u3]; omega) | (simp only [s1, sg, sp]; omega) | exact ha | exact hm) (by first | exact hJ | exact sJ _ | omega | (unfold inR; omega) | (rw [u3]; omega) | (simp only [s1, sg, sp]; omega) | exact ha | exact hm)) fX6_saves qX6_72 dX6_drop_20 KD_110 (by decide) ⟨Nat.zero_le _, Nat.zero_le _⟩ (Nat.le_of_ble_eq_true rfl) ?_
    refine r_aload_n dX6_drop_23 rfl (by rfl) ?_
    refine r_iload_n dX6_drop_24 rfl (by rfl) ?_
    refine r_iload_n dX6_drop_25 rfl (by rfl) ?_
    refine r_callV2 (ct_X6_drops (by first | exact hJ | exact sJ _ | omega | (unfold inR; omega) | (rw [u3]; omega) | (simp only [s1, sg, sp]; omega) | exact ha | exact hm) (by first | exact hJ | exact sJ _ | omega | (unfold inR; omega) | (rw [u3]; omega) | (simp only [s1, sg, sp]; omega) | exact ha | exact hm) _ (by first | exact hJ | exact sJ _ | omega | (unfold inR; omega) | (rw [u3]; omega) | (simp only [s1, sg, sp]; omega) | exact ha | exact hm) _ (by first | exact hJ | exact sJ _ | omega | (unfold inR; omega) | (rw [u3]; omega) | (simp only [s1, sg, sp]; omega) | exact ha | exact hm)) fX6_drops qX6_89 dX6_drop_26 KD_110 (by decide) ⟨Nat.zero_le _, Nat.zero_le _⟩ (Nat.le_of_ble_eq_true rfl) ?_
    refine r_aload_n dX6_drop_29 rfl (by rfl) ?_
    refine r_callV0 ct_X6_newest fX6_newest qX6_44 dX6_drop_30 KD_110 (by decide) ⟨Nat.zero_le _, Nat.zero_le _⟩ (Nat.le_of_ble_eq_true rfl) ?_
    exact r_ret_i dX6_drop_33 rfl ⟨Nat.zero_le _, Nat.zero_le _⟩ (by rw [if_pos (by omega), hq]) ⟨rfl, rfl, (by rw [if_pos (by omega), hq]), rfl, rfl⟩
  · skip
    refine r_iconst dX6_drop_17 ?_
    exact r_ret_i dX6_drop_18 rfl ⟨Nat.zero_le _, Nat.zero_le _⟩ (by rw [if_neg (by omega)]) ⟨rfl, rfl, (by rw [if_neg (by omega)]), rfl, rfl⟩
