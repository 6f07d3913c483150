/-! the model: columns added, letters renamed, rows, undo -/
def anM (σ : ST) (a m : Int) : ST := gcM (cmM σ 1 m 0) a
def acM (σ : ST) (a b c : Int) : ST := gcM (cmM σ (if c = -1 then 2 else 3) (plM σ (σ 111 0 - 1) b) (if c = -1 then 0 else plM σ (σ 111 0 - 1) c)) a
def rnM (σ : ST) (a b : Int) : ST := lyM (cmM σ 5 (plM σ (σ 111 0 - 1) a) 0) (σ 111 0) (9 + plM σ (σ 111 0 - 1) a) b
def inM (σ : ST) (k : Nat) : ST := cpR σ 111 (250 + 10 * σ 111 2).toNat k (fun _ => 0)
def inF (σ : ST) (s : Int) : ST := up2 (loM (inM σ 10) (σ 111 2) 0 s) 111 2 (σ 111 2 + 1)
theorem inM_2 {σ : ST} (h : 0 ≤ σ 111 2) (k : Nat) : inM σ k 111 2 = σ 111 2 := by unfold inM; rw [cpR_out _ _ _ _ (by omega)]
theorem inM_s {σ : ST} (h : 0 ≤ σ 111 2) {k : Int} (k0 : 0 ≤ k) : loM (inM σ k.toNat) (σ 111 2) k 0 = inM σ (k + 1).toNat := by
  unfold loM inM
  rw [show (250 + 10 * σ 111 2 + k).toNat = (250 + 10 * σ 111 2).toNat + k.toNat by omega, show (k + 1).toNat = k.toNat + 1 by omega]
  exact cpR_up σ 111 _ _ (fun _ => 0)
theorem svN_r (σ : ST) {p : Nat} (h : p ≠ 110 ∧ p ≠ 112) : svN σ p = σ p := by
  unfold svN
  rw [up2_off _ h.1, cpR_off _ _ _ _ h.2]
theorem svM_r (σ : ST) {p : Nat} (h : p ≠ 110 ∧ p ≠ 112) : svM σ p = σ p := by
  unfold svM
  split
  · rw [svN_r _ h, up2_off _ h.1]; unfold shN; rw [cpR_off _ _ _ _ h.2]
  · rw [svN_r _ h]
def unM (σ : ST) (k : Nat) : ST := cpR (up2 (up2 σ 110 0 0) 110 3 (σ 110 3 - 1)) 111 0 k (fun j => σ 112 ((370 * (σ 110 3 - 1)).toNat + j))
theorem unM_s (σ : ST) (k : Nat) : up2 (unM σ k) 111 k (σ 112 ((370 * (σ 110 3 - 1)).toNat + k)) = unM σ (k + 1) := by
  have e := cpR_up (up2 (up2 σ 110 0 0) 110 3 (σ 110 3 - 1)) 111 0 k (fun j => σ 112 ((370 * (σ 110 3 - 1)).toNat + j))
  rw [Nat.zero_add] at e
  exact e
theorem unM_1 (σ : ST) (k : Nat) : unM σ k 110 3 = σ 110 3 - 1 := by unfold unM; rw [cpR_off _ _ _ _ (by decide), up2_at]
theorem unM_2 (σ : ST) (k : Nat) : unM σ k 112 = σ 112 := by unfold unM; rw [cpR_off _ _ _ _ (by decide), up2_off _ (by decide), up2_off _ (by decide)]

set_option maxRecDepth 100000 in
set_option maxHeartbeats 4000000 in
theorem ct_X6_addsNumber {l : Launch} {G : GG} {π : Nat → Option Nat} {σ τ : ST} (hJ : MJ σ) (h12 : σ 111 0 < 12) (hw : gM σ (σ 111 0 - 1) 0 < 8) (a m : Int) : Ct l G mX6_addsNumber (2, 0, 0) [.ref 110, .int (iI a), .int (iI m)] 117 KD σ τ (RHO π) (KQ none 117 KD (anM σ a m) τ (RHO π)) := by
  have hz := hJ.sz
  have hmk := hJ.mk
  have hro := hJ.ro
  have hww := hJ.wd (σ 111 0 - 1) (by omega) (by omega)
  have c0 := fun c x y => cmM_0 σ c x y
  have cw := fun c x y => cmM_c hz.1 c x y (w := 0) (by omega) (by omega)
  have eS : σ 111 0 + 1 - 1 = σ 111 0 := by omega
  refine ct_intro (own := "ShapedRowsModel") rfl (by decide +kernel) (Nat.le_of_ble_eq_true rfl) (L := _) rfl ?_
  refine r_aload_n dX6_addsNumber_0 rfl (by rfl) ?_
  refine r_iconst dX6_addsNumber_1 ?_
  refine r_iload_n dX6_addsNumber_2 rfl (by rfl) ?_
  refine r_iconst dX6_addsNumber_3 ?_
  refine r_callV3 (ct_X6_comes (by first | exact hJ | omega | (unfold inR; omega) | (rw [c0]; omega) | (rw [c0, eS, cw]; omega)) (by first | exact hJ | omega | (unfold inR; omega) | (rw [c0]; omega) | (rw [c0, eS, cw]; omega)) _ _ _) fX6_comes qX6_62 dX6_addsNumber_4 KD_110 (by decide) ⟨Nat.zero_le _, Nat.zero_le _⟩ (Nat.le_of_ble_eq_true rfl) ?_
  refine r_aload_n dX6_addsNumber_7 rfl (by rfl) ?_
  refine r_iload_n dX6_addsNumber_8 rfl (by rfl) ?_
  refine r_callV1 (ct_X6_getsColumn (by first | exact hJ | omega | (unfold inR; omega) | (rw [c0]; omega) | (rw [c0, eS, cw]; omega)) (by first | exact hJ | omega | (unfold inR; omega) | (rw [c0]; omega) | (rw [c0, eS, cw]; omega)) (by first | exact hJ | omega | (unfold inR; omega) | (rw [c0]; omega) | (rw [c0, eS, cw]; omega)) (by first | exact hJ | omega | (unfold inR; omega) | (rw [c0]; omega) | (rw [c0, eS, cw]; omega)) _) fX6_getsColumn qX6_65 dX6_addsNumber_9 KD_110 (by decide) ⟨Nat.zero_le _, Nat.zero_le _⟩ (Nat.le_of_ble_eq_true rfl) ?_
  exact r_ret_v dX6_addsNumber_12 rfl ⟨Nat.zero_le _, Nat.zero_le _⟩ ⟨rfl, rfl, (by first | rfl | omega), rfl, rfl⟩

set_option maxRecDepth 100000 in
set_option maxHeartbeats 4000000 in
theorem ct_X6_addsCopy {l : Launch} {G : GG} {π : Nat → Option Nat} {σ τ : ST} (hJ : MJ σ) (h12 : σ 111 0 < 12) (hw : gM σ (σ 111 0 - 1) 0 < 8) (a : Int) (ha : inR a) (b : Int) (hb : inR b) (c : Int) (hc : inR c) : Ct l G mX6_addsCopy (2, 0, 0) [.ref 110, .int (iI a), .int (iI b), .int (iI c)] 117 KD σ τ (RHO π) (KQ none 117 KD (acM σ a b c) τ (RHO π)) := by
  have hz := hJ.sz
  have hmk := hJ.mk
  have hro := hJ.ro
  have hww := hJ.wd (σ 111 0 - 1) (by omega) (by omega)
  have c0 := fun c x y => cmM_0 σ c x y
  have cw := fun c x y => cmM_c hz.1 c x y (w := 0) (by omega) (by omega)
  have eS : σ 111 0 + 1 - 1 = σ 111 0 := by omega
  have ra := ha
  unfold inR at ra
  have rb := hb
  unfold inR at rb
  have rc := hc
  unfold inR at rc
  refine ct_intro (own := "ShapedRowsModel") rfl (by decide +kernel) (Nat.le_of_ble_eq_true rfl) (L := _) rfl ?_
  refine r_aload_n dX6_addsCopy_0 rfl (by rfl) ?_
  refine r_aload_n dX6_addsCopy_1 rfl (by rfl) ?_
  refine r_callV0 ct_X6_newest fX6_newest qX6_44 dX6_addsCopy_2 KD_110 (by decide) ⟨Nat.zero_le _, Nat.zero_le _⟩ (Nat.le_of_ble_eq_true rfl) ?_
  refine r_iload_n dX6_addsCopy_5 rfl (by rfl) ?_
  refine r_callV2 (ct_X6_placeOf (by first | exact hJ | omega | (unfold inR; omega) | (rw [c0]; omega) | (rw [c0, eS, cw]; omega) | exact hb | exact hc) _ (by first | exact hJ | omega | (unfold inR; omega) | (rw [c0]; omega) | (rw [c0, eS, cw]; omega) | exact hb | exact hc) (by first | exact hJ | omega | (unfold inR; omega) | (rw [c0]; omega) | (rw [c0, eS, cw]; omega) | exact hb | exact hc) _ (by first | exact hJ | omega | (unfold inR; omega) | (rw [c0]; omega) | (rw [c0, eS, cw]; omega) | exact hb | exact hc)) fX6_placeOf qX6_48 dX6_addsCopy_6 KD_110 (by decide) ⟨Nat.zero_le _, Nat.zero_le _⟩ (Nat.le_of_ble_eq_true rfl) ?_
  refine r_istore dX6_addsCopy_9 (Nat.le_of_ble_eq_true rfl) (L' := [_, _, _, _, _, _]) (by rfl) ?_
  refine r_iload_n dX6_addsCopy_11 rfl (by rfl) ?_
  refine r_iconst dX6_addsCopy_12 ?_
  refine r_icmp_ne (tgt := 20) dX6_addsCopy_13 (by decide) (by unfold inR; omega) (by unfold inR; omega) (fun q1 => ?_) (fun q1 => ?_)
  · refine r_aload_n dX6_addsCopy_20 rfl (by rfl) ?_
    refine r_aload_n dX6_addsCopy_21 rfl (by rfl) ?_
    refine r_callV0 ct_X6_newest fX6_newest qX6_44 dX6_addsCopy_22 KD_110 (by decide) ⟨Nat.zero_le _, Nat.zero_le _⟩ (Nat.le_of_ble_eq_true rfl) ?_
    refine r_iload_n dX6_addsCopy_25 rfl (by rfl) ?_
    refine r_callV2 (ct_X6_placeOf (by first | exact hJ | omega | (unfold inR; omega) | (rw [c0]; omega) | (rw [c0, eS, cw]; omega) | exact hb | exact hc) _ (by first | exact hJ | omega | (unfold inR; omega) | (rw [c0]; omega) | (rw [c0, eS, cw]; omega) | exact hb | exact hc) (by first | exact hJ | omega | (unfold inR; omega) | (rw [c0]; omega) | (rw [c0, eS, cw]; omega) | exact hb | exact hc) _ (by first | exact hJ | omega | (unfold inR; omega) | (rw [c0]; omega) | (rw [c0, eS, cw]; omega) | exact hb | exact hc)) fX6_placeOf qX6_48 dX6_addsCopy_26 KD_110 (by decide) ⟨Nat.zero_le _, Nat.zero_le _⟩ (Nat.le_of_ble_eq_true rfl) ?_
    refine r_istore dX6_addsCopy_29 (Nat.le_of_ble_eq_true rfl) (L' := [_, _, _, _, _, _]) (by rfl) ?_
    refine r_aload_n dX6_addsCopy_31 rfl (by rfl) ?_
    refine r_iload_n dX6_addsCopy_32 rfl (by rfl) ?_
    refine r_iconst dX6_addsCopy_33 ?_
    refine r_icmp_ne (tgt := 41) dX6_addsCopy_34 (by decide) (by unfold inR; omega) (by unfold inR; omega) (fun q2 => ?_) (fun q2 => ?_)
    · refine r_iconst dX6_addsCopy_41 ?_
      refine r_iload dX6_addsCopy_42 (by rfl) ?_
      refine r_iload dX6_addsCopy_44 (by rfl) ?_
      refine r_callV3 (ct_X6_comes (by first | exact hJ | omega | (unfold inR; omega) | (rw [c0]; omega) | (rw [c0, eS, cw]; omega) | exact hb | exact hc) (by first | exact hJ | omega | (unfold inR; omega) | (rw [c0]; omega) | (rw [c0, eS, cw]; omega) | exact hb | exact hc) _ _ _) fX6_comes qX6_62 dX6_addsCopy_46 KD_110 (by decide) ⟨Nat.zero_le _, Nat.zero_le _⟩ (Nat.le_of_ble_eq_true rfl) ?_
      refine r_aload_n dX6_addsCopy_49 rfl (by rfl) ?_
      refine r_iload_n dX6_addsCopy_50 rfl (by rfl) ?_
      refine r_callV1 (ct_X6_getsColumn (by first | exact hJ | omega | (unfold inR; omega) | (rw [c0]; omega) | (rw [c0, eS, cw]; omega) | exact hb | exact hc) (by first | exact hJ | omega | (unfold inR; omega) | (rw [c0]; omega) | (rw [c0, eS, cw]; omega) | exact hb | exact hc) (by first | exact hJ | omega | (unfold inR; omega) | (rw [c0]; omega) | (rw [c0, eS, cw]; omega) | exact hb | exact hc) (by first | exact hJ | omega | (unfold inR; omega) | (rw [c0]; omega) | (rw [c0, eS, cw]; omega) | exact hb | exact hc) _) fX6_getsColumn qX6_65 dX6_addsCopy_51 KD_110 (by decide) ⟨Nat.zero_le _, Nat.zero_le _⟩ (Nat.le_of_ble_eq_true rfl) ?_
      exact r_ret_v dX6_addsCopy_54 rfl ⟨Nat.zero_le _, Nat.zero_le _⟩ ⟨rfl, rfl, (by unfold acM; first | (exfalso; omega) | (rw [if_pos (by omega), if_pos (by omega)]; done) | (rw [if_neg (by omega), if_neg (by omega)]; done)), rfl, rfl⟩
    · refine r_iconst dX6_addsCopy_37 ?_
      refine r_goto (tgt := 42) dX6_addsCopy_38 (by decide) ?_
      refine r_iload dX6_addsCopy_42 (by rfl) ?_
      refine r_iload dX6_addsCopy_44 (by rfl) ?_
      refine r_callV3 (ct_X6_comes (by first | exact hJ | omega | (unfold inR; omega) | (rw [c0]; omega) | (rw [c0, eS, cw]; omega) | exact hb | exact hc) (by first | exact hJ | omega | (unfold inR; omega) | (rw [c0]; omega) | (rw [c0, eS, cw]; omega) | exact hb | exact hc) _ _ _) fX6_comes qX6_62 dX6_addsCopy_46 KD_110 (by decide) ⟨Nat.zero_le _, Nat.zero_le _⟩ (Nat.le_of_ble_eq_true rfl) ?_
      refine r_aload_n dX6_addsCopy_49 rfl (by rfl) ?_
      refine r_iload_n dX6_addsCopy_50 rfl (by rfl) ?_
      refine r_callV1 (ct_X6_getsColumn (by first | exact hJ | omega | (unfold inR; omega) | (rw [c0]; omega) | (rw [c0, eS, cw]; omega) | exact hb | exact hc) (by first | exact hJ | omega | (unfold inR; omega) | (rw [c0]; omega) | (rw [c0, eS, cw]; omega) | exact hb | exact hc) (by first | exact hJ | omega | (unfold inR; omega) | (rw [c0]; omega) | (rw [c0, eS, cw]; omega) | exact hb | exact hc) (by first | exact hJ | omega | (unfold inR; omega) | (rw [c0]; omega) | (rw [c0, eS, cw]; omega) | exact hb | exact hc) _) fX6_getsColumn qX6_65 dX6_addsCopy_51 KD_110 (by decide) ⟨Nat.zero_le _, Nat.zero_le _⟩ (Nat.le_of_ble_eq_true rfl) ?_
      exact r_ret_v dX6_addsCopy_54 rfl ⟨Nat.zero_le _, Nat.zero_le _⟩ ⟨rfl, rfl, (by unfold acM; first | (exfalso; omega) | (rw [if_pos (by omega), if_pos (by omega)]; done) | (rw [if_neg (by omega), if_neg (by omega)]; done)), rfl, rfl⟩
  · refine r_iconst dX6_addsCopy_16 ?_
    refine r_goto (tgt := 29) dX6_addsCopy_17 (by decide) ?_
    refine r_istore dX6_addsCopy_29 (Nat.le_of_ble_eq_true rfl) (L' := [_, _, _, _, _, _]) (by rfl) ?_
    refine r_aload_n dX6_addsCopy_31 rfl (by rfl) ?_
    refine r_iload_n dX6_addsCopy_32 rfl (by rfl) ?_
    refine r_iconst dX6_addsCopy_33 ?_
    refine r_icmp_ne (tgt := 41) dX6_addsCopy_34 (by decide) (by unfold inR; omega) (by unfold inR; omega) (fun q2 => ?_) (fun q2 => ?_)
    · refine r_iconst dX6_addsCopy_41 ?_
      refine r_iload dX6_addsCopy_42 (by rfl) ?_
      refine r_iload dX6_addsCopy_44 (by rfl) ?_
      refine r_callV3 (ct_X6_comes (by first | exact hJ | omega | (unfold inR; omega) | (rw [c0]; omega) | (rw [c0, eS, cw]; omega) | exact hb | exact hc) (by first | exact hJ | omega | (unfold inR; omega) | (rw [c0]; omega) | (rw [c0, eS, cw]; omega) | exact hb | exact hc) _ _ _) fX6_comes qX6_62 dX6_addsCopy_46 KD_110 (by decide) ⟨Nat.zero_le _, Nat.zero_le _⟩ (Nat.le_of_ble_eq_true rfl) ?_
      refine r_aload_n dX6_addsCopy_49 rfl (by rfl) ?_
      refine r_iload_n dX6_addsCopy_50 rfl (by rfl) ?_
      refine r_callV1 (ct_X6_getsColumn (by first | exact hJ | omega | (unfold inR; omega) | (rw [c0]; omega) | (rw [c0, eS, cw]; omega) | exact hb | exact hc) (by first | exact hJ | omega | (unfold inR; omega) | (rw [c0]; omega) | (rw [c0, eS, cw]; omega) | exact hb | exact hc) (by first | exact hJ | omega | (unfold inR; omega) | (rw [c0]; omega) | (rw [c0, eS, cw]; omega) | exact hb | exact hc) (by first | exact hJ | omega | (unfold inR; omega) | (rw [c0]; omega) | (rw [c0, eS, cw]; omega) | exact hb | exact hc) _) fX6_getsColumn qX6_65 dX6_addsCopy_51 KD_110 (by decide) ⟨Nat.zero_le _, Nat.zero_le _⟩ (Nat.le_of_ble_eq_true rfl) ?_
      exact r_ret_v dX6_addsCopy_54 rfl ⟨Nat.zero_le _, Nat.zero_le _⟩ ⟨rfl, rfl, (by unfold acM; first | (exfalso; omega) | (rw [if_pos (by omega), if_pos (by omega)]; done) | (rw [if_neg (by omega), if_neg (by omega)]; done)), rfl, rfl⟩
    · refine r_iconst dX6_addsCopy_37 ?_
      refine r_goto (tgt := 42) dX6_addsCopy_38 (by decide) ?_
      refine r_iload dX6_addsCopy_42 (by rfl) ?_
      refine r_iload dX6_addsCopy_44 (by rfl) ?_
      refine r_callV3 (ct_X6_comes (by first | exact hJ | omega | (unfold inR; omega) | (rw [c0]; omega) | (rw [c0, eS, cw]; omega) | exact hb | exact hc) (by first | exact hJ | omega | (unfold inR; omega) | (rw [c0]; omega) | (rw [c0, eS, cw]; omega) | exact hb | exact hc) _ _ _) fX6_comes qX6_62 dX6_addsCopy_46 KD_110 (by decide) ⟨Nat.zero_le _, Nat.zero_le _⟩ (Nat.le_of_ble_eq_true rfl) ?_
      refine r_aload_n dX6_addsCopy_49 rfl (by rfl) ?_
      refine r_iload_n dX6_addsCopy_50 rfl (by rfl) ?_
      refine r_callV1 (ct_X6_getsColumn (by first | exact hJ | omega | (unfold inR; omega) | (rw [c0]; omega) | (rw [c0, eS, cw]; omega) | exact hb | exact hc) (by first | exact hJ | omega | (unfold inR; omega) | (rw [c0]; omega) | (rw [c0, eS, cw]; omega) | exact hb | exact hc) (by first | exact hJ | omega | (unfold inR; omega) | (rw [c0]; omega) | (rw [c0, eS, cw]; omega) | exact hb | exact hc) (by first | exact hJ | omega | (unfold inR; omega) | (rw [c0]; omega) | (rw [c0, eS, cw]; omega) | exact hb | exact hc) _) fX6_getsColumn qX6_65 dX6_addsCopy_51 KD_110 (by decide) ⟨Nat.zero_le _, Nat.zero_le _⟩ (Nat.le_of_ble_eq_true rfl) ?_
      exact r_ret_v dX6_addsCopy_54 rfl ⟨Nat.zero_le _, Nat.zero_le _⟩ ⟨rfl, rfl, (by unfold acM; first | (exfalso; omega) | (rw [if_pos (by omega), if_pos (by omega)]; done) | (rw [if_neg (by omega), if_neg (by omega)]; done)), rfl, rfl⟩

set_option maxRecDepth 100000 in
set_option maxHeartbeats 4000000 in
theorem ct_X6_renames {l : Launch} {G : GG} {π : Nat → Option Nat} {σ τ : ST} (hJ : MJ σ) (h12 : σ 111 0 < 12) (a : Int) (ha : inR a) (b : Int) (hb : inR b) (hp : plM σ (σ 111 0 - 1) a ≠ -1) : Ct l G mX6_renames (2, 0, 0) [.ref 110, .int (iI a), .int (iI b)] 117 KD σ τ (RHO π) (KQ none 117 KD (rnM σ a b) τ (RHO π)) := by
  have hz := hJ.sz
  have hmk := hJ.mk
  have hro := hJ.ro
  have hww := hJ.wd (σ 111 0 - 1) (by omega) (by omega)
  have c0 := fun c x y => cmM_0 σ c x y
  have cw := fun c x y => cmM_c hz.1 c x y (w := 0) (by omega) (by omega)
  have eS : σ 111 0 + 1 - 1 = σ 111 0 := by omega
  have hpl := plM_rng hJ (σ 111 0 - 1) a (by omega) (by omega)
  have ra := ha
  unfold inR at ra
  have rb := hb
  unfold inR at rb
  refine ct_intro (own := "ShapedRowsModel") rfl (by decide +kernel) (Nat.le_of_ble_eq_true rfl) (L := _) rfl ?_
  refine r_aload_n dX6_renames_0 rfl (by rfl) ?_
  refine r_aload_n dX6_renames_1 rfl (by rfl) ?_
  refine r_callV0 ct_X6_newest fX6_newest qX6_44 dX6_renames_2 KD_110 (by decide) ⟨Nat.zero_le _, Nat.zero_le _⟩ (Nat.le_of_ble_eq_true rfl) ?_
  refine r_iload_n dX6_renames_5 rfl (by rfl) ?_
  refine r_callV2 (ct_X6_placeOf (by first | exact hJ | omega | (unfold inR; omega) | (rw [c0]; omega) | (rw [c0, eS, cw]; omega) | exact ha | exact hb) _ (by first | exact hJ | omega | (unfold inR; omega) | (rw [c0]; omega) | (rw [c0, eS, cw]; omega) | exact ha | exact hb) (by first | exact hJ | omega | (unfold inR; omega) | (rw [c0]; omega) | (rw [c0, eS, cw]; omega) | exact ha | exact hb) _ (by first | exact hJ | omega | (unfold inR; omega) | (rw [c0]; omega) | (rw [c0, eS, cw]; omega) | exact ha | exact hb)) fX6_placeOf qX6_48 dX6_renames_6 KD_110 (by decide) ⟨Nat.zero_le _, Nat.zero_le _⟩ (Nat.le_of_ble_eq_true rfl) ?_
  refine r_istore_n dX6_renames_9 rfl (Nat.le_of_ble_eq_true rfl) (L' := [_, _, _, _]) (by rfl) ?_
  refine r_aload_n dX6_renames_10 rfl (by rfl) ?_
  refine r_iconst dX6_renames_11 ?_
  refine r_iload_n dX6_renames_12 rfl (by rfl) ?_
  refine r_iconst dX6_renames_13 ?_
  refine r_callV3 (ct_X6_comes (by first | exact hJ | omega | (unfold inR; omega) | (rw [c0]; omega) | (rw [c0, eS, cw]; omega) | exact ha | exact hb) (by first | exact hJ | omega | (unfold inR; omega) | (rw [c0]; omega) | (rw [c0, eS, cw]; omega) | exact ha | exact hb) _ _ _) fX6_comes qX6_62 dX6_renames_14 KD_110 (by decide) ⟨Nat.zero_le _, Nat.zero_le _⟩ (Nat.le_of_ble_eq_true rfl) ?_
  refine r_aload_n dX6_renames_17 rfl (by rfl) ?_
  refine r_aload_n dX6_renames_18 rfl (by rfl) ?_
  refine r_callV0 ct_X6_newest fX6_newest qX6_44 dX6_renames_19 KD_110 (by decide) ⟨Nat.zero_le _, Nat.zero_le _⟩ (Nat.le_of_ble_eq_true rfl) ?_
  rw [c0, eS]
  refine r_bipush dX6_renames_22 (by decide) ?_
  refine r_iload_n dX6_renames_24 rfl (by rfl) ?_
  refine r_iadd dX6_renames_25 ?_
  refine r_iload_n dX6_renames_26 rfl (by rfl) ?_
  refine r_callV3 (ct_X6_lay _ _ (by first | exact hJ | omega | (unfold inR; omega) | (rw [c0]; omega) | (rw [c0, eS, cw]; omega) | exact ha | exact hb) (by first | exact hJ | omega | (unfold inR; omega) | (rw [c0]; omega) | (rw [c0, eS, cw]; omega) | exact ha | exact hb) _) fX6_lay qX6_40 dX6_renames_27 KD_110 (by decide) ⟨Nat.zero_le _, Nat.zero_le _⟩ (Nat.le_of_ble_eq_true rfl) ?_
  exact r_ret_v dX6_renames_30 rfl ⟨Nat.zero_le _, Nat.zero_le _⟩ ⟨rfl, rfl, (by first | rfl | omega), rfl, rfl⟩

set_option maxRecDepth 100000 in
set_option maxHeartbeats 4000000 in
theorem ct_X6_inserts {l : Launch} {G : GG} {π : Nat → Option Nat} {σ τ : ST} (h0 : 0 ≤ σ 111 2) (h1 : σ 111 2 < 12) (s : Int) : Ct l G mX6_inserts (1, 0, 0) [.ref 110, .int (iI s)] 117 KD σ τ (RHO π) (KQ none 117 KD (inF σ s) τ (RHO π)) := by
  refine ct_intro (own := "ShapedRowsModel") rfl (by decide +kernel) (Nat.le_of_ble_eq_true rfl) (L := _) rfl ?_
  have cut_2 : ∀ (N : Nat) (k : Int), (0 ≤ k) → (k ≤ 10) → 10 - k < (N : Int) → WP l G "ShapedRowsModel" mX6_inserts (1, 0, 0) (KQ none 117 KD (inF σ s) τ (RHO π)) noX 117 2 [some (.ref 110), some (.int (iI s)), some (.int (iI k))] [] 117 KD (inM σ k.toNat) τ (RHO π) 0 0 := by
    intro N
    induction N with
    | zero => intro k k0 k1 hm; exact absurd hm (by omega)
    | succ N ih =>
      intro k k0 k1 hm
      have i2 := inM_2 h0 k.toNat
      refine r_iload_n dX6_inserts_2 rfl (by rfl) ?_
      refine r_bipush dX6_inserts_3 (by decide) ?_
      refine r_icmp_ge (tgt := 26) dX6_inserts_5 (by decide) (by unfold inR; omega) (by unfold inR; omega) (fun c_1 => ?_) (fun c_1 => ?_)
      · refine r_aload_n dX6_inserts_26 rfl (by rfl) ?_
        refine r_aload_n dX6_inserts_27 rfl (by rfl) ?_
        refine r_get_r kX6_7 dX6_inserts_28 KD_110 (RHO_110_1 _) ?_
        refine r_iconst dX6_inserts_31 ?_
        refine r_iaload (k := 2) dX6_inserts_32 KD_111 (by omega) (by omega) (by decide) ?_
        rw [i2]
        refine r_iconst dX6_inserts_33 ?_
        refine r_iload_n dX6_inserts_34 rfl (by rfl) ?_
        refine r_callV3 (ct_X6_layRow _ _ (by omega) (by omega) _) fX6_layRow qX6_117 dX6_inserts_35 KD_110 (by decide) ⟨Nat.zero_le _, Nat.zero_le _⟩ (Nat.le_of_ble_eq_true rfl) ?_
        refine r_aload_n dX6_inserts_38 rfl (by rfl) ?_
        refine r_get_r kX6_7 dX6_inserts_39 KD_110 (RHO_110_1 _) ?_
        refine r_iconst dX6_inserts_42 ?_
        refine r_dup2 dX6_inserts_43 rfl rfl ?_
        refine r_iaload (k := 2) dX6_inserts_44 KD_111 (by omega) (by omega) (by decide) ?_
        refine r_iconst dX6_inserts_45 ?_
        refine r_iadd dX6_inserts_46 ?_
        refine r_iastore (k := 2) dX6_inserts_47 KD_111 (by omega) (by omega) (by decide) ?_
        exact r_ret_v dX6_inserts_48 rfl ⟨Nat.zero_le _, Nat.zero_le _⟩ ⟨rfl, rfl, (by unfold inF; rw [show k.toNat = 10 by omega, show loM (inM σ 10) (σ 111 2) 0 s 111 2 = σ 111 2 by unfold loM; rw [up2_el _ _ _ (by omega), inM_2 h0]]), rfl, rfl⟩
      · refine r_aload_n dX6_inserts_8 rfl (by rfl) ?_
        refine r_aload_n dX6_inserts_9 rfl (by rfl) ?_
        refine r_get_r kX6_7 dX6_inserts_10 KD_110 (RHO_110_1 _) ?_
        refine r_iconst dX6_inserts_13 ?_
        refine r_iaload (k := 2) dX6_inserts_14 KD_111 (by omega) (by omega) (by decide) ?_
        rw [i2]
        refine r_iload_n dX6_inserts_15 rfl (by rfl) ?_
        refine r_iconst dX6_inserts_16 ?_
        refine r_callV3 (ct_X6_layRow _ _ (by omega) (by omega) _) fX6_layRow qX6_117 dX6_inserts_17 KD_110 (by decide) ⟨Nat.zero_le _, Nat.zero_le _⟩ (Nat.le_of_ble_eq_true rfl) ?_
        refine r_iinc dX6_inserts_20 (by rfl) (Nat.le_of_ble_eq_true rfl) (L' := [_, _, _]) (by rfl) ?_
        refine r_goto (tgt := 2) dX6_inserts_23 (by decide) ?_
        refine WP.mem (σ' := inM σ (k + 1).toNat) ?_ (ih (k + 1) (by omega) (by omega) (by omega))
        exact inM_s h0 k0
  refine r_iconst dX6_inserts_0 ?_
  refine r_istore_n dX6_inserts_1 rfl (Nat.le_of_ble_eq_true rfl) (L' := [_, _, _]) (by rfl) ?_
  refine WP.mem (σ' := inM σ (0 : Int).toNat) ?_ (cut_2 11 0 (by omega) (by omega) (by omega))
  unfold inM
  rw [show (0 : Int).toNat = 0 from rfl, cpR_0]

set_option maxRecDepth 100000 in
set_option maxHeartbeats 4000000 in
theorem ct_X6_undo {l : Launch} {G : GG} {π : Nat → Option Nat} {σ τ : ST} (h0 : 0 ≤ σ 110 3) (h1 : σ 110 3 ≤ 6) : Ct l G mX6_undo (1, 0, 0) [.ref 110] 117 KD σ τ (RHO π) (KQ (some (.int (iI (if σ 110 3 = 0 then 0 else σ 110 3 - 1)))) 117 KD (if σ 110 3 = 0 then up2 (up2 σ 110 0 0) 110 0 1 else unM σ 370) τ (RHO π)) := by
  have e3 : up2 σ 110 0 0 110 3 = σ 110 3 := up2_el _ _ _ (by decide)
  refine ct_intro (own := "ShapedRowsModel") rfl (by decide +kernel) (Nat.le_of_ble_eq_true rfl) (L := _) rfl ?_
  have cut_30 : ∀ (N : Nat) (k : Int), (σ 110 3 ≠ 0) → (0 ≤ k) → (k ≤ 370) → 370 - k < (N : Int) → WP l G "ShapedRowsModel" mX6_undo (1, 0, 0) (KQ (some (.int (iI (if σ 110 3 = 0 then 0 else σ 110 3 - 1)))) 117 KD (if σ 110 3 = 0 then up2 (up2 σ 110 0 0) 110 0 1 else unM σ 370) τ (RHO π)) noX 117 30 [some (.ref 110), some (.int (iI k))] [] 117 KD (unM σ k.toNat) τ (RHO π) 0 0 := by
    intro N
    induction N with
    | zero => intro k hn0 k0 k1 hm; exact absurd hm (by omega)
    | succ N ih =>
      intro k hn0 k0 k1 hm
      have u1 := unM_1 σ k.toNat
      have u2 := unM_2 σ k.toNat
      refine r_iload_n dX6_undo_30 rfl (by rfl) ?_
      refine r_sipush dX6_undo_31 (by decide) ?_
      refine r_icmp_ge (tgt := 64) dX6_undo_34 (by decide) (by unfold inR; omega) (by unfold inR; omega) (fun c_1 => ?_) (fun c_1 => ?_)
      · refine r_aload_n dX6_undo_64 rfl (by rfl) ?_
        refine r_get_i kX6_29 dX6_undo_65 KD_110 ?_
        rw [u1]
        exact r_ret_i dX6_undo_68 rfl ⟨Nat.zero_le _, Nat.zero_le _⟩ (by rw [if_neg (by omega)]) ⟨rfl, rfl, (by rw [if_neg (by omega), show k.toNat = 370 by omega]), rfl, rfl⟩
      · refine r_aload_n dX6_undo_37 rfl (by rfl) ?_
        refine r_get_r kX6_7 dX6_undo_38 KD_110 (RHO_110_1 _) ?_
        refine r_iload_n dX6_undo_41 rfl (by rfl) ?_
        refine r_aload_n dX6_undo_42 rfl (by rfl) ?_
        refine r_get_r kX6_13 dX6_undo_43 KD_110 (RHO_110_2 _) ?_
        refine r_sipush dX6_undo_46 (by decide) ?_
        refine r_aload_n dX6_undo_49 rfl (by rfl) ?_
        refine r_get_i kX6_29 dX6_undo_50 KD_110 ?_
        rw [u1]
        refine r_imul dX6_undo_53 ?_
        refine r_iload_n dX6_undo_54 rfl (by rfl) ?_
        refine r_iadd dX6_undo_55 ?_
        refine r_iald dX6_undo_56 KD_112 (by omega) (by omega) (by first | decide | omega) ?_
        rw [u2]
        refine r_iast dX6_undo_57 KD_111 (by omega) (by omega) (by first | decide | omega) ?_
        refine r_iinc dX6_undo_58 (by rfl) (Nat.le_of_ble_eq_true rfl) (L' := [_, _]) (by rfl) ?_
        refine r_goto (tgt := 30) dX6_undo_61 (by decide) ?_
        refine WP.mem (σ' := unM σ (k + 1).toNat) ?_ (ih (k + 1) hn0 (by omega) (by omega) (by omega))
        rw [show (370 * (σ 110 3 - 1) + k).toNat = (370 * (σ 110 3 - 1)).toNat + k.toNat by omega, show (k + 1).toNat = k.toNat + 1 by omega]
        exact unM_s σ k.toNat
  refine r_aload_n dX6_undo_0 rfl (by rfl) ?_
  refine r_iconst dX6_undo_1 ?_
  refine r_put_i kX6_25 dX6_undo_2 KD_110 ?_
  refine r_aload_n dX6_undo_5 rfl (by rfl) ?_
  refine r_get_i kX6_29 dX6_undo_6 KD_110 ?_
  rw [e3]
  refine r_if_ne (tgt := 18) dX6_undo_9 (by decide) (by unfold inR; omega) (fun c_2 => ?_) (fun c_2 => ?_)
  · refine r_aload_n dX6_undo_18 rfl (by rfl) ?_
    refine r_dup dX6_undo_19 rfl ?_
    refine r_get_i kX6_29 dX6_undo_20 KD_110 ?_
    rw [e3]
    refine r_iconst dX6_undo_23 ?_
    refine r_isub dX6_undo_24 ?_
    refine r_put_i kX6_29 dX6_undo_25 KD_110 ?_
    refine r_iconst dX6_undo_28 ?_
    refine r_istore_n dX6_undo_29 rfl (Nat.le_of_ble_eq_true rfl) (L' := [_, _]) (by rfl) ?_
    refine WP.mem (σ' := unM σ (0 : Int).toNat) ?_ (cut_30 371 0 (by omega) (by omega) (by omega) (by omega))
    unfold unM
    rw [show (0 : Int).toNat = 0 from rfl, cpR_0]
  · refine r_aload_n dX6_undo_12 rfl (by rfl) ?_
    refine r_iconst dX6_undo_13 ?_
    refine r_callV1 (ct_X6_fails _) fX6_fails qX6_120 dX6_undo_14 KD_110 (by decide) ⟨Nat.zero_le _, Nat.zero_le _⟩ (Nat.le_of_ble_eq_true rfl) ?_
    exact r_ret_i dX6_undo_17 rfl ⟨Nat.zero_le _, Nat.zero_le _⟩ (by rw [if_pos (by omega)]) ⟨rfl, rfl, (by rw [if_pos (by omega)]), rfl, rfl⟩
