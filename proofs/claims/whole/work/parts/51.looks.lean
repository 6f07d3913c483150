/-! the model: its looks -/
set_option maxRecDepth 100000 in
set_option maxHeartbeats 4000000 in
theorem ct_X6_readR {l : Launch} {G : GG} {π : Nat → Option Nat} {σ τ : ST} (c : ST) (hR : Rel c σ) (r : Int) (hr : inR r) (s : Int) (hs : inR s) (a : Int) (ha : inR a) : Ct l G mX6_read (5, 0, 0) [.ref 110, .int (iI r), .int (iI s), .int (iI a)] 117 KD σ τ (RHO π) (KG (some (.int (iI (if er_read c r s a = 0 then vRd c r.toNat s.toNat a else 0)))) (LK σ (cE 3 1 9 (er_read c r s a))) τ π) := by
  have hn := hR.nm
  have hsz := hR.ci.sz
  have hrw := hR.ci.ro
  have hcu := hR.ci.cu
  have hmk := hR.ci.mk
  have z1 : up2 σ 110 0 0 111 = σ 111 := up2_off _ (by decide)
  have R1 : Rel c (up2 σ 110 0 0) := Rel_cg z1 hR
  have n1 := R1.nm
  have J1 := R1.mj
  have rr := hr
  unfold inR at rr
  have rs := hs
  unfold inR at rs
  have ra := ha
  unfold inR at ra
  refine ct_intro (own := "ShapedRowsModel") rfl (by decide +kernel) (Nat.le_of_ble_eq_true rfl) (L := _) rfl ?_
  refine r_aload_n dX6_read_0 rfl (by rfl) ?_
  refine r_iconst dX6_read_1 ?_
  refine r_put_i kX6_25 dX6_read_2 KD_110 ?_
  refine r_aload_n dX6_read_5 rfl (by rfl) ?_
  refine r_iload_n dX6_read_6 rfl (by rfl) ?_
  refine r_callV1 (ct_X6_isRow (by first | exact R1 | exact J1 | omega | exact hr | exact hs | exact ha | (unfold inR; omega)) _ (by first | exact R1 | exact J1 | omega | exact hr | exact hs | exact ha | (unfold inR; omega))) fX6_isRow qX6_133 dX6_read_7 KD_110 (by decide) ⟨Nat.zero_le _, Nat.zero_le _⟩ (Nat.le_of_ble_eq_true rfl) ?_
  refine r_ifeq_b (tgt := 21) dX6_read_10 (by decide) (fun c_1 => ?_) (fun c_1 => ?_)
  · refine r_aload_n dX6_read_21 rfl (by rfl) ?_
    refine r_iconst dX6_read_22 ?_
    refine r_callV1 (ct_X6_fails _) fX6_fails qX6_120 dX6_read_23 KD_110 (by decide) ⟨Nat.zero_le _, Nat.zero_le _⟩ (Nat.le_of_ble_eq_true rfl) ?_
    have er : er_read c r s a = 3 := by
      unfold er_read
      (repeat' split) <;> omega
    have e0 : cE 3 1 9 (er_read c r s a) = 1 := by rw [er]; rfl
    exact r_ret_ig dX6_read_26 rfl ⟨Nat.zero_le _, Nat.zero_le _⟩ (by first | (rw [er, if_pos rfl]; done) | (rw [er, if_neg (by decide)]; done)) (by with_reducible first | exact LK_sc e0 | exact LK_z e0 | exact LK_f e0)
  · refine r_aload_n dX6_read_13 rfl (by rfl) ?_
    refine r_iload_n dX6_read_14 rfl (by rfl) ?_
    refine r_callV1 (ct_X6_isInUse (by first | exact R1 | exact J1 | omega | exact hr | exact hs | exact ha | (unfold inR; omega)) _ (by first | exact R1 | exact J1 | omega | exact hr | exact hs | exact ha | (unfold inR; omega))) fX6_isInUse qX6_127 dX6_read_15 KD_110 (by decide) ⟨Nat.zero_le _, Nat.zero_le _⟩ (Nat.le_of_ble_eq_true rfl) ?_
    refine r_ifne_b (tgt := 27) dX6_read_18 (by decide) (fun c_2 => ?_) (fun c_2 => ?_)
    · refine r_iload_n dX6_read_27 rfl (by rfl) ?_
      refine r_callS1 (ct_X6_isLetter _ (by first | exact R1 | exact J1 | omega | exact hr | exact hs | exact ha | (unfold inR; omega))) fX6_isLetter qX6_51 dX6_read_28 (by decide) ⟨Nat.zero_le _, Nat.zero_le _⟩ (Nat.le_of_ble_eq_true rfl) ?_
      refine r_ifeq_b (tgt := 44) dX6_read_31 (by decide) (fun c_3 => ?_) (fun c_3 => ?_)
      · refine r_aload_n dX6_read_44 rfl (by rfl) ?_
        refine r_iconst dX6_read_45 ?_
        refine r_callV1 (ct_X6_fails _) fX6_fails qX6_120 dX6_read_46 KD_110 (by decide) ⟨Nat.zero_le _, Nat.zero_le _⟩ (Nat.le_of_ble_eq_true rfl) ?_
        have er : er_read c r s a = 1 := by
          unfold er_read
          (repeat' split) <;> omega
        have e0 : cE 3 1 9 (er_read c r s a) = 2 := by rw [er]; rfl
        exact r_ret_ig dX6_read_49 rfl ⟨Nat.zero_le _, Nat.zero_le _⟩ (by first | (rw [er, if_pos rfl]; done) | (rw [er, if_neg (by decide)]; done)) (by with_reducible first | exact LK_sc e0 | exact LK_z e0 | exact LK_f e0)
      · refine r_aload_n dX6_read_34 rfl (by rfl) ?_
        refine r_iload_n dX6_read_35 rfl (by rfl) ?_
        refine r_iload_n dX6_read_36 rfl (by rfl) ?_
        refine r_iload_n dX6_read_37 rfl (by rfl) ?_
        refine r_callG3 (ct_X6_valueByR _ (by first | exact R1 | exact J1 | omega | exact hr | exact hs | exact ha | (unfold inR; omega)) _ _ (by first | exact R1 | exact J1 | omega | exact hr | exact hs | exact ha | (unfold inR; omega)) (by first | exact R1 | exact J1 | omega | exact hr | exact hs | exact ha | (unfold inR; omega)) (by first | exact R1 | exact J1 | omega | exact hr | exact hs | exact ha | (unfold inR; omega)) (by first | exact R1 | exact J1 | omega | exact hr | exact hs | exact ha | (unfold inR; omega)) _ (by first | exact R1 | exact J1 | omega | exact hr | exact hs | exact ha | (unfold inR; omega))) fX6_valueBy qX6_192 dX6_read_38 KD_110 (by decide) ⟨Nat.zero_le _, Nat.zero_le _⟩ (Nat.le_of_ble_eq_true rfl) (fun μ_4 hμ_4 => ?_)
        obtain ⟨qμ_4, pμ_4, rfl⟩ := hμ_4
        have er : er_read c r s a = 0 := by
          unfold er_read
          (repeat' split) <;> omega
        have e0 : cE 3 1 9 (er_read c r s a) = 0 := by rw [er]; rfl
        refine r_goto (tgt := 49) dX6_read_41 (by decide) ?_
        exact r_ret_ig dX6_read_49 rfl ⟨Nat.zero_le _, Nat.zero_le _⟩ (by first | (rw [er, if_pos rfl]; done) | (rw [er, if_neg (by decide)]; done)) (by with_reducible first | exact LK_sc e0 | exact LK_z e0 | exact LK_f e0)
    · refine r_aload_n dX6_read_21 rfl (by rfl) ?_
      refine r_iconst dX6_read_22 ?_
      refine r_callV1 (ct_X6_fails _) fX6_fails qX6_120 dX6_read_23 KD_110 (by decide) ⟨Nat.zero_le _, Nat.zero_le _⟩ (Nat.le_of_ble_eq_true rfl) ?_
      have er : er_read c r s a = 3 := by
        unfold er_read
        (repeat' split) <;> omega
      have e0 : cE 3 1 9 (er_read c r s a) = 1 := by rw [er]; rfl
      exact r_ret_ig dX6_read_26 rfl ⟨Nat.zero_le _, Nat.zero_le _⟩ (by first | (rw [er, if_pos rfl]; done) | (rw [er, if_neg (by decide)]; done)) (by with_reducible first | exact LK_sc e0 | exact LK_z e0 | exact LK_f e0)

set_option maxRecDepth 100000 in
set_option maxHeartbeats 4000000 in
theorem ct_X6_readAsR {l : Launch} {G : GG} {π : Nat → Option Nat} {σ τ : ST} (c : ST) (hR : Rel c σ) (q : Int) (hq : inR q) (r : Int) (hr : inR r) (a : Int) (ha : inR a) : Ct l G mX6_readAs (5, 0, 0) [.ref 110, .int (iI q), .int (iI r), .int (iI a)] 117 KD σ τ (RHO π) (KG (some (.int (iI (if er_readAs c q r a = 0 then vRd c r.toNat (c 14 q.toNat).toNat a else 0)))) (LK σ (cE 3 1 9 (er_readAs c q r a))) τ π) := by
  have hn := hR.nm
  have hsz := hR.ci.sz
  have hrw := hR.ci.ro
  have hcu := hR.ci.cu
  have hmk := hR.ci.mk
  have z1 : up2 σ 110 0 0 111 = σ 111 := up2_off _ (by decide)
  have R1 : Rel c (up2 σ 110 0 0) := Rel_cg z1 hR
  have n1 := R1.nm
  have J1 := R1.mj
  have rq := hq
  unfold inR at rq
  have rr := hr
  unfold inR at rr
  have ra := ha
  unfold inR at ra
  have hq4 : 0 ≤ q → q < 4 → σ 111 (6 + q).toNat = c 14 q.toNat ∧ 0 ≤ c 14 q.toNat ∧ c 14 q.toNat < c 2 0 := fun q0 q1 => by
    have e := hR.he q.toNat (by omega)
    have m := hR.mj.he q q0 q1
    rw [show 6 + q.toNat = (6 + q).toNat by omega] at e
    rw [e] at m
    exact ⟨e, m.1, by omega⟩
  refine ct_intro (own := "ShapedRowsModel") rfl (by decide +kernel) (Nat.le_of_ble_eq_true rfl) (L := _) rfl ?_
  refine r_aload_n dX6_readAs_0 rfl (by rfl) ?_
  refine r_iconst dX6_readAs_1 ?_
  refine r_put_i kX6_25 dX6_readAs_2 KD_110 ?_
  refine r_iload_n dX6_readAs_5 rfl (by rfl) ?_
  refine r_callS1 (ct_X6_isReader _ (by first | exact R1 | exact J1 | omega | exact hq | exact hr | exact ha | (unfold inR; omega))) fX6_isReader qX6_145 dX6_readAs_6 (by decide) ⟨Nat.zero_le _, Nat.zero_le _⟩ (Nat.le_of_ble_eq_true rfl) ?_
  refine r_ifeq_b (tgt := 20) dX6_readAs_9 (by decide) (fun c_1 => ?_) (fun c_1 => ?_)
  · refine r_aload_n dX6_readAs_20 rfl (by rfl) ?_
    refine r_iconst dX6_readAs_21 ?_
    refine r_callV1 (ct_X6_fails _) fX6_fails qX6_120 dX6_readAs_22 KD_110 (by decide) ⟨Nat.zero_le _, Nat.zero_le _⟩ (Nat.le_of_ble_eq_true rfl) ?_
    have er : er_readAs c q r a = 3 := by
      unfold er_readAs
      (repeat' split) <;> omega
    have e0 : cE 3 1 9 (er_readAs c q r a) = 1 := by rw [er]; rfl
    exact r_ret_ig dX6_readAs_25 rfl ⟨Nat.zero_le _, Nat.zero_le _⟩ (by first | (rw [er, if_pos rfl]; done) | (rw [er, if_neg (by decide)]; done)) (by with_reducible first | exact LK_sc e0 | exact LK_z e0 | exact LK_f e0)
  · refine r_aload_n dX6_readAs_12 rfl (by rfl) ?_
    refine r_iload_n dX6_readAs_13 rfl (by rfl) ?_
    refine r_callV1 (ct_X6_isRow (by first | exact R1 | exact J1 | omega | exact hq | exact hr | exact ha | (unfold inR; omega)) _ (by first | exact R1 | exact J1 | omega | exact hq | exact hr | exact ha | (unfold inR; omega))) fX6_isRow qX6_133 dX6_readAs_14 KD_110 (by decide) ⟨Nat.zero_le _, Nat.zero_le _⟩ (Nat.le_of_ble_eq_true rfl) ?_
    refine r_ifne_b (tgt := 26) dX6_readAs_17 (by decide) (fun c_2 => ?_) (fun c_2 => ?_)
    · refine r_iload_n dX6_readAs_26 rfl (by rfl) ?_
      refine r_callS1 (ct_X6_isLetter _ (by first | exact R1 | exact J1 | omega | exact hq | exact hr | exact ha | (unfold inR; omega))) fX6_isLetter qX6_51 dX6_readAs_27 (by decide) ⟨Nat.zero_le _, Nat.zero_le _⟩ (Nat.le_of_ble_eq_true rfl) ?_
      refine r_ifeq_b (tgt := 51) dX6_readAs_30 (by decide) (fun c_3 => ?_) (fun c_3 => ?_)
      · refine r_aload_n dX6_readAs_51 rfl (by rfl) ?_
        refine r_iconst dX6_readAs_52 ?_
        refine r_callV1 (ct_X6_fails _) fX6_fails qX6_120 dX6_readAs_53 KD_110 (by decide) ⟨Nat.zero_le _, Nat.zero_le _⟩ (Nat.le_of_ble_eq_true rfl) ?_
        have er : er_readAs c q r a = 1 := by
          unfold er_readAs
          (repeat' split) <;> omega
        have e0 : cE 3 1 9 (er_readAs c q r a) = 2 := by rw [er]; rfl
        exact r_ret_ig dX6_readAs_56 rfl ⟨Nat.zero_le _, Nat.zero_le _⟩ (by first | (rw [er, if_pos rfl]; done) | (rw [er, if_neg (by decide)]; done)) (by with_reducible first | exact LK_sc e0 | exact LK_z e0 | exact LK_f e0)
      · refine r_aload_n dX6_readAs_33 rfl (by rfl) ?_
        refine r_iload_n dX6_readAs_34 rfl (by rfl) ?_
        refine r_aload_n dX6_readAs_35 rfl (by rfl) ?_
        refine r_get_r kX6_7 dX6_readAs_36 KD_110 (RHO_110_1 _) ?_
        refine r_bipush dX6_readAs_39 (by decide) ?_
        refine r_iload_n dX6_readAs_41 rfl (by rfl) ?_
        refine r_iadd dX6_readAs_42 ?_
        refine r_iald dX6_readAs_43 KD_111 (by omega) (by omega) (by first | decide | omega) ?_
        have hq5 := hq4 (by omega) (by omega)
        rw [show up2 σ 110 0 0 111 = σ 111 from z1, hq5.1]
        refine r_iload_n dX6_readAs_44 rfl (by rfl) ?_
        refine r_callG3 (ct_X6_valueByR _ (by first | exact R1 | exact J1 | omega | exact hq | exact hr | exact ha | (unfold inR; omega)) _ _ (by first | exact R1 | exact J1 | omega | exact hq | exact hr | exact ha | (unfold inR; omega)) (by first | exact R1 | exact J1 | omega | exact hq | exact hr | exact ha | (unfold inR; omega)) (by first | exact R1 | exact J1 | omega | exact hq | exact hr | exact ha | (unfold inR; omega)) (by first | exact R1 | exact J1 | omega | exact hq | exact hr | exact ha | (unfold inR; omega)) _ (by first | exact R1 | exact J1 | omega | exact hq | exact hr | exact ha | (unfold inR; omega))) fX6_valueBy qX6_192 dX6_readAs_45 KD_110 (by decide) ⟨Nat.zero_le _, Nat.zero_le _⟩ (Nat.le_of_ble_eq_true rfl) (fun μ_4 hμ_4 => ?_)
        obtain ⟨qμ_4, pμ_4, rfl⟩ := hμ_4
        have er : er_readAs c q r a = 0 := by
          unfold er_readAs
          (repeat' split) <;> omega
        have e0 : cE 3 1 9 (er_readAs c q r a) = 0 := by rw [er]; rfl
        refine r_goto (tgt := 56) dX6_readAs_48 (by decide) ?_
        exact r_ret_ig dX6_readAs_56 rfl ⟨Nat.zero_le _, Nat.zero_le _⟩ (by first | (rw [er, if_pos rfl]; done) | (rw [er, if_neg (by decide)]; done)) (by with_reducible first | exact LK_sc e0 | exact LK_z e0 | exact LK_f e0)
    · refine r_aload_n dX6_readAs_20 rfl (by rfl) ?_
      refine r_iconst dX6_readAs_21 ?_
      refine r_callV1 (ct_X6_fails _) fX6_fails qX6_120 dX6_readAs_22 KD_110 (by decide) ⟨Nat.zero_le _, Nat.zero_le _⟩ (Nat.le_of_ble_eq_true rfl) ?_
      have er : er_readAs c q r a = 3 := by
        unfold er_readAs
        (repeat' split) <;> omega
      have e0 : cE 3 1 9 (er_readAs c q r a) = 1 := by rw [er]; rfl
      exact r_ret_ig dX6_readAs_25 rfl ⟨Nat.zero_le _, Nat.zero_le _⟩ (by first | (rw [er, if_pos rfl]; done) | (rw [er, if_neg (by decide)]; done)) (by with_reducible first | exact LK_sc e0 | exact LK_z e0 | exact LK_f e0)

set_option maxRecDepth 100000 in
set_option maxHeartbeats 4000000 in
theorem ct_X6_shapeR {l : Launch} {G : GG} {π : Nat → Option Nat} {σ τ : ST} (c : ST) (hR : Rel c σ) (s : Int) (hs : inR s) (w : Int) (hw : inR w) : Ct l G mX6_shape (3, 0, 0) [.ref 110, .int (iI s), .int (iI w)] 117 KD σ τ (RHO π) (KG (some (.int (iI (if er_shape c s w = 0 then shP c s.toNat w else 0)))) (LK σ (cE 3 1 9 (er_shape c s w))) τ π) := by
  have hn := hR.nm
  have hsz := hR.ci.sz
  have hrw := hR.ci.ro
  have hcu := hR.ci.cu
  have hmk := hR.ci.mk
  have z1 : up2 σ 110 0 0 111 = σ 111 := up2_off _ (by decide)
  have R1 : Rel c (up2 σ 110 0 0) := Rel_cg z1 hR
  have n1 := R1.nm
  have J1 := R1.mj
  have rs := hs
  unfold inR at rs
  have rw := hw
  unfold inR at rw
  refine ct_intro (own := "ShapedRowsModel") rfl (by decide +kernel) (Nat.le_of_ble_eq_true rfl) (L := _) rfl ?_
  refine r_aload_n dX6_shape_0 rfl (by rfl) ?_
  refine r_iconst dX6_shape_1 ?_
  refine r_put_i kX6_25 dX6_shape_2 KD_110 ?_
  refine r_aload_n dX6_shape_5 rfl (by rfl) ?_
  refine r_iload_n dX6_shape_6 rfl (by rfl) ?_
  refine r_callV1 (ct_X6_isShape (by first | exact R1 | exact J1 | omega | exact hs | exact hw | (unfold inR; omega)) _ (by first | exact R1 | exact J1 | omega | exact hs | exact hw | (unfold inR; omega))) fX6_isShape qX6_195 dX6_shape_7 KD_110 (by decide) ⟨Nat.zero_le _, Nat.zero_le _⟩ (Nat.le_of_ble_eq_true rfl) ?_
  refine r_ifne_b (tgt := 19) dX6_shape_10 (by decide) (fun c_1 => ?_) (fun c_1 => ?_)
  · refine r_iload_n dX6_shape_19 rfl (by rfl) ?_
    refine r_iconst dX6_shape_20 ?_
    refine r_iconst dX6_shape_21 ?_
    refine r_callS3 (ct_X6_in _ (by first | exact R1 | exact J1 | omega | exact hs | exact hw | (unfold inR; omega)) _ (by first | exact R1 | exact J1 | omega | exact hs | exact hw | (unfold inR; omega)) _ (by first | exact R1 | exact J1 | omega | exact hs | exact hw | (unfold inR; omega))) fX6_in qX6_32 dX6_shape_22 (by decide) ⟨Nat.zero_le _, Nat.zero_le _⟩ (Nat.le_of_ble_eq_true rfl) ?_
    refine r_ifeq_b (tgt := 37) dX6_shape_25 (by decide) (fun c_2 => ?_) (fun c_2 => ?_)
    · refine r_aload_n dX6_shape_37 rfl (by rfl) ?_
      refine r_iconst dX6_shape_38 ?_
      refine r_callV1 (ct_X6_fails _) fX6_fails qX6_120 dX6_shape_39 KD_110 (by decide) ⟨Nat.zero_le _, Nat.zero_le _⟩ (Nat.le_of_ble_eq_true rfl) ?_
      have er : er_shape c s w = 1 := by
        unfold er_shape
        (repeat' split) <;> omega
      have e0 : cE 3 1 9 (er_shape c s w) = 2 := by rw [er]; rfl
      exact r_ret_ig dX6_shape_42 rfl ⟨Nat.zero_le _, Nat.zero_le _⟩ (by first | (rw [er, if_pos rfl]; done) | (rw [er, if_neg (by decide)]; done)) (by with_reducible first | exact LK_sc e0 | exact LK_z e0 | exact LK_f e0)
    · refine r_aload_n dX6_shape_28 rfl (by rfl) ?_
      refine r_iload_n dX6_shape_29 rfl (by rfl) ?_
      refine r_iload_n dX6_shape_30 rfl (by rfl) ?_
      refine r_callV2 (ct_X6_shapeOf (by first | exact R1 | exact J1 | omega | exact hs | exact hw | (unfold inR; omega)) _ (by first | exact R1 | exact J1 | omega | exact hs | exact hw | (unfold inR; omega)) (by first | exact R1 | exact J1 | omega | exact hs | exact hw | (unfold inR; omega)) _ (by first | exact R1 | exact J1 | omega | exact hs | exact hw | (unfold inR; omega)) (by first | exact R1 | exact J1 | omega | exact hs | exact hw | (unfold inR; omega))) fX6_shapeOf qX6_207 dX6_shape_31 KD_110 (by decide) ⟨Nat.zero_le _, Nat.zero_le _⟩ (Nat.le_of_ble_eq_true rfl) ?_
      rw [ts_eq R1 (by omega) (by omega)]
      have er : er_shape c s w = 0 := by
        unfold er_shape
        (repeat' split) <;> omega
      have e0 : cE 3 1 9 (er_shape c s w) = 0 := by rw [er]; rfl
      refine r_goto (tgt := 42) dX6_shape_34 (by decide) ?_
      exact r_ret_ig dX6_shape_42 rfl ⟨Nat.zero_le _, Nat.zero_le _⟩ (by first | (rw [er, if_pos rfl]; done) | (rw [er, if_neg (by decide)]; done)) (by with_reducible first | exact LK_sc e0 | exact LK_z e0 | exact LK_f e0)
  · refine r_aload_n dX6_shape_13 rfl (by rfl) ?_
    refine r_iconst dX6_shape_14 ?_
    refine r_callV1 (ct_X6_fails _) fX6_fails qX6_120 dX6_shape_15 KD_110 (by decide) ⟨Nat.zero_le _, Nat.zero_le _⟩ (Nat.le_of_ble_eq_true rfl) ?_
    have er : er_shape c s w = 3 := by
      unfold er_shape
      (repeat' split) <;> omega
    have e0 : cE 3 1 9 (er_shape c s w) = 1 := by rw [er]; rfl
    exact r_ret_ig dX6_shape_18 rfl ⟨Nat.zero_le _, Nat.zero_le _⟩ (by first | (rw [er, if_pos rfl]; done) | (rw [er, if_neg (by decide)]; done)) (by with_reducible first | exact LK_sc e0 | exact LK_z e0 | exact LK_f e0)

set_option maxRecDepth 100000 in
set_option maxHeartbeats 4000000 in
theorem ct_X6_rowR {l : Launch} {G : GG} {π : Nat → Option Nat} {σ τ : ST} (c : ST) (hR : Rel c σ) (r : Int) (hr : inR r) (w : Int) (hw : inR w) : Ct l G mX6_row (6, 0, 0) [.ref 110, .int (iI r), .int (iI w)] 117 KD σ τ (RHO π) (KG (some (.int (iI (if er_row c r w = 0 then roP c r.toNat w else 0)))) (LK σ (cE 3 1 9 (er_row c r w))) τ π) := by
  have hn := hR.nm
  have hsz := hR.ci.sz
  have hrw := hR.ci.ro
  have hcu := hR.ci.cu
  have hmk := hR.ci.mk
  have z1 : up2 σ 110 0 0 111 = σ 111 := up2_off _ (by decide)
  have R1 : Rel c (up2 σ 110 0 0) := Rel_cg z1 hR
  have n1 := R1.nm
  have J1 := R1.mj
  have rr := hr
  unfold inR at rr
  have rw := hw
  unfold inR at rw
  refine ct_intro (own := "ShapedRowsModel") rfl (by decide +kernel) (Nat.le_of_ble_eq_true rfl) (L := _) rfl ?_
  refine r_aload_n dX6_row_0 rfl (by rfl) ?_
  refine r_iconst dX6_row_1 ?_
  refine r_put_i kX6_25 dX6_row_2 KD_110 ?_
  refine r_aload_n dX6_row_5 rfl (by rfl) ?_
  refine r_iload_n dX6_row_6 rfl (by rfl) ?_
  refine r_callV1 (ct_X6_isRow (by first | exact R1 | exact J1 | omega | exact hr | exact hw | (unfold inR; omega)) _ (by first | exact R1 | exact J1 | omega | exact hr | exact hw | (unfold inR; omega))) fX6_isRow qX6_133 dX6_row_7 KD_110 (by decide) ⟨Nat.zero_le _, Nat.zero_le _⟩ (Nat.le_of_ble_eq_true rfl) ?_
  refine r_ifne_b (tgt := 19) dX6_row_10 (by decide) (fun c_1 => ?_) (fun c_1 => ?_)
  · refine r_iload_n dX6_row_19 rfl (by rfl) ?_
    refine r_iconst dX6_row_20 ?_
    refine r_iconst dX6_row_21 ?_
    refine r_callS3 (ct_X6_in _ (by first | exact R1 | exact J1 | omega | exact hr | exact hw | (unfold inR; omega)) _ (by first | exact R1 | exact J1 | omega | exact hr | exact hw | (unfold inR; omega)) _ (by first | exact R1 | exact J1 | omega | exact hr | exact hw | (unfold inR; omega))) fX6_in qX6_32 dX6_row_22 (by decide) ⟨Nat.zero_le _, Nat.zero_le _⟩ (Nat.le_of_ble_eq_true rfl) ?_
    refine r_ifeq_b (tgt := 37) dX6_row_25 (by decide) (fun c_2 => ?_) (fun c_2 => ?_)
    · refine r_aload_n dX6_row_37 rfl (by rfl) ?_
      refine r_iconst dX6_row_38 ?_
      refine r_callV1 (ct_X6_fails _) fX6_fails qX6_120 dX6_row_39 KD_110 (by decide) ⟨Nat.zero_le _, Nat.zero_le _⟩ (Nat.le_of_ble_eq_true rfl) ?_
      have er : er_row c r w = 1 := by
        unfold er_row
        (repeat' split) <;> omega
      have e0 : cE 3 1 9 (er_row c r w) = 2 := by rw [er]; rfl
      exact r_ret_ig dX6_row_42 rfl ⟨Nat.zero_le _, Nat.zero_le _⟩ (by first | (rw [er, if_pos rfl]; done) | (rw [er, if_neg (by decide)]; done)) (by with_reducible first | exact LK_sc e0 | exact LK_z e0 | exact LK_f e0)
    · refine r_aload_n dX6_row_28 rfl (by rfl) ?_
      refine r_iload_n dX6_row_29 rfl (by rfl) ?_
      refine r_iload_n dX6_row_30 rfl (by rfl) ?_
      refine r_callG2 (ct_X6_tellsRowR _ (by first | exact R1 | exact J1 | omega | exact hr | exact hw | (unfold inR; omega)) _ (by first | exact R1 | exact J1 | omega | exact hr | exact hw | (unfold inR; omega)) (by first | exact R1 | exact J1 | omega | exact hr | exact hw | (unfold inR; omega)) _ (by first | exact R1 | exact J1 | omega | exact hr | exact hw | (unfold inR; omega)) (by first | exact R1 | exact J1 | omega | exact hr | exact hw | (unfold inR; omega))) fX6_tellsRow qX6_213 dX6_row_31 KD_110 (by decide) ⟨Nat.zero_le _, Nat.zero_le _⟩ (Nat.le_of_ble_eq_true rfl) (fun μ_3 hμ_3 => ?_)
      obtain ⟨qμ_3, pμ_3, rfl⟩ := hμ_3
      have er : er_row c r w = 0 := by
        unfold er_row
        (repeat' split) <;> omega
      have e0 : cE 3 1 9 (er_row c r w) = 0 := by rw [er]; rfl
      refine r_goto (tgt := 42) dX6_row_34 (by decide) ?_
      exact r_ret_ig dX6_row_42 rfl ⟨Nat.zero_le _, Nat.zero_le _⟩ (by first | (rw [er, if_pos rfl]; done) | (rw [er, if_neg (by decide)]; done)) (by with_reducible first | exact LK_sc e0 | exact LK_z e0 | exact LK_f e0)
  · refine r_aload_n dX6_row_13 rfl (by rfl) ?_
    refine r_iconst dX6_row_14 ?_
    refine r_callV1 (ct_X6_fails _) fX6_fails qX6_120 dX6_row_15 KD_110 (by decide) ⟨Nat.zero_le _, Nat.zero_le _⟩ (Nat.le_of_ble_eq_true rfl) ?_
    have er : er_row c r w = 3 := by
      unfold er_row
      (repeat' split) <;> omega
    have e0 : cE 3 1 9 (er_row c r w) = 1 := by rw [er]; rfl
    exact r_ret_ig dX6_row_18 rfl ⟨Nat.zero_le _, Nat.zero_le _⟩ (by first | (rw [er, if_pos rfl]; done) | (rw [er, if_neg (by decide)]; done)) (by with_reducible first | exact LK_sc e0 | exact LK_z e0 | exact LK_f e0)

set_option maxRecDepth 100000 in
set_option maxHeartbeats 4000000 in
theorem ct_X6_countR {l : Launch} {G : GG} {π : Nat → Option Nat} {σ τ : ST} (c : ST) (hR : Rel c σ) (h9 : σ 110 3 = c 16 1) (w : Int) (hw : inR w) : Ct l G mX6_count (3, 0, 0) [.ref 110, .int (iI w)] 117 KD σ τ (RHO π) (KG (some (.int (iI (if er_count c w = 0 then ctP c w else 0)))) (LK σ (cE 1 9 9 (er_count c w))) τ π) := by
  have hn := hR.nm
  have hsz := hR.ci.sz
  have hrw := hR.ci.ro
  have hcu := hR.ci.cu
  have hmk := hR.ci.mk
  have z1 : up2 σ 110 0 0 111 = σ 111 := up2_off _ (by decide)
  have R1 : Rel c (up2 σ 110 0 0) := Rel_cg z1 hR
  have n1 := R1.nm
  have J1 := R1.mj
  have rw := hw
  unfold inR at rw
  refine ct_intro (own := "ShapedRowsModel") rfl (by decide +kernel) (Nat.le_of_ble_eq_true rfl) (L := _) rfl ?_
  refine r_aload_n dX6_count_0 rfl (by rfl) ?_
  refine r_iconst dX6_count_1 ?_
  refine r_put_i kX6_25 dX6_count_2 KD_110 ?_
  refine r_iload_n dX6_count_5 rfl (by rfl) ?_
  refine r_iconst dX6_count_6 ?_
  refine r_bipush dX6_count_7 (by decide) ?_
  refine r_callS3 (ct_X6_in _ (by first | exact R1 | exact J1 | omega | exact hw | (unfold inR; omega)) _ (by first | exact R1 | exact J1 | omega | exact hw | (unfold inR; omega)) _ (by first | exact R1 | exact J1 | omega | exact hw | (unfold inR; omega))) fX6_in qX6_32 dX6_count_9 (by decide) ⟨Nat.zero_le _, Nat.zero_le _⟩ (Nat.le_of_ble_eq_true rfl) ?_
  refine r_ifeq_b (tgt := 23) dX6_count_12 (by decide) (fun c_1 => ?_) (fun c_1 => ?_)
  · refine r_aload_n dX6_count_23 rfl (by rfl) ?_
    refine r_iconst dX6_count_24 ?_
    refine r_callV1 (ct_X6_fails _) fX6_fails qX6_120 dX6_count_25 KD_110 (by decide) ⟨Nat.zero_le _, Nat.zero_le _⟩ (Nat.le_of_ble_eq_true rfl) ?_
    have er : er_count c w = 1 := by
      unfold er_count
      (repeat' split) <;> omega
    have e0 : cE 1 9 9 (er_count c w) = 1 := by rw [er]; rfl
    exact r_ret_ig dX6_count_28 rfl ⟨Nat.zero_le _, Nat.zero_le _⟩ (by first | (rw [er, if_pos rfl]; done) | (rw [er, if_neg (by decide)]; done)) (by with_reducible first | exact LK_sc e0 | exact LK_z e0 | exact LK_f e0)
  · refine r_aload_n dX6_count_15 rfl (by rfl) ?_
    refine r_iload_n dX6_count_16 rfl (by rfl) ?_
    refine r_callV1 (ct_X6_counts (by first | exact R1 | exact J1 | omega | exact hw | (unfold inR; omega)) _ (by first | exact R1 | exact J1 | omega | exact hw | (unfold inR; omega)) (by first | exact R1 | exact J1 | omega | exact hw | (unfold inR; omega))) fX6_counts qX6_216 dX6_count_17 KD_110 (by decide) ⟨Nat.zero_le _, Nat.zero_le _⟩ (Nat.le_of_ble_eq_true rfl) ?_
    rw [cn_eq R1 (by rw [up2_el _ _ _ (by decide)]; exact h9)]
    have er : er_count c w = 0 := by
      unfold er_count
      (repeat' split) <;> omega
    have e0 : cE 1 9 9 (er_count c w) = 0 := by rw [er]; rfl
    refine r_goto (tgt := 28) dX6_count_20 (by decide) ?_
    exact r_ret_ig dX6_count_28 rfl ⟨Nat.zero_le _, Nat.zero_le _⟩ (by first | (rw [er, if_pos rfl]; done) | (rw [er, if_neg (by decide)]; done)) (by with_reducible first | exact LK_sc e0 | exact LK_z e0 | exact LK_f e0)

set_option maxRecDepth 100000 in
set_option maxHeartbeats 4000000 in
theorem ct_X6_lostR {l : Launch} {G : GG} {π : Nat → Option Nat} {σ τ : ST} (c : ST) (hR : Rel c σ) (r : Int) (hr : inR r) (s : Int) (hs : inR s) : Ct l G mX6_lost (5, 0, 0) [.ref 110, .int (iI r), .int (iI s)] 117 KD σ τ (RHO π) (KG (some (.int (iI (if er_lost c r s = 0 then lsC c (lsV c r.toNat s.toNat) r.toNat (c 7 (c 11 r.toNat).toNat).toNat else 0)))) (LK σ (cE 3 9 9 (er_lost c r s))) τ π) := by
  have hn := hR.nm
  have hsz := hR.ci.sz
  have hrw := hR.ci.ro
  have hcu := hR.ci.cu
  have hmk := hR.ci.mk
  have z1 : up2 σ 110 0 0 111 = σ 111 := up2_off _ (by decide)
  have R1 : Rel c (up2 σ 110 0 0) := Rel_cg z1 hR
  have n1 := R1.nm
  have J1 := R1.mj
  have rr := hr
  unfold inR at rr
  have rs := hs
  unfold inR at rs
  refine ct_intro (own := "ShapedRowsModel") rfl (by decide +kernel) (Nat.le_of_ble_eq_true rfl) (L := _) rfl ?_
  refine r_aload_n dX6_lost_0 rfl (by rfl) ?_
  refine r_iconst dX6_lost_1 ?_
  refine r_put_i kX6_25 dX6_lost_2 KD_110 ?_
  refine r_aload_n dX6_lost_5 rfl (by rfl) ?_
  refine r_iload_n dX6_lost_6 rfl (by rfl) ?_
  refine r_callV1 (ct_X6_isRow (by first | exact R1 | exact J1 | omega | exact hr | exact hs | (unfold inR; omega)) _ (by first | exact R1 | exact J1 | omega | exact hr | exact hs | (unfold inR; omega))) fX6_isRow qX6_133 dX6_lost_7 KD_110 (by decide) ⟨Nat.zero_le _, Nat.zero_le _⟩ (Nat.le_of_ble_eq_true rfl) ?_
  refine r_ifeq_b (tgt := 30) dX6_lost_10 (by decide) (fun c_1 => ?_) (fun c_1 => ?_)
  · refine r_aload_n dX6_lost_30 rfl (by rfl) ?_
    refine r_iconst dX6_lost_31 ?_
    refine r_callV1 (ct_X6_fails _) fX6_fails qX6_120 dX6_lost_32 KD_110 (by decide) ⟨Nat.zero_le _, Nat.zero_le _⟩ (Nat.le_of_ble_eq_true rfl) ?_
    have er : er_lost c r s = 3 := by
      unfold er_lost
      (repeat' split) <;> omega
    have e0 : cE 3 9 9 (er_lost c r s) = 1 := by rw [er]; rfl
    exact r_ret_ig dX6_lost_35 rfl ⟨Nat.zero_le _, Nat.zero_le _⟩ (by first | (rw [er, if_pos rfl]; done) | (rw [er, if_neg (by decide)]; done)) (by with_reducible first | exact LK_sc e0 | exact LK_z e0 | exact LK_f e0)
  · refine r_aload_n dX6_lost_13 rfl (by rfl) ?_
    refine r_iload_n dX6_lost_14 rfl (by rfl) ?_
    refine r_callV1 (ct_X6_isInUse (by first | exact R1 | exact J1 | omega | exact hr | exact hs | (unfold inR; omega)) _ (by first | exact R1 | exact J1 | omega | exact hr | exact hs | (unfold inR; omega))) fX6_isInUse qX6_127 dX6_lost_15 KD_110 (by decide) ⟨Nat.zero_le _, Nat.zero_le _⟩ (Nat.le_of_ble_eq_true rfl) ?_
    refine r_ifeq_b (tgt := 30) dX6_lost_18 (by decide) (fun c_2 => ?_) (fun c_2 => ?_)
    · refine r_aload_n dX6_lost_30 rfl (by rfl) ?_
      refine r_iconst dX6_lost_31 ?_
      refine r_callV1 (ct_X6_fails _) fX6_fails qX6_120 dX6_lost_32 KD_110 (by decide) ⟨Nat.zero_le _, Nat.zero_le _⟩ (Nat.le_of_ble_eq_true rfl) ?_
      have er : er_lost c r s = 3 := by
        unfold er_lost
        (repeat' split) <;> omega
      have e0 : cE 3 9 9 (er_lost c r s) = 1 := by rw [er]; rfl
      exact r_ret_ig dX6_lost_35 rfl ⟨Nat.zero_le _, Nat.zero_le _⟩ (by first | (rw [er, if_pos rfl]; done) | (rw [er, if_neg (by decide)]; done)) (by with_reducible first | exact LK_sc e0 | exact LK_z e0 | exact LK_f e0)
    · refine r_aload_n dX6_lost_21 rfl (by rfl) ?_
      refine r_iload_n dX6_lost_22 rfl (by rfl) ?_
      refine r_iload_n dX6_lost_23 rfl (by rfl) ?_
      refine r_callG2 (ct_X6_losses _ (by first | exact R1 | exact J1 | omega | exact hr | exact hs | (unfold inR; omega)) _ _ (by first | exact R1 | exact J1 | omega | exact hr | exact hs | (unfold inR; omega)) (by first | exact R1 | exact J1 | omega | exact hr | exact hs | (unfold inR; omega)) (by first | exact R1 | exact J1 | omega | exact hr | exact hs | (unfold inR; omega)) (by first | exact R1 | exact J1 | omega | exact hr | exact hs | (unfold inR; omega))) fX6_losses qX6_219 dX6_lost_24 KD_110 (by decide) ⟨Nat.zero_le _, Nat.zero_le _⟩ (Nat.le_of_ble_eq_true rfl) (fun μ_3 hμ_3 => ?_)
      obtain ⟨qμ_3, pμ_3, rfl⟩ := hμ_3
      have er : er_lost c r s = 0 := by
        unfold er_lost
        (repeat' split) <;> omega
      have e0 : cE 3 9 9 (er_lost c r s) = 0 := by rw [er]; rfl
      refine r_goto (tgt := 35) dX6_lost_27 (by decide) ?_
      exact r_ret_ig dX6_lost_35 rfl ⟨Nat.zero_le _, Nat.zero_le _⟩ (by first | (rw [er, if_pos rfl]; done) | (rw [er, if_neg (by decide)]; done)) (by with_reducible first | exact LK_sc e0 | exact LK_z e0 | exact LK_f e0)

set_option maxRecDepth 100000 in
set_option maxHeartbeats 4000000 in
theorem ct_X6_againstR {l : Launch} {G : GG} {π : Nat → Option Nat} {σ τ : ST} (c : ST) (hR : Rel c σ) (r : Int) (hr : inR r) (s : Int) (hs : inR s) (a : Int) (ha : inR a) : Ct l G mX6_against (3, 0, 0) [.ref 110, .int (iI r), .int (iI s), .int (iI a)] 117 KD σ τ (RHO π) (KG (some (.int (iI (if er_against c r s a = 0 then refu c r.toNat s.toNat a else 0)))) (LK σ (cE 3 1 9 (er_against c r s a))) τ π) := by
  have hn := hR.nm
  have hsz := hR.ci.sz
  have hrw := hR.ci.ro
  have hcu := hR.ci.cu
  have hmk := hR.ci.mk
  have z1 : up2 σ 110 0 0 111 = σ 111 := up2_off _ (by decide)
  have R1 : Rel c (up2 σ 110 0 0) := Rel_cg z1 hR
  have n1 := R1.nm
  have J1 := R1.mj
  have rr := hr
  unfold inR at rr
  have rs := hs
  unfold inR at rs
  have ra := ha
  unfold inR at ra
  refine ct_intro (own := "ShapedRowsModel") rfl (by decide +kernel) (Nat.le_of_ble_eq_true rfl) (L := _) rfl ?_
  refine r_aload_n dX6_against_0 rfl (by rfl) ?_
  refine r_iconst dX6_against_1 ?_
  refine r_put_i kX6_25 dX6_against_2 KD_110 ?_
  refine r_aload_n dX6_against_5 rfl (by rfl) ?_
  refine r_iload_n dX6_against_6 rfl (by rfl) ?_
  refine r_callV1 (ct_X6_isRow (by first | exact R1 | exact J1 | omega | exact hr | exact hs | exact ha | (unfold inR; omega)) _ (by first | exact R1 | exact J1 | omega | exact hr | exact hs | exact ha | (unfold inR; omega))) fX6_isRow qX6_133 dX6_against_7 KD_110 (by decide) ⟨Nat.zero_le _, Nat.zero_le _⟩ (Nat.le_of_ble_eq_true rfl) ?_
  refine r_ifeq_b (tgt := 21) dX6_against_10 (by decide) (fun c_1 => ?_) (fun c_1 => ?_)
  · refine r_aload_n dX6_against_21 rfl (by rfl) ?_
    refine r_iconst dX6_against_22 ?_
    refine r_callV1 (ct_X6_fails _) fX6_fails qX6_120 dX6_against_23 KD_110 (by decide) ⟨Nat.zero_le _, Nat.zero_le _⟩ (Nat.le_of_ble_eq_true rfl) ?_
    have er : er_against c r s a = 3 := by
      unfold er_against
      (repeat' split) <;> omega
    have e0 : cE 3 1 9 (er_against c r s a) = 1 := by rw [er]; rfl
    exact r_ret_ig dX6_against_26 rfl ⟨Nat.zero_le _, Nat.zero_le _⟩ (by first | (rw [er, if_pos rfl]; done) | (rw [er, if_neg (by decide)]; done)) (by with_reducible first | exact LK_sc e0 | exact LK_z e0 | exact LK_f e0)
  · refine r_aload_n dX6_against_13 rfl (by rfl) ?_
    refine r_iload_n dX6_against_14 rfl (by rfl) ?_
    refine r_callV1 (ct_X6_isInUse (by first | exact R1 | exact J1 | omega | exact hr | exact hs | exact ha | (unfold inR; omega)) _ (by first | exact R1 | exact J1 | omega | exact hr | exact hs | exact ha | (unfold inR; omega))) fX6_isInUse qX6_127 dX6_against_15 KD_110 (by decide) ⟨Nat.zero_le _, Nat.zero_le _⟩ (Nat.le_of_ble_eq_true rfl) ?_
    refine r_ifne_b (tgt := 27) dX6_against_18 (by decide) (fun c_2 => ?_) (fun c_2 => ?_)
    · refine r_iload_n dX6_against_27 rfl (by rfl) ?_
      refine r_callS1 (ct_X6_isLetter _ (by first | exact R1 | exact J1 | omega | exact hr | exact hs | exact ha | (unfold inR; omega))) fX6_isLetter qX6_51 dX6_against_28 (by decide) ⟨Nat.zero_le _, Nat.zero_le _⟩ (Nat.le_of_ble_eq_true rfl) ?_
      refine r_ifeq_b (tgt := 44) dX6_against_31 (by decide) (fun c_3 => ?_) (fun c_3 => ?_)
      · refine r_aload_n dX6_against_44 rfl (by rfl) ?_
        refine r_iconst dX6_against_45 ?_
        refine r_callV1 (ct_X6_fails _) fX6_fails qX6_120 dX6_against_46 KD_110 (by decide) ⟨Nat.zero_le _, Nat.zero_le _⟩ (Nat.le_of_ble_eq_true rfl) ?_
        have er : er_against c r s a = 1 := by
          unfold er_against
          (repeat' split) <;> omega
        have e0 : cE 3 1 9 (er_against c r s a) = 2 := by rw [er]; rfl
        exact r_ret_ig dX6_against_49 rfl ⟨Nat.zero_le _, Nat.zero_le _⟩ (by first | (rw [er, if_pos rfl]; done) | (rw [er, if_neg (by decide)]; done)) (by with_reducible first | exact LK_sc e0 | exact LK_z e0 | exact LK_f e0)
      · refine r_aload_n dX6_against_34 rfl (by rfl) ?_
        refine r_iload_n dX6_against_35 rfl (by rfl) ?_
        refine r_iload_n dX6_against_36 rfl (by rfl) ?_
        refine r_iload_n dX6_against_37 rfl (by rfl) ?_
        refine r_callV3 (ct_X6_isAgainst (by first | exact R1 | exact J1 | omega | exact hr | exact hs | exact ha | (unfold inR; omega)) _ (by first | exact R1 | exact J1 | omega | exact hr | exact hs | exact ha | (unfold inR; omega)) (by first | exact R1 | exact J1 | omega | exact hr | exact hs | exact ha | (unfold inR; omega)) _ (by first | exact R1 | exact J1 | omega | exact hr | exact hs | exact ha | (unfold inR; omega)) (by first | exact R1 | exact J1 | omega | exact hr | exact hs | exact ha | (unfold inR; omega)) _ (by first | exact R1 | exact J1 | omega | exact hr | exact hs | exact ha | (unfold inR; omega))) fX6_isAgainst qX6_136 dX6_against_38 KD_110 (by decide) ⟨Nat.zero_le _, Nat.zero_le _⟩ (Nat.le_of_ble_eq_true rfl) ?_
        rw [ag_eq R1 (by omega) (by omega) (by omega) (by omega)]
        have er : er_against c r s a = 0 := by
          unfold er_against
          (repeat' split) <;> omega
        have e0 : cE 3 1 9 (er_against c r s a) = 0 := by rw [er]; rfl
        refine r_goto (tgt := 49) dX6_against_41 (by decide) ?_
        exact r_ret_ig dX6_against_49 rfl ⟨Nat.zero_le _, Nat.zero_le _⟩ (by first | (rw [er, if_pos rfl]; done) | (rw [er, if_neg (by decide)]; done)) (by with_reducible first | exact LK_sc e0 | exact LK_z e0 | exact LK_f e0)
    · refine r_aload_n dX6_against_21 rfl (by rfl) ?_
      refine r_iconst dX6_against_22 ?_
      refine r_callV1 (ct_X6_fails _) fX6_fails qX6_120 dX6_against_23 KD_110 (by decide) ⟨Nat.zero_le _, Nat.zero_le _⟩ (Nat.le_of_ble_eq_true rfl) ?_
      have er : er_against c r s a = 3 := by
        unfold er_against
        (repeat' split) <;> omega
      have e0 : cE 3 1 9 (er_against c r s a) = 1 := by rw [er]; rfl
      exact r_ret_ig dX6_against_26 rfl ⟨Nat.zero_le _, Nat.zero_le _⟩ (by first | (rw [er, if_pos rfl]; done) | (rw [er, if_neg (by decide)]; done)) (by with_reducible first | exact LK_sc e0 | exact LK_z e0 | exact LK_f e0)

set_option maxRecDepth 100000 in
set_option maxHeartbeats 4000000 in
theorem ct_X6_columnR {l : Launch} {G : GG} {π : Nat → Option Nat} {σ τ : ST} (c : ST) (hR : Rel c σ) (s : Int) (hs : inR s) (p : Int) (hp : inR p) (w : Int) (hw : inR w) : Ct l G mX6_column (3, 0, 0) [.ref 110, .int (iI s), .int (iI p), .int (iI w)] 117 KD σ τ (RHO π) (KG (some (.int (iI (if er_column c s p w = 0 then csP c s.toNat p w else 0)))) (LK σ (cE 3 1 9 (er_column c s p w))) τ π) := by
  have hn := hR.nm
  have hsz := hR.ci.sz
  have hrw := hR.ci.ro
  have hcu := hR.ci.cu
  have hmk := hR.ci.mk
  have z1 : up2 σ 110 0 0 111 = σ 111 := up2_off _ (by decide)
  have R1 : Rel c (up2 σ 110 0 0) := Rel_cg z1 hR
  have n1 := R1.nm
  have J1 := R1.mj
  have rs := hs
  unfold inR at rs
  have rp := hp
  unfold inR at rp
  have rw := hw
  unfold inR at rw
  refine ct_intro (own := "ShapedRowsModel") rfl (by decide +kernel) (Nat.le_of_ble_eq_true rfl) (L := _) rfl ?_
  refine r_aload_n dX6_column_0 rfl (by rfl) ?_
  refine r_iconst dX6_column_1 ?_
  refine r_put_i kX6_25 dX6_column_2 KD_110 ?_
  refine r_aload_n dX6_column_5 rfl (by rfl) ?_
  refine r_iload_n dX6_column_6 rfl (by rfl) ?_
  refine r_callV1 (ct_X6_isShape (by first | exact R1 | exact J1 | omega | exact hs | exact hp | exact hw | (unfold inR; omega)) _ (by first | exact R1 | exact J1 | omega | exact hs | exact hp | exact hw | (unfold inR; omega))) fX6_isShape qX6_195 dX6_column_7 KD_110 (by decide) ⟨Nat.zero_le _, Nat.zero_le _⟩ (Nat.le_of_ble_eq_true rfl) ?_
  refine r_ifne_b (tgt := 19) dX6_column_10 (by decide) (fun c_1 => ?_) (fun c_1 => ?_)
  · refine r_iload_n dX6_column_19 rfl (by rfl) ?_
    refine r_if_lt (tgt := 32) dX6_column_20 (by decide) (by unfold inR; omega) (fun c_2 => ?_) (fun c_2 => ?_)
    · refine r_aload_n dX6_column_32 rfl (by rfl) ?_
      refine r_iconst dX6_column_33 ?_
      refine r_callV1 (ct_X6_fails _) fX6_fails qX6_120 dX6_column_34 KD_110 (by decide) ⟨Nat.zero_le _, Nat.zero_le _⟩ (Nat.le_of_ble_eq_true rfl) ?_
      have er : er_column c s p w = 1 := by
        unfold er_column
        (repeat' split) <;> omega
      have e0 : cE 3 1 9 (er_column c s p w) = 2 := by rw [er]; rfl
      refine r_goto (tgt := 47) dX6_column_37 (by decide) ?_
      exact r_ret_ig dX6_column_47 rfl ⟨Nat.zero_le _, Nat.zero_le _⟩ (by first | (rw [er, if_pos rfl]; done) | (rw [er, if_neg (by decide)]; done)) (by with_reducible first | exact LK_sc e0 | exact LK_z e0 | exact LK_f e0)
    · refine r_iload_n dX6_column_23 rfl (by rfl) ?_
      refine r_iconst dX6_column_24 ?_
      refine r_iconst dX6_column_25 ?_
      refine r_callS3 (ct_X6_in _ (by first | exact R1 | exact J1 | omega | exact hs | exact hp | exact hw | (unfold inR; omega)) _ (by first | exact R1 | exact J1 | omega | exact hs | exact hp | exact hw | (unfold inR; omega)) _ (by first | exact R1 | exact J1 | omega | exact hs | exact hp | exact hw | (unfold inR; omega))) fX6_in qX6_32 dX6_column_26 (by decide) ⟨Nat.zero_le _, Nat.zero_le _⟩ (Nat.le_of_ble_eq_true rfl) ?_
      refine r_ifne_b (tgt := 40) dX6_column_29 (by decide) (fun c_3 => ?_) (fun c_3 => ?_)
      · refine r_aload_n dX6_column_40 rfl (by rfl) ?_
        refine r_iload_n dX6_column_41 rfl (by rfl) ?_
        refine r_iload_n dX6_column_42 rfl (by rfl) ?_
        refine r_iload_n dX6_column_43 rfl (by rfl) ?_
        refine r_callV3 (ct_X6_columnOf (by first | exact R1 | exact J1 | omega | exact hs | exact hp | exact hw | (unfold inR; omega)) _ (by first | exact R1 | exact J1 | omega | exact hs | exact hp | exact hw | (unfold inR; omega)) (by first | exact R1 | exact J1 | omega | exact hs | exact hp | exact hw | (unfold inR; omega)) _ (by first | exact R1 | exact J1 | omega | exact hs | exact hp | exact hw | (unfold inR; omega)) (by first | exact R1 | exact J1 | omega | exact hs | exact hp | exact hw | (unfold inR; omega)) _ (by first | exact R1 | exact J1 | omega | exact hs | exact hp | exact hw | (unfold inR; omega)) (by first | exact R1 | exact J1 | omega | exact hs | exact hp | exact hw | (unfold inR; omega))) fX6_columnOf qX6_198 dX6_column_44 KD_110 (by decide) ⟨Nat.zero_le _, Nat.zero_le _⟩ (Nat.le_of_ble_eq_true rfl) ?_
        rw [co_eq R1 (by omega) (by omega) (by omega)]
        have er : er_column c s p w = 0 := by
          unfold er_column
          (repeat' split) <;> omega
        have e0 : cE 3 1 9 (er_column c s p w) = 0 := by rw [er]; rfl
        exact r_ret_ig dX6_column_47 rfl ⟨Nat.zero_le _, Nat.zero_le _⟩ (by first | (rw [er, if_pos rfl]; done) | (rw [er, if_neg (by decide)]; done)) (by with_reducible first | exact LK_sc e0 | exact LK_z e0 | exact LK_f e0)
      · refine r_aload_n dX6_column_32 rfl (by rfl) ?_
        refine r_iconst dX6_column_33 ?_
        refine r_callV1 (ct_X6_fails _) fX6_fails qX6_120 dX6_column_34 KD_110 (by decide) ⟨Nat.zero_le _, Nat.zero_le _⟩ (Nat.le_of_ble_eq_true rfl) ?_
        have er : er_column c s p w = 1 := by
          unfold er_column
          (repeat' split) <;> omega
        have e0 : cE 3 1 9 (er_column c s p w) = 2 := by rw [er]; rfl
        refine r_goto (tgt := 47) dX6_column_37 (by decide) ?_
        exact r_ret_ig dX6_column_47 rfl ⟨Nat.zero_le _, Nat.zero_le _⟩ (by first | (rw [er, if_pos rfl]; done) | (rw [er, if_neg (by decide)]; done)) (by with_reducible first | exact LK_sc e0 | exact LK_z e0 | exact LK_f e0)
  · refine r_aload_n dX6_column_13 rfl (by rfl) ?_
    refine r_iconst dX6_column_14 ?_
    refine r_callV1 (ct_X6_fails _) fX6_fails qX6_120 dX6_column_15 KD_110 (by decide) ⟨Nat.zero_le _, Nat.zero_le _⟩ (Nat.le_of_ble_eq_true rfl) ?_
    have er : er_column c s p w = 3 := by
      unfold er_column
      (repeat' split) <;> omega
    have e0 : cE 3 1 9 (er_column c s p w) = 1 := by rw [er]; rfl
    exact r_ret_ig dX6_column_18 rfl ⟨Nat.zero_le _, Nat.zero_le _⟩ (by first | (rw [er, if_pos rfl]; done) | (rw [er, if_neg (by decide)]; done)) (by with_reducible first | exact LK_sc e0 | exact LK_z e0 | exact LK_f e0)

set_option maxRecDepth 100000 in
set_option maxHeartbeats 4000000 in
theorem ct_X6_findR {l : Launch} {G : GG} {π : Nat → Option Nat} {σ τ : ST} (c : ST) (hR : Rel c σ) (s : Int) (hs : inR s) (a : Int) (ha : inR a) (x : Int) (hx : inR x) : Ct l G mX6_find (6, 0, 0) [.ref 110, .int (iI s), .int (iI a), .int (iI x)] 117 KD σ τ (RHO π) (KG (some (.int (iI (if er_find c s a x = 0 then mskF c s.toNat a x (c 10 0).toNat else 0)))) (LK σ (cE 3 1 9 (er_find c s a x))) τ π) := by
  have hn := hR.nm
  have hsz := hR.ci.sz
  have hrw := hR.ci.ro
  have hcu := hR.ci.cu
  have hmk := hR.ci.mk
  have z1 : up2 σ 110 0 0 111 = σ 111 := up2_off _ (by decide)
  have R1 : Rel c (up2 σ 110 0 0) := Rel_cg z1 hR
  have n1 := R1.nm
  have J1 := R1.mj
  have rs := hs
  unfold inR at rs
  have ra := ha
  unfold inR at ra
  have rx := hx
  unfold inR at rx
  refine ct_intro (own := "ShapedRowsModel") rfl (by decide +kernel) (Nat.le_of_ble_eq_true rfl) (L := _) rfl ?_
  refine r_aload_n dX6_find_0 rfl (by rfl) ?_
  refine r_iconst dX6_find_1 ?_
  refine r_put_i kX6_25 dX6_find_2 KD_110 ?_
  refine r_aload_n dX6_find_5 rfl (by rfl) ?_
  refine r_iload_n dX6_find_6 rfl (by rfl) ?_
  refine r_callV1 (ct_X6_isInUse (by first | exact R1 | exact J1 | omega | exact hs | exact ha | exact hx | (unfold inR; omega)) _ (by first | exact R1 | exact J1 | omega | exact hs | exact ha | exact hx | (unfold inR; omega))) fX6_isInUse qX6_127 dX6_find_7 KD_110 (by decide) ⟨Nat.zero_le _, Nat.zero_le _⟩ (Nat.le_of_ble_eq_true rfl) ?_
  refine r_ifne_b (tgt := 19) dX6_find_10 (by decide) (fun c_1 => ?_) (fun c_1 => ?_)
  · refine r_iload_n dX6_find_19 rfl (by rfl) ?_
    refine r_callS1 (ct_X6_isLetter _ (by first | exact R1 | exact J1 | omega | exact hs | exact ha | exact hx | (unfold inR; omega))) fX6_isLetter qX6_51 dX6_find_20 (by decide) ⟨Nat.zero_le _, Nat.zero_le _⟩ (Nat.le_of_ble_eq_true rfl) ?_
    refine r_ifeq_b (tgt := 46) dX6_find_23 (by decide) (fun c_2 => ?_) (fun c_2 => ?_)
    · refine r_aload_n dX6_find_46 rfl (by rfl) ?_
      refine r_iconst dX6_find_47 ?_
      refine r_callV1 (ct_X6_fails _) fX6_fails qX6_120 dX6_find_48 KD_110 (by decide) ⟨Nat.zero_le _, Nat.zero_le _⟩ (Nat.le_of_ble_eq_true rfl) ?_
      have er : er_find c s a x = 1 := by
        unfold er_find
        (repeat' split) <;> omega
      have e0 : cE 3 1 9 (er_find c s a x) = 2 := by rw [er]; rfl
      exact r_ret_ig dX6_find_51 rfl ⟨Nat.zero_le _, Nat.zero_le _⟩ (by first | (rw [er, if_pos rfl]; done) | (rw [er, if_neg (by decide)]; done)) (by with_reducible first | exact LK_sc e0 | exact LK_z e0 | exact LK_f e0)
    · refine r_iload_n dX6_find_26 rfl (by rfl) ?_
      refine r_iconst dX6_find_27 ?_
      refine r_ldc (a := 99999) qc_X6_101 (by decide) dX6_find_28 ?_
      refine r_callS3 (ct_X6_in _ (by first | exact R1 | exact J1 | omega | exact hs | exact ha | exact hx | (unfold inR; omega)) _ (by first | exact R1 | exact J1 | omega | exact hs | exact ha | exact hx | (unfold inR; omega)) _ (by first | exact R1 | exact J1 | omega | exact hs | exact ha | exact hx | (unfold inR; omega))) fX6_in qX6_32 dX6_find_30 (by decide) ⟨Nat.zero_le _, Nat.zero_le _⟩ (Nat.le_of_ble_eq_true rfl) ?_
      refine r_ifeq_b (tgt := 46) dX6_find_33 (by decide) (fun c_3 => ?_) (fun c_3 => ?_)
      · refine r_aload_n dX6_find_46 rfl (by rfl) ?_
        refine r_iconst dX6_find_47 ?_
        refine r_callV1 (ct_X6_fails _) fX6_fails qX6_120 dX6_find_48 KD_110 (by decide) ⟨Nat.zero_le _, Nat.zero_le _⟩ (Nat.le_of_ble_eq_true rfl) ?_
        have er : er_find c s a x = 1 := by
          unfold er_find
          (repeat' split) <;> omega
        have e0 : cE 3 1 9 (er_find c s a x) = 2 := by rw [er]; rfl
        exact r_ret_ig dX6_find_51 rfl ⟨Nat.zero_le _, Nat.zero_le _⟩ (by first | (rw [er, if_pos rfl]; done) | (rw [er, if_neg (by decide)]; done)) (by with_reducible first | exact LK_sc e0 | exact LK_z e0 | exact LK_f e0)
      · refine r_aload_n dX6_find_36 rfl (by rfl) ?_
        refine r_iload_n dX6_find_37 rfl (by rfl) ?_
        refine r_iload_n dX6_find_38 rfl (by rfl) ?_
        refine r_iload_n dX6_find_39 rfl (by rfl) ?_
        refine r_callG3 (ct_X6_found _ (by first | exact R1 | exact J1 | omega | exact hs | exact ha | exact hx | (unfold inR; omega)) _ (by first | exact R1 | exact J1 | omega | exact hs | exact ha | exact hx | (unfold inR; omega)) (by first | exact R1 | exact J1 | omega | exact hs | exact ha | exact hx | (unfold inR; omega)) _ (by first | exact R1 | exact J1 | omega | exact hs | exact ha | exact hx | (unfold inR; omega)) _ (by first | exact R1 | exact J1 | omega | exact hs | exact ha | exact hx | (unfold inR; omega))) fX6_found qX6_225 dX6_find_40 KD_110 (by decide) ⟨Nat.zero_le _, Nat.zero_le _⟩ (Nat.le_of_ble_eq_true rfl) (fun μ_4 hμ_4 => ?_)
        obtain ⟨qμ_4, pμ_4, rfl⟩ := hμ_4
        have er : er_find c s a x = 0 := by
          unfold er_find
          (repeat' split) <;> omega
        have e0 : cE 3 1 9 (er_find c s a x) = 0 := by rw [er]; rfl
        refine r_goto (tgt := 51) dX6_find_43 (by decide) ?_
        exact r_ret_ig dX6_find_51 rfl ⟨Nat.zero_le _, Nat.zero_le _⟩ (by first | (rw [er, if_pos rfl]; done) | (rw [er, if_neg (by decide)]; done)) (by with_reducible first | exact LK_sc e0 | exact LK_z e0 | exact LK_f e0)
  · refine r_aload_n dX6_find_13 rfl (by rfl) ?_
    refine r_iconst dX6_find_14 ?_
    refine r_callV1 (ct_X6_fails _) fX6_fails qX6_120 dX6_find_15 KD_110 (by decide) ⟨Nat.zero_le _, Nat.zero_le _⟩ (Nat.le_of_ble_eq_true rfl) ?_
    have er : er_find c s a x = 3 := by
      unfold er_find
      (repeat' split) <;> omega
    have e0 : cE 3 1 9 (er_find c s a x) = 1 := by rw [er]; rfl
    exact r_ret_ig dX6_find_18 rfl ⟨Nat.zero_le _, Nat.zero_le _⟩ (by first | (rw [er, if_pos rfl]; done) | (rw [er, if_neg (by decide)]; done)) (by with_reducible first | exact LK_sc e0 | exact LK_z e0 | exact LK_f e0)

set_option maxRecDepth 100000 in
set_option maxHeartbeats 4000000 in
theorem ct_X6_toGoR {l : Launch} {G : GG} {π : Nat → Option Nat} {σ τ : ST} (c : ST) (hR : Rel c σ)  : Ct l G mX6_toGo (3, 0, 0) [.ref 110] 117 KD σ τ (RHO π) (KQ (some (.int (iI (slF c (c 10 0).toNat)))) 117 KD (up2 σ 110 0 0) τ (RHO π)) := by
  have hn := hR.nm
  have hsz := hR.ci.sz
  have hrw := hR.ci.ro
  have hcu := hR.ci.cu
  have hmk := hR.ci.mk
  have z1 : up2 σ 110 0 0 111 = σ 111 := up2_off _ (by decide)
  have R1 : Rel c (up2 σ 110 0 0) := Rel_cg z1 hR
  have n1 := R1.nm
  have J1 := R1.mj
  refine ct_intro (own := "ShapedRowsModel") rfl (by decide +kernel) (Nat.le_of_ble_eq_true rfl) (L := _) rfl ?_
  refine r_aload_n dX6_toGo_0 rfl (by rfl) ?_
  refine r_iconst dX6_toGo_1 ?_
  refine r_put_i kX6_25 dX6_toGo_2 KD_110 ?_
  refine r_aload_n dX6_toGo_5 rfl (by rfl) ?_
  refine r_callV0 (ct_X6_steps _ (by first | exact R1 | exact J1 | omega | (unfold inR; omega))) fX6_steps qX6_222 dX6_toGo_6 KD_110 (by decide) ⟨Nat.zero_le _, Nat.zero_le _⟩ (Nat.le_of_ble_eq_true rfl) ?_
  exact r_ret_i dX6_toGo_9 rfl ⟨Nat.zero_le _, Nat.zero_le _⟩ (by first | rfl | omega | (split <;> omega)) ⟨rfl, rfl, (by first | rfl | omega), rfl, rfl⟩

set_option maxRecDepth 100000 in
set_option maxHeartbeats 4000000 in
theorem ct_X6_freshShareR {l : Launch} {G : GG} {π : Nat → Option Nat} {σ τ : ST} (c : ST) (hR : Rel c σ)  : Ct l G mX6_freshShare (2, 0, 0) [.ref 110] 117 KD σ τ (RHO π) (KQ (some (.double (frS c))) 117 KD (up2 σ 110 0 0) τ (RHO π)) := by
  have hn := hR.nm
  have hsz := hR.ci.sz
  have hrw := hR.ci.ro
  have hcu := hR.ci.cu
  have hmk := hR.ci.mk
  have z1 : up2 σ 110 0 0 111 = σ 111 := up2_off _ (by decide)
  have R1 : Rel c (up2 σ 110 0 0) := Rel_cg z1 hR
  have n1 := R1.nm
  have J1 := R1.mj
  have hcn := cntR_rng c (c 2 0 - 1) (c 10 0).toNat
  have hrc := fun s => rc_eq R1 s (c 10 0).toNat (by omega)
  refine ct_intro (own := "ShapedRowsModel") rfl (by decide +kernel) (Nat.le_of_ble_eq_true rfl) (L := _) rfl ?_
  refine r_aload_n dX6_freshShare_0 rfl (by rfl) ?_
  refine r_iconst dX6_freshShare_1 ?_
  refine r_put_i kX6_25 dX6_freshShare_2 KD_110 ?_
  refine r_aload_n dX6_freshShare_5 rfl (by rfl) ?_
  refine r_get_r kX6_7 dX6_freshShare_6 KD_110 (RHO_110_1 _) ?_
  refine r_iconst dX6_freshShare_9 ?_
  refine r_iaload (k := 2) dX6_freshShare_10 KD_111 (by omega) (by omega) (by decide) ?_
  rw [n1.2.2.1]
  refine r_if_ne (tgt := 18) dX6_freshShare_11 (by decide) (by unfold inR; omega) (fun h0 => ?_) (fun h0 => ?_)
  · refine r_aload_n dX6_freshShare_18 rfl (by rfl) ?_
    refine r_aload_n dX6_freshShare_19 rfl (by rfl) ?_
    refine r_callV0 ct_X6_newest fX6_newest qX6_44 dX6_freshShare_20 KD_110 (by decide) ⟨Nat.zero_le _, Nat.zero_le _⟩ (Nat.le_of_ble_eq_true rfl) ?_
    refine r_callV1 (ct_X6_rowsWith (by first | exact R1 | exact J1 | omega | (unfold inR; omega)) _ (by first | exact R1 | exact J1 | omega | (unfold inR; omega))) fX6_rowsWith qX6_201 dX6_freshShare_23 KD_110 (by decide) ⟨Nat.zero_le _, Nat.zero_le _⟩ (Nat.le_of_ble_eq_true rfl) ?_
    rw [n1.1, n1.2.2.1, hrc]
    refine r_i2d dX6_freshShare_26 ?_
    refine r_aload_n dX6_freshShare_27 rfl (by rfl) ?_
    refine r_get_r kX6_7 dX6_freshShare_28 KD_110 (RHO_110_1 _) ?_
    refine r_iconst dX6_freshShare_31 ?_
    refine r_iaload (k := 2) dX6_freshShare_32 KD_111 (by omega) (by omega) (by decide) ?_
    rw [n1.2.2.1]
    refine r_i2d dX6_freshShare_33 ?_
    refine r_ddiv dX6_freshShare_34 (frQ_ok (by omega) (by omega) (by omega) (by omega)) ?_
    exact r_ret_d dX6_freshShare_35 rfl ⟨Nat.zero_le _, Nat.zero_le _⟩ (by unfold frS; first | (rw [if_pos h0]; done) | (rw [if_neg h0, show c 10 0 - (c 10 0 - cntR c (c 2 0 - 1) (c 10 0).toNat) = cntR c (c 2 0 - 1) (c 10 0).toNat by omega]; rfl)) ⟨rfl, rfl, rfl, rfl, rfl⟩
  · refine r_dconst1 dX6_freshShare_14 ?_
    refine r_goto (tgt := 35) dX6_freshShare_15 (by decide) ?_
    exact r_ret_d dX6_freshShare_35 rfl ⟨Nat.zero_le _, Nat.zero_le _⟩ (by unfold frS; first | (rw [if_pos h0]; done) | (rw [if_neg h0, show c 10 0 - (c 10 0 - cntR c (c 2 0 - 1) (c 10 0).toNat) = cntR c (c 2 0 - 1) (c 10 0).toNat by omega]; rfl)) ⟨rfl, rfl, rfl, rfl, rfl⟩
