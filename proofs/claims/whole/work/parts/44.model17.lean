/-! the model: sums, what a row tells, what a shape tells -/
def smM (σ : ST) (r s : Int) : Int := suM (reM σ r s) (reM σ r s 110 7).toNat
def trM (σ : ST) (r w : Int) : Int := if w = 0 then oM σ r 0 else if w = 1 then gM σ (oM σ r 0) 0 else if w = 2 then σ 111 0 - 1 - oM σ r 0 else if w = 3 then oM σ r 1 else if w = 4 then smM σ r (oM σ r 0) else smM σ r (σ 111 0 - 1)
def trS (σ : ST) (r w : Int) : ST := if w ≤ 3 then σ else if w = 4 then reM σ r (oM σ r 0) else reM σ r (σ 111 0 - 1)
def mkM (σ : ST) (s : Int) : Nat → Int
  | 0 => 0
  | k + 1 => orI (mkM σ s k) (shlI 1 (gM σ s (9 + (k : Int))))
def tsM (σ : ST) (s w : Int) : Int := if w = 0 then gM σ s 0 else if w = 1 then gM σ s 17 else if w = 2 then rwC σ s (σ 111 2).toNat else if w = 3 then rdC σ s 4 else if w = 4 then (if s < σ 111 1 then 1 else 0) else mkM σ s (gM σ s 0).toNat

set_option maxRecDepth 100000 in
set_option maxHeartbeats 4000000 in
theorem ct_X6_sumBy {l : Launch} {G : GG} {π : Nat → Option Nat} {σ τ : ST} (hJ : MJ σ) (r s : Int) (r0 : 0 ≤ r) (r1 : r < σ 111 2) (s0 : 0 ≤ s) (s1 : s < σ 111 0) (hR : rdO σ r s) (hm : 0 ≤ reM σ r s 110 7 ∧ reM σ r s 110 7 ≤ 8) : Ct l G mX6_sumBy (4, 0, 0) [.ref 110, .int (iI r), .int (iI s)] 117 KD σ τ (RHO π) (KQ (some (.int (iI (smM σ r s)))) 117 KD (reM σ r s) τ (RHO π)) := by
  have hz := hJ.sz
  have hmk := hJ.mk
  have hro := hJ.ro
  refine ct_intro (own := "ShapedRowsModel") rfl (by decide +kernel) (Nat.le_of_ble_eq_true rfl) (L := _) rfl ?_
  have cut_11 : ∀ (N : Nat) (k m : Int), (0 ≤ k) → (k ≤ reM σ r s 110 7) → (m = suM (reM σ r s) k.toNat) → reM σ r s 110 7 - k < (N : Int) → WP l G "ShapedRowsModel" mX6_sumBy (4, 0, 0) (KQ (some (.int (iI (smM σ r s)))) 117 KD (reM σ r s) τ (RHO π)) noX 117 11 [some (.ref 110), some (.int (iI r)), some (.int (iI s)), some (.int (iI m)), some (.int (iI k))] [] 117 KD (reM σ r s) τ (RHO π) 0 0 := by
    intro N
    induction N with
    | zero => intro k m k0 k1 hm0 hm; exact absurd hm (by omega)
    | succ N ih =>
      intro k m k0 k1 hm0 hm
      refine r_iload dX6_sumBy_11 (by rfl) ?_
      refine r_aload_n dX6_sumBy_13 rfl (by rfl) ?_
      refine r_get_i kX6_98 dX6_sumBy_14 KD_110 ?_
      refine r_icmp_ge (tgt := 36) dX6_sumBy_17 (by decide) (by unfold inR; omega) (by unfold inR; omega) (fun c_1 => ?_) (fun c_1 => ?_)
      · refine r_iload_n dX6_sumBy_36 rfl (by rfl) ?_
        exact r_ret_i dX6_sumBy_37 rfl ⟨Nat.zero_le _, Nat.zero_le _⟩ (by unfold smM; rw [hm0, show k.toNat = (reM σ r s 110 7).toNat by omega]) ⟨rfl, rfl, (by first | rfl | omega), rfl, rfl⟩
      · refine r_iload_n dX6_sumBy_20 rfl (by rfl) ?_
        refine r_aload_n dX6_sumBy_21 rfl (by rfl) ?_
        refine r_get_r kX6_19 dX6_sumBy_22 KD_110 (RHO_110_6 _) ?_
        refine r_iload dX6_sumBy_25 (by rfl) ?_
        refine r_iald dX6_sumBy_27 KD_114 (by omega) (by omega) (by first | decide | omega) ?_
        refine r_iadd dX6_sumBy_28 ?_
        refine r_istore_n dX6_sumBy_29 rfl (Nat.le_of_ble_eq_true rfl) (L' := [_, _, _, _, _]) (by rfl) ?_
        refine r_iinc dX6_sumBy_30 (by rfl) (Nat.le_of_ble_eq_true rfl) (L' := [_, _, _, _, _]) (by rfl) ?_
        refine r_goto (tgt := 11) dX6_sumBy_33 (by decide) ?_
        exact ih (k + 1) _ (by omega) (by omega) (by
          rw [show (k + 1).toNat = k.toNat + 1 by omega]
          unfold suM
          rw [← hm0]) (by omega)
  refine r_aload_n dX6_sumBy_0 rfl (by rfl) ?_
  refine r_iload_n dX6_sumBy_1 rfl (by rfl) ?_
  refine r_iload_n dX6_sumBy_2 rfl (by rfl) ?_
  refine r_callV2 (ct_X6_reads (by first | exact hJ | exact hR.1 | exact hR.2 | omega) _ _ (by first | exact hJ | exact hR.1 | exact hR.2 | omega) (by first | exact hJ | exact hR.1 | exact hR.2 | omega) (by first | exact hJ | exact hR.1 | exact hR.2 | omega) (by first | exact hJ | exact hR.1 | exact hR.2 | omega) (by first | exact hJ | exact hR.1 | exact hR.2 | omega) (by first | exact hJ | exact hR.1 | exact hR.2 | omega)) fX6_reads qX6_114 dX6_sumBy_3 KD_110 (by decide) ⟨Nat.zero_le _, Nat.zero_le _⟩ (Nat.le_of_ble_eq_true rfl) ?_
  refine r_iconst dX6_sumBy_6 ?_
  refine r_istore_n dX6_sumBy_7 rfl (Nat.le_of_ble_eq_true rfl) (L' := [_, _, _, _, _]) (by rfl) ?_
  refine r_iconst dX6_sumBy_8 ?_
  refine r_istore dX6_sumBy_9 (Nat.le_of_ble_eq_true rfl) (L' := [_, _, _, _, _]) (by rfl) ?_
  exact cut_11 9 0 0 (by omega) (by omega) rfl (by omega)

set_option maxRecDepth 100000 in
set_option maxHeartbeats 4000000 in
theorem ct_X6_shapeOf {l : Launch} {G : GG} {π : Nat → Option Nat} {σ τ : ST} (hJ : MJ σ) (s : Int) (s0 : 0 ≤ s) (s1 : s < σ 111 0) (w : Int) (w0 : 0 ≤ w) (w1 : w ≤ 5) : Ct l G mX6_shapeOf (2, 0, 0) [.ref 110, .int (iI s), .int (iI w)] 117 KD σ τ (RHO π) (KQ (some (.int (iI (tsM σ s w)))) 117 KD σ τ (RHO π)) := by
  have hz := hJ.sz
  have hmk := hJ.mk
  have hro := hJ.ro
  have hww := hJ.wd s s0 s1
  refine ct_intro (own := "ShapedRowsModel") rfl (by decide +kernel) (Nat.le_of_ble_eq_true rfl) (L := _) rfl ?_
  have cut_5 : ∀ (N : Nat) (k m : Int), (0 ≤ k) → (k ≤ gM σ s 0) → (m = mkM σ s k.toNat) → gM σ s 0 - k < (N : Int) → WP l G "ShapedRowsModel" mX6_shapeOf (2, 0, 0) (KQ (some (.int (iI (tsM σ s w)))) 117 KD σ τ (RHO π)) noX 117 5 [some (.ref 110), some (.int (iI s)), some (.int (iI w)), some (.int (iI m)), some (.int (iI k))] [] 117 KD σ τ (RHO π) 0 0 := by
    intro N
    induction N with
    | zero => intro k m k0 k1 hm0 hm; exact absurd hm (by omega)
    | succ N ih =>
      intro k m k0 k1 hm0 hm
      refine r_iload dX6_shapeOf_5 (by rfl) ?_
      refine r_aload_n dX6_shapeOf_7 rfl (by rfl) ?_
      refine r_iload_n dX6_shapeOf_8 rfl (by rfl) ?_
      refine r_iconst dX6_shapeOf_9 ?_
      refine r_callV2 (ct_X6_get _ _ (by first | exact hJ | omega | (unfold inR; omega)) (by first | exact hJ | omega | (unfold inR; omega))) fX6_get qX6_36 dX6_shapeOf_10 KD_110 (by decide) ⟨Nat.zero_le _, Nat.zero_le _⟩ (Nat.le_of_ble_eq_true rfl) ?_
      refine r_icmp_ge (tgt := 37) dX6_shapeOf_13 (by decide) (by unfold inR; omega) (by unfold inR; omega) (fun c_1 => ?_) (fun c_1 => ?_)
      · refine r_iload_n dX6_shapeOf_37 rfl (by rfl) ?_
        rcases (show w = 0 ∨ w = 1 ∨ w = 2 ∨ w = 3 ∨ w = 4 ∨ (w < 0 ∨ 4 < w) by omega) with t_2 | t_2 | t_2 | t_2 | t_2 | t_2
        · refine r_tsw (tgt := 72) (a := w) dX6_shapeOf_38 (by unfold inR; omega) (by omega) (by omega) (by rw [t_2]; rfl) (by decide) ?_
          refine r_aload_n dX6_shapeOf_72 rfl (by rfl) ?_
          refine r_iload_n dX6_shapeOf_73 rfl (by rfl) ?_
          refine r_iconst dX6_shapeOf_74 ?_
          refine r_callV2 (ct_X6_get _ _ (by first | exact hJ | omega | (unfold inR; omega)) (by first | exact hJ | omega | (unfold inR; omega))) fX6_get qX6_36 dX6_shapeOf_75 KD_110 (by decide) ⟨Nat.zero_le _, Nat.zero_le _⟩ (Nat.le_of_ble_eq_true rfl) ?_
          exact r_ret_i dX6_shapeOf_78 rfl ⟨Nat.zero_le _, Nat.zero_le _⟩ (by unfold tsM; first | (rw [if_neg (show ¬ w = 0 by omega), if_neg (show ¬ w = 1 by omega), if_neg (show ¬ w = 2 by omega), if_neg (show ¬ w = 3 by omega), if_pos (show w = 4 by omega)]; first | (rw [if_pos (by assumption)]; done) | (rw [if_neg (by omega)]; done)) | (rw [if_neg (show ¬ w = 0 by omega), if_neg (show ¬ w = 1 by omega), if_neg (show ¬ w = 2 by omega), if_neg (show ¬ w = 3 by omega), if_neg (show ¬ w = 4 by omega), hm0, show k.toNat = (gM σ s 0).toNat by omega]; done) | (rw [if_pos (show w = 0 by omega)]; done) | (rw [if_neg (show ¬ w = 0 by omega), if_pos (show w = 1 by omega)]; done) | (rw [if_neg (show ¬ w = 0 by omega), if_neg (show ¬ w = 1 by omega), if_pos (show w = 2 by omega)]; done) | (rw [if_neg (show ¬ w = 0 by omega), if_neg (show ¬ w = 1 by omega), if_neg (show ¬ w = 2 by omega), if_pos (show w = 3 by omega)]; done) | (rw [if_neg (show ¬ w = 0 by omega), if_neg (show ¬ w = 1 by omega), if_neg (show ¬ w = 2 by omega), if_neg (show ¬ w = 3 by omega)]; done)) ⟨rfl, rfl, (by first | rfl | omega), rfl, rfl⟩
        · refine r_tsw (tgt := 79) (a := w) dX6_shapeOf_38 (by unfold inR; omega) (by omega) (by omega) (by rw [t_2]; rfl) (by decide) ?_
          refine r_aload_n dX6_shapeOf_79 rfl (by rfl) ?_
          refine r_iload_n dX6_shapeOf_80 rfl (by rfl) ?_
          refine r_bipush dX6_shapeOf_81 (by decide) ?_
          refine r_callV2 (ct_X6_get _ _ (by first | exact hJ | omega | (unfold inR; omega)) (by first | exact hJ | omega | (unfold inR; omega))) fX6_get qX6_36 dX6_shapeOf_83 KD_110 (by decide) ⟨Nat.zero_le _, Nat.zero_le _⟩ (Nat.le_of_ble_eq_true rfl) ?_
          exact r_ret_i dX6_shapeOf_86 rfl ⟨Nat.zero_le _, Nat.zero_le _⟩ (by unfold tsM; first | (rw [if_neg (show ¬ w = 0 by omega), if_neg (show ¬ w = 1 by omega), if_neg (show ¬ w = 2 by omega), if_neg (show ¬ w = 3 by omega), if_pos (show w = 4 by omega)]; first | (rw [if_pos (by assumption)]; done) | (rw [if_neg (by omega)]; done)) | (rw [if_neg (show ¬ w = 0 by omega), if_neg (show ¬ w = 1 by omega), if_neg (show ¬ w = 2 by omega), if_neg (show ¬ w = 3 by omega), if_neg (show ¬ w = 4 by omega), hm0, show k.toNat = (gM σ s 0).toNat by omega]; done) | (rw [if_pos (show w = 0 by omega)]; done) | (rw [if_neg (show ¬ w = 0 by omega), if_pos (show w = 1 by omega)]; done) | (rw [if_neg (show ¬ w = 0 by omega), if_neg (show ¬ w = 1 by omega), if_pos (show w = 2 by omega)]; done) | (rw [if_neg (show ¬ w = 0 by omega), if_neg (show ¬ w = 1 by omega), if_neg (show ¬ w = 2 by omega), if_pos (show w = 3 by omega)]; done) | (rw [if_neg (show ¬ w = 0 by omega), if_neg (show ¬ w = 1 by omega), if_neg (show ¬ w = 2 by omega), if_neg (show ¬ w = 3 by omega)]; done)) ⟨rfl, rfl, (by first | rfl | omega), rfl, rfl⟩
        · refine r_tsw (tgt := 87) (a := w) dX6_shapeOf_38 (by unfold inR; omega) (by omega) (by omega) (by rw [t_2]; rfl) (by decide) ?_
          refine r_aload_n dX6_shapeOf_87 rfl (by rfl) ?_
          refine r_iload_n dX6_shapeOf_88 rfl (by rfl) ?_
          refine r_callV1 (ct_X6_rowsWith (by first | exact hJ | omega | (unfold inR; omega)) _ (by first | exact hJ | omega | (unfold inR; omega))) fX6_rowsWith qX6_201 dX6_shapeOf_89 KD_110 (by decide) ⟨Nat.zero_le _, Nat.zero_le _⟩ (Nat.le_of_ble_eq_true rfl) ?_
          exact r_ret_i dX6_shapeOf_92 rfl ⟨Nat.zero_le _, Nat.zero_le _⟩ (by unfold tsM; first | (rw [if_neg (show ¬ w = 0 by omega), if_neg (show ¬ w = 1 by omega), if_neg (show ¬ w = 2 by omega), if_neg (show ¬ w = 3 by omega), if_pos (show w = 4 by omega)]; first | (rw [if_pos (by assumption)]; done) | (rw [if_neg (by omega)]; done)) | (rw [if_neg (show ¬ w = 0 by omega), if_neg (show ¬ w = 1 by omega), if_neg (show ¬ w = 2 by omega), if_neg (show ¬ w = 3 by omega), if_neg (show ¬ w = 4 by omega), hm0, show k.toNat = (gM σ s 0).toNat by omega]; done) | (rw [if_pos (show w = 0 by omega)]; done) | (rw [if_neg (show ¬ w = 0 by omega), if_pos (show w = 1 by omega)]; done) | (rw [if_neg (show ¬ w = 0 by omega), if_neg (show ¬ w = 1 by omega), if_pos (show w = 2 by omega)]; done) | (rw [if_neg (show ¬ w = 0 by omega), if_neg (show ¬ w = 1 by omega), if_neg (show ¬ w = 2 by omega), if_pos (show w = 3 by omega)]; done) | (rw [if_neg (show ¬ w = 0 by omega), if_neg (show ¬ w = 1 by omega), if_neg (show ¬ w = 2 by omega), if_neg (show ¬ w = 3 by omega)]; done)) ⟨rfl, rfl, (by first | rfl | omega), rfl, rfl⟩
        · refine r_tsw (tgt := 93) (a := w) dX6_shapeOf_38 (by unfold inR; omega) (by omega) (by omega) (by rw [t_2]; rfl) (by decide) ?_
          refine r_aload_n dX6_shapeOf_93 rfl (by rfl) ?_
          refine r_iload_n dX6_shapeOf_94 rfl (by rfl) ?_
          refine r_callV1 (ct_X6_readersWith (by first | exact hJ | omega | (unfold inR; omega)) _ (by first | exact hJ | omega | (unfold inR; omega))) fX6_readersWith qX6_204 dX6_shapeOf_95 KD_110 (by decide) ⟨Nat.zero_le _, Nat.zero_le _⟩ (Nat.le_of_ble_eq_true rfl) ?_
          exact r_ret_i dX6_shapeOf_98 rfl ⟨Nat.zero_le _, Nat.zero_le _⟩ (by unfold tsM; first | (rw [if_neg (show ¬ w = 0 by omega), if_neg (show ¬ w = 1 by omega), if_neg (show ¬ w = 2 by omega), if_neg (show ¬ w = 3 by omega), if_pos (show w = 4 by omega)]; first | (rw [if_pos (by assumption)]; done) | (rw [if_neg (by omega)]; done)) | (rw [if_neg (show ¬ w = 0 by omega), if_neg (show ¬ w = 1 by omega), if_neg (show ¬ w = 2 by omega), if_neg (show ¬ w = 3 by omega), if_neg (show ¬ w = 4 by omega), hm0, show k.toNat = (gM σ s 0).toNat by omega]; done) | (rw [if_pos (show w = 0 by omega)]; done) | (rw [if_neg (show ¬ w = 0 by omega), if_pos (show w = 1 by omega)]; done) | (rw [if_neg (show ¬ w = 0 by omega), if_neg (show ¬ w = 1 by omega), if_pos (show w = 2 by omega)]; done) | (rw [if_neg (show ¬ w = 0 by omega), if_neg (show ¬ w = 1 by omega), if_neg (show ¬ w = 2 by omega), if_pos (show w = 3 by omega)]; done) | (rw [if_neg (show ¬ w = 0 by omega), if_neg (show ¬ w = 1 by omega), if_neg (show ¬ w = 2 by omega), if_neg (show ¬ w = 3 by omega)]; done)) ⟨rfl, rfl, (by first | rfl | omega), rfl, rfl⟩
        · refine r_tsw (tgt := 99) (a := w) dX6_shapeOf_38 (by unfold inR; omega) (by omega) (by omega) (by rw [t_2]; rfl) (by decide) ?_
          refine r_iload_n dX6_shapeOf_99 rfl (by rfl) ?_
          refine r_aload_n dX6_shapeOf_100 rfl (by rfl) ?_
          refine r_get_r kX6_7 dX6_shapeOf_101 KD_110 (RHO_110_1 _) ?_
          refine r_iconst dX6_shapeOf_104 ?_
          refine r_iaload (k := 1) dX6_shapeOf_105 KD_111 (by omega) (by omega) (by decide) ?_
          refine r_icmp_ge (tgt := 113) dX6_shapeOf_106 (by decide) (by unfold inR; omega) (by unfold inR; omega) (fun c_3 => ?_) (fun c_3 => ?_)
          · refine r_iconst dX6_shapeOf_113 ?_
            exact r_ret_i dX6_shapeOf_114 rfl ⟨Nat.zero_le _, Nat.zero_le _⟩ (by unfold tsM; first | (rw [if_neg (show ¬ w = 0 by omega), if_neg (show ¬ w = 1 by omega), if_neg (show ¬ w = 2 by omega), if_neg (show ¬ w = 3 by omega), if_pos (show w = 4 by omega)]; first | (rw [if_pos (by assumption)]; done) | (rw [if_neg (by omega)]; done)) | (rw [if_neg (show ¬ w = 0 by omega), if_neg (show ¬ w = 1 by omega), if_neg (show ¬ w = 2 by omega), if_neg (show ¬ w = 3 by omega), if_neg (show ¬ w = 4 by omega), hm0, show k.toNat = (gM σ s 0).toNat by omega]; done) | (rw [if_pos (show w = 0 by omega)]; done) | (rw [if_neg (show ¬ w = 0 by omega), if_pos (show w = 1 by omega)]; done) | (rw [if_neg (show ¬ w = 0 by omega), if_neg (show ¬ w = 1 by omega), if_pos (show w = 2 by omega)]; done) | (rw [if_neg (show ¬ w = 0 by omega), if_neg (show ¬ w = 1 by omega), if_neg (show ¬ w = 2 by omega), if_pos (show w = 3 by omega)]; done) | (rw [if_neg (show ¬ w = 0 by omega), if_neg (show ¬ w = 1 by omega), if_neg (show ¬ w = 2 by omega), if_neg (show ¬ w = 3 by omega)]; done)) ⟨rfl, rfl, (by first | rfl | omega), rfl, rfl⟩
          · refine r_iconst dX6_shapeOf_109 ?_
            refine r_goto (tgt := 114) dX6_shapeOf_110 (by decide) ?_
            exact r_ret_i dX6_shapeOf_114 rfl ⟨Nat.zero_le _, Nat.zero_le _⟩ (by unfold tsM; first | (rw [if_neg (show ¬ w = 0 by omega), if_neg (show ¬ w = 1 by omega), if_neg (show ¬ w = 2 by omega), if_neg (show ¬ w = 3 by omega), if_pos (show w = 4 by omega)]; first | (rw [if_pos (by assumption)]; done) | (rw [if_neg (by omega)]; done)) | (rw [if_neg (show ¬ w = 0 by omega), if_neg (show ¬ w = 1 by omega), if_neg (show ¬ w = 2 by omega), if_neg (show ¬ w = 3 by omega), if_neg (show ¬ w = 4 by omega), hm0, show k.toNat = (gM σ s 0).toNat by omega]; done) | (rw [if_pos (show w = 0 by omega)]; done) | (rw [if_neg (show ¬ w = 0 by omega), if_pos (show w = 1 by omega)]; done) | (rw [if_neg (show ¬ w = 0 by omega), if_neg (show ¬ w = 1 by omega), if_pos (show w = 2 by omega)]; done) | (rw [if_neg (show ¬ w = 0 by omega), if_neg (show ¬ w = 1 by omega), if_neg (show ¬ w = 2 by omega), if_pos (show w = 3 by omega)]; done) | (rw [if_neg (show ¬ w = 0 by omega), if_neg (show ¬ w = 1 by omega), if_neg (show ¬ w = 2 by omega), if_neg (show ¬ w = 3 by omega)]; done)) ⟨rfl, rfl, (by first | rfl | omega), rfl, rfl⟩
        · refine r_tsd (tgt := 115) (a := w) dX6_shapeOf_38 (by unfold inR; omega) t_2 (by decide) ?_
          refine r_iload_n dX6_shapeOf_115 rfl (by rfl) ?_
          exact r_ret_i dX6_shapeOf_116 rfl ⟨Nat.zero_le _, Nat.zero_le _⟩ (by unfold tsM; first | (rw [if_neg (show ¬ w = 0 by omega), if_neg (show ¬ w = 1 by omega), if_neg (show ¬ w = 2 by omega), if_neg (show ¬ w = 3 by omega), if_pos (show w = 4 by omega)]; first | (rw [if_pos (by assumption)]; done) | (rw [if_neg (by omega)]; done)) | (rw [if_neg (show ¬ w = 0 by omega), if_neg (show ¬ w = 1 by omega), if_neg (show ¬ w = 2 by omega), if_neg (show ¬ w = 3 by omega), if_neg (show ¬ w = 4 by omega), hm0, show k.toNat = (gM σ s 0).toNat by omega]; done) | (rw [if_pos (show w = 0 by omega)]; done) | (rw [if_neg (show ¬ w = 0 by omega), if_pos (show w = 1 by omega)]; done) | (rw [if_neg (show ¬ w = 0 by omega), if_neg (show ¬ w = 1 by omega), if_pos (show w = 2 by omega)]; done) | (rw [if_neg (show ¬ w = 0 by omega), if_neg (show ¬ w = 1 by omega), if_neg (show ¬ w = 2 by omega), if_pos (show w = 3 by omega)]; done) | (rw [if_neg (show ¬ w = 0 by omega), if_neg (show ¬ w = 1 by omega), if_neg (show ¬ w = 2 by omega), if_neg (show ¬ w = 3 by omega)]; done)) ⟨rfl, rfl, (by first | rfl | omega), rfl, rfl⟩
      · refine r_iload_n dX6_shapeOf_16 rfl (by rfl) ?_
        refine r_iconst dX6_shapeOf_17 ?_
        refine r_aload_n dX6_shapeOf_18 rfl (by rfl) ?_
        refine r_iload_n dX6_shapeOf_19 rfl (by rfl) ?_
        refine r_bipush dX6_shapeOf_20 (by decide) ?_
        refine r_iload dX6_shapeOf_22 (by rfl) ?_
        refine r_iadd dX6_shapeOf_24 ?_
        refine r_callV2 (ct_X6_get _ _ (by first | exact hJ | omega | (unfold inR; omega)) (by first | exact hJ | omega | (unfold inR; omega))) fX6_get qX6_36 dX6_shapeOf_25 KD_110 (by decide) ⟨Nat.zero_le _, Nat.zero_le _⟩ (Nat.le_of_ble_eq_true rfl) ?_
        refine r_ishl dX6_shapeOf_28 ?_
        refine r_ior dX6_shapeOf_29 ?_
        refine r_istore_n dX6_shapeOf_30 rfl (Nat.le_of_ble_eq_true rfl) (L' := [_, _, _, _, _]) (by rfl) ?_
        refine r_iinc dX6_shapeOf_31 (by rfl) (Nat.le_of_ble_eq_true rfl) (L' := [_, _, _, _, _]) (by rfl) ?_
        refine r_goto (tgt := 5) dX6_shapeOf_34 (by decide) ?_
        exact ih (k + 1) _ (by omega) (by omega) (by
          rw [show (k + 1).toNat = k.toNat + 1 by omega]
          unfold mkM
          rw [← hm0, show ((k.toNat : Nat) : Int) = k by omega]) (by omega)
  refine r_iconst dX6_shapeOf_0 ?_
  refine r_istore_n dX6_shapeOf_1 rfl (Nat.le_of_ble_eq_true rfl) (L' := [_, _, _, _, _]) (by rfl) ?_
  refine r_iconst dX6_shapeOf_2 ?_
  refine r_istore dX6_shapeOf_3 (Nat.le_of_ble_eq_true rfl) (L' := [_, _, _, _, _]) (by rfl) ?_
  exact cut_5 9 0 0 (by omega) (by omega) rfl (by omega)
