set_option maxRecDepth 100000 in
set_option maxHeartbeats 4000000 in
theorem ct_X5_mixedShapes {l : Launch} {G : GG} {π : Nat → Option Nat} {σ τ : ST} (hI : CI σ) (x : Int) : Ct l G mX5_mixedShapes (4, 0, 0) [.ref 0, .long (jJ x)] 110 KD σ τ (RHO π) (KQ (some (.long (jJ (digS σ x (σ 2 0).toNat)))) 110 KD σ τ (RHO π)) := by
  have hz := hI.sz
  refine ct_intro (own := "ShapedRows") rfl (by decide +kernel) (Nat.le_of_ble_eq_true rfl) (L := _) rfl ?_
  have cut_76 : ∀ (N : Nat) (s q w h h0 : Int), (0 ≤ s) → (s < σ 2 0) → (0 ≤ q) → (q < σ 7 s.toNat) → (0 ≤ w) → (w ≤ 3) → (h = foldM h0 (fun w => csP σ s.toNat q (w : Int)) w.toNat) → (WP l G "ShapedRows" mX5_mixedShapes (4, 0, 0) (KQ (some (.long (jJ (digS σ x (σ 2 0).toNat)))) 110 KD σ τ (RHO π)) noX 110 56 [some (.ref 0), some (.long (jJ (x))), none, some (.long (jJ (foldM h0 (fun w => csP σ s.toNat q (w : Int)) 3))), none, some (.int (iI s)), some (.int (iI (q + 1))), none] [] 110 KD σ τ (RHO π) 0 0) → 3 - w < (N : Int) → WP l G "ShapedRows" mX5_mixedShapes (4, 0, 0) (KQ (some (.long (jJ (digS σ x (σ 2 0).toNat)))) 110 KD σ τ (RHO π)) noX 110 76 [some (.ref 0), some (.long (jJ (x))), none, some (.long (jJ (h))), none, some (.int (iI s)), some (.int (iI q)), some (.int (iI w))] [] 110 KD σ τ (RHO π) 0 0 := by
    intro N
    induction N with
    | zero => intro s q w h h0 s0 s1 q0 q1 w0 w1 hh kont hm; exact absurd hm (by omega)
    | succ N ih =>
      intro s q w h h0 s0 s1 q0 q1 w0 w1 hh kont hm
      have hwd := hI.wd s.toNat
      have ew : ((w.toNat : Nat) : Int) = w := by omega
      refine r_iload dX5_mixedShapes_76 (by rfl) ?_
      refine r_iconst dX5_mixedShapes_78 ?_
      refine r_icmp_ge (tgt := 110) dX5_mixedShapes_79 (by decide) (by unfold inR; omega) (by unfold inR; omega) (fun c_1 => ?_) (fun c_1 => ?_)
      · refine r_iinc dX5_mixedShapes_110 (by rfl) (Nat.le_of_ble_eq_true rfl) (L' := [_, _, _, _, _, _, _, _]) (by rfl) ?_
        refine r_goto (tgt := 56) dX5_mixedShapes_113 (by decide) ?_
        refine WP.wk (L' := [_, _, none, _, none, _, _, none]) (leL_s (leL_s (leL_n (leL_s (leL_n (leL_s (leL_s (leL_n leL_0)))))))) ?_
        first | (rw [show w = 3 by omega] at hh; rw [hh]; exact kont) | (rw [show w = 6 by omega] at hh; rw [hh]; exact kont)
      · refine r_lload_n dX5_mixedShapes_82 rfl (by rfl) ?_
        refine r_aload_n dX5_mixedShapes_83 rfl (by rfl) ?_
        refine r_get_r kX5_10 dX5_mixedShapes_84 KD_0 (RHO_0_0 _) ?_
        refine r_get_r kX5_44 dX5_mixedShapes_87 KD_1 (RHO_1_0 _) ?_
        refine r_iload dX5_mixedShapes_90 (by rfl) ?_
        refine r_iload dX5_mixedShapes_92 (by rfl) ?_
        refine r_iload dX5_mixedShapes_94 (by rfl) ?_
        refine r_callV3 (ct_X2_columnProperty hI _ (by first | omega | (unfold inR; omega)) (by first | omega | (unfold inR; omega)) _ (by first | omega | (unfold inR; omega)) (by first | omega | (unfold inR; omega)) _ (by first | omega | (unfold inR; omega)) (by first | omega | (unfold inR; omega))) fX2_columnProperty qX5_221 dX5_mixedShapes_96 KD_2 (by decide) ⟨Nat.zero_le _, Nat.zero_le _⟩ (Nat.le_of_ble_eq_true rfl) ?_
        refine r_i2lw dX5_mixedShapes_99 ?_
        refine r_callS2 (ct_X5_mixed _ _) fX5_mixed qX5_250 dX5_mixedShapes_100 (by decide) ⟨Nat.zero_le _, Nat.zero_le _⟩ (Nat.le_of_ble_eq_true rfl) ?_
        refine r_lstore_n dX5_mixedShapes_103 rfl (Nat.le_of_ble_eq_true rfl) (Nat.le_of_ble_eq_true rfl) (L' := [_, _, _, _, _, _, _, _]) (by rfl) ?_
        refine r_iinc dX5_mixedShapes_104 (by rfl) (Nat.le_of_ble_eq_true rfl) (L' := [_, _, _, _, _, _, _, _]) (by rfl) ?_
        refine r_goto (tgt := 76) dX5_mixedShapes_107 (by decide) ?_
        exact ih s q (w + 1) _ h0 s0 s1 q0 q1 (by omega) (by omega) (by
          rw [show (w + 1).toNat = w.toNat + 1 by omega]
          unfold foldM
          rw [← hh, ew]
          rfl) kont (by omega)
  have cut_56 : ∀ (N : Nat) (s q h h0 : Int), (0 ≤ s) → (s < σ 2 0) → (0 ≤ q) → (q ≤ σ 7 s.toNat) → (h = digC σ s.toNat h0 q.toNat) → (WP l G "ShapedRows" mX5_mixedShapes (4, 0, 0) (KQ (some (.long (jJ (digS σ x (σ 2 0).toNat)))) 110 KD σ τ (RHO π)) noX 110 5 [some (.ref 0), some (.long (jJ (x))), none, some (.long (jJ (digC σ s.toNat h0 (σ 7 s.toNat).toNat))), none, some (.int (iI (s + 1))), none, none] [] 110 KD σ τ (RHO π) 0 0) → σ 7 s.toNat - q < (N : Int) → WP l G "ShapedRows" mX5_mixedShapes (4, 0, 0) (KQ (some (.long (jJ (digS σ x (σ 2 0).toNat)))) 110 KD σ τ (RHO π)) noX 110 56 [some (.ref 0), some (.long (jJ (x))), none, some (.long (jJ (h))), none, some (.int (iI s)), some (.int (iI q)), none] [] 110 KD σ τ (RHO π) 0 0 := by
    intro N
    induction N with
    | zero => intro s q h h0 s0 s1 q0 q1 hh kont hm; exact absurd hm (by omega)
    | succ N ih =>
      intro s q h h0 s0 s1 q0 q1 hh kont hm
      have hwd := hI.wd s.toNat
      have eq : ((q.toNat : Nat) : Int) = q := by omega
      refine r_iload dX5_mixedShapes_56 (by rfl) ?_
      refine r_aload_n dX5_mixedShapes_58 rfl (by rfl) ?_
      refine r_get_r kX5_10 dX5_mixedShapes_59 KD_0 (RHO_0_0 _) ?_
      refine r_get_r kX5_44 dX5_mixedShapes_62 KD_1 (RHO_1_0 _) ?_
      refine r_iload dX5_mixedShapes_65 (by rfl) ?_
      refine r_callV1 (ct_X2_width _ (by first | omega | (unfold inR; omega)) (by first | omega | (unfold inR; omega))) fX2_width qX5_286 dX5_mixedShapes_67 KD_2 (by decide) ⟨Nat.zero_le _, Nat.zero_le _⟩ (Nat.le_of_ble_eq_true rfl) ?_
      refine r_icmp_ge (tgt := 116) dX5_mixedShapes_70 (by decide) (by unfold inR; omega) (by unfold inR; omega) (fun c_2 => ?_) (fun c_2 => ?_)
      · refine r_iinc dX5_mixedShapes_116 (by rfl) (Nat.le_of_ble_eq_true rfl) (L' := [_, _, _, _, _, _, _, _]) (by rfl) ?_
        refine r_goto (tgt := 5) dX5_mixedShapes_119 (by decide) ?_
        refine WP.wk (L' := [_, _, none, _, none, _, none, none]) (leL_s (leL_s (leL_n (leL_s (leL_n (leL_s (leL_n (leL_n leL_0)))))))) ?_
        first | (exact cut_5 20 0 _ (by omega) (by omega) rfl (by omega)) | (rw [hh, show q.toNat = (σ 7 s.toNat).toNat by omega]; exact kont)
      · refine r_iconst dX5_mixedShapes_73 ?_
        refine r_istore dX5_mixedShapes_74 (Nat.le_of_ble_eq_true rfl) (L' := [_, _, _, _, _, _, _, _]) (by rfl) ?_
        exact cut_76 9 s q 0 _ _ (by omega) (by omega) (by omega) (by omega) (by omega) (by omega) rfl (by
        have e := ih s (q + 1) (digC σ s.toNat h0 (q + 1).toNat) h0 s0 s1 (by omega) (by omega) rfl kont (by omega)
        rw [show (q + 1).toNat = q.toNat + 1 by omega] at e
        unfold digC at e
        rw [eq, ← hh] at e
        exact e) (by omega)
  have cut_23 : ∀ (N : Nat) (s w h h0 : Int), (0 ≤ s) → (s < σ 2 0) → (0 ≤ w) → (w ≤ 6) → (h = foldM h0 (fun w => shP σ s.toNat (w : Int)) w.toNat) → (WP l G "ShapedRows" mX5_mixedShapes (4, 0, 0) (KQ (some (.long (jJ (digS σ x (σ 2 0).toNat)))) 110 KD σ τ (RHO π)) noX 110 56 [some (.ref 0), some (.long (jJ (x))), none, some (.long (jJ (foldM h0 (fun w => shP σ s.toNat (w : Int)) 6))), none, some (.int (iI s)), some (.int (iI 0)), none] [] 110 KD σ τ (RHO π) 0 0) → 6 - w < (N : Int) → WP l G "ShapedRows" mX5_mixedShapes (4, 0, 0) (KQ (some (.long (jJ (digS σ x (σ 2 0).toNat)))) 110 KD σ τ (RHO π)) noX 110 23 [some (.ref 0), some (.long (jJ (x))), none, some (.long (jJ (h))), none, some (.int (iI s)), some (.int (iI w)), none] [] 110 KD σ τ (RHO π) 0 0 := by
    intro N
    induction N with
    | zero => intro s w h h0 s0 s1 w0 w1 hh kont hm; exact absurd hm (by omega)
    | succ N ih =>
      intro s w h h0 s0 s1 w0 w1 hh kont hm
      have ew : ((w.toNat : Nat) : Int) = w := by omega
      refine r_iload dX5_mixedShapes_23 (by rfl) ?_
      refine r_bipush dX5_mixedShapes_25 (by decide) ?_
      refine r_icmp_ge (tgt := 53) dX5_mixedShapes_27 (by decide) (by unfold inR; omega) (by unfold inR; omega) (fun c_3 => ?_) (fun c_3 => ?_)
      · refine r_iconst dX5_mixedShapes_53 ?_
        refine r_istore dX5_mixedShapes_54 (Nat.le_of_ble_eq_true rfl) (L' := [_, _, _, _, _, _, _, _]) (by rfl) ?_
        first | (rw [show w = 3 by omega] at hh; rw [hh]; exact kont) | (rw [show w = 6 by omega] at hh; rw [hh]; exact kont)
      · refine r_lload_n dX5_mixedShapes_30 rfl (by rfl) ?_
        refine r_aload_n dX5_mixedShapes_31 rfl (by rfl) ?_
        refine r_get_r kX5_10 dX5_mixedShapes_32 KD_0 (RHO_0_0 _) ?_
        refine r_iload dX5_mixedShapes_35 (by rfl) ?_
        refine r_iload dX5_mixedShapes_37 (by rfl) ?_
        refine r_callV2 (ct_X3_shapeProperty hI _ (by first | omega | (unfold inR; omega)) (by first | omega | (unfold inR; omega)) _ (by first | omega | (unfold inR; omega)) (by first | omega | (unfold inR; omega))) fX3_shapeProperty qX5_226 dX5_mixedShapes_39 KD_1 (by decide) ⟨Nat.zero_le _, Nat.zero_le _⟩ (Nat.le_of_ble_eq_true rfl) ?_
        refine r_i2lw dX5_mixedShapes_42 ?_
        refine r_callS2 (ct_X5_mixed _ _) fX5_mixed qX5_250 dX5_mixedShapes_43 (by decide) ⟨Nat.zero_le _, Nat.zero_le _⟩ (Nat.le_of_ble_eq_true rfl) ?_
        refine r_lstore_n dX5_mixedShapes_46 rfl (Nat.le_of_ble_eq_true rfl) (Nat.le_of_ble_eq_true rfl) (L' := [_, _, _, _, _, _, _, _]) (by rfl) ?_
        refine r_iinc dX5_mixedShapes_47 (by rfl) (Nat.le_of_ble_eq_true rfl) (L' := [_, _, _, _, _, _, _, _]) (by rfl) ?_
        refine r_goto (tgt := 23) dX5_mixedShapes_50 (by decide) ?_
        exact ih s (w + 1) _ h0 s0 s1 (by omega) (by omega) (by
          rw [show (w + 1).toNat = w.toNat + 1 by omega]
          unfold foldM
          rw [← hh, ew]) kont (by omega)
  have cut_5 : ∀ (N : Nat) (s h : Int), (0 ≤ s) → (s ≤ σ 2 0) → (h = digS σ x s.toNat) → σ 2 0 - s < (N : Int) → WP l G "ShapedRows" mX5_mixedShapes (4, 0, 0) (KQ (some (.long (jJ (digS σ x (σ 2 0).toNat)))) 110 KD σ τ (RHO π)) noX 110 5 [some (.ref 0), some (.long (jJ (x))), none, some (.long (jJ (h))), none, some (.int (iI s)), none, none] [] 110 KD σ τ (RHO π) 0 0 := by
    intro N
    induction N with
    | zero => intro s h s0 s1 hh hm; exact absurd hm (by omega)
    | succ N ih =>
      intro s h s0 s1 hh hm
      refine r_iload dX5_mixedShapes_5 (by rfl) ?_
      refine r_aload_n dX5_mixedShapes_7 rfl (by rfl) ?_
      refine r_get_r kX5_10 dX5_mixedShapes_8 KD_0 (RHO_0_0 _) ?_
      refine r_get_r kX5_44 dX5_mixedShapes_11 KD_1 (RHO_1_0 _) ?_
      refine r_callV0 ct_X2_size fX2_size qX5_273 dX5_mixedShapes_14 KD_2 (by decide) ⟨Nat.zero_le _, Nat.zero_le _⟩ (Nat.le_of_ble_eq_true rfl) ?_
      refine r_icmp_ge (tgt := 122) dX5_mixedShapes_17 (by decide) (by unfold inR; omega) (by unfold inR; omega) (fun c_4 => ?_) (fun c_4 => ?_)
      · refine r_lload_n dX5_mixedShapes_122 rfl (by rfl) ?_
        exact r_ret_l dX5_mixedShapes_123 rfl ⟨Nat.zero_le _, Nat.zero_le _⟩ (by rw [hh, show s.toNat = (σ 2 0).toNat by omega]) ⟨rfl, rfl, (by first | rfl | omega), rfl, rfl⟩
      · refine r_iconst dX5_mixedShapes_20 ?_
        refine r_istore dX5_mixedShapes_21 (Nat.le_of_ble_eq_true rfl) (L' := [_, _, _, _, _, _, _, _]) (by rfl) ?_
        have k56 := cut_56 20 s 0 _ (foldM h (fun w => shP σ s.toNat (w : Int)) 6) s0 (by omega) (by omega) (by have := hI.wd s.toNat; omega) rfl (by
          have e := ih (s + 1) (digS σ x (s + 1).toNat) (by omega) (by omega) rfl (by omega)
          rw [show (s + 1).toNat = s.toNat + 1 by omega] at e
          rw [show digS σ x (s.toNat + 1) = digC σ s.toNat (foldM (digS σ x s.toNat) (fun w => shP σ s.toNat (w : Int)) 6) (σ 7 s.toNat).toNat from rfl, ← hh] at e
          exact e) (by have := hI.wd s.toNat; omega)
        exact cut_23 9 s 0 _ h s0 (by omega) (by omega) (by omega) rfl k56 (by omega)
  refine r_lload_n dX5_mixedShapes_0 rfl (by rfl) ?_
  refine r_lstore_n dX5_mixedShapes_1 rfl (Nat.le_of_ble_eq_true rfl) (Nat.le_of_ble_eq_true rfl) (L' := [_, _, _, _, _, _, _, _]) (by rfl) ?_
  refine r_iconst dX5_mixedShapes_2 ?_
  refine r_istore dX5_mixedShapes_3 (Nat.le_of_ble_eq_true rfl) (L' := [_, _, _, _, _, _, _, _]) (by rfl) ?_
  first | (exact cut_5 20 0 _ (by omega) (by omega) rfl (by omega)) | (rw [hh, show q.toNat = (σ 7 s.toNat).toNat by omega]; exact kont)

set_option maxRecDepth 100000 in
set_option maxHeartbeats 4000000 in
theorem ct_X5_mixedRow {l : Launch} {G : GG} {π : Nat → Option Nat} {σ τ : ST} (hI : CI σ) (x r : Int) (h0 : 0 ≤ r) (h1 : r < 12) : Ct l G mX5_mixedRow (5, 0, 0) [.ref 0, .long (jJ x), .int (iI r)] 110 KD σ τ (RHO π) (KSP (some (.long (jJ (digR σ r.toNat x (σ 2 0 - σ 2 1).toNat)))) σ τ π (fun _ => True)) := by
  have hz := hI.sz
  have hmk := hI.mk
  have ho := hI.rs r.toNat
  refine ct_intro (own := "ShapedRows") rfl (by decide +kernel) (Nat.le_of_ble_eq_true rfl) (L := _) rfl ?_
  have cut_79 : ∀ (N : Nat) (s q h hs : Int) (f : Nat → Int), (σ 2 1 ≤ s) → (s < σ 2 0) → (0 ≤ q) → (q ≤ σ 7 s.toNat) → (h = foldM hs (fun q => vR σ r.toNat s.toNat (σ 8 (8 * s.toNat + q)).toNat) q.toNat) → (∀ j, j < 12 → f j = vR σ r.toNat s.toNat j) → (∀ g : Nat → Int, WP l G "ShapedRows" mX5_mixedRow (5, 0, 0) (KSP (some (.long (jJ (digR σ r.toNat x (σ 2 0 - σ 2 1).toNat)))) σ τ π (fun _ => True)) noX 110 49 [some (.ref 0), some (.long (jJ (x))), none, some (.int (iI r)), some (.long (jJ (31 * foldM hs (fun q => vR σ r.toNat s.toNat (σ 8 (8 * s.toNat + q)).toNat) (σ 7 s.toNat).toNat + wI (lsC σ (lsV σ r.toNat s.toNat) r.toNat (σ 7 (σ 11 r.toNat).toNat).toNat)))), none, some (.int (iI (s + 1))), none, none] [] 110 KD (sr σ 15 g) τ (RHO π) 0 0) → σ 7 s.toNat - q < (N : Int) → WP l G "ShapedRows" mX5_mixedRow (5, 0, 0) (KSP (some (.long (jJ (digR σ r.toNat x (σ 2 0 - σ 2 1).toNat)))) σ τ π (fun _ => True)) noX 110 79 [some (.ref 0), some (.long (jJ (x))), none, some (.int (iI r)), some (.long (jJ (h))), none, some (.int (iI s)), some (.ref 15), some (.int (iI q))] [] 110 KD (sr σ 15 f) τ (RHO π) 0 0 := by
    intro N
    induction N with
    | zero => intro s q h hs f s0 s1 q0 q1 hh hf kont hm; exact absurd hm (by omega)
    | succ N ih =>
      intro s q h hs f s0 s1 q0 q1 hh hf kont hm
      have hwd := hI.wd s.toNat
      have hco := hI.co (8 * s.toNat + q.toNat)
      refine r_iload dX5_mixedRow_79 (by rfl) ?_
      refine r_aload_n dX5_mixedRow_81 rfl (by rfl) ?_
      refine r_get_r kX5_10 dX5_mixedRow_82 KD_0 (RHO_0_0 _) ?_
      refine r_get_r kX5_44 dX5_mixedRow_85 KD_1 (RHO_1_0 _) ?_
      refine r_iload dX5_mixedRow_88 (by rfl) ?_
      refine r_callV1 (ct_X2_width _ (by first | omega | (unfold inR; omega)) (by first | omega | (unfold inR; omega))) fX2_width qX5_286 dX5_mixedRow_90 KD_2 (by decide) ⟨Nat.zero_le _, Nat.zero_le _⟩ (Nat.le_of_ble_eq_true rfl) ?_
      try simp only [sr_2, sr_3, sr_4, sr_5, sr_6, sr_7, sr_8, sr_9, sr_10, sr_11, sr_12, sr_13, sr_14, sr_16, sr_108, sr_109, sr_110, sr_111, sr_sr, sr_row, plc_sr, pcl_sr, colL_sr, lmask_sr, cf_sr, cb_sr, vR_sr, vRd_sr, sumV_sr, cntR_sr, cntH_sr, slF_sr, lsV_sr, lsC_sr, mskF_sr, roP_sr, frS_sr, cdF_sr, digT_sr, digR_sr]
      refine r_icmp_ge (tgt := 129) dX5_mixedRow_93 (by decide) (by unfold inR; omega) (by unfold inR; omega) (fun c_1 => ?_) (fun c_1 => ?_)
      · refine r_lload dX5_mixedRow_129 (by rfl) ?_
        refine r_aload_n dX5_mixedRow_131 rfl (by rfl) ?_
        refine r_get_r kX5_10 dX5_mixedRow_132 KD_0 (RHO_0_0 _) ?_
        refine r_iload_n dX5_mixedRow_135 rfl (by rfl) ?_
        refine r_iload dX5_mixedRow_136 (by rfl) ?_
        refine r_callY2 (ct_X3_valuesLost (CI_sr hI) _ (by first | omega | (unfold inR; omega)) (by first | omega | (unfold inR; omega)) _ (by first | omega | (unfold inR; omega)) (by first | omega | (unfold inR; omega))) fX3_valuesLost qX5_235 dX5_mixedRow_138 KD_1 (by decide) ⟨Nat.zero_le _, Nat.zero_le _⟩ (Nat.le_of_ble_eq_true rfl) (fun f_2 hf_2 => ?_)
        try simp only [sr_2, sr_3, sr_4, sr_5, sr_6, sr_7, sr_8, sr_9, sr_10, sr_11, sr_12, sr_13, sr_14, sr_16, sr_108, sr_109, sr_110, sr_111, sr_sr, sr_row, plc_sr, pcl_sr, colL_sr, lmask_sr, cf_sr, cb_sr, vR_sr, vRd_sr, sumV_sr, cntR_sr, cntH_sr, slF_sr, lsV_sr, lsC_sr, mskF_sr, roP_sr, frS_sr, cdF_sr, digT_sr, digR_sr]
        refine r_i2lw dX5_mixedRow_141 ?_
        refine r_callS2 (ct_X5_mixed _ _) fX5_mixed qX5_250 dX5_mixedRow_142 (by decide) ⟨Nat.zero_le _, Nat.zero_le _⟩ (Nat.le_of_ble_eq_true rfl) ?_
        try simp only [sr_2, sr_3, sr_4, sr_5, sr_6, sr_7, sr_8, sr_9, sr_10, sr_11, sr_12, sr_13, sr_14, sr_16, sr_108, sr_109, sr_110, sr_111, sr_sr, sr_row, plc_sr, pcl_sr, colL_sr, lmask_sr, cf_sr, cb_sr, vR_sr, vRd_sr, sumV_sr, cntR_sr, cntH_sr, slF_sr, lsV_sr, lsC_sr, mskF_sr, roP_sr, frS_sr, cdF_sr, digT_sr, digR_sr]
        refine r_lstore dX5_mixedRow_145 (Nat.le_of_ble_eq_true rfl) (Nat.le_of_ble_eq_true rfl) (L' := [_, _, _, _, _, _, _, _, _]) (by rfl) ?_
        refine r_iinc dX5_mixedRow_147 (by rfl) (Nat.le_of_ble_eq_true rfl) (L' := [_, _, _, _, _, _, _, _, _]) (by rfl) ?_
        refine r_goto (tgt := 49) dX5_mixedRow_150 (by decide) ?_
        refine WP.wk (L' := [_, _, none, _, _, none, _, none, none]) (leL_s (leL_s (leL_n (leL_s (leL_s (leL_n (leL_s (leL_n (leL_n leL_0))))))))) ?_
        first | (exact cut_49 40 _ _ _ (by omega) (by omega) (by rw [show (σ 2 1 - σ 2 1).toNat = 0 by omega, hh, show w.toNat = 6 by omega]; rfl) (by omega)) | (rw [show q.toNat = (σ 7 s.toNat).toNat by omega] at hh; rw [hh]; exact kont _)
      · refine r_lload dX5_mixedRow_96 (by rfl) ?_
        refine r_aload dX5_mixedRow_98 (by rfl) ?_
        refine r_aload_n dX5_mixedRow_100 rfl (by rfl) ?_
        refine r_get_r kX5_10 dX5_mixedRow_101 KD_0 (RHO_0_0 _) ?_
        refine r_get_r kX5_44 dX5_mixedRow_104 KD_1 (RHO_1_0 _) ?_
        refine r_iload dX5_mixedRow_107 (by rfl) ?_
        refine r_iload dX5_mixedRow_109 (by rfl) ?_
        refine r_callV2 (ct_X2_columnAt _ (by first | omega | (unfold inR; omega)) (by first | omega | (unfold inR; omega)) _ (by first | omega | (unfold inR; omega)) (by first | omega | (unfold inR; omega))) fX2_columnAt qX5_317 dX5_mixedRow_111 KD_2 (by decide) ⟨Nat.zero_le _, Nat.zero_le _⟩ (Nat.le_of_ble_eq_true rfl) ?_
        try simp only [sr_2, sr_3, sr_4, sr_5, sr_6, sr_7, sr_8, sr_9, sr_10, sr_11, sr_12, sr_13, sr_14, sr_16, sr_108, sr_109, sr_110, sr_111, sr_sr, sr_row, plc_sr, pcl_sr, colL_sr, lmask_sr, cf_sr, cb_sr, vR_sr, vRd_sr, sumV_sr, cntR_sr, cntH_sr, slF_sr, lsV_sr, lsC_sr, mskF_sr, roP_sr, frS_sr, cdF_sr, digT_sr, digR_sr]
        refine r_callS2 (ct_X5_at KD_15 (by decide) _ (by first | omega | (unfold inR; omega)) (by first | omega | (unfold inR; omega))) fX5_at qX5_320 dX5_mixedRow_114 (by decide) ⟨Nat.zero_le _, Nat.zero_le _⟩ (Nat.le_of_ble_eq_true rfl) ?_
        try simp only [sr_2, sr_3, sr_4, sr_5, sr_6, sr_7, sr_8, sr_9, sr_10, sr_11, sr_12, sr_13, sr_14, sr_16, sr_108, sr_109, sr_110, sr_111, sr_sr, sr_row, plc_sr, pcl_sr, colL_sr, lmask_sr, cf_sr, cb_sr, vR_sr, vRd_sr, sumV_sr, cntR_sr, cntH_sr, slF_sr, lsV_sr, lsC_sr, mskF_sr, roP_sr, frS_sr, cdF_sr, digT_sr, digR_sr]
        refine r_i2lw dX5_mixedRow_117 ?_
        refine r_callS2 (ct_X5_mixed _ _) fX5_mixed qX5_250 dX5_mixedRow_118 (by decide) ⟨Nat.zero_le _, Nat.zero_le _⟩ (Nat.le_of_ble_eq_true rfl) ?_
        try simp only [sr_2, sr_3, sr_4, sr_5, sr_6, sr_7, sr_8, sr_9, sr_10, sr_11, sr_12, sr_13, sr_14, sr_16, sr_108, sr_109, sr_110, sr_111, sr_sr, sr_row, plc_sr, pcl_sr, colL_sr, lmask_sr, cf_sr, cb_sr, vR_sr, vRd_sr, sumV_sr, cntR_sr, cntH_sr, slF_sr, lsV_sr, lsC_sr, mskF_sr, roP_sr, frS_sr, cdF_sr, digT_sr, digR_sr]
        refine r_lstore dX5_mixedRow_121 (Nat.le_of_ble_eq_true rfl) (Nat.le_of_ble_eq_true rfl) (L' := [_, _, _, _, _, _, _, _, _]) (by rfl) ?_
        refine r_iinc dX5_mixedRow_123 (by rfl) (Nat.le_of_ble_eq_true rfl) (L' := [_, _, _, _, _, _, _, _, _]) (by rfl) ?_
        refine r_goto (tgt := 79) dX5_mixedRow_126 (by decide) ?_
        exact ih s (q + 1) _ hs _ s0 s1 (by omega) (by omega) (by
          rw [show (q + 1).toNat = q.toNat + 1 by omega]
          unfold foldM
          rw [← hh, hf _ (by omega)]) hf kont (by omega)
  have cut_49 : ∀ (N : Nat) (s h : Int) (f : Nat → Int), (σ 2 1 ≤ s) → (s ≤ σ 2 0 ∨ s = σ 2 1) → (h = digR σ r.toNat x (s - σ 2 1).toNat) → σ 2 0 - s + 13 < (N : Int) → WP l G "ShapedRows" mX5_mixedRow (5, 0, 0) (KSP (some (.long (jJ (digR σ r.toNat x (σ 2 0 - σ 2 1).toNat)))) σ τ π (fun _ => True)) noX 110 49 [some (.ref 0), some (.long (jJ (x))), none, some (.int (iI r)), some (.long (jJ (h))), none, some (.int (iI s)), none, none] [] 110 KD (sr σ 15 f) τ (RHO π) 0 0 := by
    intro N
    induction N with
    | zero => intro s h f s0 s1 hh hm; exact absurd hm (by omega)
    | succ N ih =>
      intro s h f s0 s1 hh hm
      refine r_iload dX5_mixedRow_49 (by rfl) ?_
      refine r_aload_n dX5_mixedRow_51 rfl (by rfl) ?_
      refine r_get_r kX5_10 dX5_mixedRow_52 KD_0 (RHO_0_0 _) ?_
      refine r_get_r kX5_44 dX5_mixedRow_55 KD_1 (RHO_1_0 _) ?_
      refine r_callV0 ct_X2_size fX2_size qX5_273 dX5_mixedRow_58 KD_2 (by decide) ⟨Nat.zero_le _, Nat.zero_le _⟩ (Nat.le_of_ble_eq_true rfl) ?_
      try simp only [sr_2, sr_3, sr_4, sr_5, sr_6, sr_7, sr_8, sr_9, sr_10, sr_11, sr_12, sr_13, sr_14, sr_16, sr_108, sr_109, sr_110, sr_111, sr_sr, sr_row, plc_sr, pcl_sr, colL_sr, lmask_sr, cf_sr, cb_sr, vR_sr, vRd_sr, sumV_sr, cntR_sr, cntH_sr, slF_sr, lsV_sr, lsC_sr, mskF_sr, roP_sr, frS_sr, cdF_sr, digT_sr, digR_sr]
      refine r_icmp_ge (tgt := 153) dX5_mixedRow_61 (by decide) (by unfold inR; omega) (by unfold inR; omega) (fun c_3 => ?_) (fun c_3 => ?_)
      · refine r_lload dX5_mixedRow_153 (by rfl) ?_
        exact r_ret_ls dX5_mixedRow_155 rfl ⟨Nat.zero_le _, Nat.zero_le _⟩ (by rw [hh, show (s - σ 2 1).toNat = (σ 2 0 - σ 2 1).toNat by omega]) (by first | rfl | exact (sr_self _ _).symm) (by exact trivial)
      · refine r_aload_n dX5_mixedRow_64 rfl (by rfl) ?_
        refine r_get_r kX5_10 dX5_mixedRow_65 KD_0 (RHO_0_0 _) ?_
        refine r_iload_n dX5_mixedRow_68 rfl (by rfl) ?_
        refine r_iload dX5_mixedRow_69 (by rfl) ?_
        refine r_callY2 (ct_X3_valuesRead (CI_sr hI) _ (by first | omega | (unfold inR; omega)) (by first | omega | (unfold inR; omega)) _ (by first | omega | (unfold inR; omega)) (by first | omega | (unfold inR; omega))) fX3_valuesRead qX5_313 dX5_mixedRow_71 KD_1 (by decide) ⟨Nat.zero_le _, Nat.zero_le _⟩ (Nat.le_of_ble_eq_true rfl) (fun fv hfv => ?_)
        try simp only [sr_2, sr_3, sr_4, sr_5, sr_6, sr_7, sr_8, sr_9, sr_10, sr_11, sr_12, sr_13, sr_14, sr_16, sr_108, sr_109, sr_110, sr_111, sr_sr, sr_row, plc_sr, pcl_sr, colL_sr, lmask_sr, cf_sr, cb_sr, vR_sr, vRd_sr, sumV_sr, cntR_sr, cntH_sr, slF_sr, lsV_sr, lsC_sr, mskF_sr, roP_sr, frS_sr, cdF_sr, digT_sr, digR_sr]
        refine r_astore dX5_mixedRow_74 (Nat.le_of_ble_eq_true rfl) (L' := [_, _, _, _, _, _, _, _, _]) (by rfl) ?_
        refine r_iconst dX5_mixedRow_76 ?_
        refine r_istore dX5_mixedRow_77 (Nat.le_of_ble_eq_true rfl) (L' := [_, _, _, _, _, _, _, _, _]) (by rfl) ?_
        refine cut_79 9 s 0 h h fv s0 (by omega) (by omega) (by have := hI.wd s.toNat; omega) rfl (fun j hj => by rw [hfv j hj, vR_sr]) (fun g => ?_) (by have := hI.wd s.toNat; omega)
        have e := ih (s + 1) (digR σ r.toNat x (s + 1 - σ 2 1).toNat) g (by omega) (by omega) rfl (by omega)
        rw [show (s + 1 - σ 2 1).toNat = (s - σ 2 1).toNat + 1 by omega, show digR σ r.toNat x ((s - σ 2 1).toNat + 1) = 31 * foldM (digR σ r.toNat x (s - σ 2 1).toNat) (fun q => vR σ r.toNat ((σ 2 1).toNat + (s - σ 2 1).toNat) (σ 8 (8 * ((σ 2 1).toNat + (s - σ 2 1).toNat) + q)).toNat) (σ 7 ((σ 2 1).toNat + (s - σ 2 1).toNat)).toNat + wI (lsC σ (lsV σ r.toNat ((σ 2 1).toNat + (s - σ 2 1).toNat)) r.toNat (σ 7 (σ 11 r.toNat).toNat).toNat) from rfl, ← hh, show (σ 2 1).toNat + (s - σ 2 1).toNat = s.toNat by omega] at e
        exact e
  have cut_6 : ∀ (N : Nat) (w h : Int) (f : Nat → Int), (0 ≤ w) → (w ≤ 6) → (h = foldM x (fun w => roP σ r.toNat (w : Int)) w.toNat) → 6 - w < (N : Int) → WP l G "ShapedRows" mX5_mixedRow (5, 0, 0) (KSP (some (.long (jJ (digR σ r.toNat x (σ 2 0 - σ 2 1).toNat)))) σ τ π (fun _ => True)) noX 110 6 [some (.ref 0), some (.long (jJ (x))), none, some (.int (iI r)), some (.long (jJ (h))), none, some (.int (iI w)), none, none] [] 110 KD (sr σ 15 f) τ (RHO π) 0 0 := by
    intro N
    induction N with
    | zero => intro w h f w0 w1 hh hm; exact absurd hm (by omega)
    | succ N ih =>
      intro w h f w0 w1 hh hm
      have ew : ((w.toNat : Nat) : Int) = w := by omega
      refine r_iload dX5_mixedRow_6 (by rfl) ?_
      refine r_bipush dX5_mixedRow_8 (by decide) ?_
      refine r_icmp_ge (tgt := 37) dX5_mixedRow_10 (by decide) (by unfold inR; omega) (by unfold inR; omega) (fun c_4 => ?_) (fun c_4 => ?_)
      · refine r_aload_n dX5_mixedRow_37 rfl (by rfl) ?_
        refine r_get_r kX5_10 dX5_mixedRow_38 KD_0 (RHO_0_0 _) ?_
        refine r_get_r kX5_44 dX5_mixedRow_41 KD_1 (RHO_1_0 _) ?_
        refine r_callV0 ct_X2_mark fX2_mark qX5_274 dX5_mixedRow_44 KD_2 (by decide) ⟨Nat.zero_le _, Nat.zero_le _⟩ (Nat.le_of_ble_eq_true rfl) ?_
        try simp only [sr_2, sr_3, sr_4, sr_5, sr_6, sr_7, sr_8, sr_9, sr_10, sr_11, sr_12, sr_13, sr_14, sr_16, sr_108, sr_109, sr_110, sr_111, sr_sr, sr_row, plc_sr, pcl_sr, colL_sr, lmask_sr, cf_sr, cb_sr, vR_sr, vRd_sr, sumV_sr, cntR_sr, cntH_sr, slF_sr, lsV_sr, lsC_sr, mskF_sr, roP_sr, frS_sr, cdF_sr, digT_sr, digR_sr]
        refine r_istore dX5_mixedRow_47 (Nat.le_of_ble_eq_true rfl) (L' := [_, _, _, _, _, _, _, _, _]) (by rfl) ?_
        first | (exact cut_49 40 _ _ _ (by omega) (by omega) (by rw [show (σ 2 1 - σ 2 1).toNat = 0 by omega, hh, show w.toNat = 6 by omega]; rfl) (by omega)) | (rw [show q.toNat = (σ 7 s.toNat).toNat by omega] at hh; rw [hh]; exact kont _)
      · refine r_lload dX5_mixedRow_13 (by rfl) ?_
        refine r_aload_n dX5_mixedRow_15 rfl (by rfl) ?_
        refine r_get_r kX5_10 dX5_mixedRow_16 KD_0 (RHO_0_0 _) ?_
        refine r_iload_n dX5_mixedRow_19 rfl (by rfl) ?_
        refine r_iload dX5_mixedRow_20 (by rfl) ?_
        refine r_callY2 (ct_X3_rowProperty (CI_sr hI) _ (by first | omega | (unfold inR; omega)) (by first | omega | (unfold inR; omega)) _ (by first | omega | (unfold inR; omega)) (by first | omega | (unfold inR; omega))) fX3_rowProperty qX5_229 dX5_mixedRow_22 KD_1 (by decide) ⟨Nat.zero_le _, Nat.zero_le _⟩ (Nat.le_of_ble_eq_true rfl) (fun f_5 hf_5 => ?_)
        try simp only [sr_2, sr_3, sr_4, sr_5, sr_6, sr_7, sr_8, sr_9, sr_10, sr_11, sr_12, sr_13, sr_14, sr_16, sr_108, sr_109, sr_110, sr_111, sr_sr, sr_row, plc_sr, pcl_sr, colL_sr, lmask_sr, cf_sr, cb_sr, vR_sr, vRd_sr, sumV_sr, cntR_sr, cntH_sr, slF_sr, lsV_sr, lsC_sr, mskF_sr, roP_sr, frS_sr, cdF_sr, digT_sr, digR_sr]
        refine r_i2lw dX5_mixedRow_25 ?_
        refine r_callS2 (ct_X5_mixed _ _) fX5_mixed qX5_250 dX5_mixedRow_26 (by decide) ⟨Nat.zero_le _, Nat.zero_le _⟩ (Nat.le_of_ble_eq_true rfl) ?_
        try simp only [sr_2, sr_3, sr_4, sr_5, sr_6, sr_7, sr_8, sr_9, sr_10, sr_11, sr_12, sr_13, sr_14, sr_16, sr_108, sr_109, sr_110, sr_111, sr_sr, sr_row, plc_sr, pcl_sr, colL_sr, lmask_sr, cf_sr, cb_sr, vR_sr, vRd_sr, sumV_sr, cntR_sr, cntH_sr, slF_sr, lsV_sr, lsC_sr, mskF_sr, roP_sr, frS_sr, cdF_sr, digT_sr, digR_sr]
        refine r_lstore dX5_mixedRow_29 (Nat.le_of_ble_eq_true rfl) (Nat.le_of_ble_eq_true rfl) (L' := [_, _, _, _, _, _, _, _, _]) (by rfl) ?_
        refine r_iinc dX5_mixedRow_31 (by rfl) (Nat.le_of_ble_eq_true rfl) (L' := [_, _, _, _, _, _, _, _, _]) (by rfl) ?_
        refine r_goto (tgt := 6) dX5_mixedRow_34 (by decide) ?_
        exact ih (w + 1) _ _ (by omega) (by omega) (by
          rw [show (w + 1).toNat = w.toNat + 1 by omega]
          unfold foldM
          rw [← hh, ew]) (by omega)
  refine r_lload_n dX5_mixedRow_0 rfl (by rfl) ?_
  refine r_lstore dX5_mixedRow_1 (Nat.le_of_ble_eq_true rfl) (Nat.le_of_ble_eq_true rfl) (L' := [_, _, _, _, _, _, _, _, _]) (by rfl) ?_
  refine r_iconst dX5_mixedRow_3 ?_
  refine r_istore dX5_mixedRow_4 (Nat.le_of_ble_eq_true rfl) (L' := [_, _, _, _, _, _, _, _, _]) (by rfl) ?_
  refine WP.mem (σ' := sr σ 15 (σ 15)) (sr_self σ 15).symm ?_
  exact cut_6 9 0 _ _ (by omega) (by omega) rfl (by omega)

set_option maxRecDepth 100000 in
set_option maxHeartbeats 4000000 in
theorem ct_X5_mixedText {l : Launch} {G : GG} {π : Nat → Option Nat} {σ τ : ST} (hT : TI σ) (x : Int) : Ct l G mX5_mixedText (2, 0, 0) [.ref 0, .long (jJ x)] 110 KD σ τ (RHO π) (KQ (some (.long (jJ (digT σ x)))) 110 KD σ τ (RHO π)) := by
  have hl := hT.1
  refine ct_intro (own := "ShapedRows") rfl (by decide +kernel) (Nat.le_of_ble_eq_true rfl) (L := _) rfl ?_
  have cut_16 : ∀ (N : Nat) (k h : Int), (0 ≤ k) → (k ≤ σ 108 1) → (h = foldM (31 * x + wI (σ 108 1)) (fun k => cdF σ (k : Int)) k.toNat) → σ 108 1 - k < (N : Int) → WP l G "ShapedRows" mX5_mixedText (2, 0, 0) (KQ (some (.long (jJ (digT σ x)))) 110 KD σ τ (RHO π)) noX 110 16 [some (.ref 0), some (.long (jJ (x))), none, some (.long (jJ (h))), none, some (.int (iI k))] [] 110 KD σ τ (RHO π) 0 0 := by
    intro N
    induction N with
    | zero => intro k h k0 k1 hh hm; exact absurd hm (by omega)
    | succ N ih =>
      intro k h k0 k1 hh hm
      have ek : ((k.toNat : Nat) : Int) = k := by omega
      refine r_iload dX5_mixedText_16 (by rfl) ?_
      refine r_aload_n dX5_mixedText_18 rfl (by rfl) ?_
      refine r_get_r kX5_26 dX5_mixedText_19 KD_0 (RHO_0_2 _) ?_
      refine r_callV0 ct_X4_length fX4_length qX5_188 dX5_mixedText_22 KD_108 (by decide) ⟨Nat.zero_le _, Nat.zero_le _⟩ (Nat.le_of_ble_eq_true rfl) ?_
      refine r_icmp_ge (tgt := 49) dX5_mixedText_25 (by decide) (by unfold inR; omega) (by unfold inR; omega) (fun c_1 => ?_) (fun c_1 => ?_)
      · refine r_lload_n dX5_mixedText_49 rfl (by rfl) ?_
        exact r_ret_l dX5_mixedText_50 rfl ⟨Nat.zero_le _, Nat.zero_le _⟩ (by rw [hh, show k.toNat = (σ 108 1).toNat by omega]; rfl) ⟨rfl, rfl, (by first | rfl | omega), rfl, rfl⟩
      · refine r_lload_n dX5_mixedText_28 rfl (by rfl) ?_
        refine r_aload_n dX5_mixedText_29 rfl (by rfl) ?_
        refine r_get_r kX5_26 dX5_mixedText_30 KD_0 (RHO_0_2 _) ?_
        refine r_iload dX5_mixedText_33 (by rfl) ?_
        refine r_callV1 (ct_X4_code hT _ (by first | exact hT | omega) (by first | exact hT | omega)) fX4_code qX5_289 dX5_mixedText_35 KD_108 (by decide) ⟨Nat.zero_le _, Nat.zero_le _⟩ (Nat.le_of_ble_eq_true rfl) ?_
        refine r_i2lw dX5_mixedText_38 ?_
        refine r_callS2 (ct_X5_mixed _ _) fX5_mixed qX5_250 dX5_mixedText_39 (by decide) ⟨Nat.zero_le _, Nat.zero_le _⟩ (Nat.le_of_ble_eq_true rfl) ?_
        refine r_lstore_n dX5_mixedText_42 rfl (Nat.le_of_ble_eq_true rfl) (Nat.le_of_ble_eq_true rfl) (L' := [_, _, _, _, _, _]) (by rfl) ?_
        refine r_iinc dX5_mixedText_43 (by rfl) (Nat.le_of_ble_eq_true rfl) (L' := [_, _, _, _, _, _]) (by rfl) ?_
        refine r_goto (tgt := 16) dX5_mixedText_46 (by decide) ?_
        exact ih (k + 1) _ (by omega) (by omega) (by
          rw [show (k + 1).toNat = k.toNat + 1 by omega]
          unfold foldM
          rw [← hh, ek]) (by omega)
  refine r_lload_n dX5_mixedText_0 rfl (by rfl) ?_
  refine r_aload_n dX5_mixedText_1 rfl (by rfl) ?_
  refine r_get_r kX5_26 dX5_mixedText_2 KD_0 (RHO_0_2 _) ?_
  refine r_callV0 ct_X4_length fX4_length qX5_188 dX5_mixedText_5 KD_108 (by decide) ⟨Nat.zero_le _, Nat.zero_le _⟩ (Nat.le_of_ble_eq_true rfl) ?_
  refine r_i2lw dX5_mixedText_8 ?_
  refine r_callS2 (ct_X5_mixed _ _) fX5_mixed qX5_250 dX5_mixedText_9 (by decide) ⟨Nat.zero_le _, Nat.zero_le _⟩ (Nat.le_of_ble_eq_true rfl) ?_
  refine r_lstore_n dX5_mixedText_12 rfl (Nat.le_of_ble_eq_true rfl) (Nat.le_of_ble_eq_true rfl) (L' := [_, _, _, _, _, _]) (by rfl) ?_
  refine r_iconst dX5_mixedText_13 ?_
  refine r_istore dX5_mixedText_14 (Nat.le_of_ble_eq_true rfl) (L' := [_, _, _, _, _, _]) (by rfl) ?_
  exact cut_16 70 0 _ (by omega) (by omega) rfl (by omega)

set_option maxRecDepth 100000 in
set_option maxHeartbeats 4000000 in
theorem ct_X5_digest {l : Launch} {G : GG} {π : Nat → Option Nat} {σ τ : ST} (hI : CI σ) (hT : TI σ)  : Ct l G mX5_digest (6, 0, 0) [.ref 0] 110 KD σ τ (RHO π) (KSP (some (.long (jJ (digF σ)))) σ τ π (fun _ => True)) := by
  have hz := hI.sz
  have hr := hI.ro
  have ho := fun k => hI.rs k
  refine ct_intro (own := "ShapedRows") rfl (by decide +kernel) (Nat.le_of_ble_eq_true rfl) (L := _) rfl ?_
  have cut_66 : ∀ (N : Nat) (k h : Int) (f : Nat → Int), (0 ≤ k) → (k ≤ 4) → (h = foldM (digW σ (digS σ (foldM 2699 (fun w => ctP σ (w : Int)) 10) (σ 2 0).toNat) (σ 10 0).toNat) (fun k => σ 14 k) k.toNat) → 4 - k < (N : Int) → WP l G "ShapedRows" mX5_digest (6, 0, 0) (KSP (some (.long (jJ (digF σ)))) σ τ π (fun _ => True)) noX 110 66 [some (.ref 0), some (.long (jJ (h))), none, some (.int (iI k))] [] 110 KD (sr σ 15 f) τ (RHO π) 0 0 := by
    intro N
    induction N with
    | zero => intro k h f k0 k1 hh hm; exact absurd hm (by omega)
    | succ N ih =>
      intro k h f k0 k1 hh hm
      refine r_iload_n dX5_digest_66 rfl (by rfl) ?_
      refine r_iconst dX5_digest_67 ?_
      refine r_icmp_ge (tgt := 91) dX5_digest_68 (by decide) (by unfold inR; omega) (by unfold inR; omega) (fun c_1 => ?_) (fun c_1 => ?_)
      · refine r_lload_n dX5_digest_91 rfl (by rfl) ?_
        refine r_aload_n dX5_digest_92 rfl (by rfl) ?_
        refine r_get_r kX5_10 dX5_digest_93 KD_0 (RHO_0_0 _) ?_
        refine r_callV0 (ct_X3_stepsLeft (CI_sr hI)) fX3_stepsLeft qX5_238 dX5_digest_96 KD_1 (by decide) ⟨Nat.zero_le _, Nat.zero_le _⟩ (Nat.le_of_ble_eq_true rfl) ?_
        try simp only [sr_2, sr_3, sr_4, sr_5, sr_6, sr_7, sr_8, sr_9, sr_10, sr_11, sr_12, sr_13, sr_14, sr_16, sr_108, sr_109, sr_110, sr_111, sr_sr, sr_row, plc_sr, pcl_sr, colL_sr, lmask_sr, cf_sr, cb_sr, vR_sr, vRd_sr, sumV_sr, cntR_sr, cntH_sr, slF_sr, lsV_sr, lsC_sr, mskF_sr, roP_sr, frS_sr, cdF_sr, digT_sr, digR_sr]
        refine r_i2lw dX5_digest_99 ?_
        refine r_callS2 (ct_X5_mixed _ _) fX5_mixed qX5_250 dX5_digest_100 (by decide) ⟨Nat.zero_le _, Nat.zero_le _⟩ (Nat.le_of_ble_eq_true rfl) ?_
        try simp only [sr_2, sr_3, sr_4, sr_5, sr_6, sr_7, sr_8, sr_9, sr_10, sr_11, sr_12, sr_13, sr_14, sr_16, sr_108, sr_109, sr_110, sr_111, sr_sr, sr_row, plc_sr, pcl_sr, colL_sr, lmask_sr, cf_sr, cb_sr, vR_sr, vRd_sr, sumV_sr, cntR_sr, cntH_sr, slF_sr, lsV_sr, lsC_sr, mskF_sr, roP_sr, frS_sr, cdF_sr, digT_sr, digR_sr]
        refine r_lstore_n dX5_digest_103 rfl (Nat.le_of_ble_eq_true rfl) (Nat.le_of_ble_eq_true rfl) (L' := [_, _, _, _]) (by rfl) ?_
        refine r_lload_n dX5_digest_104 rfl (by rfl) ?_
        refine r_aload_n dX5_digest_105 rfl (by rfl) ?_
        refine r_get_r kX5_10 dX5_digest_106 KD_0 (RHO_0_0 _) ?_
        refine r_aload_n dX5_digest_109 rfl (by rfl) ?_
        refine r_get_r kX5_10 dX5_digest_110 KD_0 (RHO_0_0 _) ?_
        refine r_get_r kX5_44 dX5_digest_113 KD_1 (RHO_1_0 _) ?_
        refine r_callV0 ct_X2_newest fX2_newest qX5_108 dX5_digest_116 KD_2 (by decide) ⟨Nat.zero_le _, Nat.zero_le _⟩ (Nat.le_of_ble_eq_true rfl) ?_
        try simp only [sr_2, sr_3, sr_4, sr_5, sr_6, sr_7, sr_8, sr_9, sr_10, sr_11, sr_12, sr_13, sr_14, sr_16, sr_108, sr_109, sr_110, sr_111, sr_sr, sr_row, plc_sr, pcl_sr, colL_sr, lmask_sr, cf_sr, cb_sr, vR_sr, vRd_sr, sumV_sr, cntR_sr, cntH_sr, slF_sr, lsV_sr, lsC_sr, mskF_sr, roP_sr, frS_sr, cdF_sr, digT_sr, digR_sr]
        refine r_iconst dX5_digest_119 ?_
        refine r_iconst dX5_digest_120 ?_
        refine r_callY3 (ct_X3_rowsWith (CI_sr hI) _ (by first | exact hT | exact TI_sr hT | omega | (unfold inR; omega)) (by first | exact hT | exact TI_sr hT | omega | (unfold inR; omega)) _ (by first | exact hT | exact TI_sr hT | omega | (unfold inR; omega)) _ (by first | exact hT | exact TI_sr hT | omega | (unfold inR; omega))) fX3_rowsWith qX5_241 dX5_digest_121 KD_1 (by decide) ⟨Nat.zero_le _, Nat.zero_le _⟩ (Nat.le_of_ble_eq_true rfl) (fun f_2 hf_2 => ?_)
        try simp only [sr_2, sr_3, sr_4, sr_5, sr_6, sr_7, sr_8, sr_9, sr_10, sr_11, sr_12, sr_13, sr_14, sr_16, sr_108, sr_109, sr_110, sr_111, sr_sr, sr_row, plc_sr, pcl_sr, colL_sr, lmask_sr, cf_sr, cb_sr, vR_sr, vRd_sr, sumV_sr, cntR_sr, cntH_sr, slF_sr, lsV_sr, lsC_sr, mskF_sr, roP_sr, frS_sr, cdF_sr, digT_sr, digR_sr]
        refine r_i2lw dX5_digest_124 ?_
        refine r_callS2 (ct_X5_mixed _ _) fX5_mixed qX5_250 dX5_digest_125 (by decide) ⟨Nat.zero_le _, Nat.zero_le _⟩ (Nat.le_of_ble_eq_true rfl) ?_
        try simp only [sr_2, sr_3, sr_4, sr_5, sr_6, sr_7, sr_8, sr_9, sr_10, sr_11, sr_12, sr_13, sr_14, sr_16, sr_108, sr_109, sr_110, sr_111, sr_sr, sr_row, plc_sr, pcl_sr, colL_sr, lmask_sr, cf_sr, cb_sr, vR_sr, vRd_sr, sumV_sr, cntR_sr, cntH_sr, slF_sr, lsV_sr, lsC_sr, mskF_sr, roP_sr, frS_sr, cdF_sr, digT_sr, digR_sr]
        refine r_lstore_n dX5_digest_128 rfl (Nat.le_of_ble_eq_true rfl) (Nat.le_of_ble_eq_true rfl) (L' := [_, _, _, _]) (by rfl) ?_
        refine r_lload_n dX5_digest_129 rfl (by rfl) ?_
        refine r_aload_n dX5_digest_130 rfl (by rfl) ?_
        refine r_callV0 (ct_X5_freshShare (CI_sr hI)) fX5_freshShare qX5_262 dX5_digest_131 KD_0 (by decide) ⟨Nat.zero_le _, Nat.zero_le _⟩ (Nat.le_of_ble_eq_true rfl) ?_
        try simp only [sr_2, sr_3, sr_4, sr_5, sr_6, sr_7, sr_8, sr_9, sr_10, sr_11, sr_12, sr_13, sr_14, sr_16, sr_108, sr_109, sr_110, sr_111, sr_sr, sr_row, plc_sr, pcl_sr, colL_sr, lmask_sr, cf_sr, cb_sr, vR_sr, vRd_sr, sumV_sr, cntR_sr, cntH_sr, slF_sr, lsV_sr, lsC_sr, mskF_sr, roP_sr, frS_sr, cdF_sr, digT_sr, digR_sr]
        refine r_callS1 (ct_X5_bitsOfShare _ (bsP_or hI)) fX5_bitsOfShare qX5_266 dX5_digest_134 (by decide) ⟨Nat.zero_le _, Nat.zero_le _⟩ (Nat.le_of_ble_eq_true rfl) ?_
        try simp only [sr_2, sr_3, sr_4, sr_5, sr_6, sr_7, sr_8, sr_9, sr_10, sr_11, sr_12, sr_13, sr_14, sr_16, sr_108, sr_109, sr_110, sr_111, sr_sr, sr_row, plc_sr, pcl_sr, colL_sr, lmask_sr, cf_sr, cb_sr, vR_sr, vRd_sr, sumV_sr, cntR_sr, cntH_sr, slF_sr, lsV_sr, lsC_sr, mskF_sr, roP_sr, frS_sr, cdF_sr, digT_sr, digR_sr]
        refine r_callS2 (ct_X5_mixed _ _) fX5_mixed qX5_250 dX5_digest_137 (by decide) ⟨Nat.zero_le _, Nat.zero_le _⟩ (Nat.le_of_ble_eq_true rfl) ?_
        try simp only [sr_2, sr_3, sr_4, sr_5, sr_6, sr_7, sr_8, sr_9, sr_10, sr_11, sr_12, sr_13, sr_14, sr_16, sr_108, sr_109, sr_110, sr_111, sr_sr, sr_row, plc_sr, pcl_sr, colL_sr, lmask_sr, cf_sr, cb_sr, vR_sr, vRd_sr, sumV_sr, cntR_sr, cntH_sr, slF_sr, lsV_sr, lsC_sr, mskF_sr, roP_sr, frS_sr, cdF_sr, digT_sr, digR_sr]
        refine r_lstore_n dX5_digest_140 rfl (Nat.le_of_ble_eq_true rfl) (Nat.le_of_ble_eq_true rfl) (L' := [_, _, _, _]) (by rfl) ?_
        refine r_aload_n dX5_digest_141 rfl (by rfl) ?_
        refine r_lload_n dX5_digest_142 rfl (by rfl) ?_
        refine r_callV1 (ct_X5_mixedText (by first | exact hT | exact TI_sr hT | omega | (unfold inR; omega)) _) fX5_mixedText qX5_270 dX5_digest_143 KD_0 (by decide) ⟨Nat.zero_le _, Nat.zero_le _⟩ (Nat.le_of_ble_eq_true rfl) ?_
        try simp only [sr_2, sr_3, sr_4, sr_5, sr_6, sr_7, sr_8, sr_9, sr_10, sr_11, sr_12, sr_13, sr_14, sr_16, sr_108, sr_109, sr_110, sr_111, sr_sr, sr_row, plc_sr, pcl_sr, colL_sr, lmask_sr, cf_sr, cb_sr, vR_sr, vRd_sr, sumV_sr, cntR_sr, cntH_sr, slF_sr, lsV_sr, lsC_sr, mskF_sr, roP_sr, frS_sr, cdF_sr, digT_sr, digR_sr]
        exact r_ret_ls dX5_digest_146 rfl ⟨Nat.zero_le _, Nat.zero_le _⟩ (by rw [hh, show k.toNat = 4 by omega]; rfl) (by first | rfl | exact (sr_self _ _).symm) (by exact trivial)
      · refine r_lload_n dX5_digest_71 rfl (by rfl) ?_
        refine r_aload_n dX5_digest_72 rfl (by rfl) ?_
        refine r_get_r kX5_10 dX5_digest_73 KD_0 (RHO_0_0 _) ?_
        refine r_iload_n dX5_digest_76 rfl (by rfl) ?_
        refine r_callV1 (ct_X3_heldBy _ (by first | exact hT | exact TI_sr hT | omega | (unfold inR; omega)) (by first | exact hT | exact TI_sr hT | omega | (unfold inR; omega))) fX3_heldBy qX5_213 dX5_digest_77 KD_1 (by decide) ⟨Nat.zero_le _, Nat.zero_le _⟩ (Nat.le_of_ble_eq_true rfl) ?_
        try simp only [sr_2, sr_3, sr_4, sr_5, sr_6, sr_7, sr_8, sr_9, sr_10, sr_11, sr_12, sr_13, sr_14, sr_16, sr_108, sr_109, sr_110, sr_111, sr_sr, sr_row, plc_sr, pcl_sr, colL_sr, lmask_sr, cf_sr, cb_sr, vR_sr, vRd_sr, sumV_sr, cntR_sr, cntH_sr, slF_sr, lsV_sr, lsC_sr, mskF_sr, roP_sr, frS_sr, cdF_sr, digT_sr, digR_sr]
        refine r_i2lw dX5_digest_80 ?_
        refine r_callS2 (ct_X5_mixed _ _) fX5_mixed qX5_250 dX5_digest_81 (by decide) ⟨Nat.zero_le _, Nat.zero_le _⟩ (Nat.le_of_ble_eq_true rfl) ?_
        try simp only [sr_2, sr_3, sr_4, sr_5, sr_6, sr_7, sr_8, sr_9, sr_10, sr_11, sr_12, sr_13, sr_14, sr_16, sr_108, sr_109, sr_110, sr_111, sr_sr, sr_row, plc_sr, pcl_sr, colL_sr, lmask_sr, cf_sr, cb_sr, vR_sr, vRd_sr, sumV_sr, cntR_sr, cntH_sr, slF_sr, lsV_sr, lsC_sr, mskF_sr, roP_sr, frS_sr, cdF_sr, digT_sr, digR_sr]
        refine r_lstore_n dX5_digest_84 rfl (Nat.le_of_ble_eq_true rfl) (Nat.le_of_ble_eq_true rfl) (L' := [_, _, _, _]) (by rfl) ?_
        refine r_iinc dX5_digest_85 (by rfl) (Nat.le_of_ble_eq_true rfl) (L' := [_, _, _, _]) (by rfl) ?_
        refine r_goto (tgt := 66) dX5_digest_88 (by decide) ?_
        exact ih (k + 1) _ _ (by omega) (by omega) (by
          rw [show (k + 1).toNat = k.toNat + 1 by omega]
          unfold foldM
          rw [← hh]) (by omega)
  have cut_37 : ∀ (N : Nat) (k h : Int) (f : Nat → Int), (0 ≤ k) → (k ≤ σ 10 0) → (h = digW σ (digS σ (foldM 2699 (fun w => ctP σ (w : Int)) 10) (σ 2 0).toNat) k.toNat) → σ 10 0 - k < (N : Int) → WP l G "ShapedRows" mX5_digest (6, 0, 0) (KSP (some (.long (jJ (digF σ)))) σ τ π (fun _ => True)) noX 110 37 [some (.ref 0), some (.long (jJ (h))), none, some (.int (iI k))] [] 110 KD (sr σ 15 f) τ (RHO π) 0 0 := by
    intro N
    induction N with
    | zero => intro k h f k0 k1 hh hm; exact absurd hm (by omega)
    | succ N ih =>
      intro k h f k0 k1 hh hm
      refine r_iload_n dX5_digest_37 rfl (by rfl) ?_
      refine r_aload_n dX5_digest_38 rfl (by rfl) ?_
      refine r_get_r kX5_10 dX5_digest_39 KD_0 (RHO_0_0 _) ?_
      refine r_get_r kX5_96 dX5_digest_42 KD_1 (RHO_1_1 _) ?_
      refine r_callV0 ct_X1_size fX1_size qX5_244 dX5_digest_45 KD_10 (by decide) ⟨Nat.zero_le _, Nat.zero_le _⟩ (Nat.le_of_ble_eq_true rfl) ?_
      try simp only [sr_2, sr_3, sr_4, sr_5, sr_6, sr_7, sr_8, sr_9, sr_10, sr_11, sr_12, sr_13, sr_14, sr_16, sr_108, sr_109, sr_110, sr_111, sr_sr, sr_row, plc_sr, pcl_sr, colL_sr, lmask_sr, cf_sr, cb_sr, vR_sr, vRd_sr, sumV_sr, cntR_sr, cntH_sr, slF_sr, lsV_sr, lsC_sr, mskF_sr, roP_sr, frS_sr, cdF_sr, digT_sr, digR_sr]
      refine r_icmp_ge (tgt := 64) dX5_digest_48 (by decide) (by unfold inR; omega) (by unfold inR; omega) (fun c_3 => ?_) (fun c_3 => ?_)
      · refine r_iconst dX5_digest_64 ?_
        refine r_istore_n dX5_digest_65 rfl (Nat.le_of_ble_eq_true rfl) (L' := [_, _, _, _]) (by rfl) ?_
        exact cut_66 9 0 _ _ (by omega) (by omega) (by rw [hh, show k.toNat = (σ 10 0).toNat by omega]; rfl) (by omega)
      · refine r_aload_n dX5_digest_51 rfl (by rfl) ?_
        refine r_lload_n dX5_digest_52 rfl (by rfl) ?_
        refine r_iload_n dX5_digest_53 rfl (by rfl) ?_
        refine r_callY2 (ct_X5_mixedRow (CI_sr hI) _ _ (by first | exact hT | exact TI_sr hT | omega | (unfold inR; omega)) (by first | exact hT | exact TI_sr hT | omega | (unfold inR; omega))) fX5_mixedRow qX5_258 dX5_digest_54 KD_0 (by decide) ⟨Nat.zero_le _, Nat.zero_le _⟩ (Nat.le_of_ble_eq_true rfl) (fun f_4 hf_4 => ?_)
        try simp only [sr_2, sr_3, sr_4, sr_5, sr_6, sr_7, sr_8, sr_9, sr_10, sr_11, sr_12, sr_13, sr_14, sr_16, sr_108, sr_109, sr_110, sr_111, sr_sr, sr_row, plc_sr, pcl_sr, colL_sr, lmask_sr, cf_sr, cb_sr, vR_sr, vRd_sr, sumV_sr, cntR_sr, cntH_sr, slF_sr, lsV_sr, lsC_sr, mskF_sr, roP_sr, frS_sr, cdF_sr, digT_sr, digR_sr]
        skip
        refine r_lstore_n dX5_digest_57 rfl (Nat.le_of_ble_eq_true rfl) (Nat.le_of_ble_eq_true rfl) (L' := [_, _, _, _]) (by rfl) ?_
        refine r_iinc dX5_digest_58 (by rfl) (Nat.le_of_ble_eq_true rfl) (L' := [_, _, _, _]) (by rfl) ?_
        refine r_goto (tgt := 37) dX5_digest_61 (by decide) ?_
        exact ih (k + 1) _ _ (by omega) (by omega) (by
          rw [show (k + 1).toNat = k.toNat + 1 by omega]
          unfold digW
          rw [← hh]) (by omega)
  have cut_6 : ∀ (N : Nat) (k h : Int), (0 ≤ k) → (k ≤ 10) → (h = foldM 2699 (fun w => ctP σ (w : Int)) k.toNat) → 10 - k < (N : Int) → WP l G "ShapedRows" mX5_digest (6, 0, 0) (KSP (some (.long (jJ (digF σ)))) σ τ π (fun _ => True)) noX 110 6 [some (.ref 0), some (.long (jJ (h))), none, some (.int (iI k))] [] 110 KD σ τ (RHO π) 0 0 := by
    intro N
    induction N with
    | zero => intro k h k0 k1 hh hm; exact absurd hm (by omega)
    | succ N ih =>
      intro k h k0 k1 hh hm
      have ek : ((k.toNat : Nat) : Int) = k := by omega
      refine r_iload_n dX5_digest_6 rfl (by rfl) ?_
      refine r_bipush dX5_digest_7 (by decide) ?_
      refine r_icmp_ge (tgt := 29) dX5_digest_9 (by decide) (by unfold inR; omega) (by unfold inR; omega) (fun c_5 => ?_) (fun c_5 => ?_)
      · refine r_aload_n dX5_digest_29 rfl (by rfl) ?_
        refine r_lload_n dX5_digest_30 rfl (by rfl) ?_
        refine r_callV1 (ct_X5_mixedShapes hI _) fX5_mixedShapes qX5_254 dX5_digest_31 KD_0 (by decide) ⟨Nat.zero_le _, Nat.zero_le _⟩ (Nat.le_of_ble_eq_true rfl) ?_
        refine r_lstore_n dX5_digest_34 rfl (Nat.le_of_ble_eq_true rfl) (Nat.le_of_ble_eq_true rfl) (L' := [_, _, _, _]) (by rfl) ?_
        refine r_iconst dX5_digest_35 ?_
        refine r_istore_n dX5_digest_36 rfl (Nat.le_of_ble_eq_true rfl) (L' := [_, _, _, _]) (by rfl) ?_
        refine WP.mem (σ' := sr σ 15 (σ 15)) (sr_self σ 15).symm ?_
        exact cut_37 20 0 _ _ (by omega) (by omega) (by rw [hh, show k.toNat = 10 by omega]; rfl) (by omega)
      · refine r_lload_n dX5_digest_12 rfl (by rfl) ?_
        refine r_aload_n dX5_digest_13 rfl (by rfl) ?_
        refine r_iload_n dX5_digest_14 rfl (by rfl) ?_
        refine r_callV1 (ct_X5_counted hI _ (by first | exact hT | exact TI_sr hT | omega | (unfold inR; omega)) (by first | exact hT | exact TI_sr hT | omega | (unfold inR; omega))) fX5_counted qX5_232 dX5_digest_15 KD_0 (by decide) ⟨Nat.zero_le _, Nat.zero_le _⟩ (Nat.le_of_ble_eq_true rfl) ?_
        refine r_i2lw dX5_digest_18 ?_
        refine r_callS2 (ct_X5_mixed _ _) fX5_mixed qX5_250 dX5_digest_19 (by decide) ⟨Nat.zero_le _, Nat.zero_le _⟩ (Nat.le_of_ble_eq_true rfl) ?_
        refine r_lstore_n dX5_digest_22 rfl (Nat.le_of_ble_eq_true rfl) (Nat.le_of_ble_eq_true rfl) (L' := [_, _, _, _]) (by rfl) ?_
        refine r_iinc dX5_digest_23 (by rfl) (Nat.le_of_ble_eq_true rfl) (L' := [_, _, _, _]) (by rfl) ?_
        refine r_goto (tgt := 6) dX5_digest_26 (by decide) ?_
        exact ih (k + 1) _ (by omega) (by omega) (by
          rw [show (k + 1).toNat = k.toNat + 1 by omega]
          unfold foldM
          rw [← hh, ek]) (by omega)
  refine r_ldc2 (a := 2699) ql_X5_248 (by decide) dX5_digest_0 ?_
  refine r_lstore_n dX5_digest_3 rfl (Nat.le_of_ble_eq_true rfl) (Nat.le_of_ble_eq_true rfl) (L' := [_, _, _, _]) (by rfl) ?_
  refine r_iconst dX5_digest_4 ?_
  refine r_istore_n dX5_digest_5 rfl (Nat.le_of_ble_eq_true rfl) (L' := [_, _, _, _]) (by rfl) ?_
  exact cut_6 20 0 _ (by omega) (by omega) rfl (by omega)
