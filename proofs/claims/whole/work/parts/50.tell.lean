/-! the model: what it tells, in the words of the class -/
/-- a look's memory behind: scratch, and what is thrown -/
def LK (σ : ST) (e : Int) (σ' : ST) : Prop := (∀ p, p ≠ 110 → p ≠ 114 → σ' p = σ p) ∧ σ' 110 0 = e ∧ ∀ k, k ≠ 0 → k ≠ 7 → σ' 110 k = σ 110 k
theorem LK_sc {σ : ST} {e : Int} {q : Int × (Nat → Int)} (h : e = 0) : LK σ e (scM (up2 σ 110 0 0) q) := by
  subst h
  exact ⟨fun p h1 h2 => by rw [sc_o _ _ ⟨h1, h2⟩, up2_off _ h1], by rw [sc_110 _ _ (by decide), up2_at], fun k h1 h2 => by rw [sc_110 _ _ h2, up2_el _ _ _ h1]⟩
theorem LK_z {σ : ST} {e : Int} (h : e = 0) : LK σ e (up2 σ 110 0 0) := by
  subst h
  exact ⟨fun p h1 h2 => up2_off _ h1, up2_at _ _ _ _, fun k h1 h2 => up2_el _ _ _ h1⟩
theorem LK_f {σ : ST} {e v : Int} (h : e = v) : LK σ e (up2 (up2 σ 110 0 0) 110 0 v) := by
  subst h
  exact ⟨fun p h1 h2 => by rw [up2_off _ h1, up2_off _ h1], up2_at _ _ _ _, fun k h1 h2 => by rw [up2_el _ _ _ h1, up2_el _ _ _ h1]⟩
/-- a code of the class, told as the law's catch clauses tell it -/
def cE (x y z e : Int) : Int := if e = 0 then 0 else if e = x then 1 else if e = y then 2 else if e = z then 3 else 4
theorem ct_X6_valueByR {l : Launch} {G : GG} {π : Nat → Option Nat} {σ τ : ST} (c : ST) (hR : Rel c σ) (r s : Int) (r0 : 0 ≤ r) (r1 : r < c 10 0) (s0 : 0 ≤ s) (s1 : s < c 2 0) (a : Int) (ha : inR a) : Ct l G mX6_valueBy (4, 0, 0) [.ref 110, .int (iI r), .int (iI s), .int (iI a)] 117 KD σ τ (RHO π) (KG (some (.int (iI (vRd c r.toNat s.toNat a)))) (fun σ' => ∃ q, True ∧ σ' = scM σ q) τ π) := by
  have hn := hR.nm
  obtain ⟨h1, q, h2, h3⟩ := VR_rdI hR r0 r1 s0 s1
  have k := ct_X6_valueBy (l := l) (G := G) (π := π) (τ := τ) hR.mj r s r0 (by omega) s0 (by omega) h1 a ha
  rw [va_eq hR r0 r1 s0 s1] at k
  refine Ct.mono (KG_of_KQ ?_) k
  split
  · exact ⟨_, trivial, sc_self σ⟩
  · exact ⟨q, trivial, h3⟩
theorem ct_X6_sumByR {l : Launch} {G : GG} {π : Nat → Option Nat} {σ τ : ST} (c : ST) (hR : Rel c σ) (r s : Int) (r0 : 0 ≤ r) (r1 : r < c 10 0) (s0 : 0 ≤ s) (s1 : s < c 2 0) : Ct l G mX6_sumBy (4, 0, 0) [.ref 110, .int (iI r), .int (iI s)] 117 KD σ τ (RHO π) (KG (some (.int (iI (sumV c (vR c r.toNat s.toNat) s.toNat (c 7 s.toNat).toNat)))) (fun σ' => ∃ q, True ∧ σ' = scM σ q) τ π) := by
  have hn := hR.nm
  have hw := hR.ci.wd s.toNat
  obtain ⟨h1, q, h2, h3⟩ := VR_rdI hR r0 r1 s0 s1
  have k := ct_X6_sumBy (l := l) (G := G) (π := π) (τ := τ) hR.mj r s r0 (by omega) s0 (by omega) h1 (by rw [h3, sc_7, h2.1]; exact hw)
  rw [sm_eq hR r0 r1 s0 s1] at k
  exact Ct.mono (KG_of_KQ ⟨q, trivial, h3⟩) k
theorem ct_X6_tellsRowR {l : Launch} {G : GG} {π : Nat → Option Nat} {σ τ : ST} (c : ST) (hR : Rel c σ) (r : Int) (r0 : 0 ≤ r) (r1 : r < c 10 0) (w : Int) (w0 : 0 ≤ w) (w1 : w ≤ 5) : Ct l G mX6_tellsRow (5, 0, 0) [.ref 110, .int (iI r), .int (iI w)] 117 KD σ τ (RHO π) (KG (some (.int (iI (roP c r.toNat w)))) (fun σ' => ∃ q, True ∧ σ' = scM σ q) τ π) := by
  have hn := hR.nm
  have hs := hR.ci.sz
  obtain ⟨e0, e1, e2, e3⟩ := rs_eq hR r0 r1
  obtain ⟨h1, q, h2, h3⟩ := VR_rdI hR r0 r1 e3 e2
  obtain ⟨g1, q', g2, g3⟩ := VR_rdI hR r0 r1 (s := c 2 0 - 1) (by omega) (by omega)
  have w4 := hR.ci.wd (c 11 r.toNat).toNat
  have w5 := hR.ci.wd (c 2 0 - 1).toNat
  have k := ct_X6_tellsRow (l := l) (G := G) (π := π) (τ := τ) hR.mj r r0 (by omega) w w0 w1 (by rw [e0]; exact h1) (by rw [e0, h3, sc_7, h2.1]; exact w4) (by rw [hn.1]; exact g1) (by rw [hn.1, g3, sc_7, g2.1]; exact w5)
  rw [tr_eq hR r0 r1] at k
  refine Ct.mono (KG_of_KQ ?_) k
  unfold trS
  rw [e0, hn.1]
  (repeat' split)
  · exact ⟨_, trivial, sc_self σ⟩
  · exact ⟨q, trivial, h3⟩
  · exact ⟨q', trivial, g3⟩
theorem ct_X6_goesR {l : Launch} {G : GG} {π : Nat → Option Nat} {σ τ : ST} (c : ST) (hR : Rel c σ) (a b : Int) (v : Nat → Int) (a0 : 0 ≤ a) (a1 : a < c 2 0) (b0 : 0 ≤ b) (b1 : b < c 2 0) (hb : bdV v) (hv : VR c σ a.toNat v σ) : Ct l G mX6_goes (2, 0, 0) [.ref 110, .int (iI a), .int (iI b)] 117 KD σ τ (RHO π) (KG none (fun σ' => ∃ q, PV c b (cb c (cf c v a.toNat (b.toNat - a.toNat)) a.toNat (a.toNat - b.toNat)) q ∧ σ' = scM σ q) τ π) := by
  have hn := hR.nm
  obtain ⟨h1, h2, h3⟩ := VR_go hR (a := a.toNat) (b := b.toNat) (by omega) (by omega) hb hv
  rw [show ((a.toNat : Nat) : Int) = a by omega, show ((b.toNat : Nat) : Int) = b by omega] at h1 h2 h3
  have p := h3.pv
  rw [show ((b.toNat : Nat) : Int) = b by omega] at p
  exact Ct.mono (KG_of_KQ ⟨_, p, (SC_go σ a b).eq⟩) (ct_X6_goes hR.mj a b a0 (by omega) b0 (by omega) h1 h2)

set_option maxRecDepth 100000 in
set_option maxHeartbeats 4000000 in
theorem ct_X6_losses {l : Launch} {G : GG} {π : Nat → Option Nat} {σ τ : ST} (c : ST) (hR : Rel c σ) (r s : Int) (r0 : 0 ≤ r) (r1 : r < c 10 0) (s0 : 0 ≤ s) (s1 : s < c 2 0)  : Ct l G mX6_losses (4, 0, 0) [.ref 110, .int (iI r), .int (iI s)] 117 KD σ τ (RHO π) (KG (some (.int (iI (lsC c (lsV c r.toNat s.toNat) r.toNat (c 7 (c 11 r.toNat).toNat).toNat)))) (fun σ' => ∃ q, True ∧ σ' = scM σ q) τ π) := by
  have hn := hR.nm
  have hsz := hR.ci.sz
  have hrw := hR.ci.ro
  have hcu := hR.ci.cu
  have hmk := hR.ci.mk
  obtain ⟨e0, e1, e2, e3⟩ := rs_eq hR r0 r1
  have hw := hR.ci.wd (c 11 r.toNat).toNat
  have hbd := vR_bd hR.ci r.toNat s.toNat
  refine ct_intro (own := "ShapedRowsModel") rfl (by decide +kernel) (Nat.le_of_ble_eq_true rfl) (L := _) rfl ?_
  have cut_25 : ∀ (N : Nat) (q : Int × (Nat → Int)) (k m : Int), (PV c (c 11 r.toNat) (lsV c r.toNat s.toNat) q) → (0 ≤ k) → (k ≤ c 7 (c 11 r.toNat).toNat) → (m = lsC c (lsV c r.toNat s.toNat) r.toNat k.toNat) → c 7 (c 11 r.toNat).toNat - k < (N : Int) → WP l G "ShapedRowsModel" mX6_losses (4, 0, 0) (KG (some (.int (iI (lsC c (lsV c r.toNat s.toNat) r.toNat (c 7 (c 11 r.toNat).toNat).toNat)))) (fun σ' => ∃ q, True ∧ σ' = scM σ q) τ π) noX 117 25 [some (.ref 110), some (.int (iI r)), some (.int (iI s)), some (.int (iI (c 11 r.toNat))), some (.int (iI m)), some (.int (iI k))] [] 117 KD (scM σ q) τ (RHO π) 0 0 := by
    intro N
    induction N with
    | zero => intro q k m hq k0 k1 hm0 hm; exact absurd hm (by omega)
    | succ N ih =>
      intro q k m hq k0 k1 hm0 hm
      have q7 := sc_7 σ q
      have q14 := sc_114 σ q
      have qk : k < c 7 (c 11 r.toNat).toNat → q.2 k.toNat = lsV c r.toNat s.toNat (c 8 (8 * (c 11 r.toNat).toNat + k.toNat)).toNat := fun hh => hq.2 k.toNat (by omega)
      have vk : k < c 7 (c 11 r.toNat).toNat → oM σ r (2 + k) = c 13 (12 * r.toNat + (c 8 (8 * (c 11 r.toNat).toNat + k.toNat)).toNat) := fun hh => by
        have e := hR.va r.toNat k.toNat (by omega) (by omega)
        rw [show ((r.toNat : Nat) : Int) = r by omega, show ((k.toNat : Nat) : Int) = k by omega] at e
        exact e
      have hb1 := cb_bd hR.ci (cf_bd hR.ci hbd s.toNat ((c 11 r.toNat).toNat - s.toNat)) s.toNat (s.toNat - (c 11 r.toNat).toNat) _ (cl12 hR.ci (8 * (c 11 r.toNat).toNat + k.toNat))
      have hb2 := hR.ci.va (12 * r.toNat + (c 8 (8 * (c 11 r.toNat).toNat + k.toNat)).toNat)
      have hb1 : 0 ≤ lsV c r.toNat s.toNat (c 8 (8 * (c 11 r.toNat).toNat + k.toNat)).toNat ∧ lsV c r.toNat s.toNat (c 8 (8 * (c 11 r.toNat).toNat + k.toNat)).toNat ≤ 99999 := hb1
      refine r_iload dX6_losses_25 (by rfl) ?_
      refine r_aload_n dX6_losses_27 rfl (by rfl) ?_
      refine r_get_i kX6_98 dX6_losses_28 KD_110 ?_
      rw [q7, hq.1]
      refine r_icmp_ge (tgt := 69) dX6_losses_31 (by decide) (by unfold inR; omega) (by unfold inR; omega) (fun c_1 => ?_) (fun c_1 => ?_)
      · refine r_iload dX6_losses_69 (by rfl) ?_
        exact r_ret_ig dX6_losses_71 rfl ⟨Nat.zero_le _, Nat.zero_le _⟩ (by rw [hm0, show k.toNat = (c 7 (c 11 r.toNat).toNat).toNat by omega]) (by exact ⟨q, trivial, rfl⟩)
      · refine r_iload dX6_losses_34 (by rfl) ?_
        refine r_aload_n dX6_losses_36 rfl (by rfl) ?_
        refine r_get_r kX6_19 dX6_losses_37 KD_110 (RHO_110_6 _) ?_
        refine r_iload dX6_losses_40 (by rfl) ?_
        refine r_iald dX6_losses_42 KD_114 (by omega) (by omega) (by first | decide | omega) ?_
        refine r_aload_n dX6_losses_43 rfl (by rfl) ?_
        refine r_iload_n dX6_losses_44 rfl (by rfl) ?_
        refine r_iconst dX6_losses_45 ?_
        refine r_iload dX6_losses_46 (by rfl) ?_
        refine r_iadd dX6_losses_48 ?_
        rw [q14, qk (by omega)]
        refine r_callV2 (ct_X6_rowOf _ _ (by first | exact hR | exact Rel_cg (sc_111 _ _) hR | exact hR.mj | exact MJ_cg (sc_111 _ _) hR.mj | omega | (rw [sc_111]; omega) | (unfold inR; omega)) (by first | exact hR | exact Rel_cg (sc_111 _ _) hR | exact hR.mj | exact MJ_cg (sc_111 _ _) hR.mj | omega | (rw [sc_111]; omega) | (unfold inR; omega))) fX6_rowOf qX6_108 dX6_losses_49 KD_110 (by decide) ⟨Nat.zero_le _, Nat.zero_le _⟩ (Nat.le_of_ble_eq_true rfl) ?_
        rw [sc_ro, vk (by omega)]
        refine r_icmp_ne (tgt := 59) dX6_losses_52 (by decide) (by unfold inR; omega) (by unfold inR; omega) (fun c_2 => ?_) (fun c_2 => ?_)
        · refine r_iconst dX6_losses_59 ?_
          refine r_iadd dX6_losses_60 ?_
          refine r_istore dX6_losses_61 (Nat.le_of_ble_eq_true rfl) (L' := [_, _, _, _, _, _]) (by rfl) ?_
          refine r_iinc dX6_losses_63 (by rfl) (Nat.le_of_ble_eq_true rfl) (L' := [_, _, _, _, _, _]) (by rfl) ?_
          refine r_goto (tgt := 25) dX6_losses_66 (by decide) ?_
          exact ih q (k + 1) _ hq (by omega) (by omega) (by
            rw [show (k + 1).toNat = k.toNat + 1 by omega]
            unfold lsC
            rw [← hm0]
            first | (rw [if_pos (by assumption)]; done) | (rw [if_neg (by assumption)]; done)) (by omega)
        · refine r_iconst dX6_losses_55 ?_
          refine r_goto (tgt := 60) dX6_losses_56 (by decide) ?_
          refine r_iadd dX6_losses_60 ?_
          refine r_istore dX6_losses_61 (Nat.le_of_ble_eq_true rfl) (L' := [_, _, _, _, _, _]) (by rfl) ?_
          refine r_iinc dX6_losses_63 (by rfl) (Nat.le_of_ble_eq_true rfl) (L' := [_, _, _, _, _, _]) (by rfl) ?_
          refine r_goto (tgt := 25) dX6_losses_66 (by decide) ?_
          exact ih q (k + 1) _ hq (by omega) (by omega) (by
            rw [show (k + 1).toNat = k.toNat + 1 by omega]
            unfold lsC
            rw [← hm0]
            first | (rw [if_pos (by assumption)]; done) | (rw [if_neg (by assumption)]; done)) (by omega)
  refine r_aload_n dX6_losses_0 rfl (by rfl) ?_
  refine r_iload_n dX6_losses_1 rfl (by rfl) ?_
  refine r_iconst dX6_losses_2 ?_
  refine r_callV2 (ct_X6_rowOf _ _ (by first | exact hR | exact Rel_cg (sc_111 _ _) hR | exact hR.mj | exact MJ_cg (sc_111 _ _) hR.mj | omega | (rw [sc_111]; omega) | (unfold inR; omega)) (by first | exact hR | exact Rel_cg (sc_111 _ _) hR | exact hR.mj | exact MJ_cg (sc_111 _ _) hR.mj | omega | (rw [sc_111]; omega) | (unfold inR; omega))) fX6_rowOf qX6_108 dX6_losses_3 KD_110 (by decide) ⟨Nat.zero_le _, Nat.zero_le _⟩ (Nat.le_of_ble_eq_true rfl) ?_
  rw [e0]
  refine r_istore_n dX6_losses_6 rfl (Nat.le_of_ble_eq_true rfl) (L' := [_, _, _, _, _, _]) (by rfl) ?_
  refine r_aload_n dX6_losses_7 rfl (by rfl) ?_
  refine r_iload_n dX6_losses_8 rfl (by rfl) ?_
  refine r_iload_n dX6_losses_9 rfl (by rfl) ?_
  refine r_callG2 (ct_X6_readsR _ (by first | exact hR | exact Rel_cg (sc_111 _ _) hR | exact hR.mj | exact MJ_cg (sc_111 _ _) hR.mj | omega | (rw [sc_111]; omega) | (unfold inR; omega)) _ _ (by first | exact hR | exact Rel_cg (sc_111 _ _) hR | exact hR.mj | exact MJ_cg (sc_111 _ _) hR.mj | omega | (rw [sc_111]; omega) | (unfold inR; omega)) (by first | exact hR | exact Rel_cg (sc_111 _ _) hR | exact hR.mj | exact MJ_cg (sc_111 _ _) hR.mj | omega | (rw [sc_111]; omega) | (unfold inR; omega)) (by first | exact hR | exact Rel_cg (sc_111 _ _) hR | exact hR.mj | exact MJ_cg (sc_111 _ _) hR.mj | omega | (rw [sc_111]; omega) | (unfold inR; omega)) (by first | exact hR | exact Rel_cg (sc_111 _ _) hR | exact hR.mj | exact MJ_cg (sc_111 _ _) hR.mj | omega | (rw [sc_111]; omega) | (unfold inR; omega))) fX6_reads qX6_114 dX6_losses_10 KD_110 (by decide) ⟨Nat.zero_le _, Nat.zero_le _⟩ (Nat.le_of_ble_eq_true rfl) (fun μ1 hμ1 => ?_)
  obtain ⟨qμ1, pμ1, rfl⟩ := hμ1
  refine r_aload_n dX6_losses_13 rfl (by rfl) ?_
  refine r_iload_n dX6_losses_14 rfl (by rfl) ?_
  refine r_iload_n dX6_losses_15 rfl (by rfl) ?_
  refine r_callG2 (ct_X6_goesR c (Rel_cg (sc_111 _ _) hR) s (c 11 r.toNat) (vR c r.toNat s.toNat) s0 s1 e3 e2 hbd ⟨rfl, pμ1.vr.2.1, pμ1.vr.2.2⟩) fX6_goes qX6_111 dX6_losses_16 KD_110 (by decide) ⟨Nat.zero_le _, Nat.zero_le _⟩ (Nat.le_of_ble_eq_true rfl) (fun μ2 hμ2 => ?_)
  obtain ⟨qμ2, pμ2, rfl⟩ := hμ2
  rw [sc_sc]
  refine r_iconst dX6_losses_19 ?_
  refine r_istore dX6_losses_20 (Nat.le_of_ble_eq_true rfl) (L' := [_, _, _, _, _, _]) (by rfl) ?_
  refine r_iconst dX6_losses_22 ?_
  refine r_istore dX6_losses_23 (Nat.le_of_ble_eq_true rfl) (L' := [_, _, _, _, _, _]) (by rfl) ?_
  exact cut_25 9 _ 0 0 pμ2 (by omega) (by omega) rfl (by omega)

set_option maxRecDepth 100000 in
set_option maxHeartbeats 4000000 in
theorem ct_X6_found {l : Launch} {G : GG} {π : Nat → Option Nat} {σ τ : ST} (c : ST) (hR : Rel c σ) (s : Int) (s0 : 0 ≤ s) (s1 : s < c 2 0) (a : Int) (ha : inR a) (x : Int) (hx : inR x) : Ct l G mX6_found (5, 0, 0) [.ref 110, .int (iI s), .int (iI a), .int (iI x)] 117 KD σ τ (RHO π) (KG (some (.int (iI (mskF c s.toNat a x (c 10 0).toNat)))) (fun σ' => ∃ q, True ∧ σ' = scM σ q) τ π) := by
  have hn := hR.nm
  have hsz := hR.ci.sz
  have hrw := hR.ci.ro
  have hcu := hR.ci.cu
  have hmk := hR.ci.mk
  have ra := ha
  unfold inR at ra
  have rx := hx
  unfold inR at rx
  refine ct_intro (own := "ShapedRowsModel") rfl (by decide +kernel) (Nat.le_of_ble_eq_true rfl) (L := _) rfl ?_
  have cut_6 : ∀ (N : Nat) (q : Int × (Nat → Int)) (k m : Int), (0 ≤ k) → (k ≤ c 10 0) → (m = mskF c s.toNat a x k.toNat) → c 10 0 - k < (N : Int) → WP l G "ShapedRowsModel" mX6_found (5, 0, 0) (KG (some (.int (iI (mskF c s.toNat a x (c 10 0).toNat)))) (fun σ' => ∃ q, True ∧ σ' = scM σ q) τ π) noX 117 6 [some (.ref 110), some (.int (iI s)), some (.int (iI a)), some (.int (iI x)), some (.int (iI m)), some (.int (iI k))] [] 117 KD (scM σ q) τ (RHO π) 0 0 := by
    intro N
    induction N with
    | zero => intro q k m k0 k1 hm0 hm; exact absurd hm (by omega)
    | succ N ih =>
      intro q k m k0 k1 hm0 hm
      have hv := vRd_rng hR.ci k.toNat s.toNat a
      refine r_iload dX6_found_6 (by rfl) ?_
      refine r_aload_n dX6_found_8 rfl (by rfl) ?_
      refine r_get_r kX6_7 dX6_found_9 KD_110 (RHO_110_1 _) ?_
      refine r_iconst dX6_found_12 ?_
      refine r_iaload (k := 2) dX6_found_13 KD_111 (by omega) (by omega) (by decide) ?_
      rw [sc_111]
      refine r_icmp_ge (tgt := 48) dX6_found_14 (by decide) (by unfold inR; omega) (by unfold inR; omega) (fun c_1 => ?_) (fun c_1 => ?_)
      · refine r_iload dX6_found_48 (by rfl) ?_
        exact r_ret_ig dX6_found_50 rfl ⟨Nat.zero_le _, Nat.zero_le _⟩ (by rw [hm0, show k.toNat = (c 10 0).toNat by omega]) (by exact ⟨q, trivial, rfl⟩)
      · refine r_iload dX6_found_17 (by rfl) ?_
        refine r_aload_n dX6_found_19 rfl (by rfl) ?_
        refine r_iload dX6_found_20 (by rfl) ?_
        refine r_iload_n dX6_found_22 rfl (by rfl) ?_
        refine r_iload_n dX6_found_23 rfl (by rfl) ?_
        refine r_callG3 (ct_X6_valueByR _ (by first | exact hR | exact Rel_cg (sc_111 _ _) hR | exact hR.mj | exact MJ_cg (sc_111 _ _) hR.mj | omega | (rw [sc_111]; omega) | (unfold inR; omega) | exact ha | exact hx) _ _ (by first | exact hR | exact Rel_cg (sc_111 _ _) hR | exact hR.mj | exact MJ_cg (sc_111 _ _) hR.mj | omega | (rw [sc_111]; omega) | (unfold inR; omega) | exact ha | exact hx) (by first | exact hR | exact Rel_cg (sc_111 _ _) hR | exact hR.mj | exact MJ_cg (sc_111 _ _) hR.mj | omega | (rw [sc_111]; omega) | (unfold inR; omega) | exact ha | exact hx) (by first | exact hR | exact Rel_cg (sc_111 _ _) hR | exact hR.mj | exact MJ_cg (sc_111 _ _) hR.mj | omega | (rw [sc_111]; omega) | (unfold inR; omega) | exact ha | exact hx) (by first | exact hR | exact Rel_cg (sc_111 _ _) hR | exact hR.mj | exact MJ_cg (sc_111 _ _) hR.mj | omega | (rw [sc_111]; omega) | (unfold inR; omega) | exact ha | exact hx) _ (by first | exact hR | exact Rel_cg (sc_111 _ _) hR | exact hR.mj | exact MJ_cg (sc_111 _ _) hR.mj | omega | (rw [sc_111]; omega) | (unfold inR; omega) | exact ha | exact hx)) fX6_valueBy qX6_192 dX6_found_24 KD_110 (by decide) ⟨Nat.zero_le _, Nat.zero_le _⟩ (Nat.le_of_ble_eq_true rfl) (fun μ1 hμ1 => ?_)
        obtain ⟨qμ1, pμ1, rfl⟩ := hμ1
        rw [sc_sc]
        refine r_iload_n dX6_found_27 rfl (by rfl) ?_
        refine r_icmp_ne (tgt := 38) dX6_found_28 (by decide) (by unfold inR; omega) (by unfold inR; omega) (fun c_2 => ?_) (fun c_2 => ?_)
        · refine r_iconst dX6_found_38 ?_
          refine r_ior dX6_found_39 ?_
          refine r_istore dX6_found_40 (Nat.le_of_ble_eq_true rfl) (L' := [_, _, _, _, _, _]) (by rfl) ?_
          refine r_iinc dX6_found_42 (by rfl) (Nat.le_of_ble_eq_true rfl) (L' := [_, _, _, _, _, _]) (by rfl) ?_
          refine r_goto (tgt := 6) dX6_found_45 (by decide) ?_
          exact ih _ (k + 1) _ (by omega) (by omega) (by
            rw [show (k + 1).toNat = k.toNat + 1 by omega]
            unfold mskF
            rw [hm0, show ((k.toNat : Nat) : Int) = k by omega]
            first | (rw [if_pos (by assumption)]; done) | (rw [if_neg (by assumption), or_0 (msk_rng _ _ _ _ _)]; done)) (by omega)
        · refine r_iconst dX6_found_31 ?_
          refine r_iload dX6_found_32 (by rfl) ?_
          refine r_ishl dX6_found_34 ?_
          refine r_goto (tgt := 39) dX6_found_35 (by decide) ?_
          refine r_ior dX6_found_39 ?_
          refine r_istore dX6_found_40 (Nat.le_of_ble_eq_true rfl) (L' := [_, _, _, _, _, _]) (by rfl) ?_
          refine r_iinc dX6_found_42 (by rfl) (Nat.le_of_ble_eq_true rfl) (L' := [_, _, _, _, _, _]) (by rfl) ?_
          refine r_goto (tgt := 6) dX6_found_45 (by decide) ?_
          exact ih _ (k + 1) _ (by omega) (by omega) (by
            rw [show (k + 1).toNat = k.toNat + 1 by omega]
            unfold mskF
            rw [hm0, show ((k.toNat : Nat) : Int) = k by omega]
            first | (rw [if_pos (by assumption)]; done) | (rw [if_neg (by assumption), or_0 (msk_rng _ _ _ _ _)]; done)) (by omega)
  refine r_iconst dX6_found_0 ?_
  refine r_istore dX6_found_1 (Nat.le_of_ble_eq_true rfl) (L' := [_, _, _, _, _, _]) (by rfl) ?_
  refine r_iconst dX6_found_3 ?_
  refine r_istore dX6_found_4 (Nat.le_of_ble_eq_true rfl) (L' := [_, _, _, _, _, _]) (by rfl) ?_
  refine WP.mem (sc_self σ) ?_
  exact cut_6 15 _ 0 0 (by omega) (by omega) rfl (by omega)

set_option maxRecDepth 100000 in
set_option maxHeartbeats 4000000 in
theorem ct_X6_steps {l : Launch} {G : GG} {π : Nat → Option Nat} {σ τ : ST} (c : ST) (hR : Rel c σ)  : Ct l G mX6_steps (2, 0, 0) [.ref 110] 117 KD σ τ (RHO π) (KQ (some (.int (iI (slF c (c 10 0).toNat)))) 117 KD σ τ (RHO π)) := by
  have hn := hR.nm
  have hsz := hR.ci.sz
  have hrw := hR.ci.ro
  have hcu := hR.ci.cu
  have hmk := hR.ci.mk
  have hall := cW_all hR
  have hcr := cntR_rng c (c 2 0 - 1) (c 10 0).toNat
  refine ct_intro (own := "ShapedRowsModel") rfl (by decide +kernel) (Nat.le_of_ble_eq_true rfl) (L := _) rfl ?_
  have cut_25 : ∀ (N : Nat) (w u n : Int), (0 ≤ n) → (n ≤ c 10 0) → (w = cW c (c 10 0).toNat - cW c n.toNat) → (n = 0 ∨ cW c (n.toNat - 1) < cW c (c 10 0).toNat) → (0 ≤ u ∧ u ≤ 12) → (n < c 10 0 → (if u < c 10 0 then u else 0) = wrap c n) → c 10 0 - n < (N : Int) → WP l G "ShapedRowsModel" mX6_steps (2, 0, 0) (KQ (some (.int (iI (slF c (c 10 0).toNat)))) 117 KD σ τ (RHO π)) noX 117 25 [some (.ref 110), some (.int (iI w)), some (.int (iI u)), some (.int (iI n))] [] 117 KD σ τ (RHO π) 0 0 := by
    intro N
    induction N with
    | zero => intro w u n k0 k1 hw hm0 hu hwr hm; exact absurd hm (by omega)
    | succ N ih =>
      intro w u n k0 k1 hw hm0 hu hwr hm
      have hmo := cW_mono c n.toNat ((c 10 0).toNat - n.toNat)
      rw [show n.toNat + ((c 10 0).toNat - n.toNat) = (c 10 0).toNat by omega] at hmo
      have hc0 : 0 ≤ cW c n.toNat := by
        have := cW_mono c 0 n.toNat
        rw [Nat.zero_add] at this
        exact this
      have hlt : 0 < w → n < c 10 0 := fun hh => by
        rcases Int.lt_or_le n (c 10 0) with g | g
        · exact g
        · rw [show n.toNat = (c 10 0).toNat by omega] at hw; omega
      have hww : n < c 10 0 → 0 ≤ wrap c n ∧ wrap c n < c 10 0 := fun hh => wr_rng hR.ci k0 hh
      have hro : n < c 10 0 → oM σ (wrap c n) 0 = c 11 (wrap c n).toNat := fun hh => (rs_eq hR (hww hh).1 (hww hh).2).1
      have hrb := hR.ci.rs (wrap c n).toNat
      have hst : cW c (n + 1).toNat = cW c n.toNat + bhF c (wrap c n).toNat := by
        rw [show (n + 1).toNat = n.toNat + 1 by omega]
        show cW c n.toNat + bhF c (wrap c ((n.toNat : Nat) : Int)).toNat = _
        rw [show ((n.toNat : Nat) : Int) = n by omega]
      refine r_iload_n dX6_steps_25 rfl (by rfl) ?_
      refine r_if_le (tgt := 75) dX6_steps_26 (by decide) (by unfold inR; omega) (fun c_1 => ?_) (fun c_1 => ?_)
      · refine r_iload_n dX6_steps_75 rfl (by rfl) ?_
        exact r_ret_i dX6_steps_76 rfl ⟨Nat.zero_le _, Nat.zero_le _⟩ (by have e := sl_end (c := c) (n := n.toNat) (R := (c 10 0).toNat) (by omega) (by omega) (by omega); omega) ⟨rfl, rfl, (by first | rfl | omega), rfl, rfl⟩
      · refine r_iload_n dX6_steps_29 rfl (by rfl) ?_
        refine r_aload_n dX6_steps_30 rfl (by rfl) ?_
        refine r_get_r kX6_7 dX6_steps_31 KD_110 (RHO_110_1 _) ?_
        refine r_iconst dX6_steps_34 ?_
        refine r_iaload (k := 2) dX6_steps_35 KD_111 (by omega) (by omega) (by decide) ?_
        rw [hn.2.2.1]
        refine r_icmp_ge (tgt := 43) dX6_steps_36 (by decide) (by unfold inR; omega) (by unfold inR; omega) (fun hb => ?_) (fun hb => ?_)
        · have hx : (0 : Int) = wrap c n := by
            have hh := hwr (hlt (by omega))
            rw [if_neg (by omega)] at hh
            exact hh
          refine r_iconst dX6_steps_43 ?_
          refine WP.top (b := wrap c n) hx ?_
          have hwn := hww (hlt (by omega))
          refine r_istore_n dX6_steps_44 rfl (Nat.le_of_ble_eq_true rfl) (L' := [_, _, _, _]) (by rfl) ?_
          refine r_iload_n dX6_steps_45 rfl (by rfl) ?_
          refine r_aload_n dX6_steps_46 rfl (by rfl) ?_
          refine r_iload_n dX6_steps_47 rfl (by rfl) ?_
          refine r_iconst dX6_steps_48 ?_
          refine r_callV2 (ct_X6_rowOf _ _ (by first | exact hR | exact Rel_cg (sc_111 _ _) hR | exact hR.mj | exact MJ_cg (sc_111 _ _) hR.mj | omega | (rw [sc_111]; omega) | (unfold inR; omega)) (by first | exact hR | exact Rel_cg (sc_111 _ _) hR | exact hR.mj | exact MJ_cg (sc_111 _ _) hR.mj | omega | (rw [sc_111]; omega) | (unfold inR; omega))) fX6_rowOf qX6_108 dX6_steps_49 KD_110 (by decide) ⟨Nat.zero_le _, Nat.zero_le _⟩ (Nat.le_of_ble_eq_true rfl) ?_
          rw [hro (hlt (by omega))]
          refine r_aload_n dX6_steps_52 rfl (by rfl) ?_
          refine r_callV0 ct_X6_newest fX6_newest qX6_44 dX6_steps_53 KD_110 (by decide) ⟨Nat.zero_le _, Nat.zero_le _⟩ (Nat.le_of_ble_eq_true rfl) ?_
          rw [hn.1]
          refine r_icmp_ge (tgt := 63) dX6_steps_56 (by decide) (by unfold inR; omega) (by unfold inR; omega) (fun c_2 => ?_) (fun c_2 => ?_)
          · refine r_iconst dX6_steps_63 ?_
            refine r_isub dX6_steps_64 ?_
            refine r_istore_n dX6_steps_65 rfl (Nat.le_of_ble_eq_true rfl) (L' := [_, _, _, _]) (by rfl) ?_
            refine r_iinc dX6_steps_66 (by rfl) (Nat.le_of_ble_eq_true rfl) (L' := [_, _, _, _]) (by rfl) ?_
            refine r_iinc dX6_steps_69 (by rfl) (Nat.le_of_ble_eq_true rfl) (L' := [_, _, _, _]) (by rfl) ?_
            refine r_goto (tgt := 25) dX6_steps_72 (by decide) ?_
            refine ih _ _ (n + 1) (by omega) (by omega) ?_ (Or.inr (by rw [show (n + 1).toNat - 1 = n.toNat by omega]; omega)) (by omega) (fun hh => ?_) (by omega)
            · rw [hst]
              unfold bhF
              first | (rw [if_pos (by omega)]; omega) | (rw [if_neg (by omega)]; omega)
            · exact wr_next hR.ci k0 hh
          · refine r_iconst dX6_steps_59 ?_
            refine r_goto (tgt := 64) dX6_steps_60 (by decide) ?_
            refine r_isub dX6_steps_64 ?_
            refine r_istore_n dX6_steps_65 rfl (Nat.le_of_ble_eq_true rfl) (L' := [_, _, _, _]) (by rfl) ?_
            refine r_iinc dX6_steps_66 (by rfl) (Nat.le_of_ble_eq_true rfl) (L' := [_, _, _, _]) (by rfl) ?_
            refine r_iinc dX6_steps_69 (by rfl) (Nat.le_of_ble_eq_true rfl) (L' := [_, _, _, _]) (by rfl) ?_
            refine r_goto (tgt := 25) dX6_steps_72 (by decide) ?_
            refine ih _ _ (n + 1) (by omega) (by omega) ?_ (Or.inr (by rw [show (n + 1).toNat - 1 = n.toNat by omega]; omega)) (by omega) (fun hh => ?_) (by omega)
            · rw [hst]
              unfold bhF
              first | (rw [if_pos (by omega)]; omega) | (rw [if_neg (by omega)]; omega)
            · exact wr_next hR.ci k0 hh
        · have hx : u = wrap c n := by
            have hh := hwr (hlt (by omega))
            rw [if_pos (by omega)] at hh
            exact hh
          refine r_iload_n dX6_steps_39 rfl (by rfl) ?_
          refine r_goto (tgt := 44) dX6_steps_40 (by decide) ?_
          refine WP.top (b := wrap c n) hx ?_
          have hwn := hww (hlt (by omega))
          refine r_istore_n dX6_steps_44 rfl (Nat.le_of_ble_eq_true rfl) (L' := [_, _, _, _]) (by rfl) ?_
          refine r_iload_n dX6_steps_45 rfl (by rfl) ?_
          refine r_aload_n dX6_steps_46 rfl (by rfl) ?_
          refine r_iload_n dX6_steps_47 rfl (by rfl) ?_
          refine r_iconst dX6_steps_48 ?_
          refine r_callV2 (ct_X6_rowOf _ _ (by first | exact hR | exact Rel_cg (sc_111 _ _) hR | exact hR.mj | exact MJ_cg (sc_111 _ _) hR.mj | omega | (rw [sc_111]; omega) | (unfold inR; omega)) (by first | exact hR | exact Rel_cg (sc_111 _ _) hR | exact hR.mj | exact MJ_cg (sc_111 _ _) hR.mj | omega | (rw [sc_111]; omega) | (unfold inR; omega))) fX6_rowOf qX6_108 dX6_steps_49 KD_110 (by decide) ⟨Nat.zero_le _, Nat.zero_le _⟩ (Nat.le_of_ble_eq_true rfl) ?_
          rw [hro (hlt (by omega))]
          refine r_aload_n dX6_steps_52 rfl (by rfl) ?_
          refine r_callV0 ct_X6_newest fX6_newest qX6_44 dX6_steps_53 KD_110 (by decide) ⟨Nat.zero_le _, Nat.zero_le _⟩ (Nat.le_of_ble_eq_true rfl) ?_
          rw [hn.1]
          refine r_icmp_ge (tgt := 63) dX6_steps_56 (by decide) (by unfold inR; omega) (by unfold inR; omega) (fun c_3 => ?_) (fun c_3 => ?_)
          · refine r_iconst dX6_steps_63 ?_
            refine r_isub dX6_steps_64 ?_
            refine r_istore_n dX6_steps_65 rfl (Nat.le_of_ble_eq_true rfl) (L' := [_, _, _, _]) (by rfl) ?_
            refine r_iinc dX6_steps_66 (by rfl) (Nat.le_of_ble_eq_true rfl) (L' := [_, _, _, _]) (by rfl) ?_
            refine r_iinc dX6_steps_69 (by rfl) (Nat.le_of_ble_eq_true rfl) (L' := [_, _, _, _]) (by rfl) ?_
            refine r_goto (tgt := 25) dX6_steps_72 (by decide) ?_
            refine ih _ _ (n + 1) (by omega) (by omega) ?_ (Or.inr (by rw [show (n + 1).toNat - 1 = n.toNat by omega]; omega)) (by omega) (fun hh => ?_) (by omega)
            · rw [hst]
              unfold bhF
              first | (rw [if_pos (by omega)]; omega) | (rw [if_neg (by omega)]; omega)
            · exact wr_next hR.ci k0 hh
          · refine r_iconst dX6_steps_59 ?_
            refine r_goto (tgt := 64) dX6_steps_60 (by decide) ?_
            refine r_isub dX6_steps_64 ?_
            refine r_istore_n dX6_steps_65 rfl (Nat.le_of_ble_eq_true rfl) (L' := [_, _, _, _]) (by rfl) ?_
            refine r_iinc dX6_steps_66 (by rfl) (Nat.le_of_ble_eq_true rfl) (L' := [_, _, _, _]) (by rfl) ?_
            refine r_iinc dX6_steps_69 (by rfl) (Nat.le_of_ble_eq_true rfl) (L' := [_, _, _, _]) (by rfl) ?_
            refine r_goto (tgt := 25) dX6_steps_72 (by decide) ?_
            refine ih _ _ (n + 1) (by omega) (by omega) ?_ (Or.inr (by rw [show (n + 1).toNat - 1 = n.toNat by omega]; omega)) (by omega) (fun hh => ?_) (by omega)
            · rw [hst]
              unfold bhF
              first | (rw [if_pos (by omega)]; omega) | (rw [if_neg (by omega)]; omega)
            · exact wr_next hR.ci k0 hh
  refine r_aload_n dX6_steps_0 rfl (by rfl) ?_
  refine r_get_r kX6_7 dX6_steps_1 KD_110 (RHO_110_1 _) ?_
  refine r_iconst dX6_steps_4 ?_
  refine r_iaload (k := 2) dX6_steps_5 KD_111 (by omega) (by omega) (by decide) ?_
  refine r_aload_n dX6_steps_6 rfl (by rfl) ?_
  refine r_aload_n dX6_steps_7 rfl (by rfl) ?_
  refine r_callV0 ct_X6_newest fX6_newest qX6_44 dX6_steps_8 KD_110 (by decide) ⟨Nat.zero_le _, Nat.zero_le _⟩ (Nat.le_of_ble_eq_true rfl) ?_
  refine r_callV1 (ct_X6_rowsWith (by first | exact hR | exact Rel_cg (sc_111 _ _) hR | exact hR.mj | exact MJ_cg (sc_111 _ _) hR.mj | omega | (rw [sc_111]; omega) | (unfold inR; omega)) _ (by first | exact hR | exact Rel_cg (sc_111 _ _) hR | exact hR.mj | exact MJ_cg (sc_111 _ _) hR.mj | omega | (rw [sc_111]; omega) | (unfold inR; omega))) fX6_rowsWith qX6_201 dX6_steps_11 KD_110 (by decide) ⟨Nat.zero_le _, Nat.zero_le _⟩ (Nat.le_of_ble_eq_true rfl) ?_
  rw [hn.2.2.1, hn.1, rc_eq hR _ _ (by omega)]
  refine r_isub dX6_steps_14 ?_
  refine r_istore_n dX6_steps_15 rfl (Nat.le_of_ble_eq_true rfl) (L' := [_, _, _, _]) (by rfl) ?_
  refine r_aload_n dX6_steps_16 rfl (by rfl) ?_
  refine r_get_r kX6_7 dX6_steps_17 KD_110 (RHO_110_1 _) ?_
  refine r_iconst dX6_steps_20 ?_
  refine r_iaload (k := 3) dX6_steps_21 KD_111 (by omega) (by omega) (by decide) ?_
  refine r_istore_n dX6_steps_22 rfl (Nat.le_of_ble_eq_true rfl) (L' := [_, _, _, _]) (by rfl) ?_
  refine r_iconst dX6_steps_23 ?_
  refine r_istore_n dX6_steps_24 rfl (Nat.le_of_ble_eq_true rfl) (L' := [_, _, _, _]) (by rfl) ?_
  exact cut_25 13 _ _ 0 (by omega) (by omega) (by
    show _ = _ - (0 : Int)
    omega) (Or.inl rfl) (by omega) (fun hh => by
    rw [hn.2.2.2.1]
    exact wr_0 hR.ci hh) (by omega)
