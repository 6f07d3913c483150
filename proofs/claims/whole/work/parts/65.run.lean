/-! the model: a run -/
theorem svM_cg {σ μ : ST} (h3 : μ 110 3 = σ 110 3) (h1 : μ 111 = σ 111) (h2 : μ 112 = σ 112) : svM μ 112 = svM σ 112 ∧ svM μ 110 3 = svM σ 110 3 := by
  have hN : ∀ a b : ST, a 110 3 = b 110 3 → a 111 = b 111 → a 112 = b 112 → svN a 112 = svN b 112 := fun a b x3 x1 x2 => by
    unfold svN
    rw [up2_off _ (by omega), up2_off _ (by omega), x3, x1]
    funext k
    unfold cpR
    rw [x2]
  constructor
  · unfold svM
    rw [h3]
    split
    · refine hN _ _ ?_ ?_ ?_
      · rw [up2_at, up2_at]
      · unfold shN; rw [up2_off _ (by omega), up2_off _ (by omega), cpR_off _ _ _ _ (by omega), cpR_off _ _ _ _ (by omega), h1]
      · unfold shN
        rw [up2_off _ (by omega), up2_off _ (by omega)]
        funext k
        unfold cpR
        rw [h2]
    · exact hN _ _ h3 h1 h2
  · rw [svM_3, svM_3, h3]
theorem OD_cg {c d σ μ : ST} (h8 : d 108 = c 108) (h9 : d 109 = c 109) (h5 : μ 115 = σ 115) {i : Nat} {f e : Int} (h : OD c σ i f e) : OD d μ i f e := by
  have hcd : ∀ i, cdF d i = cdF c i := fun i => cdF_cg h8 h9 i
  have hnb : ∀ i n, nbF d i n = nbF c i n := fun i n => nbF_cg h8 h9 i n
  have hiv : ∀ f k n, IV d f k n = IV c f k n := fun f k n => by
    unfold IV
    simp only [hcd]
  unfold OD ORd letF afW at h ⊢
  unfold letF at h ⊢
  rw [h5, h8, h9]
  simp only [hcd, hnb, hiv]
  exact h
/-- to the end of an order nothing happens -/
theorem rn_run {c d : ST} {n f e g : Int} (f0 : 0 ≤ f) (hq : rn c f.toNat = (d, n, f, g)) (hg : g ≠ 0) (he : e ≤ c 108 1) (hn : ∀ k : Int, f ≤ k → k < e → cdF c k ≠ 59) : ∀ m : Nat, f + m ≤ e → rn c (f + m).toNat = (d, n, f, g)
  | 0, _ => by rw [show f + ((0 : Nat) : Int) = f by omega]; exact hq
  | m + 1, hm => by
    have ih := rn_run f0 hq hg he hn m (by omega)
    have := rn_no (k := f + (m : Int)) (by omega) ih hg (by
      have := hn (f + (m : Int)) (by omega) (by omega)
      omega)
    rw [show f + ((m + 1 : Nat) : Int) = f + (m : Int) + 1 by omega]
    exact this
theorem rn_ord {c d : ST} {n f e : Int} (hq : rn c f.toNat = (d, n, f, 1)) (f0 : 0 ≤ f) (fe : f < e) (he : e ≤ c 108 1) (hn : ∀ k : Int, f ≤ k → k < e → cdF c k ≠ 59) (h5 : e = c 108 1 ∨ cdF c e = 59) : rn c (e + 1).toNat = (exO d f e, n + exA d f e, e + 1, exA d f e) := by
  have h1 := rn_run f0 hq (by decide) he hn (e - f).toNat (by omega)
  rw [show f + (((e - f).toNat : Nat) : Int) = e by omega] at h1
  exact rn_yes (by omega) h1 (by decide) h5 rfl
/-- how far the model's run is -/
def RG (c : ST) (N : Nat) (F : Nat → Int) (d : ST) (n : Nat) : Prop := (n ≤ N ∧ rn c (F n).toNat = (d, (n : Int), F n, 1)) ∨ (n = N + 1 ∧ rn c ((c 108 1).toNat + 1) = (d, (n : Int), c 108 1 + 1, 1))
def RUQ (σ c : ST) (σ' : ST) : Prop := σ' 110 0 = cE 1 9 9 (er_run c) ∧ (∀ q, q < 110 ∨ 115 < q → σ' q = σ q) ∧ (er_run c ≠ 0 → σ' 111 = σ 111 ∧ σ' 112 = σ 112 ∧ σ' 113 = σ 113 ∧ σ' 110 3 = σ 110 3 ∧ σ' 110 5 = σ 110 5) ∧ (er_run c = 0 → Rel (rnS c) σ' ∧ σ' 112 = svM σ 112 ∧ σ' 110 3 = svM σ 110 3 ∧ σ' 110 5 = 0 ∧ σ' 113 = σ 113)
theorem er_run_cm {c : ST} : er_run c = 0 ↔ cmT c := by
  unfold er_run cmT
  split
  · exact ⟨fun _ => by assumption, fun _ => rfl⟩
  · exact ⟨fun z => by omega, fun z => absurd z (by assumption)⟩
/-- the memory behind saves and the length's reset -/
def RM (σ M : ST) : Prop := (∀ q, q < 110 ∨ 115 < q → M q = σ q) ∧ M 110 0 = 0 ∧ M 112 = svM σ 112 ∧ M 110 3 = svM σ 110 3 ∧ M 110 5 = 0 ∧ M 113 = σ 113
theorem RUQ_of {σ c M μ : ST} (hM : RM σ M) (hg : GM M μ) (hc : cmT c) (hR : Rel (rnS c) μ) : RUQ σ c μ := by
  obtain ⟨m1, m2, m3, m4, m5, m6⟩ := hM
  have e : er_run c = 0 := er_run_cm.mpr hc
  refine ⟨?_, fun q hq => by rw [hg.1 q (by omega) (by omega) (by omega)]; exact m1 q hq, fun z => absurd e z, fun _ => ⟨hR, ?_, ?_, ?_, ?_⟩⟩
  · rw [hg.2 0 (by omega), m2, e]; rfl
  · rw [hg.1 112 (by omega) (by omega) (by omega)]; exact m3
  · rw [hg.2 3 (by omega)]; exact m4
  · rw [hg.2 5 (by omega)]; exact m5
  · rw [hg.1 113 (by omega) (by omega) (by omega)]; exact m6

set_option maxRecDepth 100000 in
set_option maxHeartbeats 4000000 in
theorem ct_X6_runR {l : Launch} {G : GG} {π : Nat → Option Nat} {σ τ : ST} (c : ST) (hR : Rel c σ) (hT : TX c σ) (hn0 : 0 ≤ σ 110 3) (hn1 : σ 110 3 ≤ 6) : Ct l G mX6_run (7, 0, 0) [.ref 110] 117 KD σ τ (RHO π) (KG (some (.int (iI (if er_run c = 0 then rnD c else 0)))) (RUQ σ c) τ π) := by
  have T1 := TX_z hT 0
  have hlen := hT.1.1
  refine ct_intro (own := "ShapedRowsModel") rfl (by decide +kernel) (Nat.le_of_ble_eq_true rfl) (L := _) rfl ?_
  have cut_33 : ∀ (N : Nat) (Q : Nat) (F E : Nat → Int) (M μ d : ST) (n : Nat), (SGF c M (Q + 1) F E) → (E Q = c 108 1) → (M 110 11 = (Q : Int) + 1) → (GM M μ) → (Rel d μ) → (RM σ M) → (cmT c) → (RG c Q F d n) → (n ≤ Q + 1) → (Q : Int) + 1 - n < (N : Int) → WP l G "ShapedRowsModel" mX6_run (7, 0, 0) (KG (some (.int (iI (if er_run c = 0 then rnD c else 0)))) (RUQ σ c) τ π) noX 117 33 [some (.ref 110), some (.int (iI (n : Int)))] [] 117 KD μ τ (RHO π) 0 0 := by
    intro N
    induction N with
    | zero => intro Q F E M μ d n hs hE h11 hg hd hM hc hrg hnQ hm; exact absurd hm (by omega)
    | succ N ih =>
      intro Q F E M μ d n hs hE h11 hg hd hM hc hrg hnQ hm
      have g11 : μ 110 11 = (Q : Int) + 1 := (hg.2 11 (by omega)).trans h11
      have e5 : μ 115 = M 115 := hg.1 115 (by omega) (by omega) (by omega)
      have hNl : (Q : Int) < 61 := by
        have q1 := hs.le Q (by omega)
        have q2 := (hs.2.1 Q (by omega)).2.2.2.2
        omega
      have hend : n = Q + 1 → rnS c = d ∧ rnD c = (n : Int) := fun z => by
        rcases hrg with q | q
        · have := q.1; omega
        · have q2 := q.2
          unfold rnS rnD
          rw [q2]
          exact ⟨rfl, rfl⟩
      refine r_iload_n dX6_run_33 rfl (by rfl) ?_
      refine r_aload_n dX6_run_34 rfl (by rfl) ?_
      refine r_get_i kX6_167 dX6_run_35 KD_110 ?_
      rw [g11]
      refine r_icmp_ge (tgt := 55) dX6_run_38 (by decide) (by unfold inR; omega) (by unfold inR; omega) (fun hnn => ?_) (fun hnn => ?_)
      · have hz := hend (by omega)
        have hq : RUQ σ c μ := RUQ_of hM hg hc (by rw [hz.1]; exact hd)
        have hv := hz.2
        refine r_iload_n dX6_run_55 rfl (by rfl) ?_
        exact r_ret_ig dX6_run_56 rfl ⟨Nat.zero_le _, Nat.zero_le _⟩ (by rw [if_pos (er_run_cm.mpr hc)]; exact hv.symm) (by exact hq)
      · obtain ⟨n1, hrn⟩ : n ≤ Q ∧ rn c (F n).toNat = (d, (n : Int), F n, 1) := by
          rcases hrg with q | q
          · exact q
          · omega
        have hO := hs.2.1 n (by omega)
        have hb := hO.2.2.2.2
        have hrv := rn_inv hR.ci hR.li hT.1 hc (F n).toNat (by omega)
        rw [hrn] at hrv
        have d8 : d 108 = c 108 := hrv.2.2.1 108 (by omega)
        have d9 : d 109 = c 109 := hrv.2.2.1 109 (by omega)
        have hTd : TI d := by
          have := hT.1
          unfold TI at this ⊢
          rw [d8, d9]
          exact this
        have hOd : OD d μ n (F n) (E n) := OD_cg d8 d9 e5 hO
        have hsep : E n = c 108 1 ∨ cdF c (E n) = 59 := by
          rcases (show n = Q ∨ n + 1 < Q + 1 by omega) with z | z
          · exact Or.inl (by rw [z]; exact hE)
          · exact Or.inr (hs.2.2 n z).1
        have hro := rn_ord hrn hb.1 hb.2.1 hb.2.2 hO.2.2.2.1 hsep
        have h01 := exA_01 d (F n) (E n)
        refine r_aload_n dX6_run_41 rfl (by rfl) ?_
        refine r_iload_n dX6_run_42 rfl (by rfl) ?_
        refine r_callG1 (ct_X6_doesR d hd hTd n (by omega) (F n) (E n) hOd) fX6_does qX6_189 dX6_run_43 KD_110 (by decide) ⟨Nat.zero_le _, Nat.zero_le _⟩ (Nat.le_of_ble_eq_true rfl) (fun μ9 hμ9 => ?_)
        have hg2 : GM M μ9 := hg.tr hμ9.2
        refine r_if_eq (tgt := 55) dX6_run_46 (by decide) (by unfold inR; omega) (fun hx => ?_) (fun hx => ?_)
        · have hst := rn_stop (σ := c) (k := (E n + 1).toNat) (by rw [hro]; exact hx) ((c 108 1).toNat + 1 - (E n + 1).toNat)
          rw [show (E n + 1).toNat + ((c 108 1).toNat + 1 - (E n + 1).toNat) = (c 108 1).toNat + 1 by omega, hro] at hst
          have hq : RUQ σ c μ9 := RUQ_of hM hg2 hc (by
            unfold rnS
            rw [hst]
            exact hμ9.1)
          have hv : rnD c = (n : Int) := by
            unfold rnD
            rw [hst]
            show (n : Int) + exA d (F n) (E n) = (n : Int)
            omega
          refine r_iload_n dX6_run_55 rfl (by rfl) ?_
          exact r_ret_ig dX6_run_56 rfl ⟨Nat.zero_le _, Nat.zero_le _⟩ (by rw [if_pos (er_run_cm.mpr hc)]; exact hv.symm) (by exact hq)
        · have hx1 : exA d (F n) (E n) = 1 := by omega
          rw [hx1] at hro
          have hrg2 : RG c Q F (exO d (F n) (E n)) (n + 1) := by
            rcases (show n = Q ∨ n + 1 < Q + 1 by omega) with z | z
            · refine Or.inr ⟨by omega, ?_⟩
              have e : E n = c 108 1 := by rw [z]; exact hE
              rw [e] at hro
              rw [show (c 108 1).toNat + 1 = (c 108 1 + 1).toNat by omega, e]
              exact hro
            · refine Or.inl ⟨by omega, ?_⟩
              rw [(hs.2.2 n z).2]
              exact hro
          refine r_iinc dX6_run_49 (by rfl) (Nat.le_of_ble_eq_true rfl) (L' := [_, _]) (by rfl) ?_
          refine r_goto (tgt := 33) dX6_run_52 (by decide) ?_
          exact ih Q F E M _ (exO d (F n) (E n)) (n + 1) hs hE h11 hg2 hμ9.1 hM hc hrg2 (by omega) (by omega)
  refine r_aload_n dX6_run_0 rfl (by rfl) ?_
  refine r_iconst dX6_run_1 ?_
  refine r_put_i kX6_25 dX6_run_2 KD_110 ?_
  refine r_aload_n dX6_run_5 rfl (by rfl) ?_
  refine r_callG0 (ct_X6_readsAll _ (by first | exact T1 | exact hd | exact hTd | exact hOd | omega | (unfold inR; omega))) fX6_readsAll qX6_186 dX6_run_6 KD_110 (by decide) ⟨Nat.zero_le _, Nat.zero_le _⟩ (Nat.le_of_ble_eq_true rfl) (fun μ1 hμ1 => ?_)
  have hra := hμ1.2
  have hF := hμ1.1
  have hcm9 := hra.cm
  have h90 : μ1 110 9 = 0 ∨ μ1 110 9 = 1 := by
    rcases hra with q | q
    · exact Or.inr q.1
    · exact Or.inl q.1
  have f3 : μ1 110 3 = σ 110 3 := by rw [hF.2 3 (by omega) (by omega) (by omega), up2_el _ _ _ (by omega)]
  have f5 : μ1 110 5 = σ 110 5 := by rw [hF.2 5 (by omega) (by omega) (by omega), up2_el _ _ _ (by omega)]
  have f0 : μ1 110 0 = 0 := by rw [hF.2 0 (by omega) (by omega) (by omega), up2_at]
  have fq : ∀ q, q ≠ 110 → q ≠ 115 → μ1 q = σ q := fun q q0 q5 => by rw [hF.1 q q0 q5, up2_off _ q0]
  refine r_aload_n dX6_run_9 rfl (by rfl) ?_
  refine r_get_i kX6_157 dX6_run_10 KD_110 ?_
  refine r_if_ne (tgt := 22) dX6_run_13 (by decide) (by unfold inR; omega) (fun c_1 => ?_) (fun c_1 => ?_)
  · refine r_aload_n dX6_run_22 rfl (by rfl) ?_
    refine r_callV0 (ct_X6_saves (by first | exact T1 | exact hd | exact hTd | exact hOd | omega | (unfold inR; omega)) (by first | exact T1 | exact hd | exact hTd | exact hOd | omega | (unfold inR; omega))) fX6_saves qX6_72 dX6_run_23 KD_110 (by decide) ⟨Nat.zero_le _, Nat.zero_le _⟩ (Nat.le_of_ble_eq_true rfl) ?_
    refine r_aload_n dX6_run_26 rfl (by rfl) ?_
    refine r_iconst dX6_run_27 ?_
    refine r_put_i kX6_151 dX6_run_28 KD_110 ?_
    refine r_iconst dX6_run_31 ?_
    have hcm : cmT c := hcm9.mp (by omega)
    obtain ⟨Q, F, E, hs, h11, hE, h8⟩ : ∃ (Q : Nat) (F E : Nat → Int), SGF c μ1 (Q + 1) F E ∧ μ1 110 11 = (Q : Int) + 1 ∧ E Q = c 108 1 ∧ μ1 110 8 = c 108 1 := by
      rcases hra with q | q
      · exact q.2
      · omega
    have m115 : up2 (svM μ1) 110 5 0 115 = μ1 115 := by rw [up2_off _ (by omega), svM_r _ (by omega)]
    have hs5 : SGF c (up2 (svM μ1) 110 5 0) (Q + 1) F E := ⟨hs.1, fun i hi => OD_cg rfl rfl m115 (hs.2.1 i hi), hs.2.2⟩
    have h11 : up2 (svM μ1) 110 5 0 110 11 = (Q : Int) + 1 := by rw [up2_el _ _ _ (by omega), svM_k _ (by omega)]; exact h11
    have m111 : up2 (svM μ1) 110 5 0 111 = σ 111 := by rw [up2_off _ (by omega), svM_r _ (by omega)]; exact fq _ (by omega) (by omega)
    have hRm : Rel c (up2 (svM μ1) 110 5 0) := Rel_cg m111 hR
    have hsv := svM_cg f3 (fq 111 (by omega) (by omega)) (fq 112 (by omega) (by omega))
    have hRM : RM σ (up2 (svM μ1) 110 5 0) := ⟨fun q hq => by rw [up2_off _ (by omega), svM_r _ (by omega)]; exact fq q (by omega) (by omega), by rw [up2_el _ _ _ (by omega), svM_k _ (by omega)]; exact f0, by rw [up2_off _ (by omega)]; exact hsv.1, by rw [up2_el _ _ _ (by omega)]; exact hsv.2, up2_at _ _ _ _, by rw [up2_off _ (by omega), svM_r _ (by omega)]; exact fq _ (by omega) (by omega)⟩
    have hNl : (Q : Int) < 61 := by
      have q1 := hs.le Q (by omega)
      have q2 := (hs.2.1 Q (by omega)).2.2.2.2
      omega
    refine r_istore_n dX6_run_32 rfl (Nat.le_of_ble_eq_true rfl) (L' := [_, _]) (by rfl) ?_
    exact cut_33 80 Q F E _ _ c 0 hs5 hE h11 (GM.rf _) hRm hRM hcm (Or.inl ⟨by omega, by rw [hs5.1]; rfl⟩) (by omega) (by omega)
  · refine r_aload_n dX6_run_16 rfl (by rfl) ?_
    refine r_iconst dX6_run_17 ?_
    refine r_callV1 (ct_X6_fails _) fX6_fails qX6_120 dX6_run_18 KD_110 (by decide) ⟨Nat.zero_le _, Nat.zero_le _⟩ (Nat.le_of_ble_eq_true rfl) ?_
    have hno : ¬ cmT c := fun z => by have := hcm9.mpr z; omega
    have er : er_run c = 1 := by
      have h1 : er_run c ≠ 0 := fun z => hno (er_run_cm.mp z)
      unfold er_run at h1 ⊢
      split at h1
      · exact absurd rfl h1
      · rw [if_neg (by assumption)]
    have hq : RUQ σ c (up2 μ1 110 0 1) := ⟨by rw [up2_at, er]; rfl, fun q hq => by rw [up2_off _ (by omega)]; exact fq q (by omega) (by omega), fun _ => ⟨by rw [up2_off _ (by omega)]; exact fq _ (by omega) (by omega), by rw [up2_off _ (by omega)]; exact fq _ (by omega) (by omega), by rw [up2_off _ (by omega)]; exact fq _ (by omega) (by omega), by rw [up2_el _ _ _ (by omega)]; exact f3, by rw [up2_el _ _ _ (by omega)]; exact f5⟩, fun z => by omega⟩
    exact r_ret_ig dX6_run_21 rfl ⟨Nat.zero_le _, Nat.zero_le _⟩ (by rw [er]; rfl) (by exact hq)
