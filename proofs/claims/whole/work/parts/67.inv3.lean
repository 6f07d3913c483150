/-! what is kept, behind a change -/
theorem sv_lo {σ : ST} (h : 0 ≤ σ 110 3 ∧ σ 110 3 < 6) (i : Nat) : svM σ 112 i = if (370 * σ 110 3).toNat ≤ i ∧ i < (370 * σ 110 3).toNat + 370 then σ 111 (i - (370 * σ 110 3).toNat) else σ 112 i := by
  unfold svM
  rw [if_neg (by omega)]
  unfold svN
  rw [up2_off _ (by omega)]
  unfold cpR
  by_cases z : (370 * σ 110 3).toNat ≤ i ∧ i < (370 * σ 110 3).toNat + 370
  · rw [if_pos ⟨rfl, z⟩, if_pos z]
  · rw [if_neg (fun w => z w.2), if_neg z]
theorem sv_hi {σ : ST} (h : σ 110 3 = 6) {i : Nat} (hi : i < 2220) : svM σ 112 i = if 1850 ≤ i then σ 111 (i - 1850) else σ 112 (370 + i) := by
  have e3 : up2 (shN σ 1850) 110 3 (σ 110 3 - 1) 110 3 = 5 := by rw [up2_at, h]; rfl
  have e1 : up2 (shN σ 1850) 110 3 (σ 110 3 - 1) 111 = σ 111 := by unfold shN; rw [up2_off _ (by omega), cpR_off _ _ _ _ (by omega)]
  unfold svM
  rw [if_pos h]
  unfold svN
  rw [up2_off _ (by omega), e3, e1, show (370 * (5 : Int)).toNat = 1850 by decide]
  by_cases z : 1850 ≤ i
  · rw [if_pos z, cpR_yes _ (by omega)]
  · rw [if_neg z, cpR_no _ (by omega), up2_off _ (by omega)]
    unfold shN
    rw [cpR_yes _ (by omega), Nat.sub_zero]
theorem bk1_CI {σ : ST} (h : CI σ) : CI (bk σ 1) := CI_cgr h (fun q q2 _ => bk_1 σ (by omega))
theorem INV_ch {σ σ2 c1 : ST} {b : Nat → Nat} (h : INV σ b) (hc : ∀ q, 16 ≤ q → c1 q = svF σ b q) (h2 : Rel c1 σ2) (hq : ∀ q, q ≠ 15 → q < 110 → q ≠ 108 → q ≠ 109 → σ2 q = c1 q) (h112 : σ2 112 = svM σ 112) (h3 : σ2 110 3 = svM σ 110 3) (hT : TX σ2 σ2) : INV σ2 (svB σ b) := by
  obtain ⟨i1, i2, i3, i4, i5, i6, i7, i8⟩ := h
  have rw2 : ∀ q, 18 ≤ q → q < 108 → σ2 q = svF σ b q := fun q q1 q3 => by rw [hq q (by omega) (by omega) (by omega) (by omega)]; exact hc q (by omega)
  have e16 : σ2 16 1 = svF σ b 16 1 := by rw [hq 16 (by omega) (by omega) (by omega) (by omega), hc 16 (by omega)]
  have hself : Rel σ2 σ2 := Rel_cgr h2 (fun q q2 q14 => hq q (by omega) (by omega) (by omega) (by omega)) (fun _ _ => rfl)
  have ci1 := bk1_CI i1.ci
  have blkB : ∀ k, k < 6 → blkP (b k) := fun k hk => (i3 k hk).1
  by_cases z : σ 16 1 < 6
  · have eB : svB σ b = b := by unfold svB; rw [if_pos z]
    have eF : svF σ b = up2 (tkSt σ 1 (b (σ 16 1).toNat)) 16 1 (σ 16 1 + 1) := by unfold svF; rw [if_pos z]
    have n16 : σ2 16 1 = σ 16 1 + 1 := by rw [e16, eF, up2_at]
    have hp := blkB (σ 16 1).toNat (by omega)
    have hp1 := (i3 (σ 16 1).toNat (by omega)).2
    have rT : ∀ q, 18 ≤ q → q < 108 → σ2 q = tkSt σ 1 (b (σ 16 1).toNat) q := fun q q1 q3 => by rw [rw2 q q1 q3, eF, up2_off _ (by omega)]
    have oth : ∀ k, k < 6 → k ≠ (σ 16 1).toNat → ∀ r, 2 ≤ r → r ≤ 14 → bk σ2 (b k) r = bk σ (b k) r := fun k hk hne r r2 r14 => by
      have q := blk_rng (blkB k hk)
      have q1 := (i3 k hk).2
      have far := blk_far (blkB k hk) hp (i4 k _ hk (by omega) hne)
      refine bk_cg (fun a a1 a2 => ?_) r2 r14
      rw [rT a (by omega) (by omega)]
      exact tkSt_off σ (Or.inl rfl) hp a (by omega)
    have own : ∀ r i, 2 ≤ r → r ≤ 14 → bk σ2 (b (σ 16 1).toNat) r i = bk (tkSt σ 1 (b (σ 16 1).toNat)) (b (σ 16 1).toNat) r i := fun r i r2 r14 => by
      have q := blk_rng hp
      unfold bk
      rw [rT _ (by omega) (by omega)]
    have svk : ∀ k : Nat, (k : Int) < σ 16 1 → ∀ j, j < 370 → sv σ2 k 111 j = sv σ k 111 j := fun k hk j hj => by
      show σ2 112 (370 * k + j) = σ 112 (370 * k + j)
      rw [h112, sv_lo (by omega), if_neg (by omega)]
    rw [eB]
    refine ⟨hself, hT, i3, i4, by omega, ?_, fun k hk => ?_, fun k hk => ?_⟩
    · rw [h3, svM_3, if_neg (by omega), n16, i6]
    · by_cases e : k = (σ 16 1).toNat
      · subst e
        exact CI_cgr (tkSt_CI hp (Or.inl rfl) (fun w => hp1 w.symm) ci1 (i7 _ hk)) (fun r r2 r14 => by funext i; exact own r i r2 r14)
      · exact CI_cgr (i7 k hk) (fun r r2 r14 => oth k hk e r r2 r14)
    · rw [n16] at hk
      by_cases e : k = (σ 16 1).toNat
      · subst e
        refine Rel_live i1 (CI_cgr (tkSt_CI hp (Or.inl rfl) (fun w => hp1 w.symm) ci1 (i7 _ (by omega))) (fun r r2 r14 => by funext i; exact own r i r2 r14)) (fun r i r2 r14 hi => ?_) (fun j hj => ?_)
        · rw [own r i r2 r14, tkSt_at hp (Or.inl rfl) (fun w => hp1 w.symm) r2 r14, if_pos hi, bk_1 σ (by omega)]
        · show σ2 112 (370 * (σ 16 1).toNat + j) = σ 111 j
          rw [h112, sv_lo (by omega), if_pos (by omega)]
          congr 1
          omega
      · exact Rel_cgr (i8 k (by omega)) (fun r r2 r14 => oth k (by omega) e r r2 r14) (svk k (by omega))
  · have n6 : σ 16 1 = 6 := by omega
    have eB : svB σ b = rot b := by unfold svB; rw [if_neg z]
    have eF : svF σ b = up2 (tkSt (up2 σ 16 1 (σ 16 1 - 1)) 1 (b 0)) 16 1 (σ 16 1 - 1 + 1) := by unfold svF; rw [if_neg z]
    have n16 : σ2 16 1 = 6 := by rw [e16, eF, up2_at]; omega
    have hp := blkB 0 (by omega)
    have hp1 := (i3 0 (by omega)).2
    obtain ⟨τ, hτ⟩ : ∃ τ, τ = up2 σ 16 1 (σ 16 1 - 1) := ⟨_, rfl⟩
    rw [← hτ] at eF
    have t16 : ∀ q, q ≠ 16 → τ q = σ q := fun q hq => by rw [hτ]; exact up2_off _ hq
    have bkτ : ∀ p, blkP p → ∀ r, 2 ≤ r → r ≤ 14 → bk τ p r = bk σ p r := fun p pp r r2 r14 => by
      have q := blk_rng pp
      exact bk_cg (fun a a1 a2 => t16 a (by omega)) r2 r14
    have rT : ∀ q, 18 ≤ q → q < 108 → σ2 q = tkSt τ 1 (b 0) q := fun q q1 q3 => by rw [rw2 q q1 q3, eF, up2_off _ (by omega)]
    have oth : ∀ k, k < 6 → k ≠ 0 → ∀ r, 2 ≤ r → r ≤ 14 → bk σ2 (b k) r = bk σ (b k) r := fun k hk hne r r2 r14 => by
      have q := blk_rng (blkB k hk)
      have q1 := (i3 k hk).2
      have far := blk_far (blkB k hk) hp (i4 k _ hk (by omega) hne)
      refine bk_cg (fun a a1 a2 => ?_) r2 r14
      rw [rT a (by omega) (by omega), tkSt_off τ (Or.inl rfl) hp a (by omega)]
      exact t16 a (by omega)
    have own : ∀ r i, 2 ≤ r → r ≤ 14 → bk σ2 (b 0) r i = bk (tkSt τ 1 (b 0)) (b 0) r i := fun r i r2 r14 => by
      have q := blk_rng hp
      unfold bk
      rw [rT _ (by omega) (by omega)]
    have ciτ1 : CI (bk τ 1) := CI_cgr ci1 (fun r r2 r14 => bkτ 1 (Or.inl rfl) r r2 r14)
    have ciτ0 : CI (bk τ (b 0)) := CI_cgr (i7 0 (by omega)) (fun r r2 r14 => bkτ _ hp r r2 r14)
    have ci0 : CI (bk σ2 (b 0)) := CI_cgr (tkSt_CI hp (Or.inl rfl) (fun w => hp1 w.symm) ciτ1 ciτ0) (fun r r2 r14 => by funext i; exact own r i r2 r14)
    rw [eB]
    refine ⟨hself, hT, okB_rot i3, fun i j hi hj hij => ?_, by omega, ?_, fun k hk => ?_, fun k hk => ?_⟩
    · unfold rot
      by_cases a : i = 5
      · by_cases d : j = 5
        · omega
        · rw [if_pos a, if_neg d]; exact i4 0 (j + 1) (by omega) (by omega) (by omega)
      · by_cases d : j = 5
        · rw [if_neg a, if_pos d]; exact i4 (i + 1) 0 (by omega) (by omega) (by omega)
        · rw [if_neg a, if_neg d]; exact i4 (i + 1) (j + 1) (by omega) (by omega) (by omega)
    · rw [h3, svM_3, if_pos (by omega), n16]
    · unfold rot
      by_cases a : k = 5
      · rw [if_pos a]; exact ci0
      · rw [if_neg a]; exact CI_cgr (i7 (k + 1) (by omega)) (fun r r2 r14 => oth (k + 1) (by omega) (by omega) r r2 r14)
    · rw [n16] at hk
      unfold rot
      by_cases a : k = 5
      · rw [if_pos a]
        refine Rel_live i1 ci0 (fun r i r2 r14 hi => ?_) (fun j hj => ?_)
        · rw [own r i r2 r14, tkSt_at hp (Or.inl rfl) (fun w => hp1 w.symm) r2 r14, if_pos hi, bkτ 1 (Or.inl rfl) r r2 r14, bk_1 σ (by omega)]
        · show σ2 112 (370 * k + j) = σ 111 j
          rw [h112, sv_hi (by omega) (by omega), if_pos (by omega), show 370 * k + j - 1850 = j by omega]
      · rw [if_neg a]
        refine Rel_cgr (i8 (k + 1) (by omega)) (fun r r2 r14 => oth (k + 1) (by omega) (by omega) r r2 r14) (fun j hj => ?_)
        show σ2 112 (370 * k + j) = σ 112 (370 * (k + 1) + j)
        rw [h112, sv_hi (by omega) (by omega), if_neg (by omega), show 370 + (370 * k + j) = 370 * (k + 1) + j by omega]
/-- behind an undo -/
theorem INV_un {σ σ2 c1 : ST} {b : Nat → Nat} (h : INV σ b) (hn : σ 16 1 ≠ 0) (ec : c1 = up2 (tkSt σ (b (σ 16 1 - 1).toNat) 1) 16 1 (σ 16 1 - 1)) (hq : ∀ q, q ≠ 15 → q < 110 → σ2 q = c1 q) (h111 : ∀ j, j < 370 → σ2 111 j = σ 112 ((370 * (σ 110 3 - 1)).toNat + j)) (h112 : σ2 112 = σ 112) (h113 : σ2 113 = σ 113) (h3 : σ2 110 3 = σ 110 3 - 1) (h5 : σ2 110 5 = σ 110 5) : INV σ2 b := by
  obtain ⟨i1, i2, i3, i4, i5, i6, i7, i8⟩ := h
  have hk1 : (σ 16 1 - 1).toNat < 6 := by omega
  have hp := (i3 (σ 16 1 - 1).toNat hk1).1
  have hp1 := (i3 (σ 16 1 - 1).toNat hk1).2
  have hpr := blk_rng hp
  have hs := i8 (σ 16 1 - 1).toNat (by omega)
  obtain ⟨p, hpe⟩ : ∃ p, p = b (σ 16 1 - 1).toNat := ⟨_, rfl⟩
  rw [← hpe] at ec hp hp1 hpr hs
  have rT : ∀ q, q ≠ 15 → q ≠ 16 → q < 110 → σ2 q = tkSt σ p 1 q := fun q q1 q3 q4 => by rw [hq q q1 q4, ec, up2_off _ q3]
  have off : ∀ q, 16 < q → q < 110 → σ2 q = σ q := fun q q1 q2 => by rw [rT q (by omega) (by omega) q2]; exact tkSt_off σ hp (Or.inl rfl) q (by omega)
  have n16 : σ2 16 1 = σ 16 1 - 1 := by rw [hq 16 (by omega) (by omega), ec, up2_at]
  have at1 : ∀ r i, 2 ≤ r → r ≤ 14 → σ2 r i = if i < lnK r then bk σ p r i else σ r i := fun r i r2 r14 => by
    have e := tkSt_at (σ := σ) (Or.inl rfl) hp hp1 r2 r14 (i := i)
    rw [bk_1 _ (by omega), bk_1 σ (by omega)] at e
    rw [rT r (by omega) (by omega) (by omega)]
    exact e
  have ci2 : CI σ2 := CI_mix hs.ci i1.ci (fun r i r2 r14 z => by rw [at1 r i r2 r14, if_pos z]) (fun r i r2 r14 z => by rw [at1 r i r2 r14, if_neg z])
  have oth : ∀ k, k < 6 → ∀ r, 2 ≤ r → r ≤ 14 → bk σ2 (b k) r = bk σ (b k) r := fun k hk r r2 r14 => by
    have q := blk_rng (i3 k hk).1
    have q1 := (i3 k hk).2
    exact bk_cg (fun a a1 a2 => off a (by omega) (by omega)) r2 r14
  refine ⟨Rel_live hs ci2 (fun r i r2 r14 z => by rw [at1 r i r2 r14, if_pos z]) (fun j hj => ?_), ?_, i3, i4, by omega, by rw [h3, n16, i6], fun k hk => CI_cgr (i7 k hk) (fun r r2 r14 => oth k hk r r2 r14), fun k hk => ?_⟩
  · show σ2 111 j = σ 112 (370 * (σ 16 1 - 1).toNat + j)
    rw [h111 j hj, i6]
    congr 1
    omega
  · obtain ⟨⟨t0, t1⟩, t2, t3, t4⟩ := i2
    unfold TX TI
    rw [off 108 (by omega) (by omega), off 109 (by omega) (by omega), h113, h5]
    exact ⟨⟨t0, t1⟩, t2, t3, t4⟩
  · rw [n16] at hk
    refine Rel_cgr (i8 k (by omega)) (fun r r2 r14 => oth k (by omega) r r2 r14) (fun j _ => ?_)
    show σ2 112 (370 * k + j) = σ 112 (370 * k + j)
    rw [h112]
