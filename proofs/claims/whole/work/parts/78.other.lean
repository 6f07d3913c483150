/-! the law's other cases -/
theorem INV_tx {σ σ' : ST} {b : Nat → Nat} (h : INV σ b) (hr : ∀ q, q ≠ 15 → q < 113 → q ≠ 108 → q ≠ 109 → q ≠ 110 → σ' q = σ q) (h3 : σ' 110 3 = σ 110 3) (hT : TX σ' σ') : INV σ' b := by
  obtain ⟨i1, i2, i3, i4, i5, i6, i7, i8⟩ := h
  have e16 : σ' 16 = σ 16 := hr 16 (by omega) (by omega) (by omega) (by omega) (by omega)
  have eb : ∀ k, k < 6 → ∀ a, b k < a → a < b k + 14 → σ' a = σ a := fun k hk a a1 a2 => by
    have q := blk_rng (i3 k hk).1
    have q2 := (i3 k hk).2
    exact hr a (by omega) (by omega) (by omega) (by omega) (by omega)
  refine ⟨Rel_cgr i1 (fun q q2 q14 => hr q (by omega) (by omega) (by omega) (by omega) (by omega)) (fun j _ => by rw [hr 111 (by omega) (by omega) (by omega) (by omega) (by omega)]), hT, i3, i4, by rw [e16]; exact i5, by rw [h3, e16]; exact i6, fun k hk => CI_cgr (i7 k hk) (fun r r2 r14 => bk_cg (eb k hk) r2 r14), fun k hk => ?_⟩
  rw [e16] at hk
  have hk6 : k < 6 := by omega
  have e112 : σ' 112 = σ 112 := hr 112 (by omega) (by omega) (by omega) (by omega) (by omega)
  exact Rel_cgr (i8 k hk) (fun r r2 r14 => bk_cg (eb k hk6) r2 r14) (fun j _ => by unfold sv; rw [e112])
theorem ap_post {σ σa σ' : ST} {b : Nat → Nat} {c : Int} {f : Nat → Int} (hv : INV σ b) (c0 : 33 ≤ c ∧ c ≤ 126) (h60 : σ 108 1 < 60) (ea : σa = sr (up2 (up2 σ 109 (σ 108 1).toNat c) 108 1 (σ 108 1 + 1)) 15 f) (e' : σ' = up2 (up2 (up2 σa 110 0 0) 113 (σa 110 5).toNat c) 110 5 (σa 110 5 + 1)) : INV σ' b ∧ σ' 110 0 = 0 := by
  have t := hv.2.1
  obtain ⟨⟨t0, t1⟩, t2, t3, t4⟩ := t
  have a110 : σa 110 = σ 110 := by rw [ea, sr_off _ _ (by omega), up2_off _ (by omega), up2_off _ (by omega)]
  have a113 : σa 113 = σ 113 := by rw [ea, sr_off _ _ (by omega), up2_off _ (by omega), up2_off _ (by omega)]
  have a108 : σa 108 1 = σ 108 1 + 1 := by rw [ea, sr_off _ _ (by omega), up2_at]
  have a109 : σa 109 = up2 σ 109 (σ 108 1).toNat c 109 := by rw [ea, sr_off _ _ (by omega), up2_off _ (by omega)]
  have a5 : σa 110 5 = σ 108 1 := by rw [a110]; exact t2
  have b108 : σ' 108 = σa 108 := by rw [e', up2_off _ (by omega), up2_off _ (by omega), up2_off _ (by omega)]
  have b109 : σ' 109 = σa 109 := by rw [e', up2_off _ (by omega), up2_off _ (by omega), up2_off _ (by omega)]
  have b5 : σ' 110 5 = σ 108 1 + 1 := by rw [e', up2_at, a5]
  have b113 : σ' 113 = up2 σ 113 (σ 108 1).toNat c 113 := by
    rw [e', up2_off _ (by omega), a5]
    funext k
    show (if 113 = 113 ∧ k = (σ 108 1).toNat then c else up2 σa 110 0 0 113 k) = if 113 = 113 ∧ k = (σ 108 1).toNat then c else σ 113 k
    rw [up2_off _ (by omega), a113]
  refine ⟨INV_tx hv (fun q q15 q113 q8 q9 q10 => ?_) ?_ ⟨⟨?_, fun k => ?_⟩, ?_, fun k hk => ?_, fun k => ?_⟩, ?_⟩
  · rw [e', up2_off _ q10, up2_off _ (by omega), up2_off _ q10, ea, sr_off _ _ q15, up2_off _ q8, up2_off _ q9]
  · rw [e', up2_row]
    show (if 3 = 5 then _ else up2 (up2 σa 110 0 0) 113 (σa 110 5).toNat c 110 3) = _
    rw [if_neg (by omega), up2_off _ (by omega), up2_row]
    show (if 3 = 0 then _ else σa 110 3) = _
    rw [if_neg (by omega), a110]
  · rw [b108, a108]; omega
  · rw [b109, a109, up2_row]
    show 0 ≤ (if k = (σ 108 1).toNat then c else σ 109 k) ∧ (if k = (σ 108 1).toNat then c else σ 109 k) ≤ 126
    have := t1 k
    split <;> omega
  · rw [b5, b108, a108]
  · rw [b108, a108] at hk
    rw [b113, b109, a109, up2_row, up2_row]
    show (if k = (σ 108 1).toNat then c else σ 113 k) = if k = (σ 108 1).toNat then c else σ 109 k
    split
    · rfl
    · exact t3 k (by omega)
  · rw [b113, up2_row]
    show 0 ≤ (if k = (σ 108 1).toNat then c else σ 113 k) ∧ (if k = (σ 108 1).toNat then c else σ 113 k) ≤ 126
    have := t4 k
    split <;> omega
  · rw [e', up2_row]
    show (if 0 = 5 then _ else up2 (up2 σa 110 0 0) 113 (σa 110 5).toNat c 110 0) = _
    rw [if_neg (by omega), up2_off _ (by omega), up2_at]
theorem th_post {σ : ST} {b : Nat → Nat} (v : Int) (hv : INV σ b) : INV (up2 (up2 σ 110 0 0) 110 0 v) b := by
  refine INV_cg hv (fun q _ _ q10 => by rw [up2_off _ q10, up2_off _ q10]) ?_ ?_
  · rw [up2_row]; show (if 3 = 0 then v else up2 σ 110 0 0 110 3) = _; rw [if_neg (by omega), up2_row]; show (if 3 = 0 then (0 : Int) else σ 110 3) = _; rw [if_neg (by omega)]
  · rw [up2_row]; show (if 5 = 0 then v else up2 σ 110 0 0 110 5) = _; rw [if_neg (by omega), up2_row]; show (if 5 = 0 then (0 : Int) else σ 110 5) = _; rw [if_neg (by omega)]
theorem th0_post {σ : ST} {b : Nat → Nat} (hv : INV σ b) : INV (up2 σ 110 0 0) b := by
  refine INV_cg hv (fun q _ _ q10 => by rw [up2_off _ q10]) ?_ ?_
  · rw [up2_row]; show (if 3 = 0 then (0 : Int) else σ 110 3) = _; rw [if_neg (by omega)]
  · rw [up2_row]; show (if 5 = 0 then (0 : Int) else σ 110 5) = _; rw [if_neg (by omega)]
theorem cb_post {σ σa : ST} {b : Nat → Nat} (hv : INV σ b) (ea : σa = up2 σ 108 1 0) : INV (up2 (up2 σa 110 0 0) 110 5 0) b := by
  obtain ⟨⟨t0, t1⟩, t2, t3, t4⟩ := hv.2.1
  obtain ⟨σ', e'⟩ : ∃ σ', σ' = up2 (up2 σa 110 0 0) 110 5 0 := ⟨_, rfl⟩
  rw [← e']
  have hq : ∀ q, q ≠ 108 → q ≠ 110 → σ' q = σ q := fun q h8 h10 => by rw [e', up2_off _ h10, up2_off _ h10, ea, up2_off _ h8]
  have b108 : σ' 108 1 = 0 := by rw [e', up2_off _ (by omega), up2_off _ (by omega), ea, up2_at]
  have b5 : σ' 110 5 = 0 := by rw [e', up2_at]
  refine INV_tx hv (fun q _ _ q8 _ q10 => hq q q8 q10) ?_ ⟨⟨by rw [b108]; omega, fun k => by rw [hq 109 (by omega) (by omega)]; exact t1 k⟩, by rw [b5, b108], fun k hk => ?_, fun k => by rw [hq 113 (by omega) (by omega)]; exact t4 k⟩
  · rw [e', up2_row]
    show (if 3 = 5 then (0 : Int) else up2 σa 110 0 0 110 3) = _
    rw [if_neg (by omega), up2_row]
    show (if 3 = 0 then (0 : Int) else σa 110 3) = _
    rw [if_neg (by omega), ea, up2_off _ (by omega)]
  · rw [b108] at hk; omega
theorem rnS_off {c : ST} (hI : CI c) (hL : LI c) (hT : TI c) (hc : cmT c) {p : Nat} (hp : 16 ≤ p) : rnS c p = c p := by
  have h0 := hT.1
  exact (rn_inv hI hL hT hc ((c 108 1).toNat + 1) (by omega)).2.2.1 p hp
theorem sv_TX {σ σa : ST} {b : Nat → Nat} (hv : INV σ b) (h113 : σa 113 = σ 113) (h5 : σa 110 5 = σ 110 5) : TX (svF σ b) σa := by
  obtain ⟨⟨t0, t1⟩, t2, t3, t4⟩ := hv.2.1
  have e8 : svF σ b 108 = σ 108 := svF_row hv.2.2.1 hv.2.2.2.2.1 (by omega)
  have e9 : svF σ b 109 = σ 109 := svF_row hv.2.2.1 hv.2.2.2.2.1 (by omega)
  refine ⟨⟨by rw [e8]; exact t0, fun k => by rw [e9]; exact t1 k⟩, by rw [h5, e8]; exact t2, fun k hk => ?_, fun k => by rw [h113]; exact t4 k⟩
  rw [e8] at hk
  rw [h113, e9]
  exact t3 k hk
theorem sve_run {σ : ST} {b : Nat → Nat} (hv : INV σ b) : er_run (svF σ b) = er_run σ := by
  unfold er_run
  rw [svF_row hv.2.2.1 hv.2.2.2.2.1 (show 109 < 16 ∨ 108 ≤ 109 by omega), svF_row hv.2.2.1 hv.2.2.2.2.1 (show 108 < 16 ∨ 108 ≤ 108 by omega)]
theorem ru_a {σ σa : ST} {b : Nat → Nat} {f : Nat → Int} (hv : INV σ b) (he : er_run σ = 0) (ea : σa = sr (up2 (rnS (svF σ b)) 108 1 0) 15 f) : (∀ q, 16 ≤ q → rnS (svF σ b) q = svF σ b q) ∧ (∀ q, 109 ≤ q → σa q = σ q) ∧ Rel (svF σ b) σa := by
  have hc : Rel (svF σ b) σ := Rel_cgr hv.1 (fun q q2 q14 => svw_lo hv q (by omega)) (fun _ _ => rfl)
  have hT := (sv_TX (σa := σ) hv rfl rfl).1
  have ho : ∀ q, 16 ≤ q → rnS (svF σ b) q = svF σ b q := fun q hq => rnS_off hc.ci hc.li hT (er_run_cm.mp ((sve_run hv).trans he)) hq
  have hx : ∀ q, 109 ≤ q → σa q = σ q := fun q hq => by rw [ea, sr_off _ _ (by omega), up2_off _ (by omega), ho q (by omega), svF_row hv.2.2.1 hv.2.2.2.2.1 (by omega)]
  exact ⟨ho, hx, Rel_cgr hc (fun _ _ _ => rfl) (fun j _ => by rw [hx 111 (by omega)])⟩
theorem ru_post {σ σa σ' : ST} {b : Nat → Nat} {f : Nat → Int} (hv : INV σ b) (he : er_run σ = 0) (ea : σa = sr (up2 (rnS (svF σ b)) 108 1 0) 15 f) (h : RUQ σa (svF σ b) σ') : INV σ' (svB σ b) ∧ σ' 110 0 = 0 := by
  obtain ⟨ho, hx, -⟩ := ru_a hv he ea
  obtain ⟨h0, hq, -, h1⟩ := h
  have he' : er_run (svF σ b) = 0 := (sve_run hv).trans he
  obtain ⟨hP, hs, h3, h5, h13⟩ := h1 he'
  obtain ⟨s1, s2⟩ := svM_cg (σ := σ) (μ := σa) (by rw [hx 110 (by omega)]) (hx 111 (by omega)) (hx 112 (by omega))
  obtain ⟨⟨t0, t1⟩, t2, t3, t4⟩ := hv.2.1
  have b8 : σ' 108 1 = 0 := by rw [hq 108 (by omega), ea, sr_off _ _ (by omega), up2_at]
  refine ⟨INV_ch hv ho hP (fun q q15 q110 q8 q9 => ?_) (hs.trans s1) (h3.trans s2) ⟨⟨by rw [b8]; omega, fun k => ?_⟩, by rw [h5, b8], fun k hk => ?_, fun k => ?_⟩, h0.trans (cE_z he')⟩
  · rw [hq q (by omega), ea, sr_off _ _ q15, up2_off _ q8]
  · rw [hq 109 (by omega), hx 109 (by omega)]; exact t1 k
  · rw [b8] at hk; omega
  · rw [h13, hx 113 (by omega)]; exact t4 k
theorem ru_no {σ σ' : ST} {b : Nat → Nat} (hv : INV σ b) (he : er_run σ ≠ 0) (h : RUQ σ σ σ') : INV σ' b ∧ σ' 110 0 = cE 1 9 9 (er_run σ) := by
  obtain ⟨h0, hq, h1, -⟩ := h
  obtain ⟨k1, k2, k3, k4, k5⟩ := h1 he
  refine ⟨INV_cg hv (fun q _ q114 q10 => ?_) k4 k5, h0⟩
  by_cases h : q < 110
  · exact hq q (Or.inl h)
  · rcases (show q = 111 ∨ q = 112 ∨ q = 113 by omega) with rfl | rfl | rfl
    · exact k1
    · exact k2
    · exact k3
theorem un_post {σ σa : ST} {b : Nat → Nat} {f : Nat → Int} (hv : INV σ b) (hn : σ 16 1 ≠ 0) (ea : σa = sr (up2 (tkSt σ (b (σ 16 1 - 1).toNat) 1) 16 1 (σ 16 1 - 1)) 15 f) (hx : ∀ q, 108 ≤ q → σa q = σ q) : INV (unM σa 370) b ∧ unM σa 370 110 0 = 0 := by
  have u : ∀ q, q ≠ 110 → q ≠ 111 → unM σa 370 q = σa q := fun q q0 q1 => by
    unfold unM
    rw [cpR_off _ _ _ _ q1, up2_off _ q0, up2_off _ q0]
  have u110 : ∀ k, unM σa 370 110 k = if k = 3 then σa 110 3 - 1 else if k = 0 then 0 else σa 110 k := fun k => by
    unfold unM
    rw [cpR_off _ _ _ _ (by omega), up2_row]
    show (if k = 3 then σa 110 3 - 1 else up2 σa 110 0 0 110 k) = _
    rw [up2_row]
  have e110 : σa 110 = σ 110 := hx 110 (by omega)
  refine ⟨INV_un hv hn rfl (fun q q15 q110 => ?_) (fun j hj => ?_) ?_ ?_ ?_ ?_, ?_⟩
  · rw [u q (by omega) (by omega), ea, sr_off _ _ q15]
  · unfold unM
    rw [cpR_yes _ (by omega)]
    show σa 112 _ = _
    rw [hx 112 (by omega), e110, Nat.sub_zero]
  · rw [u 112 (by omega) (by omega), hx 112 (by omega)]
  · rw [u 113 (by omega) (by omega), hx 113 (by omega)]
  · rw [u110, if_pos rfl, e110]
  · rw [u110, if_neg (by omega), if_neg (by omega), e110]
  · rw [u110, if_neg (by omega), if_pos rfl]

