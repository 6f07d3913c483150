/-! the relation is kept: a column goes, a letter is another -/
theorem gap_o {μ : ST} {s g : Int} {p i : Nat} (g0 : 0 ≤ g) (s0 : 0 ≤ s) (h8 : p < 8 → i < s.toNat) (h9 : p < 10 → i < 8 * s.toNat) : gapF μ s g p i = μ p i := by
  unfold gapF gapM
  rw [up2_no _ (by omega), cpR_no _ (by omega), cpR_no _ (by omega)]
theorem gap_q {μ : ST} {s g : Int} {p : Nat} (h : p ≠ 7 ∧ p ≠ 8 ∧ p ≠ 9) : gapF μ s g p = μ p := by
  unfold gapF gapM
  rw [up2_off _ (by omega), cpR_off _ _ _ _ (by omega), cpR_off _ _ _ _ (by omega)]
theorem gap_7 {μ : ST} {s g : Int} : gapF μ s g 7 s.toNat = μ 7 s.toNat - 1 := by unfold gapF; rw [up2_at]
theorem gap_8 {μ : ST} {s g : Int} (g0 : 0 ≤ g) {k : Nat} (hk : (k : Int) < μ 7 s.toNat - 1) : gapF μ s g 8 (8 * s.toNat + k) = if (k : Int) < g then μ 8 (8 * s.toNat + k) else μ 8 (8 * s.toNat + (k + 1)) := by
  unfold gapF gapM
  rw [up2_no _ (by omega), cpR_no _ (by omega)]
  by_cases f : (k : Int) < g
  · rw [if_pos f, cpR_no _ (by omega)]
  · rw [if_neg f, cpR_yes _ (by omega)]
    show μ 8 (8 * s.toNat + (g.toNat + (8 * s.toNat + k - (8 * s.toNat + g.toNat)) + 1)) = _
    congr 1
    omega
theorem gap_9 {μ : ST} {s g : Int} (g0 : 0 ≤ g) {k : Nat} (hk : (k : Int) < μ 7 s.toNat - 1) : gapF μ s g 9 (8 * s.toNat + k) = if (k : Int) < g then μ 9 (8 * s.toNat + k) else μ 9 (8 * s.toNat + (k + 1)) := by
  unfold gapF gapM
  rw [up2_no _ (by omega)]
  by_cases f : (k : Int) < g
  · rw [if_pos f, cpR_no _ (by omega), cpR_no _ (by omega)]
  · rw [if_neg f, cpR_yes _ (by omega)]
    show μ 9 (8 * s.toNat + (g.toNat + (8 * s.toNat + k - (8 * s.toNat + g.toNat)) + 1)) = _
    congr 1
    omega
theorem dp_o {μ : ST} {s p q : Int} (s0 : 0 ≤ s) (p0 : 0 ≤ p) (q1 : p ≤ q) (q8 : q < 8) {i : Nat} (hi : i < 10 + 20 * s.toNat ∨ 10 + 20 * s.toNat + 20 ≤ i) : lyM (lyM (lyM (dpL μ s p (q - p).toNat) s (1 + q) 0) s (9 + q) 0) s 0 q 111 i = μ 111 i := by
  rw [ly_o _ (by omega), ly_o _ (by omega), ly_o _ (by omega)]
  unfold dpL
  rw [cpR_no _ (by omega), cpR_no _ (by omega)]
theorem dp_q {μ : ST} {s p q : Int} (s0 : 0 ≤ s) (p0 : 0 ≤ p) (q1 : p ≤ q) (q8 : q < 8) {w : Int} (w0 : 17 ≤ w) (w1 : w < 20) : gM (lyM (lyM (lyM (dpL μ s p (q - p).toNat) s (1 + q) 0) s (9 + q) 0) s 0 q) s w = gM μ s w := by
  rw [lyM_g _ _ _ _ _ _ (by omega) (by omega) (by omega), lyM_g _ _ _ _ _ _ (by omega) (by omega) (by omega), lyM_g _ _ _ _ _ _ (by omega) (by omega) (by omega)]
  unfold gM dpL
  rw [cpR_no _ (by omega), cpR_no _ (by omega)]
theorem dp_c {μ : ST} {s p q : Int} (s0 : 0 ≤ s) (p0 : 0 ≤ p) (q1 : p ≤ q) (q8 : q < 8) {k : Int} (k0 : 0 ≤ k) (k1 : k < q) : gM (lyM (lyM (lyM (dpL μ s p (q - p).toNat) s (1 + q) 0) s (9 + q) 0) s 0 q) s (1 + k) = (if k < p then gM μ s (1 + k) else gM μ s (1 + (k + 1))) ∧ gM (lyM (lyM (lyM (dpL μ s p (q - p).toNat) s (1 + q) 0) s (9 + q) 0) s 0 q) s (9 + k) = (if k < p then gM μ s (9 + k) else gM μ s (9 + (k + 1))) := by
  have e : ∀ w : Int, 0 < w → w ≠ 1 + q → w ≠ 9 + q → gM (lyM (lyM (lyM (dpL μ s p (q - p).toNat) s (1 + q) 0) s (9 + q) 0) s 0 q) s w = gM (dpL μ s p (q - p).toNat) s w := fun w h0 h1 h2 => by
    rw [lyM_g _ _ _ _ _ _ (by omega) (by omega) (by omega), lyM_g _ _ _ _ _ _ (by omega) (by omega) (by omega), lyM_g _ _ _ _ _ _ (by omega) (by omega) (by omega)]
  rw [e _ (by omega) (by omega) (by omega), e _ (by omega) (by omega) (by omega)]
  unfold gM dpL
  by_cases f : k < p
  · rw [if_pos f, if_pos f, cpR_no _ (by omega), cpR_no _ (by omega), cpR_no _ (by omega), cpR_no _ (by omega)]
    exact ⟨rfl, rfl⟩
  · rw [if_neg f, if_neg f, cpR_no _ (by omega), cpR_yes _ (by omega), cpR_yes _ (by omega)]
    constructor
    · show μ 111 ((11 + 20 * s + p).toNat + ((10 + 20 * s + (1 + k)).toNat - (11 + 20 * s + p).toNat) + 1) = _
      congr 1
      omega
    · show μ 111 ((19 + 20 * s + p).toNat + ((10 + 20 * s + (9 + k)).toNat - (19 + 20 * s + p).toNat) + 1) = _
      congr 1
      omega
theorem Rel_lvO {c σ : ST} (h : Rel c σ) (hz : c 2 0 < 12) {a m : Int} (hm : 0 ≤ m ∧ m ≤ 99) (hp : plc c (c 2 0 - 1).toNat a ≠ -1) : Rel (lvO c a m) (dpM σ a m) := by
  have hs := h.ci.sz
  have hn := h.nm
  have hw := h.ci.wd (c 2 0 - 1).toNat
  have hpr := plc_rng h.ci (c 2 0 - 1).toNat a
  have hI := CI_lvO h.ci hz hm hp
  have hL := LI_lvO h.ci h.li m hp
  obtain ⟨S, hS⟩ : ∃ S : Nat, c 2 0 = (S : Int) := ⟨(c 2 0).toNat, by omega⟩
  have eS1 : (c 2 0 - 1).toNat = S - 1 := by omega
  have eS0 : (c 2 0).toNat = S := by omega
  have hm1 : 1 ≤ σ 111 0 := by omega
  have ewd := (wd_eq h (s := c 2 0 - 1) (by omega) (by omega)).1
  have epl := pl_eq h (s := c 2 0 - 1) (by omega) (by omega) a
  obtain ⟨p, hpd⟩ : ∃ p, p = plc c (c 2 0 - 1).toNat a := ⟨_, rfl⟩
  have em : dpM σ a m = lyM (lyM (lyM (dpL (cmM σ 4 p m) (S : Int) p (c 7 (S - 1) - 1 - p).toNat) (S : Int) (1 + (c 7 (S - 1) - 1)) 0) (S : Int) (9 + (c 7 (S - 1) - 1)) 0) (S : Int) 0 (c 7 (S - 1) - 1) := by
    unfold dpM
    dsimp only
    rw [show σ 111 0 - 1 = c 2 0 - 1 by omega, epl, ewd, eS1, show σ 111 0 = (S : Int) by omega, ← eS1, ← hpd]
  have ec : lvO c a m = gapF (up2 (up2 (comeF c 4) 5 S (c 8 (8 * (S - 1) + p.toNat))) 4 S m) (S : Int) p := by
    unfold lvO
    rw [eS1, eS0, ← eS1, ← hpd, hS]
  rw [ec] at hI hL ⊢
  rw [em]
  rw [← hpd, eS1] at hpr
  rw [← hpd] at hp
  rw [eS1] at hw
  obtain ⟨c1, hc1⟩ : ∃ c1, c1 = up2 (up2 (comeF c 4) 5 S (c 8 (8 * (S - 1) + p.toNat))) 4 S m := ⟨_, rfl⟩
  obtain ⟨μ, hμ⟩ : ∃ μ, μ = cmM σ 4 p m := ⟨_, rfl⟩
  rw [← hc1] at hI hL ⊢
  rw [← hμ]
  have e1 : ∀ q i : Nat, q ≠ 4 → q ≠ 5 → c1 q i = comeF c 4 q i := fun q i h4 h5 => by rw [hc1, up2_no _ (by omega), up2_no _ (by omega)]
  have e2 : ∀ i : Nat, i ≠ S → c1 4 i = c 4 i ∧ c1 5 i = c 5 i := fun i hi => by
    rw [hc1]
    constructor
    · rw [up2_no _ (by omega), up2_no _ (by omega)]; unfold comeF comeM come1; rw [up2_no _ (by omega), cpR_no _ (by omega), cpR_no _ (by omega), up2_no _ (by omega), up2_no _ (by omega)]
    · rw [up2_no _ (by omega), up2_no _ (by omega)]; unfold comeF comeM come1; rw [up2_no _ (by omega), cpR_no _ (by omega), cpR_no _ (by omega), up2_no _ (by omega), up2_no _ (by omega)]
  have s7 : c1 7 S = c 7 (S - 1) := by rw [e1 _ _ (by omega) (by omega), show S = (c 2 0).toNat by omega, comeF_7 h.ci, show (c 2 0).toNat - 1 = (c 2 0 - 1).toNat by omega]
  have s8 : ∀ k : Nat, (k : Int) < c 7 (S - 1) → c1 8 (8 * S + k) = c 8 (8 * (S - 1) + k) := fun k hk => by
    rw [e1 _ _ (by omega) (by omega), show S = (c 2 0).toNat by omega, comeF_8 h.ci 4 k (by rw [eS1]; exact hk), show (c 2 0).toNat - 1 = (c 2 0 - 1).toNat by omega]
  have s9 : ∀ k : Nat, (k : Int) < c 7 (S - 1) → c1 9 (8 * S + k) = c 9 (8 * (S - 1) + k) := fun k hk => by
    rw [e1 _ _ (by omega) (by omega), show S = (c 2 0).toNat by omega, comeF_9 h.ci 4 k (by rw [eS1]; exact hk), show (c 2 0).toNat - 1 = (c 2 0 - 1).toNat by omega]
  have t7 : gapF c1 (S : Int) p 7 S = c 7 (S - 1) - 1 := by
    have := gap_7 (μ := c1) (s := (S : Int)) (g := p)
    rw [show ((S : Int)).toNat = S by omega, s7] at this
    exact this
  have t8 : ∀ k : Nat, (k : Int) < c 7 (S - 1) - 1 → gapF c1 (S : Int) p 8 (8 * S + k) = if (k : Int) < p then c 8 (8 * (S - 1) + k) else c 8 (8 * (S - 1) + (k + 1)) := fun k hk => by
    have := gap_8 (μ := c1) (s := (S : Int)) (g := p) (by omega) (k := k) (by rw [show ((S : Int)).toNat = S by omega, s7]; exact hk)
    rw [show ((S : Int)).toNat = S by omega, s8 k (by omega), s8 (k + 1) (by omega)] at this
    exact this
  have t9 : ∀ k : Nat, (k : Int) < c 7 (S - 1) - 1 → gapF c1 (S : Int) p 9 (8 * S + k) = if (k : Int) < p then c 9 (8 * (S - 1) + k) else c 9 (8 * (S - 1) + (k + 1)) := fun k hk => by
    have := gap_9 (μ := c1) (s := (S : Int)) (g := p) (by omega) (k := k) (by rw [show ((S : Int)).toNat = S by omega, s7]; exact hk)
    rw [show ((S : Int)).toNat = S by omega, s9 k (by omega), s9 (k + 1) (by omega)] at this
    exact this
  have t3 : gapF c1 (S : Int) p 3 S = 4 := by rw [gap_q (by omega), e1 _ _ (by omega) (by omega), show S = (c 2 0).toNat by omega, come_3]
  have g17 := cm_17 hm1 4 p m
  rw [← hμ, show σ 111 0 = (S : Int) by omega] at g17
  have mc : ∀ w : Int, 0 ≤ w → w < 17 → gM μ (S : Int) w = gM σ (c 2 0 - 1) w := fun w w0 w1 => by
    have := cmM_c hm1 4 p m w0 w1
    rw [← hμ, show σ 111 0 - 1 = c 2 0 - 1 by omega, show σ 111 0 = (S : Int) by omega] at this
    exact this
  have lc : ∀ k : Int, 0 ≤ k → k < c 7 (S - 1) → gM μ (S : Int) (1 + k) = c 8 (8 * (S - 1) + k.toNat) ∧ gM μ (S : Int) (9 + k) = c 9 (8 * (S - 1) + k.toNat) := fun k k0 k1 => by
    have q := cl_eq h (s := c 2 0 - 1) (p := k) (by omega) (by omega) k0 (by rw [eS1]; exact k1)
    rw [eS1] at q
    rw [mc _ (by omega) (by omega), mc _ (by omega) (by omega)]
    exact q
  have cS := fun (k : Nat) (hk : (k : Int) < c 7 (S - 1)) => (h.cl (S - 1) k (by omega) hk).2.2
  refine Rel_grow h hI hL hS (by omega) ?_ ?_ (fun q i p2 h8 h9 => ?_) ?_ (fun i i0 hi => ?_) ⟨?_, ?_⟩ (fun k hk => ?_) (fun i j hij hj => ?_) ?_ ?_
  · rw [gap_q (by omega), e1 _ _ (by omega) (by omega), comeF_20]; omega
  · rw [gap_q (by omega), e1 _ _ (by omega) (by omega), come_21]
  · rw [gap_o (by omega) (by omega) (by omega) (by omega)]
    rcases (show q = 4 ∨ q = 5 ∨ (q ≠ 4 ∧ q ≠ 5) by omega) with g | g | g
    · subst g; exact (e2 i (by omega)).1
    · subst g; exact (e2 i (by omega)).2
    · rw [e1 _ _ g.1 g.2]; exact come_o h.ci 4 p2 (by omega) (by omega)
  · rw [dp_o (by omega) (by omega) (by omega) (by omega) (by omega), hμ, cmM_0]; omega
  · rw [dp_o (by omega) (by omega) (by omega) (by omega) (by omega), hμ]
    exact cm_o hm1 4 p m i0 (by omega)
  · rw [ly_e, t7]
  · rw [dp_q (by omega) (by omega) (by omega) (by omega) (by omega) (by omega), g17.1, t3]
  · rw [t7] at hk
    have q := dp_c (μ := μ) (s := (S : Int)) (p := p) (q := c 7 (S - 1) - 1) (by omega) (by omega) (by omega) (by omega) (k := (k : Int)) (by omega) hk
    rw [q.1, q.2, t8 k hk, t9 k hk]
    have l1 := lc (k : Int) (by omega) (by omega)
    have l2 := lc ((k : Int) + 1) (by omega) (by omega)
    rw [show ((k : Int)).toNat = k by omega] at l1
    rw [show ((k : Int) + 1).toNat = k + 1 by omega] at l2
    by_cases f : (k : Int) < p
    · simp only [if_pos f]
      have := cS k (by omega)
      exact ⟨l1.1, l1.2, by omega⟩
    · simp only [if_neg f]
      have := cS (k + 1) (by omega)
      exact ⟨l2.1, l2.2, by omega⟩
  · rw [t7] at hj
    rw [t8 i (by omega), t8 j hj]
    by_cases f : (i : Int) < p
    · by_cases g : (j : Int) < p
      · rw [if_pos f, if_pos g]; exact h.ne (S - 1) i j (by omega) hij (by omega)
      · rw [if_pos f, if_neg g]; exact h.ne (S - 1) i (j + 1) (by omega) (by omega) (by omega)
    · rw [if_neg f, if_neg (by omega)]; exact h.ne (S - 1) (i + 1) (j + 1) (by omega) (by omega) (by omega)
  · rw [dp_q (by omega) (by omega) (by omega) (by omega) (by omega) (by omega), dp_q (by omega) (by omega) (by omega) (by omega) (by omega) (by omega), g17.2.1, g17.2.2]; omega
  · have e71 : gapF c1 (S : Int) p 7 (S - 1) = c 7 (S - 1) := by
      rw [gap_o (by omega) (by omega) (by omega) (by omega), e1 _ _ (by omega) (by omega)]; exact come_o h.ci 4 (by omega) (by omega) (by omega)
    have e81 : ∀ k, k < 8 → gapF c1 (S : Int) p 8 (8 * (S - 1) + k) = c 8 (8 * (S - 1) + k) := fun k hk => by
      rw [gap_o (by omega) (by omega) (by omega) (by omega), e1 _ _ (by omega) (by omega)]; exact come_o h.ci 4 (by omega) (by omega) (by omega)
    have hS1 : S - 1 + 1 = S := by omega
    have hSI : ((S - 1 : Nat) : Int) + 1 = (S : Int) := by omega
    unfold stR
    rw [hS1, hSI, t3, e71, t7, dp_q (by omega) (by omega) (by omega) (by omega) (by omega) (by omega), dp_q (by omega) (by omega) (by omega) (by omega) (by omega) (by omega), g17.2.1, g17.2.2, gap_q (p := 4) (by omega), gap_q (p := 5) (by omega), gap_q (p := 6) (by omega)]
    refine ⟨by omega, fun hh => by omega, fun hh => by omega, fun hh => by omega, fun hh => by omega, fun _ => ⟨rfl, by omega, ?_, ?_, fun k hk => ?_⟩, fun hh => by omega⟩
    · rw [e81 _ (by omega), hc1, up2_no _ (by omega), up2_at]
    · rw [hc1, up2_at]
    · rw [t8 k hk, e81 k (by omega), e81 (k + 1) (by omega)]
theorem Rel_xcL {c σ : ST} (h : Rel c σ) (hz : c 2 0 < 12) {a b : Int} (hb : 0 ≤ b ∧ b < 8) (hp : plc c (c 2 0 - 1).toNat a ≠ -1) (hq : plc c (c 2 0 - 1).toNat b = -1) : Rel (xcL c a b) (rnM σ a b) := by
  have hs := h.ci.sz
  have hn := h.nm
  have hw := h.ci.wd (c 2 0 - 1).toNat
  have hpr := plc_rng h.ci (c 2 0 - 1).toNat a
  have hI := CI_xcL h.ci hz a hb
  have hL := LI_xcL h.ci h.li hp hq
  obtain ⟨S, hS⟩ : ∃ S : Nat, c 2 0 = (S : Int) := ⟨(c 2 0).toNat, by omega⟩
  have eS1 : (c 2 0 - 1).toNat = S - 1 := by omega
  have eS0 : (c 2 0).toNat = S := by omega
  have hm1 : 1 ≤ σ 111 0 := by omega
  have ewd := (wd_eq h (s := c 2 0 - 1) (by omega) (by omega)).1
  have epl := pl_eq h (s := c 2 0 - 1) (by omega) (by omega) a
  obtain ⟨p, hpd⟩ : ∃ p, p = plc c (c 2 0 - 1).toNat a := ⟨_, rfl⟩
  obtain ⟨μ, hμ⟩ : ∃ μ, μ = cmM σ 5 p 0 := ⟨_, rfl⟩
  have em : rnM σ a b = lyM μ (S : Int) (9 + p) b := by
    unfold rnM
    rw [show σ 111 0 - 1 = c 2 0 - 1 by omega, epl, show σ 111 0 = (S : Int) by omega, ← hpd, ← hμ]
  have ec : xcL c a b = up2 (comeF c 5) 9 (8 * S + p.toNat) b := by
    unfold xcL
    rw [eS0, ← hpd]
  rw [ec] at hI hL ⊢
  rw [em]
  rw [← hpd] at hp hpr
  rw [eS1] at hw hpr
  have g17 := cm_17 hm1 5 p 0
  rw [← hμ, show σ 111 0 = (S : Int) by omega] at g17
  have mc : ∀ w : Int, 0 ≤ w → w < 17 → gM μ (S : Int) w = gM σ (c 2 0 - 1) w := fun w w0 w1 => by
    have := cmM_c hm1 5 p 0 w0 w1
    rw [← hμ, show σ 111 0 - 1 = c 2 0 - 1 by omega, show σ 111 0 = (S : Int) by omega] at this
    exact this
  have lc : ∀ k : Int, 0 ≤ k → k < c 7 (S - 1) → gM μ (S : Int) (1 + k) = c 8 (8 * (S - 1) + k.toNat) ∧ gM μ (S : Int) (9 + k) = c 9 (8 * (S - 1) + k.toNat) := fun k k0 k1 => by
    have q := cl_eq h (s := c 2 0 - 1) (p := k) (by omega) (by omega) k0 (by rw [eS1]; exact k1)
    rw [eS1] at q
    rw [mc _ (by omega) (by omega), mc _ (by omega) (by omega)]
    exact q
  have s7 : up2 (comeF c 5) 9 (8 * S + p.toNat) b 7 S = c 7 (S - 1) := by
    rw [up2_no _ (by omega), show S = (c 2 0).toNat by omega, comeF_7 h.ci, show (c 2 0).toNat - 1 = (c 2 0 - 1).toNat by omega]
  have s8 : ∀ k : Nat, (k : Int) < c 7 (S - 1) → up2 (comeF c 5) 9 (8 * S + p.toNat) b 8 (8 * S + k) = c 8 (8 * (S - 1) + k) := fun k hk => by
    rw [up2_no _ (by omega), show S = (c 2 0).toNat by omega, comeF_8 h.ci 5 k (by rw [eS1]; exact hk), show (c 2 0).toNat - 1 = (c 2 0 - 1).toNat by omega]
  have s9 : ∀ k : Nat, (k : Int) < c 7 (S - 1) → up2 (comeF c 5) 9 (8 * S + p.toNat) b 9 (8 * S + k) = if (k : Int) = p then b else c 9 (8 * (S - 1) + k) := fun k hk => by
    by_cases g : (k : Int) = p
    · rw [if_pos g, show k = p.toNat by omega, up2_at]
    · rw [if_neg g, up2_no _ (by omega), show S = (c 2 0).toNat by omega, comeF_9 h.ci 5 k (by rw [eS1]; exact hk), show (c 2 0).toNat - 1 = (c 2 0 - 1).toNat by omega]
  have q3 : up2 (comeF c 5) 9 (8 * S + p.toNat) b 3 S = 5 := by rw [up2_no _ (by omega), show S = (c 2 0).toNat by omega, come_3]
  have cS := fun (k : Nat) (hk : (k : Int) < c 7 (S - 1)) => (h.cl (S - 1) k (by omega) hk).2.2
  have lg : ∀ w : Int, 0 ≤ w → w ≠ 9 + p → gM (lyM μ (S : Int) (9 + p) b) (S : Int) w = gM μ (S : Int) w := fun w w0 w1 => lyM_g _ _ _ _ _ _ (by omega) (by omega) (by omega)
  refine Rel_grow h hI hL hS (by omega) ?_ ?_ (fun q i p2 h8 h9 => ?_) ?_ (fun i i0 hi => ?_) ⟨?_, ?_⟩ (fun k hk => ?_) (fun i j hij hj => ?_) ?_ ?_
  · rw [up2_no _ (by omega), comeF_20]; omega
  · rw [up2_no _ (by omega), come_21]
  · rw [up2_no _ (by omega)]; exact come_o h.ci 5 p2 (by omega) (by omega)
  · rw [ly_o _ (by omega), hμ, cmM_0]; omega
  · rw [ly_o _ (by omega), hμ]; exact cm_o hm1 5 p 0 i0 (by omega)
  · rw [lg _ (by omega) (by omega), mc _ (by omega) (by omega), ewd, s7, eS1]
  · rw [lg _ (by omega) (by omega), g17.1, q3]
  · rw [s7] at hk
    have l1 := lc (k : Int) (by omega) hk
    rw [show ((k : Int)).toNat = k by omega] at l1
    rw [s8 k hk, s9 k hk, lg _ (by omega) (by omega)]
    refine ⟨l1.1, ?_, by have := cS k hk; omega⟩
    by_cases g : (k : Int) = p
    · rw [if_pos g, g, ly_e]
    · rw [if_neg g, lg _ (by omega) (by omega)]; exact l1.2
  · rw [s7] at hj
    rw [s8 i (by omega), s8 j hj]
    exact h.ne (S - 1) i j (by omega) hij hj
  · rw [lg _ (by omega) (by omega), lg _ (by omega) (by omega), g17.2.1, g17.2.2]; omega
  · have e71 : up2 (comeF c 5) 9 (8 * S + p.toNat) b 7 (S - 1) = c 7 (S - 1) := by
      rw [up2_no _ (by omega)]; exact come_o h.ci 5 (by omega) (by omega) (by omega)
    have e81 : ∀ k, k < 8 → up2 (comeF c 5) 9 (8 * S + p.toNat) b 8 (8 * (S - 1) + k) = c 8 (8 * (S - 1) + k) := fun k hk => by
      rw [up2_no _ (by omega)]; exact come_o h.ci 5 (by omega) (by omega) (by omega)
    have hS1 : S - 1 + 1 = S := by omega
    have hSI : ((S - 1 : Nat) : Int) + 1 = (S : Int) := by omega
    unfold stR
    rw [hS1, hSI, q3, e71, s7]
    refine ⟨by omega, fun hh => by omega, fun hh => by omega, fun hh => by omega, fun hh => by omega, fun hh => by omega, fun _ => ⟨rfl, fun k hk => ?_⟩⟩
    rw [s8 k hk, e81 k (by omega)]
