/-! the relation is kept: rows -/
theorem lo_o (σ : ST) {r w v : Int} {i : Nat} (h : i ≠ (250 + 10 * r + w).toNat) : loM σ r w v 111 i = σ 111 i := by unfold loM; rw [up2_el _ _ _ h]
theorem lo_e (σ : ST) (r w v : Int) : oM (loM σ r w v) r w = v := by unfold oM loM; rw [up2_at]
theorem lo_g (σ : ST) {r w v t u : Int} (h : 0 ≤ 250 + 10 * r + w) (h2 : 0 ≤ 250 + 10 * t + u) (hn : 10 * r + w ≠ 10 * t + u) : oM (loM σ r w v) t u = oM σ t u := by
  unfold oM
  exact lo_o _ (by omega)
theorem Rel_ins {c σ : ST} (h : Rel c σ) (hz : c 10 0 < 12) {s : Int} (s0 : 0 ≤ s) (s1 : s < c 2 0) : Rel (adR c s) (inF σ s) := by
  have hs := h.ci.sz
  have hr := h.ci.ro
  have hn := h.nm
  have a1 : ∀ p i : Nat, p ≠ 10 ∨ i ≠ 0 → (p = 11 ∨ p = 12 → i ≠ (c 10 0).toNat) → (p = 13 → i < 12 * (c 10 0).toNat) → adR c s p i = c p i := fun p i q0 q1 q2 => by
    unfold adR adRM
    rw [up2_no _ (by omega), cpR_no _ (by omega), up2_no _ (by omega), up2_no _ (by omega)]
  have a0 : adR c s 10 0 = c 10 0 + 1 := by unfold adR; rw [up2_at]
  have m1 : ∀ i : Nat, i ≠ 2 → (i < (250 + 10 * c 10 0).toNat) → inF σ s 111 i = σ 111 i := fun i q0 q1 => by
    unfold inF inM
    rw [up2_el _ _ _ q0, lo_o _ (by omega), cpR_no _ (by omega)]
  have m0 : inF σ s 111 2 = c 10 0 + 1 := by unfold inF; rw [up2_at]; omega
  have mR : ∀ w : Int, 0 ≤ w → w < 10 → oM (inF σ s) (c 10 0) w = if w = 0 then s else 0 := fun w w0 w1 => by
    unfold inF oM
    rw [up2_el _ _ _ (by omega), show σ 111 2 = c 10 0 by omega]
    by_cases g : w = 0
    · rw [if_pos g, g]; exact lo_e _ _ _ _
    · rw [if_neg g, lo_o _ (by omega)]
      unfold inM
      rw [cpR_yes _ (by omega)]
  have aR : adR c s 11 (c 10 0).toNat = s ∧ adR c s 12 (c 10 0).toNat = 0 := by
    unfold adR adRM
    rw [up2_no _ (by omega), cpR_no _ (by omega), up2_no _ (by omega), up2_at, up2_no _ (by omega), cpR_no _ (by omega), up2_at]
    exact ⟨rfl, rfl⟩
  refine Rel_same h (CI_adR h.ci hz (by omega)) (a1 2 0 (by omega) (by omega) (by omega)) (fun p p3 p9 => by funext i; exact a1 p i (by omega) (by omega) (by omega)) (fun i i0 i1 => m1 i (by omega) (by omega)) ⟨?_, ?_, ?_, ?_, ?_, ?_⟩ (fun r hr4 => ?_) (fun r hr4 => ?_) (fun r hr1 => ?_) (fun r k hr1 hk => ?_)
  · rw [m1 0 (by omega) (by omega), a1 2 0 (by omega) (by omega) (by omega)]; omega
  · rw [m1 1 (by omega) (by omega), a1 2 1 (by omega) (by omega) (by omega)]; omega
  · rw [m0, a0]
  · rw [m1 3 (by omega) (by omega), a1 10 1 (by omega) (by omega) (by omega)]; omega
  · rw [m1 4 (by omega) (by omega), a1 10 2 (by omega) (by omega) (by omega)]; omega
  · rw [m1 5 (by omega) (by omega), a1 10 3 (by omega) (by omega) (by omega)]; omega
  · rw [m1 _ (by omega) (by omega), a1 14 r (by omega) (by omega) (by omega)]; exact h.he r hr4
  · rw [a1 14 r (by omega) (by omega) (by omega)]; exact h.hb r hr4
  · rw [a0] at hr1
    by_cases g : (r : Int) < c 10 0
    · have b := h.ro r g
      have e : ∀ w : Int, 0 ≤ w → w < 10 → oM (inF σ s) r w = oM σ r w := fun w w0 w1 => m1 _ (by omega) (by omega)
      rw [e 0 (by omega) (by omega), e 1 (by omega) (by omega), a1 11 r (by omega) (by omega) (by omega), a1 12 r (by omega) (by omega) (by omega)]
      exact b
    · have e : (r : Int) = c 10 0 := by omega
      have e2 : r = (c 10 0).toNat := by omega
      rw [e, mR 0 (by omega) (by omega), mR 1 (by omega) (by omega), if_pos rfl, if_neg (by omega), e2, aR.1, aR.2]
      exact ⟨rfl, rfl, s1⟩
  · rw [a0] at hr1
    by_cases g : (r : Int) < c 10 0
    · have b := h.ro r g
      have b1 := h.ci.rs r
      have b8 := h.ci.wd (c 11 r).toNat
      rw [a1 11 r (by omega) (by omega) (by omega)] at hk ⊢
      have e : ∀ w : Int, 0 ≤ w → w < 10 → oM (inF σ s) r w = oM σ r w := fun w w0 w1 => m1 _ (by omega) (by omega)
      have b2 := cl12 h.ci (8 * (c 11 r).toNat + k)
      rw [e _ (by omega) (by omega), a1 13 _ (by omega) (by omega) (by omega)]
      exact h.va r k g hk
    · have e : (r : Int) = c 10 0 := by omega
      have e2 : r = (c 10 0).toNat := by omega
      have b8 := h.ci.wd s.toNat
      rw [e2, aR.1] at hk ⊢
      have b2 := cl12 h.ci (8 * s.toNat + k)
      rw [show (((c 10 0).toNat : Nat) : Int) = c 10 0 by omega, mR _ (by omega) (by omega), if_neg (by omega)]
      unfold adR adRM
      rw [up2_no _ (by omega), cpR_yes _ (by omega)]
/-- a row is rewritten -/
def rzM (σ : ST) (r s : Int) (f : Nat → Int) : ST := up2 (loM (loM (cpR σ 111 (250 + 10 * r + 2).toNat 8 f) r 0 s) r 1 (oM σ r 1 + 1)) 111 4 (σ 111 4 + 1)
theorem Rel_rw {c σ : ST} (h : Rel c σ) {r s : Int} (r0 : 0 ≤ r) (r1 : r < c 10 0) (s0 : 0 ≤ s) (s1 : s < c 2 0) {v f : Nat → Int} (hv : bdV v) (hf : ∀ k : Nat, (k : Int) < c 7 s.toNat → f k = v (c 8 (8 * s.toNat + k)).toNat) : Rel (rwV c r s v) (rzM σ r s f) := by
  have hs := h.ci.sz
  have hr := h.ci.ro
  have hn := h.nm
  have hI : CI (rwV c r s v) := by
    unfold rwV
    exact (((h.ci.c13 _ _ hv).u11 _ (by omega)).uo _ _ (by omega)).uo _ _ (by omega)
  have a1 : ∀ p i : Nat, (p = 10 → i ≠ 2) → (p = 11 ∨ p = 12 → i ≠ r.toNat) → (p = 13 → i < 12 * r.toNat ∨ 12 * r.toNat + 12 ≤ i) → rwV c r s v p i = c p i := fun p i q0 q1 q2 => by
    unfold rwV
    rw [up2_no _ (by omega), up2_no _ (by omega), up2_no _ (by omega), cpR_no _ (by omega)]
  have m1 : ∀ i : Nat, i ≠ 4 → (i < (250 + 10 * r).toNat ∨ (250 + 10 * r).toNat + 10 ≤ i) → rzM σ r s f 111 i = σ 111 i := fun i q0 q1 => by
    unfold rzM
    rw [up2_el _ _ _ q0, lo_o _ (by omega), lo_o _ (by omega), cpR_no _ (by omega)]
  have mr : oM (rzM σ r s f) r 0 = s ∧ oM (rzM σ r s f) r 1 = oM σ r 1 + 1 ∧ ∀ k : Nat, k < 8 → oM (rzM σ r s f) r (2 + (k : Int)) = f k := by
    have e : ∀ w : Int, 0 ≤ w → w < 10 → oM (rzM σ r s f) r w = oM (loM (loM (cpR σ 111 (250 + 10 * r + 2).toNat 8 f) r 0 s) r 1 (oM σ r 1 + 1)) r w := fun w w0 w1 => by
      unfold rzM oM
      rw [up2_el _ _ _ (by omega)]
    refine ⟨?_, ?_, fun k hk => ?_⟩
    · rw [e 0 (by omega) (by omega), lo_g _ (by omega) (by omega) (by omega), lo_e]
    · rw [e 1 (by omega) (by omega), lo_e]
    · rw [e _ (by omega) (by omega), lo_g _ (by omega) (by omega) (by omega), lo_g _ (by omega) (by omega) (by omega)]
      unfold oM
      rw [cpR_yes _ (by omega)]
      congr 1
      omega
  have ar : rwV c r s v 11 r.toNat = s ∧ rwV c r s v 12 r.toNat = c 12 r.toNat + 1 := by
    unfold rwV
    rw [up2_no _ (by omega), up2_no _ (by omega), up2_at, up2_no _ (by omega), up2_at]
    exact ⟨rfl, rfl⟩
  refine Rel_same h hI (a1 2 0 (by omega) (by omega) (by omega)) (fun p p3 p9 => by funext i; exact a1 p i (by omega) (by omega) (by omega)) (fun i i0 i1 => m1 i (by omega) (by omega)) ⟨?_, ?_, ?_, ?_, ?_, ?_⟩ (fun x hr4 => ?_) (fun x hr4 => ?_) (fun x hr1 => ?_) (fun x k hr1 hk => ?_)
  · rw [m1 0 (by omega) (by omega), a1 2 0 (by omega) (by omega) (by omega)]; omega
  · rw [m1 1 (by omega) (by omega), a1 2 1 (by omega) (by omega) (by omega)]; omega
  · rw [m1 2 (by omega) (by omega), a1 10 0 (by omega) (by omega) (by omega)]; omega
  · rw [m1 3 (by omega) (by omega), a1 10 1 (by omega) (by omega) (by omega)]; omega
  · unfold rzM rwV; rw [up2_at, up2_at]; omega
  · rw [m1 5 (by omega) (by omega), a1 10 3 (by omega) (by omega) (by omega)]; omega
  · rw [m1 _ (by omega) (by omega), a1 14 x (by omega) (by omega) (by omega)]; exact h.he x hr4
  · rw [a1 14 x (by omega) (by omega) (by omega)]; exact h.hb x hr4
  · rw [a1 10 0 (by omega) (by omega) (by omega)] at hr1
    by_cases g : (x : Int) = r
    · have e2 : x = r.toNat := by omega
      have b := (rs_eq h r0 r1).2.1
      rw [g, e2, mr.1, mr.2.1, ar.1, ar.2, b]
      exact ⟨rfl, rfl, s1⟩
    · have e : ∀ w : Int, 0 ≤ w → w < 10 → oM (rzM σ r s f) x w = oM σ x w := fun w w0 w1 => m1 _ (by omega) (by omega)
      rw [e 0 (by omega) (by omega), e 1 (by omega) (by omega), a1 11 x (by omega) (by omega) (by omega), a1 12 x (by omega) (by omega) (by omega)]
      exact h.ro x hr1
  · rw [a1 10 0 (by omega) (by omega) (by omega)] at hr1
    by_cases g : (x : Int) = r
    · have e2 : x = r.toNat := by omega
      subst e2
      rw [ar.1] at hk ⊢
      have b8 := h.ci.wd s.toNat
      have b2 := cl12 h.ci (8 * s.toNat + k)
      rw [g, mr.2.2 k (by omega), hf k hk]
      unfold rwV
      rw [up2_no _ (by omega), up2_no _ (by omega), up2_no _ (by omega), cpR_yes _ (by omega)]
      congr 1
      omega
    · have e : ∀ w : Int, 0 ≤ w → w < 10 → oM (rzM σ r s f) x w = oM σ x w := fun w w0 w1 => m1 _ (by omega) (by omega)
      have b1 := h.ci.rs x
      have b8 := h.ci.wd (c 11 x).toNat
      rw [a1 11 x (by omega) (by omega) (by omega)] at hk ⊢
      have b2 := cl12 h.ci (8 * (c 11 x).toNat + k)
      rw [e _ (by omega) (by omega), a1 13 _ (by omega) (by omega) (by omega)]
      exact h.va x k hr1 hk
/-- a value is written -/
theorem Rel_val {c σ : ST} (h : Rel c σ) {r p v : Int} (r0 : 0 ≤ r) (r1 : r < c 10 0) (p0 : 0 ≤ p) (p1 : p < c 7 (c 11 r.toNat).toNat) (hv : 0 ≤ v ∧ v ≤ 99999) : Rel (up2 (up2 c 13 (12 * r.toNat + (c 8 (8 * (c 11 r.toNat).toNat + p.toNat)).toNat) v) 10 3 (c 10 3 + 1)) (up2 (loM σ r (2 + p) v) 111 5 (σ 111 5 + 1)) := by
  have hs := h.ci.sz
  have hr := h.ci.ro
  have hn := h.nm
  have bc := cl12 h.ci (8 * (c 11 r.toNat).toNat + p.toNat)
  have b8 := h.ci.wd (c 11 r.toNat).toNat
  obtain ⟨C, hC⟩ : ∃ C, C = (c 8 (8 * (c 11 r.toNat).toNat + p.toNat)).toNat := ⟨_, rfl⟩
  rw [← hC] at bc ⊢
  have hI : CI (up2 (up2 c 13 (12 * r.toNat + C) v) 10 3 (c 10 3 + 1)) := (h.ci.u13 _ hv).uo _ _ (by omega)
  have a1 : ∀ q i : Nat, (q = 10 → i ≠ 3) → (q = 13 → i ≠ 12 * r.toNat + C) → up2 (up2 c 13 (12 * r.toNat + C) v) 10 3 (c 10 3 + 1) q i = c q i := fun q i q0 q1 => by
    rw [up2_no _ (by omega), up2_no _ (by omega)]
  have m1 : ∀ i : Nat, i ≠ 5 → i ≠ (250 + 10 * r + (2 + p)).toNat → up2 (loM σ r (2 + p) v) 111 5 (σ 111 5 + 1) 111 i = σ 111 i := fun i q0 q1 => by
    rw [up2_el _ _ _ q0, lo_o _ q1]
  refine Rel_same h hI (a1 2 0 (by omega) (by omega)) (fun q p3 p9 => by funext i; exact a1 q i (by omega) (by omega)) (fun i i0 i1 => m1 i (by omega) (by omega)) ⟨?_, ?_, ?_, ?_, ?_, ?_⟩ (fun x hr4 => ?_) (fun x hr4 => ?_) (fun x hr1 => ?_) (fun x k hr1 hk => ?_)
  · rw [m1 0 (by omega) (by omega), a1 2 0 (by omega) (by omega)]; omega
  · rw [m1 1 (by omega) (by omega), a1 2 1 (by omega) (by omega)]; omega
  · rw [m1 2 (by omega) (by omega), a1 10 0 (by omega) (by omega)]; omega
  · rw [m1 3 (by omega) (by omega), a1 10 1 (by omega) (by omega)]; omega
  · rw [m1 4 (by omega) (by omega), a1 10 2 (by omega) (by omega)]; omega
  · rw [up2_at, up2_at]; omega
  · rw [m1 _ (by omega) (by omega), a1 14 x (by omega) (by omega)]; exact h.he x hr4
  · rw [a1 14 x (by omega) (by omega)]; exact h.hb x hr4
  · rw [a1 10 0 (by omega) (by omega)] at hr1
    have e : ∀ w : Int, 0 ≤ w → w < 2 → oM (up2 (loM σ r (2 + p) v) 111 5 (σ 111 5 + 1)) x w = oM σ x w := fun w w0 w1 => m1 _ (by omega) (by omega)
    rw [e 0 (by omega) (by omega), e 1 (by omega) (by omega), a1 11 x (by omega) (by omega), a1 12 x (by omega) (by omega)]
    exact h.ro x hr1
  · rw [a1 10 0 (by omega) (by omega)] at hr1
    have b1 := h.ci.rs x
    have b9 := h.ci.wd (c 11 x).toNat
    rw [a1 11 x (by omega) (by omega)] at hk ⊢
    have b2 := cl12 h.ci (8 * (c 11 x).toNat + k)
    by_cases g : (x : Int) = r
    · have e2 : x = r.toNat := by omega
      subst e2
      have bx := (h.ro r.toNat hr1).2.2
      rw [g]
      by_cases f : (k : Int) = p
      · have f2 : k = p.toNat := by omega
        rw [f, f2, ← hC, up2_no _ (by omega), up2_at]
        unfold oM
        rw [up2_el _ _ _ (by omega)]
        exact lo_e _ _ _ _
      · have hne : c 8 (8 * (c 11 r.toNat).toNat + k) ≠ c 8 (8 * (c 11 r.toNat).toNat + p.toNat) := by
          rcases Nat.lt_trichotomy k p.toNat with y | y | y
          · exact h.ne _ k p.toNat (by omega) y (by omega)
          · omega
          · exact fun z => h.ne _ p.toNat k (by omega) y hk z.symm
        have n1 := h.ci.co (8 * (c 11 r.toNat).toNat + k)
        have n2 := h.ci.co (8 * (c 11 r.toNat).toNat + p.toNat)
        have q := h.va r.toNat k hr1 hk
        rw [g] at q
        rw [a1 13 _ (by omega) (by omega)]
        refine Eq.trans ?_ q
        exact m1 _ (by omega) (by omega)
    · rw [a1 13 _ (by omega) (by omega)]
      refine Eq.trans ?_ (h.va x k hr1 hk)
      exact m1 _ (by omega) (by omega)
/-- the cursor goes -/
theorem Rel_cur {c σ : ST} (h : Rel c σ) {x : Int} (hx : 0 ≤ x ∧ x ≤ 12) : Rel (up2 c 10 1 x) (up2 σ 111 3 x) := by
  have hn := h.nm
  have a1 : ∀ q i : Nat, (q = 10 → i ≠ 1) → up2 c 10 1 x q i = c q i := fun q i q0 => up2_no _ (by omega)
  have m1 : ∀ i : Nat, i ≠ 3 → up2 σ 111 3 x 111 i = σ 111 i := fun i q0 => up2_el _ _ _ q0
  refine Rel_same h (h.ci.u101 hx) (a1 2 0 (by omega)) (fun q p3 p9 => by funext i; exact a1 q i (by omega)) (fun i i0 i1 => m1 i (by omega)) ⟨?_, ?_, ?_, ?_, ?_, ?_⟩ (fun x hr4 => ?_) (fun x hr4 => ?_) (fun x hr1 => ?_) (fun x k hr1 hk => ?_)
  · rw [m1 0 (by omega), a1 2 0 (by omega)]; omega
  · rw [m1 1 (by omega), a1 2 1 (by omega)]; omega
  · rw [m1 2 (by omega), a1 10 0 (by omega)]; omega
  · rw [up2_at, up2_at]
  · rw [m1 4 (by omega), a1 10 2 (by omega)]; omega
  · rw [m1 5 (by omega), a1 10 3 (by omega)]; omega
  · rw [m1 _ (by omega), a1 14 x (by omega)]; exact h.he x hr4
  · rw [a1 14 x (by omega)]; exact h.hb x hr4
  · rw [a1 10 0 (by omega)] at hr1
    have e : ∀ w : Int, 0 ≤ w → oM (up2 σ 111 3 _) x w = oM σ x w := fun w w0 => m1 _ (by omega)
    rw [e 0 (by omega), e 1 (by omega), a1 11 x (by omega), a1 12 x (by omega)]
    exact h.ro x hr1
  · rw [a1 10 0 (by omega)] at hr1
    rw [a1 11 x (by omega)] at hk ⊢
    rw [a1 13 _ (by omega)]
    refine Eq.trans ?_ (h.va x k hr1 hk)
    exact m1 _ (by omega)
/-- the mark; a reader's shape -/
theorem Rel_mark {c σ : ST} (h : Rel c σ) {x : Int} (hx : 0 ≤ x ∧ x < 12) : Rel (up2 c 2 1 x) (up2 σ 111 1 x) := by
  have hn := h.nm
  have a1 : ∀ q i : Nat, (q = 2 → i ≠ 1) → up2 c 2 1 x q i = c q i := fun q i q0 => up2_no _ (by omega)
  have m1 : ∀ i : Nat, i ≠ 1 → up2 σ 111 1 x 111 i = σ 111 i := fun i q0 => up2_el _ _ _ q0
  refine Rel_same h (h.ci.u21 hx) (a1 2 0 (by omega)) (fun q p3 p9 => by funext i; exact a1 q i (by omega)) (fun i i0 i1 => m1 i (by omega)) ⟨?_, ?_, ?_, ?_, ?_, ?_⟩ (fun x hr4 => ?_) (fun x hr4 => ?_) (fun x hr1 => ?_) (fun x k hr1 hk => ?_)
  · rw [m1 0 (by omega), a1 2 0 (by omega)]; omega
  · rw [up2_at, up2_at]
  · rw [m1 2 (by omega), a1 10 0 (by omega)]; omega
  · rw [m1 3 (by omega), a1 10 1 (by omega)]; omega
  · rw [m1 4 (by omega), a1 10 2 (by omega)]; omega
  · rw [m1 5 (by omega), a1 10 3 (by omega)]; omega
  · rw [m1 _ (by omega), a1 14 x (by omega)]; exact h.he x hr4
  · rw [a1 14 x (by omega)]; exact h.hb x hr4
  · rw [a1 10 0 (by omega)] at hr1
    have e : ∀ w : Int, 0 ≤ w → oM (up2 σ 111 1 _) x w = oM σ x w := fun w w0 => m1 _ (by omega)
    rw [e 0 (by omega), e 1 (by omega), a1 11 x (by omega), a1 12 x (by omega)]
    exact h.ro x hr1
  · rw [a1 10 0 (by omega)] at hr1
    rw [a1 11 x (by omega)] at hk ⊢
    rw [a1 13 _ (by omega)]
    refine Eq.trans ?_ (h.va x k hr1 hk)
    exact m1 _ (by omega)
theorem Rel_hold {c σ : ST} (h : Rel c σ) {q x : Int} (q0 : 0 ≤ q) (q1 : q < 4) (x0 : 0 ≤ x) (x1 : x < c 2 0) : Rel (up2 c 14 q.toNat x) (up2 σ 111 (6 + q).toNat x) := by
  have hn := h.nm
  have hs := h.ci.sz
  have a1 : ∀ p i : Nat, (p = 14 → i ≠ q.toNat) → up2 c 14 q.toNat x p i = c p i := fun p i q0 => up2_no _ (by omega)
  have m1 : ∀ i : Nat, i ≠ (6 + q).toNat → up2 σ 111 (6 + q).toNat x 111 i = σ 111 i := fun i q0 => up2_el _ _ _ q0
  refine Rel_same h (h.ci.u14 _ (by omega)) (a1 2 0 (by omega)) (fun p p3 p9 => by funext i; exact a1 p i (by omega)) (fun i i0 i1 => m1 i (by omega)) ⟨?_, ?_, ?_, ?_, ?_, ?_⟩ (fun r hr4 => ?_) (fun r hr4 => ?_) (fun r hr1 => ?_) (fun r k hr1 hk => ?_)
  · rw [m1 0 (by omega), a1 2 0 (by omega)]; omega
  · rw [m1 1 (by omega), a1 2 1 (by omega)]; omega
  · rw [m1 2 (by omega), a1 10 0 (by omega)]; omega
  · rw [m1 3 (by omega), a1 10 1 (by omega)]; omega
  · rw [m1 4 (by omega), a1 10 2 (by omega)]; omega
  · rw [m1 5 (by omega), a1 10 3 (by omega)]; omega
  · by_cases g : (r : Int) = q
    · have g2 : r = q.toNat := by omega
      rw [g2, show 6 + q.toNat = (6 + q).toNat by omega, up2_at, up2_at]
    · rw [m1 _ (by omega), a1 14 r (by omega)]; exact h.he r hr4
  · by_cases g : (r : Int) = q
    · have g2 : r = q.toNat := by omega
      rw [g2, up2_at]; exact x1
    · rw [a1 14 r (by omega)]; exact h.hb r hr4
  · rw [a1 10 0 (by omega)] at hr1
    have e : ∀ w : Int, 0 ≤ w → oM (up2 σ 111 (6 + q).toNat x) r w = oM σ r w := fun w w0 => m1 _ (by omega)
    rw [e 0 (by omega), e 1 (by omega), a1 11 r (by omega), a1 12 r (by omega)]
    exact h.ro r hr1
  · rw [a1 10 0 (by omega)] at hr1
    rw [a1 11 r (by omega)] at hk ⊢
    rw [a1 13 _ (by omega)]
    refine Eq.trans ?_ (h.va r k hr1 hk)
    exact m1 _ (by omega)
/-- a row goes -/
def rmM (σ : ST) (g : Int) : ST := up2 (up2 (cpR (cpR σ 111 (250 + 10 * g).toNat (10 * (σ 111 2 - 1 - g)).toNat (fun j => σ 111 ((250 + 10 * g).toNat + j + 10))) 111 (250 + 10 * (σ 111 2 - 1)).toNat 10 (fun _ => 0)) 111 2 (σ 111 2 - 1)) 111 3 (σ 111 3 - (if g < σ 111 3 then 1 else 0))
theorem Rel_rem {c σ : ST} (h : Rel c σ) {g : Int} (g0 : 0 ≤ g) (g1 : g < c 10 0) : Rel (tkF c g) (rmM σ g) := by
  have hs := h.ci.sz
  have hr := h.ci.ro
  have hc := h.ci.cu
  have hn := h.nm
  have n2 : σ 111 2 = c 10 0 := by omega
  have n3 : σ 111 3 = c 10 1 := by omega
  have at1 : ∀ p i : Nat, tkF c g p i = if p = 10 ∧ i = 1 then (if g < c 10 1 then c 10 1 - 1 else c 10 1) else up2 (tkO c g (c 10 0 - 1 - g).toNat) 10 0 (c 10 0 - 1) p i := fun p i => by
    unfold tkF
    try dsimp only
    by_cases f : g < c 10 1
    · rw [if_pos f, if_pos f]; rfl
    · rw [if_neg f, if_neg f]
      by_cases z : p = 10 ∧ i = 1
      · rw [if_pos z, z.1, z.2, up2_el _ _ _ (by omega)]
        unfold tkO
        rw [cpR_no _ (by omega), cpR_no _ (by omega), cpR_no _ (by omega)]
      · rw [if_neg z]
  have a1 : ∀ p i : Nat, p ≠ 10 ∨ 2 ≤ i → (p = 11 ∨ p = 12 → (i : Int) < g) → (p = 13 → (i : Int) < 12 * g) → tkF c g p i = c p i := fun p i q0 q1 q2 => by
    rw [at1, if_neg (by omega), up2_no _ (by omega)]
    unfold tkO
    rw [cpR_no _ (by omega), cpR_no _ (by omega), cpR_no _ (by omega)]
  have a2 : tkF c g 10 0 = c 10 0 - 1 := by rw [at1, if_neg (by omega), up2_at]
  have a3 : tkF c g 10 1 = (if g < c 10 1 then c 10 1 - 1 else c 10 1) := by rw [at1, if_pos ⟨rfl, rfl⟩]
  have a11 : ∀ i : Nat, g ≤ (i : Int) → (i : Int) < c 10 0 - 1 → tkF c g 11 i = c 11 (i + 1) ∧ tkF c g 12 i = c 12 (i + 1) ∧ ∀ j, j < 12 → tkF c g 13 (12 * i + j) = c 13 (12 * (i + 1) + j) := fun i i0 i1 => by
    refine ⟨?_, ?_, fun j hj => ?_⟩
    · rw [at1, if_neg (by omega), up2_no _ (by omega)]
      unfold tkO
      rw [cpR_no _ (by omega), cpR_no _ (by omega), cpR_yes _ (by omega)]
      congr 1; omega
    · rw [at1, if_neg (by omega), up2_no _ (by omega)]
      unfold tkO
      rw [cpR_no _ (by omega), cpR_yes _ (by omega)]
      congr 1; omega
    · rw [at1, if_neg (by omega), up2_no _ (by omega)]
      unfold tkO
      rw [cpR_yes _ (by omega)]
      congr 1; omega
  have m1 : ∀ i : Nat, i ≠ 2 → i ≠ 3 → i < (250 + 10 * g).toNat → rmM σ g 111 i = σ 111 i := fun i q0 q1 q2 => by
    unfold rmM
    rw [up2_el _ _ _ q1, up2_el _ _ _ q0, cpR_no _ (by omega), cpR_no _ (by omega)]
  have m2 : ∀ r w : Int, g ≤ r → r < c 10 0 - 1 → 0 ≤ w → w < 10 → oM (rmM σ g) r w = oM σ (r + 1) w := fun r w q0 q1 w0 w1 => by
    unfold rmM oM
    rw [up2_el _ _ _ (by omega), up2_el _ _ _ (by omega), cpR_no _ (by omega), cpR_yes _ (by omega)]
    congr 1; omega
  refine Rel_same h (CI_tkF h.ci g0 g1) (a1 2 0 (by omega) (by omega) (by omega)) (fun p p3 p9 => by funext i; exact a1 p i (by omega) (by omega) (by omega)) (fun i i0 i1 => m1 i (by omega) (by omega) (by omega)) ⟨?_, ?_, ?_, ?_, ?_, ?_⟩ (fun r hr4 => ?_) (fun r hr4 => ?_) (fun r hr1 => ?_) (fun r k hr1 hk => ?_)
  · rw [m1 0 (by omega) (by omega) (by omega), a1 2 0 (by omega) (by omega) (by omega)]; omega
  · rw [m1 1 (by omega) (by omega) (by omega), a1 2 1 (by omega) (by omega) (by omega)]; omega
  · rw [a2]; unfold rmM; rw [up2_el _ _ _ (by omega), up2_at]; omega
  · rw [a3]; unfold rmM; rw [up2_at, n3]; split <;> omega
  · rw [m1 4 (by omega) (by omega) (by omega), a1 10 2 (by omega) (by omega) (by omega)]; omega
  · rw [m1 5 (by omega) (by omega) (by omega), a1 10 3 (by omega) (by omega) (by omega)]; omega
  · rw [m1 _ (by omega) (by omega) (by omega), a1 14 r (by omega) (by omega) (by omega)]; exact h.he r hr4
  · rw [a1 14 r (by omega) (by omega) (by omega)]; exact h.hb r hr4
  · rw [a2] at hr1
    by_cases f : (r : Int) < g
    · have e : ∀ w : Int, 0 ≤ w → w < 10 → oM (rmM σ g) r w = oM σ r w := fun w w0 w1 => m1 _ (by omega) (by omega) (by omega)
      rw [e 0 (by omega) (by omega), e 1 (by omega) (by omega), a1 11 r (by omega) (by omega) (by omega), a1 12 r (by omega) (by omega) (by omega)]
      exact h.ro r (by omega)
    · have b := a11 r (by omega) hr1
      have q := h.ro (r + 1) (by omega)
      rw [show ((r + 1 : Nat) : Int) = (r : Int) + 1 by omega] at q
      rw [m2 _ _ (by omega) hr1 (by omega) (by omega), m2 _ _ (by omega) hr1 (by omega) (by omega), b.1, b.2.1]
      exact q
  · rw [a2] at hr1
    by_cases f : (r : Int) < g
    · have b1 := h.ci.rs r
      have b8 := h.ci.wd (c 11 r).toNat
      rw [a1 11 r (by omega) (by omega) (by omega)] at hk ⊢
      have b2 := cl12 h.ci (8 * (c 11 r).toNat + k)
      have e : ∀ w : Int, 0 ≤ w → w < 10 → oM (rmM σ g) r w = oM σ r w := fun w w0 w1 => m1 _ (by omega) (by omega) (by omega)
      rw [e _ (by omega) (by omega), a1 13 _ (by omega) (by omega) (by omega)]
      exact h.va r k (by omega) hk
    · have b := a11 r (by omega) hr1
      have b1 := h.ci.rs (r + 1)
      have b8 := h.ci.wd (c 11 (r + 1)).toNat
      rw [b.1] at hk ⊢
      have b2 := cl12 h.ci (8 * (c 11 (r + 1)).toNat + k)
      have q := h.va (r + 1) k (by omega) hk
      rw [show ((r + 1 : Nat) : Int) = (r : Int) + 1 by omega] at q
      rw [m2 _ _ (by omega) hr1 (by omega) (by omega), b.2.2 _ b2]
      exact q
