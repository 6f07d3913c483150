/-! the relation is kept: a shape comes -/
theorem come_o {c : ST} (h : CI c) (ch : Int) {p i : Nat} (p2 : p ≠ 2) (h8 : p < 8 → i < (c 2 0).toNat) (h9 : p < 10 → i < 8 * (c 2 0).toNat) : comeF c ch p i = c p i := by
  unfold comeF comeM come1
  rw [up2_no _ (by omega), cpR_no _ (by omega), cpR_no _ (by omega), up2_no _ (by omega), up2_no _ (by omega)]
theorem come_21 (c : ST) (ch : Int) : comeF c ch 2 1 = c 2 1 := by
  unfold comeF comeM come1
  rw [up2_no _ (by omega), cpR_no _ (by omega), cpR_no _ (by omega), up2_no _ (by omega), up2_no _ (by omega)]
theorem come_3 {c : ST} (ch : Int) : comeF c ch 3 (c 2 0).toNat = ch := by
  unfold comeF comeM come1
  rw [up2_no _ (by omega), cpR_no _ (by omega), cpR_no _ (by omega), up2_no _ (by omega), up2_at]
theorem addL_o {μ : ST} {s a : Int} {p i : Nat} (h8 : p < 8 → i < s.toNat) (h9 : p < 10 → i < 8 * s.toNat) : addLF μ s a p i = μ p i := by
  unfold addLF
  rw [up2_no _ (by omega), up2_no _ (by omega), up2_no _ (by omega)]
theorem addL_q {μ : ST} {s a : Int} {p i : Nat} (h : p ≠ 7 ∧ p ≠ 8 ∧ p ≠ 9) : addLF μ s a p i = μ p i := by
  unfold addLF
  rw [up2_no _ (by omega), up2_no _ (by omega), up2_no _ (by omega)]
theorem addL_7 {μ : ST} {s a : Int} : addLF μ s a 7 s.toNat = μ 7 s.toNat + 1 := by
  unfold addLF
  rw [up2_no _ (by omega), up2_no _ (by omega), up2_at]
theorem addL_8 {μ : ST} {s a : Int} (k : Nat) : addLF μ s a 8 (8 * s.toNat + k) = if k = (μ 7 s.toNat).toNat then s else μ 8 (8 * s.toNat + k) := by
  unfold addLF
  rw [up2_no _ (by omega)]
  by_cases g : k = (μ 7 s.toNat).toNat
  · rw [if_pos g, g, up2_at]
  · rw [if_neg g, up2_no _ (by omega), up2_no _ (by omega)]
theorem addL_9 {μ : ST} {s a : Int} (k : Nat) : addLF μ s a 9 (8 * s.toNat + k) = if k = (μ 7 s.toNat).toNat then a else μ 9 (8 * s.toNat + k) := by
  unfold addLF
  by_cases g : k = (μ 7 s.toNat).toNat
  · rw [if_pos g, g, up2_at]
  · rw [if_neg g, up2_no _ (by omega), up2_no _ (by omega), up2_no _ (by omega)]
/-! the model's side -/
theorem ly_e (σ : ST) (s w v : Int) : gM (lyM σ s w v) s w = v := by unfold gM lyM; rw [up2_at]
theorem ly_o (σ : ST) {s w v : Int} {i : Nat} (h : i ≠ (10 + 20 * s + w).toNat) : lyM σ s w v 111 i = σ 111 i := by unfold lyM; rw [up2_el _ _ _ h]
theorem cm_o {σ : ST} (h : 1 ≤ σ 111 0) (ch x y : Int) {i : Nat} (i0 : i ≠ 0) (hi : i < 10 + 20 * (σ 111 0).toNat ∨ 10 + 20 * (σ 111 0).toNat + 20 ≤ i) : cmM σ ch x y 111 i = σ 111 i := by
  unfold cmM cyM
  rw [up2_el _ _ _ i0, ly_o _ (by omega), ly_o _ (by omega), ly_o _ (by omega), cpR_no _ (by omega)]
theorem cm_17 {σ : ST} (h : 1 ≤ σ 111 0) (ch x y : Int) : gM (cmM σ ch x y) (σ 111 0) 17 = ch ∧ gM (cmM σ ch x y) (σ 111 0) 18 = x ∧ gM (cmM σ ch x y) (σ 111 0) 19 = y := by
  have e : ∀ w : Int, 0 ≤ w → gM (cmM σ ch x y) (σ 111 0) w = gM (lyM (lyM (lyM (cyM σ 20) (σ 111 0) 17 ch) (σ 111 0) 18 x) (σ 111 0) 19 y) (σ 111 0) w := fun w hw => by
    unfold cmM gM
    rw [up2_el _ _ _ (by omega)]
  rw [e _ (by omega), e _ (by omega), e _ (by omega)]
  refine ⟨?_, ?_, ly_e _ _ _ _⟩
  · rw [lyM_g _ _ _ _ _ _ (by omega) (by omega) (by omega), lyM_g _ _ _ _ _ _ (by omega) (by omega) (by omega), ly_e]
  · rw [lyM_g _ _ _ _ _ _ (by omega) (by omega) (by omega), ly_e]
theorem gc_o {μ : ST} {a : Int} (h : 1 ≤ μ 111 0) (hw : 0 ≤ gM μ (μ 111 0 - 1) 0 ∧ gM μ (μ 111 0 - 1) 0 < 8) {i : Nat} (hi : i < 10 + 20 * (μ 111 0 - 1).toNat ∨ 10 + 20 * (μ 111 0 - 1).toNat + 20 ≤ i) : gcM μ a 111 i = μ 111 i := by
  unfold gcM
  rw [ly_o _ (by omega), ly_o _ (by omega), ly_o _ (by omega)]
theorem gc_0 {μ : ST} {a : Int} : gM (gcM μ a) (μ 111 0 - 1) 0 = gM μ (μ 111 0 - 1) 0 + 1 := by unfold gcM; rw [ly_e]
theorem gc_q {μ : ST} {a : Int} (h : 1 ≤ μ 111 0) (hw : 0 ≤ gM μ (μ 111 0 - 1) 0 ∧ gM μ (μ 111 0 - 1) 0 < 8) {w : Int} (w0 : 17 ≤ w) : gM (gcM μ a) (μ 111 0 - 1) w = gM μ (μ 111 0 - 1) w := by
  unfold gcM
  rw [lyM_g _ _ _ _ _ _ (by omega) (by omega) (by omega), lyM_g _ _ _ _ _ _ (by omega) (by omega) (by omega), lyM_g _ _ _ _ _ _ (by omega) (by omega) (by omega)]
theorem gc_c {μ : ST} {a : Int} (h : 1 ≤ μ 111 0) (hw : 0 ≤ gM μ (μ 111 0 - 1) 0 ∧ gM μ (μ 111 0 - 1) 0 < 8) {k : Int} (k0 : 0 ≤ k) (k1 : k < 8) : gM (gcM μ a) (μ 111 0 - 1) (1 + k) = (if k = gM μ (μ 111 0 - 1) 0 then μ 111 0 - 1 else gM μ (μ 111 0 - 1) (1 + k)) ∧ gM (gcM μ a) (μ 111 0 - 1) (9 + k) = (if k = gM μ (μ 111 0 - 1) 0 then a else gM μ (μ 111 0 - 1) (9 + k)) := by
  unfold gcM
  rw [lyM_g _ _ 0 _ _ _ (by omega) (by omega) (by omega), lyM_g _ _ 0 _ _ _ (by omega) (by omega) (by omega), lyM_g _ _ _ _ _ (1 + k) (by omega) (by omega) (by omega)]
  by_cases g : k = gM μ (μ 111 0 - 1) 0
  · rw [if_pos g, if_pos g, ← g, ly_e, ly_e]
    exact ⟨rfl, rfl⟩
  · rw [if_neg g, if_neg g, lyM_g _ _ _ _ _ _ (by omega) (by omega) (by omega), lyM_g _ _ _ _ _ _ (by omega) (by omega) (by omega), lyM_g _ _ _ _ _ _ (by omega) (by omega) (by omega)]
    exact ⟨rfl, rfl⟩
/-- a column comes: class c', model σ', told by what the change lays -/
theorem Rel_add {c σ c1 σ1 : ST} (h : Rel c σ) (hz : c 2 0 < 12) {a : Int} (hw8 : c 7 (c 2 0 - 1).toNat < 8) {ch x y : Int} (hch : 1 ≤ ch ∧ ch ≤ 3) (hI : CI (addLF c1 (c 2 0) a)) (hL : LI (addLF c1 (c 2 0) a))
    (e2 : c1 2 = comeF c ch 2) (e3 : c1 3 = comeF c ch 3) (e4 : ∀ i, i < (c 2 0).toNat → c1 4 i = c 4 i) (e5 : ∀ i, i < (c 2 0).toNat → c1 5 i = c 5 i) (e6 : ∀ i, i < (c 2 0).toNat → c1 6 i = c 6 i) (e7 : ∀ p, 7 ≤ p → c1 p = comeF c ch p) (e01 : c1 0 = c 0 ∧ c1 1 = c 1)
    (em : σ1 = gcM (cmM σ ch x y) a)
    (f1 : ch = 1 → x = c1 4 (c 2 0).toNat) (f2 : (ch = 2 ∨ ch = 3) → x < c 7 (c 2 0 - 1).toNat ∧ c1 5 (c 2 0).toNat = c 8 (8 * (c 2 0 - 1).toNat + x.toNat)) (f3 : ch = 3 → y < c 7 (c 2 0 - 1).toNat ∧ c1 6 (c 2 0).toNat = c 8 (8 * (c 2 0 - 1).toNat + y.toNat)) (hx : 0 ≤ x ∧ x ≤ 99 ∧ 0 ≤ y ∧ y ≤ 99) : Rel (addLF c1 (c 2 0) a) σ1 := by
  subst em
  have hs := h.ci.sz
  have hn := h.nm
  have hw := h.ci.wd (c 2 0 - 1).toNat
  obtain ⟨S, hS⟩ : ∃ S : Nat, c 2 0 = (S : Int) := ⟨(c 2 0).toNat, by omega⟩
  have hm1 : 1 ≤ σ 111 0 := by omega
  have m0 : cmM σ ch x y 111 0 = (S : Int) + 1 := by rw [cmM_0]; omega
  have eS1 : (c 2 0 - 1).toNat = S - 1 := by omega
  have ewd := (wd_eq h (s := c 2 0 - 1) (by omega) (by omega)).1
  have ew : gM (cmM σ ch x y) (cmM σ ch x y 111 0 - 1) 0 = c 7 (S - 1) := by
    rw [m0, show (S : Int) + 1 - 1 = σ 111 0 by omega, cmM_c hm1 _ _ _ (by omega) (by omega), show σ 111 0 - 1 = c 2 0 - 1 by omega, ewd, eS1]
  have hmS : cmM σ ch x y 111 0 - 1 = (S : Int) := by omega
  have gw : 0 ≤ gM (cmM σ ch x y) (cmM σ ch x y 111 0 - 1) 0 ∧ gM (cmM σ ch x y) (cmM σ ch x y 111 0 - 1) 0 < 8 := by rw [ew]; rw [eS1] at hw hw8; omega
  have g1 : 1 ≤ cmM σ ch x y 111 0 := by omega
  have g17 := cm_17 hm1 ch x y
  have q17 : ∀ w : Int, 17 ≤ w → gM (gcM (cmM σ ch x y) a) S w = gM (cmM σ ch x y) (σ 111 0) w := fun w hw => by
    have := gc_q (a := a) g1 gw hw
    rw [hmS] at this
    rw [this, show σ 111 0 = (S : Int) by omega]
  have c7S : c1 7 S = c 7 (S - 1) := by
    rw [e7 7 (by omega), show S = (c 2 0).toNat by omega, comeF_7 h.ci, show (c 2 0).toNat - 1 = (c 2 0 - 1).toNat by omega]
  have w7 : addLF c1 (c 2 0) a 7 S = c 7 (S - 1) + 1 := by
    have := addL_7 (μ := c1) (s := c 2 0) (a := a)
    rw [show (c 2 0).toNat = S by omega, c7S] at this
    exact this
  have w8 : ∀ k : Nat, (k : Int) < c 7 (S - 1) + 1 → addLF c1 (c 2 0) a 8 (8 * S + k) = if (k : Int) = c 7 (S - 1) then (S : Int) else c 8 (8 * (S - 1) + k) := fun k hk => by
    have := addL_8 (μ := c1) (s := c 2 0) (a := a) k
    rw [show (c 2 0).toNat = S by omega, c7S] at this
    rw [this]
    rw [eS1] at hw
    by_cases g : (k : Int) = c 7 (S - 1)
    · rw [if_pos g, if_pos (by omega), hS]
    · rw [if_neg g, if_neg (by omega), e7 8 (by omega), show S = (c 2 0).toNat by omega, comeF_8 h.ci ch k (by rw [eS1]; omega), show (c 2 0).toNat - 1 = (c 2 0 - 1).toNat by omega]
  have w9 : ∀ k : Nat, (k : Int) < c 7 (S - 1) + 1 → addLF c1 (c 2 0) a 9 (8 * S + k) = if (k : Int) = c 7 (S - 1) then a else c 9 (8 * (S - 1) + k) := fun k hk => by
    have := addL_9 (μ := c1) (s := c 2 0) (a := a) k
    rw [show (c 2 0).toNat = S by omega, c7S] at this
    rw [this]
    rw [eS1] at hw
    by_cases g : (k : Int) = c 7 (S - 1)
    · rw [if_pos g, if_pos (by omega)]
    · rw [if_neg g, if_neg (by omega), e7 9 (by omega), show S = (c 2 0).toNat by omega, comeF_9 h.ci ch k (by rw [eS1]; omega), show (c 2 0).toNat - 1 = (c 2 0 - 1).toNat by omega]
  have m8 : ∀ k : Nat, (k : Int) < c 7 (S - 1) + 1 → gM (gcM (cmM σ ch x y) a) S (1 + (k : Int)) = (if (k : Int) = c 7 (S - 1) then (S : Int) else c 8 (8 * (S - 1) + k)) ∧ gM (gcM (cmM σ ch x y) a) S (9 + (k : Int)) = if (k : Int) = c 7 (S - 1) then a else c 9 (8 * (S - 1) + k) := fun k hk => by
    rw [eS1] at hw hw8
    have := gc_c (a := a) g1 gw (k := (k : Int)) (by omega) (by omega)
    rw [ew, hmS] at this
    rw [this.1, this.2]
    by_cases g : (k : Int) = c 7 (S - 1)
    · simp only [if_pos g]; exact ⟨trivial, trivial⟩
    · have q := cl_eq h (s := c 2 0 - 1) (p := (k : Int)) (by omega) (by omega) (by omega) (by rw [eS1]; omega)
      rw [eS1, show ((k : Int)).toNat = k by omega] at q
      have r1 := cmM_c hm1 ch x y (w := 1 + (k : Int)) (by omega) (by omega)
      have r9 := cmM_c hm1 ch x y (w := 9 + (k : Int)) (by omega) (by omega)
      rw [show σ 111 0 - 1 = c 2 0 - 1 by omega] at r1 r9
      rw [show σ 111 0 = (S : Int) by omega] at r1 r9
      simp only [if_neg g]
      rw [r1, r9]
      exact q
  have q3 : addLF c1 (c 2 0) a 3 S = ch := by
    rw [addL_q (by omega), e3, show S = (c 2 0).toNat by omega, come_3]
  have cS := fun (k : Nat) (hk : (k : Int) < c 7 (S - 1)) => (h.cl (S - 1) k (by omega) hk).2.2
  refine Rel_grow h hI hL hS (by omega) ?_ ?_ (fun p i p2 h8 h9 => ?_) ?_ (fun i i0 hi => ?_) ⟨?_, ?_⟩ (fun k hk => ?_) (fun i j hij hj => ?_) ?_ ?_
  · rw [addL_q (by omega), e2, comeF_20]; omega
  · rw [addL_q (by omega), e2, come_21]
  · rw [addL_o (by omega) (by omega)]
    rcases (show p = 0 ∨ p = 1 ∨ p = 3 ∨ p = 4 ∨ p = 5 ∨ p = 6 ∨ 7 ≤ p by omega) with g | g | g | g | g | g | g
    · subst g; rw [e01.1]
    · subst g; rw [e01.2]
    · subst g; rw [e3]; exact come_o h.ci ch (by omega) (by omega) (by omega)
    · subst g; exact e4 i (by omega)
    · subst g; exact e5 i (by omega)
    · subst g; exact e6 i (by omega)
    · rw [e7 p g]; exact come_o h.ci ch (by omega) (by omega) (by omega)
  · rw [gc_o g1 gw (by omega)]; omega
  · rw [gc_o g1 gw (by omega)]
    exact cm_o hm1 ch x y i0 (by omega)
  · have := gc_0 (μ := cmM σ ch x y) (a := a)
    rw [ew, hmS] at this
    rw [this, w7]
  · rw [q17 17 (by omega), g17.1, q3]
  · rw [w7] at hk
    have q := m8 k hk
    rw [w8 k hk, w9 k hk]
    refine ⟨q.1, q.2, ?_⟩
    by_cases g : (k : Int) = c 7 (S - 1)
    · rw [if_pos g]; omega
    · rw [if_neg g]; have := cS k (by omega); omega
  · rw [w7] at hj
    rw [w8 i (by omega), w8 j hj, if_neg (show ¬ (i : Int) = c 7 (S - 1) by omega)]
    by_cases g : (j : Int) = c 7 (S - 1)
    · rw [if_pos g]; have := cS i (by omega); omega
    · rw [if_neg g]; exact h.ne (S - 1) i j (by omega) hij (by omega)
  · rw [q17 18 (by omega), q17 19 (by omega), g17.2.1, g17.2.2]; exact hx
  · have e71 : addLF c1 (c 2 0) a 7 (S - 1) = c 7 (S - 1) := by
      rw [addL_o (by omega) (by omega), e7 7 (by omega)]; exact come_o h.ci ch (by omega) (by omega) (by omega)
    have e81 : ∀ k, k < 8 → addLF c1 (c 2 0) a 8 (8 * (S - 1) + k) = c 8 (8 * (S - 1) + k) := fun k hk => by
      rw [addL_o (by omega) (by omega), e7 8 (by omega)]; exact come_o h.ci ch (by omega) (by omega) (by omega)
    have hS1 : S - 1 + 1 = S := by omega
    have hSI : ((S - 1 : Nat) : Int) + 1 = (S : Int) := by omega
    rw [eS1] at hw f2 f3
    rw [show (c 2 0).toNat = S by omega] at f1 f2 f3
    unfold stR
    rw [hS1, hSI, q3, e71, w7, q17 18 (by omega), q17 19 (by omega), g17.2.1, g17.2.2, addL_q (p := 4) (by omega), addL_q (p := 5) (by omega), addL_q (p := 6) (by omega)]
    refine ⟨by omega, fun _ => ⟨rfl, fun k hk => ?_, ?_⟩, f1, fun hh => ?_, fun hh => ?_, fun hh => by omega, fun hh => by omega⟩
    · rw [w8 k (by omega), if_neg (by omega), e81 k (by omega)]
    · rw [w8 _ (by omega), if_pos (by omega)]
    · have := f2 hh
      rw [e81 _ (by omega)]
      exact this
    · have := f3 hh
      rw [e81 _ (by omega)]
      exact this
theorem Rel_exN {c σ : ST} (h : Rel c σ) (hz : c 2 0 < 12) {a m : Int} (ha : 0 ≤ a ∧ a < 8) (hm : 0 ≤ m ∧ m ≤ 99) (hp : plc c (c 2 0 - 1).toNat a = -1) : Rel (exN c a m) (anM σ a m) := by
  have hs := h.ci.sz
  have hw := WI_of h.ci h.li a ha.1 ha.2 hp
  exact Rel_add h hz hw (ch := 1) (x := m) (y := 0) (by omega) (CI_exN h.ci hz ha hm hw) (LI_exN h.ci h.li m hp) (up2_off _ (by omega)) (up2_off _ (by omega)) (fun i hi => by rw [up2_el _ _ _ (by omega)]; exact come_o h.ci 1 (by omega) (by omega) (by omega)) (fun i hi => by rw [up2_off _ (by omega)]; exact come_o h.ci 1 (by omega) (by omega) (by omega)) (fun i hi => by rw [up2_off _ (by omega)]; exact come_o h.ci 1 (by omega) (by omega) (by omega)) (fun p hp => up2_off _ (by omega)) ⟨by rw [up2_off _ (by omega)]; unfold comeF comeM come1; rw [up2_off _ (by omega), cpR_off _ _ _ _ (by omega), cpR_off _ _ _ _ (by omega), up2_off _ (by omega), up2_off _ (by omega)], by rw [up2_off _ (by omega)]; unfold comeF comeM come1; rw [up2_off _ (by omega), cpR_off _ _ _ _ (by omega), cpR_off _ _ _ _ (by omega), up2_off _ (by omega), up2_off _ (by omega)]⟩ rfl (fun _ => (up2_at _ _ _ _).symm) (fun hh => by omega) (fun hh => by omega) (by omega)
theorem Rel_exC {c σ : ST} (h : Rel c σ) (hz : c 2 0 < 12) {a b d : Int} (ha : 0 ≤ a ∧ a < 8) (hp : plc c (c 2 0 - 1).toNat a = -1) (hb : plc c (c 2 0 - 1).toNat b ≠ -1) (hd : d = -1 ∨ plc c (c 2 0 - 1).toNat d ≠ -1) (hd1 : -1 ≤ d ∧ d < 8) : Rel (exC c a b d) (acM σ a b d) := by
  have hs := h.ci.sz
  have hn := h.nm
  have hw := WI_of h.ci h.li a ha.1 ha.2 hp
  have pb := plc_rng h.ci (c 2 0 - 1).toNat b
  have pd := plc_rng h.ci (c 2 0 - 1).toNat d
  have e := pl_eq h (s := c 2 0 - 1) (by omega) (by omega)
  have eb := e b
  have ed := e d
  have cb : colL c (c 2 0 - 1).toNat b = c 8 (8 * (c 2 0 - 1).toNat + (plc c (c 2 0 - 1).toNat b).toNat) := by unfold colL; rw [if_neg hb]
  have em : acM σ a b d = gcM (cmM σ (if d = -1 then 2 else 3) (plc c (c 2 0 - 1).toNat b) (if d = -1 then 0 else plc c (c 2 0 - 1).toNat d)) a := by
    unfold acM
    rw [show σ 111 0 - 1 = c 2 0 - 1 by omega, eb, ed]
  have hch : 1 ≤ (if d = -1 then (2 : Int) else 3) ∧ (if d = -1 then (2 : Int) else 3) ≤ 3 := by split <;> omega
  obtain ⟨ch, hce⟩ : ∃ ch, ch = (if d = -1 then (2 : Int) else 3) := ⟨_, rfl⟩
  have h23 : (ch = 2 ∧ d = -1) ∨ (ch = 3 ∧ d ≠ -1) := by
    rw [hce]
    by_cases g : d = -1
    · rw [if_pos g]; exact Or.inl ⟨rfl, g⟩
    · rw [if_neg g]; exact Or.inr ⟨rfl, g⟩
  have key : Rel (addLF (up2 (up2 (comeF c ch) 5 (c 2 0).toNat (colL c (c 2 0 - 1).toNat b)) 6 (c 2 0).toNat (colL c (c 2 0 - 1).toNat d)) (c 2 0) a) (acM σ a b d) := by
    refine Rel_add (c1 := up2 (up2 (comeF c ch) 5 (c 2 0).toNat (colL c (c 2 0 - 1).toNat b)) 6 (c 2 0).toNat (colL c (c 2 0 - 1).toNat d)) (ch := ch) (x := plc c (c 2 0 - 1).toNat b) (y := if d = -1 then 0 else plc c (c 2 0 - 1).toNat d) h hz hw (by omega) ?_ ?_ (by rw [up2_off _ (by omega), up2_off _ (by omega)]) (by rw [up2_off _ (by omega), up2_off _ (by omega)]) (fun i hi => ?_) (fun i hi => ?_) (fun i hi => ?_) (fun p hp => by rw [up2_off _ (by omega), up2_off _ (by omega)]) ⟨?_, ?_⟩ (em.trans (by rw [← hce])) (fun hh => by omega) (fun _ => ⟨by omega, ?_⟩) (fun hh => ?_) ?_
    · rw [hce]; exact CI_exC h.ci hz ha hb hd hw
    · rw [hce]; exact LI_exC h.ci h.li b d hp
    · rw [up2_off _ (by omega), up2_off _ (by omega)]; exact come_o h.ci ch (by omega) (by omega) (by omega)
    · rw [up2_off _ (by omega), up2_el _ _ _ (by omega)]; exact come_o h.ci ch (by omega) (by omega) (by omega)
    · rw [up2_el _ _ _ (by omega), up2_off _ (by omega)]; exact come_o h.ci ch (by omega) (by omega) (by omega)
    · rw [up2_off _ (by omega), up2_off _ (by omega)]; unfold comeF comeM come1; rw [up2_off _ (by omega), cpR_off _ _ _ _ (by omega), cpR_off _ _ _ _ (by omega), up2_off _ (by omega), up2_off _ (by omega)]
    · rw [up2_off _ (by omega), up2_off _ (by omega)]; unfold comeF comeM come1; rw [up2_off _ (by omega), cpR_off _ _ _ _ (by omega), cpR_off _ _ _ _ (by omega), up2_off _ (by omega), up2_off _ (by omega)]
    · rw [up2_off _ (by omega), up2_at, cb]
    · have g : ¬ d = -1 := by omega
      rw [if_neg g, up2_at]
      refine ⟨by omega, ?_⟩
      unfold colL
      rw [if_neg (by omega)]
    · by_cases g : d = -1
      · rw [if_pos g]; omega
      · rw [if_neg g]; omega
  unfold exC
  rw [← hce]
  exact key
