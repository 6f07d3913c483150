/-! the bounds, and the letters apart, are kept by what changes -/
theorem CI.u3 {σ : ST} (h : CI σ) (k : Nat) {v : Int} (hv : 0 ≤ v ∧ v ≤ 5) (h3 : v = 3 → 0 ≤ σ 6 k) : CI (up2 σ 3 k v) := by
  unfold CI at h ⊢
  simp only [up2_off, cpR_off, ne_eq, Nat.reduceEqDiff, not_false_eq_true]
  obtain ⟨a1, a2, a3, a4, a5, a6, a7, a8, a9, a10, a11, a12, a13, a14⟩ := h
  refine ⟨a1, a2, fun j => by rw [up2_row]; by_cases e : j = k; (simp only [if_pos e]; exact hv); (simp only [if_neg e]; exact a3 j), a4, a5, fun j => ⟨(a6 j).1, (a6 j).2.1, fun q => ?_⟩, a7, a8, a9, a10, a11, a12, a13, a14⟩
  by_cases e : j = k
  · subst e; rw [up2_at] at q; exact h3 q
  · rw [up2_el _ _ _ e] at q; exact (a6 j).2.2 q
theorem CI.u6 {σ : ST} (h : CI σ) (k : Nat) {v : Int} (hv : -1 ≤ v ∧ v < 12) (h3 : σ 3 k = 3 → 0 ≤ v) : CI (up2 σ 6 k v) := by
  unfold CI at h ⊢
  simp only [up2_off, cpR_off, ne_eq, Nat.reduceEqDiff, not_false_eq_true]
  obtain ⟨a1, a2, a3, a4, a5, a6, a7, a8, a9, a10, a11, a12, a13, a14⟩ := h
  refine ⟨a1, a2, a3, a4, a5, fun j => ?_, a7, a8, a9, a10, a11, a12, a13, a14⟩
  by_cases e : j = k
  · subst e; rw [up2_at]; exact ⟨hv.1, hv.2, h3⟩
  · rw [up2_el _ _ _ e]; exact a6 j

theorem CI.come {σ : ST} (h : CI σ) (hz : σ 2 0 < 12) {ch : Int} (hc : 0 ≤ ch ∧ ch ≤ 5 ∧ ch ≠ 3) : CI (comeF σ ch) := by
  have hz1 := h.sz
  unfold comeF comeM come1
  exact ((((h.u3 _ ⟨hc.1, hc.2.1⟩ (fun q => absurd q hc.2.2)).u7 _ (h.wd _)).c8 _ _ (fun j _ => h.co _)).c9 _ _ (fun j _ => h.le _)).u20 (by omega)
theorem CI.addL {σ : ST} (h : CI σ) {s a : Int} (h0 : 0 ≤ s) (h1 : s < 12) (ha : 0 ≤ a ∧ a < 8) (hw : σ 7 s.toNat < 8) : CI (addLF σ s a) := by
  have q := h.wd s.toNat
  unfold addLF
  exact ((h.u7 _ (by omega)).u8 _ (by omega)).u9 _ ha
theorem CI.gap {σ : ST} (h : CI σ) {s : Int} (g : Int) (hw : 1 ≤ σ 7 s.toNat) : CI (gapF σ s g) := by
  have q := h.wd s.toNat
  unfold gapF gapM
  exact ((h.c8 _ _ (fun j _ => h.co _)).c9 _ _ (fun j _ => h.le _)).u7 _ (by omega)
theorem come_23 (σ : ST) : comeF σ 3 = up2 (comeF σ 2) 3 (σ 2 0).toNat 3 := by
  have e : up2 σ 3 (σ 2 0).toNat 3 = up2 (up2 σ 3 (σ 2 0).toNat 2) 3 (σ 2 0).toNat 3 := by
    funext a b
    unfold up2
    by_cases q : a = 3 ∧ b = (σ 2 0).toNat
    · rw [if_pos q, if_pos q]
    · rw [if_neg q, if_neg q, if_neg q]
  have sw : ∀ (τ : ST) (p k q j : Nat) (v w : Int), p ≠ q → up2 (up2 τ p k v) q j w = up2 (up2 τ q j w) p k v := fun τ p k q j v w h => by
    funext a b
    unfold up2
    by_cases q1 : a = q ∧ b = j
    · rw [if_pos q1, if_neg (fun z => h (z.1.symm.trans q1.1)), if_pos q1]
    · rw [if_neg q1, if_neg q1]
  unfold comeF comeM come1
  rw [e, sw _ 3 _ 7 _ _ _ (by decide), ← cpR_ne _ _ _ _ _ _ (by decide), ← cpR_ne _ _ _ _ _ _ (by decide), sw _ 3 _ 2 _ _ _ (by decide)]
theorem comeF_20 (σ : ST) (ch : Int) : comeF σ ch 2 0 = σ 2 0 + 1 := by unfold comeF; rw [up2_at]
theorem comeF_9 {σ : ST} (hI : CI σ) (ch : Int) (j : Nat) (hj : (j : Int) < σ 7 (σ 2 0 - 1).toNat) : comeF σ ch 9 (8 * (σ 2 0).toNat + j) = σ 9 (8 * (σ 2 0 - 1).toNat + j) := by
  unfold comeF comeM
  rw [up2_ne _ _ _ _ (by decide)]
  unfold cpR
  rw [if_pos ⟨rfl, by omega, by omega⟩]
  congr 1
  omega
theorem comeF_8 {σ : ST} (hI : CI σ) (ch : Int) (j : Nat) (hj : (j : Int) < σ 7 (σ 2 0 - 1).toNat) : comeF σ ch 8 (8 * (σ 2 0).toNat + j) = σ 8 (8 * (σ 2 0 - 1).toNat + j) := by
  unfold comeF comeM
  rw [up2_ne _ _ _ _ (by decide), cpR_off _ _ _ _ (by decide)]
  unfold cpR
  rw [if_pos ⟨rfl, by omega, by omega⟩]
  congr 1
  omega
theorem CI_exN {σ : ST} (h : CI σ) (hz : σ 2 0 < 12) {a m : Int} (ha : 0 ≤ a ∧ a < 8) (hm : 0 ≤ m ∧ m ≤ 99) (hw : σ 7 (σ 2 0 - 1).toNat < 8) : CI (exN σ a m) := by
  have hz1 := h.sz
  unfold exN
  exact ((h.come hz ⟨by omega, by omega, by omega⟩).u4 _ hm).addL (by omega) hz ha (by rw [up2_ne _ _ _ _ (by decide), comeF_7 h]; exact hw)
theorem CI_exC {σ : ST} (h : CI σ) (hz : σ 2 0 < 12) {a b c : Int} (ha : 0 ≤ a ∧ a < 8) (hb : plc σ (σ 2 0 - 1).toNat b ≠ -1) (hc : c = -1 ∨ plc σ (σ 2 0 - 1).toNat c ≠ -1) (hw : σ 7 (σ 2 0 - 1).toNat < 8) : CI (exC σ a b c) := by
  have hz1 := h.sz
  have cb := colL_rng h (σ 2 0 - 1).toNat b
  have cc := colL_rng h (σ 2 0 - 1).toNat c
  have cb0 : 0 ≤ colL σ (σ 2 0 - 1).toNat b := by
    unfold colL; rw [if_neg hb]; exact (h.co _).1
  have h2 := h.come hz (ch := 2) ⟨by omega, by omega, by omega⟩
  have e7 : ∀ v w : Int, up2 (up2 (comeF σ 2) 5 (σ 2 0).toNat v) 6 (σ 2 0).toNat w 7 (σ 2 0).toNat = σ 7 (σ 2 0 - 1).toNat := fun v w => by rw [up2_ne _ _ _ _ (by decide), up2_ne _ _ _ _ (by decide), comeF_7 h]
  have e3 : comeF σ 2 3 (σ 2 0).toNat = 2 := by
    unfold comeF comeM come1
    rw [up2_ne _ _ _ _ (by decide), cpR_off _ _ _ _ (by decide), cpR_off _ _ _ _ (by decide), up2_ne _ _ _ _ (by decide), up2_at]
  have h4 := (h2.u5 (σ 2 0).toNat (v := colL σ (σ 2 0 - 1).toNat b) (by omega)).u6 (σ 2 0).toNat (v := colL σ (σ 2 0 - 1).toNat c) (by omega) (fun q => by rw [up2_ne _ _ _ _ (by decide), e3] at q; omega)
  unfold exC
  by_cases q : c = -1
  · rw [if_pos q]
    exact h4.addL (by omega) hz ha (by rw [e7]; exact hw)
  · rw [if_neg q, come_23]
    have hcc : plc σ (σ 2 0 - 1).toNat c ≠ -1 := hc.resolve_left q
    have cc0 : 0 ≤ colL σ (σ 2 0 - 1).toNat c := by
      unfold colL; rw [if_neg hcc]; exact (h.co _).1
    have sw : up2 (up2 (up2 (comeF σ 2) 3 (σ 2 0).toNat 3) 5 (σ 2 0).toNat (colL σ (σ 2 0 - 1).toNat b)) 6 (σ 2 0).toNat (colL σ (σ 2 0 - 1).toNat c) = up2 (up2 (up2 (comeF σ 2) 5 (σ 2 0).toNat (colL σ (σ 2 0 - 1).toNat b)) 6 (σ 2 0).toNat (colL σ (σ 2 0 - 1).toNat c)) 3 (σ 2 0).toNat 3 := by
      funext x y
      unfold up2
      by_cases q3 : x = 3
      · subst q3; simp
      · simp only [q3, false_and, if_false]
    rw [sw]
    exact (h4.u3 _ ⟨by omega, by omega⟩ (fun _ => by rw [up2_at]; exact cc0)).addL (by omega) hz ha (by rw [up2_ne _ _ _ _ (by decide), e7]; exact hw)
theorem CI_lvO {σ : ST} (h : CI σ) (hz : σ 2 0 < 12) {a m : Int} (hm : 0 ≤ m ∧ m ≤ 99) (hp : plc σ (σ 2 0 - 1).toNat a ≠ -1) : CI (lvO σ a m) := by
  have hz1 := h.sz
  have hr := plc_rng h (σ 2 0 - 1).toNat a
  unfold lvO
  exact (((h.come hz ⟨by omega, by omega, by omega⟩).u5 _ (h.co _)).u4 _ hm).gap _ (by rw [up2_ne _ _ _ _ (by decide), up2_ne _ _ _ _ (by decide), comeF_7 h]; omega)
theorem CI_xcL {σ : ST} (h : CI σ) (hz : σ 2 0 < 12) (a : Int) {b : Int} (hb : 0 ≤ b ∧ b < 8) : CI (xcL σ a b) := by
  unfold xcL
  exact (h.come hz ⟨by omega, by omega, by omega⟩).u9 _ hb
theorem CI_adR {σ : ST} (h : CI σ) (hz : σ 10 0 < 12) {s : Int} (hs : 0 ≤ s ∧ s < 12) : CI (adR σ s) := by
  have hr := h.ro
  unfold adR adRM
  exact (((h.u11 _ hs).uo _ _ (Or.inr (Or.inl rfl))).c13 _ _ (fun j _ => by omega)).u100 (by omega)
theorem CI_wrV {σ : ST} (h : CI σ) (r s a : Int) {v : Int} (hs : 0 ≤ s ∧ s < 12) (hv : 0 ≤ v ∧ v ≤ 99999) : CI (wrV σ r s a v) := by
  unfold wrV
  split
  · exact (h.u13 _ hv).uo _ _ (Or.inr (Or.inr (Or.inr ⟨rfl, by decide⟩)))
  · exact ((CI_rwV h r s (vR_bd h _ _) hs).u13 _ hv).uo _ _ (Or.inr (Or.inr (Or.inr ⟨rfl, by decide⟩)))
/-! letters apart -/
def LI (σ : ST) : Prop := ∀ i j : Nat, i < j → (j : Int) < σ 7 (σ 2 0 - 1).toNat → σ 9 (8 * (σ 2 0 - 1).toNat + i) ≠ σ 9 (8 * (σ 2 0 - 1).toNat + j)
theorem php : ∀ (n : Nat) (f : Nat → Int), (∀ i, i ≤ n → 0 ≤ f i ∧ f i < (n : Int)) → ∃ i j, i < j ∧ j ≤ n ∧ f i = f j
  | 0, f, h => by have := h 0 (by omega); omega
  | n + 1, f, h => by
    by_cases e : ∃ i, i < n + 1 ∧ f i = f (n + 1)
    · obtain ⟨i, h1, h2⟩ := e
      exact ⟨i, n + 1, h1, Nat.le_refl _, h2⟩
    · have e2 : ∀ i, i < n + 1 → f i ≠ f (n + 1) := fun i hi q => e ⟨i, hi, q⟩
      have hv := h (n + 1) (Nat.le_refl _)
      obtain ⟨i, j, h1, h2, h3⟩ := php n (fun i => if f i < f (n + 1) then f i else f i - 1) (fun i hi => by
        have h4 := h i (by omega)
        have h5 := e2 i (by omega)
        show 0 ≤ (if f i < f (n + 1) then f i else f i - 1) ∧ (if f i < f (n + 1) then f i else f i - 1) < (n : Int)
        split <;> omega)
      refine ⟨i, j, h1, by omega, ?_⟩
      have h4 := e2 i (by omega)
      have h5 := e2 j (by omega)
      have h6 : (if f i < f (n + 1) then f i else f i - 1) = (if f j < f (n + 1) then f j else f j - 1) := h3
      split at h6 <;> split at h6 <;> omega
theorem plc_no {σ : ST} {s : Nat} {a : Int} (h : plc σ s a = -1) : ∀ j : Nat, (j : Int) < σ 7 s → σ 9 (8 * s + j) ≠ a := by
  intro j hj
  unfold plc at h
  rcases fnd_or (fun k => σ 9 (8 * s + k)) a (σ 7 s).toNat with ⟨h1, -⟩ | ⟨k, h1, -, -, h4⟩
  · exact h1 j (by omega)
  · omega
theorem WI_of {σ : ST} (h : CI σ) (hL : LI σ) : WI σ := by
  intro a a0 a1 hp
  have hw := h.wd (σ 2 0 - 1).toNat
  have hn := plc_no hp
  by_cases e : σ 7 (σ 2 0 - 1).toNat < 8
  · exact e
  · exfalso
    have e8 : σ 7 (σ 2 0 - 1).toNat = 8 := by omega
    rw [e8] at hn
    unfold LI at hL
    rw [e8] at hL
    obtain ⟨i, j, h1, h2, h3⟩ := php 8 (fun i => if i = 8 then a else σ 9 (8 * (σ 2 0 - 1).toNat + i)) (fun i hi => by
      have := h.le (8 * (σ 2 0 - 1).toNat + i)
      show 0 ≤ (if i = 8 then a else _) ∧ (if i = 8 then a else _) < ((8 : Nat) : Int)
      split <;> omega)
    have h4 : (if i = 8 then a else σ 9 (8 * (σ 2 0 - 1).toNat + i)) = (if j = 8 then a else σ 9 (8 * (σ 2 0 - 1).toNat + j)) := h3
    rw [if_neg (by omega)] at h4
    by_cases q : j = 8
    · rw [if_pos q] at h4; exact hn i (by omega) h4
    · rw [if_neg q] at h4; exact hL i j h1 (by omega) h4
theorem addLF_20 (σ : ST) (s a : Int) : addLF σ s a 2 = σ 2 := by
  unfold addLF; rw [up2_off _ (by decide), up2_off _ (by decide), up2_off _ (by decide)]
theorem LI_addL {σ : ST} {s a : Int} (hs : s = σ 2 0 - 1) (hw : 0 ≤ σ 7 s.toNat) (hl : ∀ i j : Nat, i < j → (j : Int) < σ 7 s.toNat → σ 9 (8 * s.toNat + i) ≠ σ 9 (8 * s.toNat + j)) (ha : ∀ j : Nat, (j : Int) < σ 7 s.toNat → σ 9 (8 * s.toNat + j) ≠ a) : LI (addLF σ s a) := by
  intro i j h1 h2
  rw [addLF_20, ← hs] at h2 ⊢
  have e7 : addLF σ s a 7 s.toNat = σ 7 s.toNat + 1 := by
    unfold addLF; rw [up2_ne _ _ _ _ (by decide), up2_ne _ _ _ _ (by decide), up2_at]
  have e9 : ∀ k : Nat, addLF σ s a 9 (8 * s.toNat + k) = if (k : Int) = σ 7 s.toNat then a else σ 9 (8 * s.toNat + k) := fun k => by
    unfold addLF
    by_cases q : (k : Int) = σ 7 s.toNat
    · rw [if_pos q, show k = (σ 7 s.toNat).toNat by omega, up2_at]
    · rw [if_neg q, up2_el _ _ _ (by omega), up2_ne _ _ _ _ (by decide), up2_ne _ _ _ _ (by decide)]
  rw [e7] at h2
  rw [e9, e9, if_neg (by omega)]
  by_cases q : (j : Int) = σ 7 s.toNat
  · rw [if_pos q]; exact ha i (by omega)
  · rw [if_neg q]; exact hl i j h1 (by omega)
theorem LI_exN {σ : ST} (h : CI σ) (hL : LI σ) {a : Int} (m : Int) (hp : plc σ (σ 2 0 - 1).toNat a = -1) : LI (exN σ a m) := by
  have hz := h.sz
  have hw := h.wd (σ 2 0 - 1).toNat
  have e7 : up2 (comeF σ 1) 4 (σ 2 0).toNat m 7 (σ 2 0).toNat = σ 7 (σ 2 0 - 1).toNat := by rw [up2_ne _ _ _ _ (by decide), comeF_7 h]
  have e9 : ∀ j : Nat, (j : Int) < σ 7 (σ 2 0 - 1).toNat → up2 (comeF σ 1) 4 (σ 2 0).toNat m 9 (8 * (σ 2 0).toNat + j) = σ 9 (8 * (σ 2 0 - 1).toNat + j) := fun j hj => by rw [up2_ne _ _ _ _ (by decide), comeF_9 h _ _ hj]
  unfold exN
  refine LI_addL (by rw [up2_ne _ _ _ _ (by decide), comeF_20]; omega) (by rw [e7]; omega) (fun i j h1 h2 => ?_) (fun j hj => ?_)
  · rw [e7] at h2; rw [e9 _ (by omega), e9 _ h2]; exact hL i j h1 h2
  · rw [e7] at hj; rw [e9 _ hj]; exact plc_no hp j hj
theorem LI_exC {σ : ST} (h : CI σ) (hL : LI σ) {a : Int} (b c : Int) (hp : plc σ (σ 2 0 - 1).toNat a = -1) : LI (exC σ a b c) := by
  have hz := h.sz
  have hw := h.wd (σ 2 0 - 1).toNat
  unfold exC
  obtain ⟨ch, hch⟩ : ∃ ch : Int, ch = if c = -1 then 2 else 3 := ⟨_, rfl⟩
  rw [← hch]
  generalize colL σ (σ 2 0 - 1).toNat b = x
  generalize colL σ (σ 2 0 - 1).toNat c = y
  have e7 : up2 (up2 (comeF σ ch) 5 (σ 2 0).toNat x) 6 (σ 2 0).toNat y 7 (σ 2 0).toNat = σ 7 (σ 2 0 - 1).toNat := by rw [up2_ne _ _ _ _ (by decide), up2_ne _ _ _ _ (by decide), comeF_7 h]
  have e9 : ∀ j : Nat, (j : Int) < σ 7 (σ 2 0 - 1).toNat → up2 (up2 (comeF σ ch) 5 (σ 2 0).toNat x) 6 (σ 2 0).toNat y 9 (8 * (σ 2 0).toNat + j) = σ 9 (8 * (σ 2 0 - 1).toNat + j) := fun j hj => by rw [up2_ne _ _ _ _ (by decide), up2_ne _ _ _ _ (by decide), comeF_9 h _ _ hj]
  refine LI_addL (by rw [up2_ne _ _ _ _ (by decide), up2_ne _ _ _ _ (by decide), comeF_20]; omega) (by rw [e7]; omega) (fun i j h1 h2 => ?_) (fun j hj => ?_)
  · rw [e7] at h2; rw [e9 _ (by omega), e9 _ h2]; exact hL i j h1 h2
  · rw [e7] at hj; rw [e9 _ hj]; exact plc_no hp j hj
theorem LI_gap {σ : ST} {s g : Int} (hs : s = σ 2 0 - 1) (g0 : 0 ≤ g) (g1 : g < σ 7 s.toNat) (hl : ∀ i j : Nat, i < j → (j : Int) < σ 7 s.toNat → σ 9 (8 * s.toNat + i) ≠ σ 9 (8 * s.toNat + j)) : LI (gapF σ s g) := by
  intro i j h1 h2
  have e2 : gapF σ s g 2 = σ 2 := by
    unfold gapF gapM; rw [up2_off _ (by decide), cpR_off _ _ _ _ (by decide), cpR_off _ _ _ _ (by decide)]
  rw [e2, ← hs] at h2 ⊢
  have e7 : gapF σ s g 7 s.toNat = σ 7 s.toNat - 1 := by unfold gapF; rw [up2_at]
  have e9 : ∀ k : Nat, (k : Int) < σ 7 s.toNat - 1 → gapF σ s g 9 (8 * s.toNat + k) = σ 9 (8 * s.toNat + (if (k : Int) < g then k else k + 1)) := fun k hk => by
    unfold gapF gapM
    rw [up2_ne _ _ _ _ (by decide)]
    by_cases q : (k : Int) < g
    · rw [if_pos q, cpR_out _ _ _ _ (by omega), cpR_off _ _ _ _ (by decide)]
    · rw [if_neg q]
      unfold cpR
      rw [if_pos ⟨rfl, by omega, by omega⟩]
      show σ 9 (8 * s.toNat + (g.toNat + (8 * s.toNat + k - (8 * s.toNat + g.toNat)) + 1)) = _
      rw [show g.toNat + (8 * s.toNat + k - (8 * s.toNat + g.toNat)) + 1 = k + 1 by omega]
  rw [e7] at h2
  rw [e9 _ (by omega), e9 _ h2]
  exact hl _ _ (by split <;> split <;> omega) (by split <;> omega)
theorem LI_lvO {σ : ST} (h : CI σ) (hL : LI σ) {a : Int} (m : Int) (hp : plc σ (σ 2 0 - 1).toNat a ≠ -1) : LI (lvO σ a m) := by
  have hz := h.sz
  have hr := plc_rng h (σ 2 0 - 1).toNat a
  unfold lvO
  generalize σ 8 (8 * (σ 2 0 - 1).toNat + (plc σ (σ 2 0 - 1).toNat a).toNat) = x
  have e7 : up2 (up2 (comeF σ 4) 5 (σ 2 0).toNat x) 4 (σ 2 0).toNat m 7 (σ 2 0).toNat = σ 7 (σ 2 0 - 1).toNat := by rw [up2_ne _ _ _ _ (by decide), up2_ne _ _ _ _ (by decide), comeF_7 h]
  have e9 : ∀ j : Nat, (j : Int) < σ 7 (σ 2 0 - 1).toNat → up2 (up2 (comeF σ 4) 5 (σ 2 0).toNat x) 4 (σ 2 0).toNat m 9 (8 * (σ 2 0).toNat + j) = σ 9 (8 * (σ 2 0 - 1).toNat + j) := fun j hj => by rw [up2_ne _ _ _ _ (by decide), up2_ne _ _ _ _ (by decide), comeF_9 h _ _ hj]
  exact LI_gap (by rw [up2_ne _ _ _ _ (by decide), up2_ne _ _ _ _ (by decide), comeF_20]; omega) (by omega) (by rw [e7]; omega) (fun i j h1 h2 => by
    rw [e7] at h2; rw [e9 _ (by omega), e9 _ h2]; exact hL i j h1 h2)
theorem LI_xcL {σ : ST} (h : CI σ) (hL : LI σ) {a b : Int} (hp : plc σ (σ 2 0 - 1).toNat a ≠ -1) (hb : plc σ (σ 2 0 - 1).toNat b = -1) : LI (xcL σ a b) := by
  have hz := h.sz
  have hr := plc_rng h (σ 2 0 - 1).toNat a
  have hn := plc_no hb
  intro i j h1 h2
  have e2 : xcL σ a b 2 0 = σ 2 0 + 1 := by unfold xcL; rw [up2_ne _ _ _ _ (by decide), comeF_20]
  rw [e2, show (σ 2 0 + 1 - 1).toNat = (σ 2 0).toNat by omega] at h2 ⊢
  have e7 : xcL σ a b 7 (σ 2 0).toNat = σ 7 (σ 2 0 - 1).toNat := by unfold xcL; rw [up2_ne _ _ _ _ (by decide), comeF_7 h]
  have e9 : ∀ k : Nat, (k : Int) < σ 7 (σ 2 0 - 1).toNat → xcL σ a b 9 (8 * (σ 2 0).toNat + k) = if k = (plc σ (σ 2 0 - 1).toNat a).toNat then b else σ 9 (8 * (σ 2 0 - 1).toNat + k) := fun k hk => by
    unfold xcL
    by_cases q : k = (plc σ (σ 2 0 - 1).toNat a).toNat
    · rw [if_pos q, q, up2_at]
    · rw [if_neg q, up2_el _ _ _ (by omega), comeF_9 h _ _ hk]
  rw [e7] at h2
  rw [e9 _ (by omega), e9 _ h2]
  by_cases q1 : i = (plc σ (σ 2 0 - 1).toNat a).toNat
  · rw [if_pos q1, if_neg (by omega)]; exact fun z => hn j h2 z.symm
  · rw [if_neg q1]
    by_cases q2 : j = (plc σ (σ 2 0 - 1).toNat a).toNat
    · rw [if_pos q2]; exact hn i (by omega)
    · rw [if_neg q2]; exact hL i j h1 h2
theorem LI_of {σ σ' : ST} (h : LI σ) (e2 : σ' 2 0 = σ 2 0) (e7 : σ' 7 = σ 7) (e9 : σ' 9 = σ 9) : LI σ' := by
  unfold LI at h ⊢
  rw [e2, e7, e9]
  exact h
theorem CI_tkF {σ : ST} (h : CI σ) {g : Int} (h0 : 0 ≤ g) (h1 : g < σ 10 0) : CI (tkF σ g) := by
  have hr := h.ro
  have hc := h.cu
  unfold tkF tkO
  have h2 := h.c11 g.toNat (σ 10 0 - 1 - g).toNat (g := fun j => σ 11 (g.toNat + j + 1)) (fun j _ => h.rs _)
  have h3 : CI (cpR (cpR σ 11 g.toNat (σ 10 0 - 1 - g).toNat (fun j => σ 11 (g.toNat + j + 1))) 12 g.toNat (σ 10 0 - 1 - g).toNat (fun j => σ 12 (g.toNat + j + 1))) :=
    h2.of_rows (fun p hp => cpR_off _ _ _ _ (fun z => by rw [z] at hp; exact absurd hp (by decide))) (by rw [cpR_off _ _ _ _ (by decide)]) (by rw [cpR_off _ _ _ _ (by decide)])
  have h4 := h3.c13 (12 * g.toNat) (12 * (σ 10 0 - 1 - g).toNat) (g := fun j => σ 13 (12 * g.toNat + j + 12)) (fun j _ => h.va _)
  have h5 := h4.u100 (v := σ 10 0 - 1) (by omega)
  show CI (if g < σ 10 1 then _ else _)
  by_cases q : g < σ 10 1
  · rw [if_pos q]; exact h5.u101 (by omega)
  · rw [if_neg q]; exact h5
