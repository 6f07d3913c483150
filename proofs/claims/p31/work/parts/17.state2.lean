/-! the bounds are kept -/
theorem CI.u4 {σ : ST} (h : CI σ) (k : Nat) {v : Int} (hv : 0 ≤ v ∧ v ≤ 99) : CI (up2 σ 4 k v) := by
  unfold CI at h ⊢
  simp only [up2_off, cpR_off, ne_eq, Nat.reduceEqDiff, not_false_eq_true]
  obtain ⟨a1, a2, a3, a4, a5, a6, a7, a8, a9, a10, a11, a12, a13, a14⟩ := h
  exact ⟨a1, a2, a3, fun j => by rw [up2_row]; by_cases e : j = k; (simp only [if_pos e]; exact hv); (simp only [if_neg e]; exact a4 j), a5, a6, a7, a8, a9, a10, a11, a12, a13, a14⟩

theorem CI.u5 {σ : ST} (h : CI σ) (k : Nat) {v : Int} (hv : 0 ≤ v ∧ v < 12) : CI (up2 σ 5 k v) := by
  unfold CI at h ⊢
  simp only [up2_off, cpR_off, ne_eq, Nat.reduceEqDiff, not_false_eq_true]
  obtain ⟨a1, a2, a3, a4, a5, a6, a7, a8, a9, a10, a11, a12, a13, a14⟩ := h
  exact ⟨a1, a2, a3, a4, fun j => by rw [up2_row]; by_cases e : j = k; (simp only [if_pos e]; exact hv); (simp only [if_neg e]; exact a5 j), a6, a7, a8, a9, a10, a11, a12, a13, a14⟩

theorem CI.u7 {σ : ST} (h : CI σ) (k : Nat) {v : Int} (hv : 0 ≤ v ∧ v ≤ 8) : CI (up2 σ 7 k v) := by
  unfold CI at h ⊢
  simp only [up2_off, cpR_off, ne_eq, Nat.reduceEqDiff, not_false_eq_true]
  obtain ⟨a1, a2, a3, a4, a5, a6, a7, a8, a9, a10, a11, a12, a13, a14⟩ := h
  exact ⟨a1, a2, a3, a4, a5, a6, fun j => by rw [up2_row]; by_cases e : j = k; (simp only [if_pos e]; exact hv); (simp only [if_neg e]; exact a7 j), a8, a9, a10, a11, a12, a13, a14⟩

theorem CI.u8 {σ : ST} (h : CI σ) (k : Nat) {v : Int} (hv : 0 ≤ v ∧ v < 12) : CI (up2 σ 8 k v) := by
  unfold CI at h ⊢
  simp only [up2_off, cpR_off, ne_eq, Nat.reduceEqDiff, not_false_eq_true]
  obtain ⟨a1, a2, a3, a4, a5, a6, a7, a8, a9, a10, a11, a12, a13, a14⟩ := h
  exact ⟨a1, a2, a3, a4, a5, a6, a7, fun j => by rw [up2_row]; by_cases e : j = k; (simp only [if_pos e]; exact hv); (simp only [if_neg e]; exact a8 j), a9, a10, a11, a12, a13, a14⟩

theorem CI.u9 {σ : ST} (h : CI σ) (k : Nat) {v : Int} (hv : 0 ≤ v ∧ v < 8) : CI (up2 σ 9 k v) := by
  unfold CI at h ⊢
  simp only [up2_off, cpR_off, ne_eq, Nat.reduceEqDiff, not_false_eq_true]
  obtain ⟨a1, a2, a3, a4, a5, a6, a7, a8, a9, a10, a11, a12, a13, a14⟩ := h
  exact ⟨a1, a2, a3, a4, a5, a6, a7, a8, fun j => by rw [up2_row]; by_cases e : j = k; (simp only [if_pos e]; exact hv); (simp only [if_neg e]; exact a9 j), a10, a11, a12, a13, a14⟩

theorem CI.u11 {σ : ST} (h : CI σ) (k : Nat) {v : Int} (hv : 0 ≤ v ∧ v < 12) : CI (up2 σ 11 k v) := by
  unfold CI at h ⊢
  simp only [up2_off, cpR_off, ne_eq, Nat.reduceEqDiff, not_false_eq_true]
  obtain ⟨a1, a2, a3, a4, a5, a6, a7, a8, a9, a10, a11, a12, a13, a14⟩ := h
  exact ⟨a1, a2, a3, a4, a5, a6, a7, a8, a9, a10, a11, fun j => by rw [up2_row]; by_cases e : j = k; (simp only [if_pos e]; exact hv); (simp only [if_neg e]; exact a12 j), a13, a14⟩

theorem CI.u13 {σ : ST} (h : CI σ) (k : Nat) {v : Int} (hv : 0 ≤ v ∧ v ≤ 99999) : CI (up2 σ 13 k v) := by
  unfold CI at h ⊢
  simp only [up2_off, cpR_off, ne_eq, Nat.reduceEqDiff, not_false_eq_true]
  obtain ⟨a1, a2, a3, a4, a5, a6, a7, a8, a9, a10, a11, a12, a13, a14⟩ := h
  exact ⟨a1, a2, a3, a4, a5, a6, a7, a8, a9, a10, a11, a12, fun j => by rw [up2_row]; by_cases e : j = k; (simp only [if_pos e]; exact hv); (simp only [if_neg e]; exact a13 j), a14⟩

theorem CI.u14 {σ : ST} (h : CI σ) (k : Nat) {v : Int} (hv : 0 ≤ v ∧ v < 12) : CI (up2 σ 14 k v) := by
  unfold CI at h ⊢
  simp only [up2_off, cpR_off, ne_eq, Nat.reduceEqDiff, not_false_eq_true]
  obtain ⟨a1, a2, a3, a4, a5, a6, a7, a8, a9, a10, a11, a12, a13, a14⟩ := h
  exact ⟨a1, a2, a3, a4, a5, a6, a7, a8, a9, a10, a11, a12, a13, fun j => by rw [up2_row]; by_cases e : j = k; (simp only [if_pos e]; exact hv); (simp only [if_neg e]; exact a14 j)⟩

theorem CI.c13 {σ : ST} (h : CI σ) (lo n : Nat) {g : Nat → Int} (hg : ∀ j, j < n → 0 ≤ g j ∧ g j ≤ 99999) : CI (cpR σ 13 lo n g) := by
  unfold CI at h ⊢
  simp only [up2_off, cpR_off, ne_eq, Nat.reduceEqDiff, not_false_eq_true]
  obtain ⟨a1, a2, a3, a4, a5, a6, a7, a8, a9, a10, a11, a12, a13, a14⟩ := h
  exact ⟨a1, a2, a3, a4, a5, a6, a7, a8, a9, a10, a11, a12, fun b => by unfold cpR; by_cases e : 13 = 13 ∧ lo ≤ b ∧ b < lo + n; (rw [if_pos e]; exact hg _ (by omega)); (rw [if_neg e]; exact a13 b), a14⟩

theorem CI.c8 {σ : ST} (h : CI σ) (lo n : Nat) {g : Nat → Int} (hg : ∀ j, j < n → 0 ≤ g j ∧ g j < 12) : CI (cpR σ 8 lo n g) := by
  unfold CI at h ⊢
  simp only [up2_off, cpR_off, ne_eq, Nat.reduceEqDiff, not_false_eq_true]
  obtain ⟨a1, a2, a3, a4, a5, a6, a7, a8, a9, a10, a11, a12, a13, a14⟩ := h
  exact ⟨a1, a2, a3, a4, a5, a6, a7, fun b => by unfold cpR; by_cases e : 8 = 8 ∧ lo ≤ b ∧ b < lo + n; (rw [if_pos e]; exact hg _ (by omega)); (rw [if_neg e]; exact a8 b), a9, a10, a11, a12, a13, a14⟩

theorem CI.c9 {σ : ST} (h : CI σ) (lo n : Nat) {g : Nat → Int} (hg : ∀ j, j < n → 0 ≤ g j ∧ g j < 8) : CI (cpR σ 9 lo n g) := by
  unfold CI at h ⊢
  simp only [up2_off, cpR_off, ne_eq, Nat.reduceEqDiff, not_false_eq_true]
  obtain ⟨a1, a2, a3, a4, a5, a6, a7, a8, a9, a10, a11, a12, a13, a14⟩ := h
  exact ⟨a1, a2, a3, a4, a5, a6, a7, a8, fun b => by unfold cpR; by_cases e : 9 = 9 ∧ lo ≤ b ∧ b < lo + n; (rw [if_pos e]; exact hg _ (by omega)); (rw [if_neg e]; exact a9 b), a10, a11, a12, a13, a14⟩

theorem CI.c11 {σ : ST} (h : CI σ) (lo n : Nat) {g : Nat → Int} (hg : ∀ j, j < n → 0 ≤ g j ∧ g j < 12) : CI (cpR σ 11 lo n g) := by
  unfold CI at h ⊢
  simp only [up2_off, cpR_off, ne_eq, Nat.reduceEqDiff, not_false_eq_true]
  obtain ⟨a1, a2, a3, a4, a5, a6, a7, a8, a9, a10, a11, a12, a13, a14⟩ := h
  exact ⟨a1, a2, a3, a4, a5, a6, a7, a8, a9, a10, a11, fun b => by unfold cpR; by_cases e : 11 = 11 ∧ lo ≤ b ∧ b < lo + n; (rw [if_pos e]; exact hg _ (by omega)); (rw [if_neg e]; exact a12 b), a13, a14⟩

theorem CI.of_rows {σ σ' : ST} (h : CI σ) (e : ∀ p, p ∈ [2, 3, 4, 5, 6, 7, 8, 9, 11, 13, 14] → σ' p = σ p) (e0 : σ' 10 0 = σ 10 0) (e1 : σ' 10 1 = σ 10 1) : CI σ' := by
  unfold CI at h ⊢
  rw [e 2 (by decide), e 3 (by decide), e 4 (by decide), e 5 (by decide), e 6 (by decide), e 7 (by decide), e 8 (by decide), e 9 (by decide), e 11 (by decide), e 13 (by decide), e 14 (by decide), e0, e1]
  exact h
theorem CI.uo {σ : ST} (h : CI σ) {p : Nat} (k : Nat) (v : Int) (hp : 14 < p ∨ p = 12 ∨ p < 2 ∨ p = 10 ∧ 2 ≤ k) : CI (up2 σ p k v) := by
  have e : ∀ q, q ∈ [2, 3, 4, 5, 6, 7, 8, 9, 11, 13, 14] → up2 σ p k v q = σ q := fun q hq => up2_off σ (fun z => by simp at hq; omega)
  exact h.of_rows e (by unfold up2; rw [if_neg (by omega)]) (by unfold up2; rw [if_neg (by omega)])
theorem CI.u100 {σ : ST} (h : CI σ) {v : Int} (hv : 0 ≤ v ∧ v ≤ 12) : CI (up2 σ 10 0 v) := by
  unfold CI at h ⊢
  simp only [up2_off, cpR_off, ne_eq, Nat.reduceEqDiff, not_false_eq_true]
  obtain ⟨a1, a2, a3, a4, a5, a6, a7, a8, a9, a10, a11, a12, a13, a14⟩ := h
  exact ⟨a1, a2, a3, a4, a5, a6, a7, a8, a9, by rw [up2_at]; exact hv, by rw [up2_el _ _ _ (by decide)]; exact a11, a12, a13, a14⟩
theorem CI.u101 {σ : ST} (h : CI σ) {v : Int} (hv : 0 ≤ v ∧ v ≤ 12) : CI (up2 σ 10 1 v) := by
  unfold CI at h ⊢
  simp only [up2_off, cpR_off, ne_eq, Nat.reduceEqDiff, not_false_eq_true]
  obtain ⟨a1, a2, a3, a4, a5, a6, a7, a8, a9, a10, a11, a12, a13, a14⟩ := h
  exact ⟨a1, a2, a3, a4, a5, a6, a7, a8, a9, by rw [up2_el _ _ _ (by decide)]; exact a10, by rw [up2_at]; exact hv, a12, a13, a14⟩
theorem CI.u20 {σ : ST} (h : CI σ) {v : Int} (hv : 1 ≤ v ∧ v ≤ 12) : CI (up2 σ 2 0 v) := by
  unfold CI at h ⊢
  simp only [up2_off, cpR_off, ne_eq, Nat.reduceEqDiff, not_false_eq_true]
  obtain ⟨a1, a2, a3, a4, a5, a6, a7, a8, a9, a10, a11, a12, a13, a14⟩ := h
  exact ⟨by rw [up2_at]; exact hv, by rw [up2_el _ _ _ (by decide)]; exact a2, a3, a4, a5, a6, a7, a8, a9, a10, a11, a12, a13, a14⟩
theorem CI.u21 {σ : ST} (h : CI σ) {v : Int} (hv : 0 ≤ v ∧ v < 12) : CI (up2 σ 2 1 v) := by
  unfold CI at h ⊢
  simp only [up2_off, cpR_off, ne_eq, Nat.reduceEqDiff, not_false_eq_true]
  obtain ⟨a1, a2, a3, a4, a5, a6, a7, a8, a9, a10, a11, a12, a13, a14⟩ := h
  exact ⟨by rw [up2_el _ _ _ (by decide)]; exact a1, by rw [up2_at]; exact hv, a3, a4, a5, a6, a7, a8, a9, a10, a11, a12, a13, a14⟩
theorem CI_rwV {σ : ST} (h : CI σ) (r s : Int) {v : Nat → Int} (hv : bdV v) (hs : 0 ≤ s ∧ s < 12) : CI (rwV σ r s v) :=
  (((h.c13 _ _ hv).u11 _ hs).uo _ _ (Or.inr (Or.inl rfl))).uo _ _ (Or.inr (Or.inr (Or.inr ⟨rfl, by decide⟩)))
theorem CI_st1 {σ : ST} (h : CI σ) : CI (st1 σ) := by
  have hz := h.sz
  have hr := h.ro
  have hc := h.cu
  unfold st1
  split
  · exact h
  · obtain ⟨r, hre⟩ : ∃ r : Int, r = if σ 10 1 < σ 10 0 then σ 10 1 else 0 := ⟨_, rfl⟩
    have hr0 : 0 ≤ r ∧ r < 12 := by rw [hre]; split <;> omega
    simp only [← hre]
    split
    · exact (CI_rwV h _ _ (vR_bd h _ _) (by omega)).u101 (by omega)
    · exact h.u101 (by omega)
def itS (σ : ST) : Nat → ST
  | 0 => σ
  | n + 1 => st1 (itS σ n)
theorem CI_itS {σ : ST} (h : CI σ) : ∀ n, CI (itS σ n)
  | 0 => h
  | n + 1 => CI_st1 (CI_itS h n)
theorem rwV_sr (σ : ST) (f v : Nat → Int) (r s : Int) : rwV (sr σ 15 f) r s v = sr (rwV σ r s v) 15 f := by
  unfold rwV
  rw [sr_12, sr_10, cpR_sr, up2_srn _ _ _ _ (by decide), up2_srn _ _ _ _ (by decide), up2_srn _ _ _ _ (by decide)]
theorem st1_sr (σ : ST) (f : Nat → Int) : st1 (sr σ 15 f) = sr (st1 σ) 15 f := by
  unfold st1
  simp only [sr_10, sr_11, sr_2, vR_sr, rwV_sr]
  split
  · rfl
  · split <;> split <;> rw [up2_srn _ _ _ _ (by decide)]
def sumV (σ : ST) (v : Nat → Int) (s : Nat) : Nat → Int
  | 0 => 0
  | k + 1 => sumV σ v s k + v (σ 8 (8 * s + k)).toNat
theorem sumV_sr (σ : ST) (f v : Nat → Int) (s : Nat) : ∀ n, sumV (sr σ 15 f) v s n = sumV σ v s n
  | 0 => rfl
  | n + 1 => by unfold sumV; rw [sumV_sr σ f v s n, sr_8]
theorem sumV_rng {σ : ST} (hI : CI σ) {v : Nat → Int} (hv : bdV v) (s : Nat) : ∀ n : Nat, 0 ≤ sumV σ v s n ∧ sumV σ v s n ≤ 99999 * (n : Int)
  | 0 => by unfold sumV; omega
  | n + 1 => by
    have h1 := sumV_rng hI hv s n
    have h2 := hI.co (8 * s + n)
    have h3 := hv (σ 8 (8 * s + n)).toNat (by omega)
    unfold sumV
    omega
def cntR (σ : ST) (s : Int) : Nat → Int
  | 0 => 0
  | k + 1 => cntR σ s k + (if σ 11 k = s then 1 else 0)
theorem cntR_rng (σ : ST) (s : Int) : ∀ n : Nat, 0 ≤ cntR σ s n ∧ cntR σ s n ≤ (n : Int)
  | 0 => by unfold cntR; omega
  | n + 1 => by have h1 := cntR_rng σ s n; unfold cntR; split <;> omega
def cntH (σ : ST) (s : Int) : Nat → Int
  | 0 => 0
  | k + 1 => cntH σ s k + (if σ 14 k = s then 1 else 0)
theorem cntH_rng (σ : ST) (s : Int) : ∀ n : Nat, 0 ≤ cntH σ s n ∧ cntH σ s n ≤ (n : Int)
  | 0 => by unfold cntH; omega
  | n + 1 => by have h1 := cntH_rng σ s n; unfold cntH; split <;> omega
def mnF (f : Nat → Int) (z : Int) : Nat → Int
  | 0 => z
  | k + 1 => if f k < mnF f z k then f k else mnF f z k
theorem mnF_rng {f : Nat → Int} {z : Int} (hz : 0 ≤ z ∧ z < 12) (hf : ∀ k, 0 ≤ f k ∧ f k < 12) : ∀ n : Nat, 0 ≤ mnF f z n ∧ mnF f z n < 12
  | 0 => hz
  | n + 1 => by have h1 := mnF_rng hz hf n; have h2 := hf n; unfold mnF; split <;> omega
def oldF (σ : ST) : Int := mnF (σ 14) (mnF (σ 11) (σ 2 0 - 1) (σ 10 0).toNat) 4
def nrow (σ : ST) : Int := if σ 10 1 < σ 10 0 then σ 10 1 else 0
def wrap (σ : ST) (k : Int) : Int := if nrow σ + k < σ 10 0 then nrow σ + k else nrow σ + k - σ 10 0
def slF (σ : ST) : Nat → Int
  | 0 => 0
  | k + 1 => if σ 11 (wrap σ (k : Int)).toNat < σ 2 0 - 1 then (k : Int) + 1 else slF σ k
theorem slF_rng (σ : ST) : ∀ n : Nat, 0 ≤ slF σ n ∧ slF σ n ≤ (n : Int)
  | 0 => by unfold slF; omega
  | n + 1 => by have h1 := slF_rng σ n; unfold slF; split <;> omega
def lsV (σ : ST) (r s : Nat) : Nat → Int := cb σ (cf σ (vR σ r s) s ((σ 11 r).toNat - s)) s (s - (σ 11 r).toNat)
def lsC (σ : ST) (v : Nat → Int) (r : Nat) : Nat → Int
  | 0 => 0
  | k + 1 => lsC σ v r k + (if v (σ 8 (8 * (σ 11 r).toNat + k)).toNat = σ 13 (12 * r + (σ 8 (8 * (σ 11 r).toNat + k)).toNat) then 0 else 1)
theorem lsC_rng (σ : ST) (v : Nat → Int) (r : Nat) : ∀ n : Nat, 0 ≤ lsC σ v r n ∧ lsC σ v r n ≤ (n : Int)
  | 0 => by unfold lsC; omega
  | n + 1 => by have h1 := lsC_rng σ v r n; unfold lsC; split <;> omega
def mskF (σ : ST) (s : Nat) (a x : Int) : Nat → Int
  | 0 => 0
  | k + 1 => if vRd σ k s a = x then orI (mskF σ s a x k) (shlI 1 (k : Int)) else mskF σ s a x k

set_option maxRecDepth 100000 in
set_option maxHeartbeats 4000000 in
theorem ct_X3_stepOn {l : Launch} {G : GG} {π : Nat → Option Nat} {σ τ : ST} (hI : CI σ) (n : Int) (h0 : 0 ≤ n) (h1 : n ≤ 12) : Ct l G mX3_stepOn (4, 0, 0) [.ref 1, .int (iI n)] 110 KD σ τ (RHO π) (KSP (some (.int (iI (itS σ n.toNat 10 2 - σ 10 2)))) (itS σ n.toNat) τ π (fun _ => True)) := by
  refine ct_intro (own := "ShapedRows$State") rfl (by decide +kernel) (Nat.le_of_ble_eq_true rfl) (L := _) rfl ?_
  have cut_10 : ∀ (N : Nat) (k : Int) (f : Nat → Int), (0 ≤ k) → (k ≤ n) → n - k < (N : Int) → WP l G "ShapedRows$State" mX3_stepOn (4, 0, 0) (KSP (some (.int (iI (itS σ n.toNat 10 2 - σ 10 2)))) (itS σ n.toNat) τ π (fun _ => True)) noX 110 10 [some (.ref 1), some (.int (iI n)), some (.int (iI (σ 10 2))), some (.int (iI k))] [] 110 KD (sr (itS σ k.toNat) 15 f) τ (RHO π) 0 0 := by
    intro N
    induction N with
    | zero => intro k f k0 k1 hm; exact absurd hm (by omega)
    | succ N ih =>
      intro k f k0 k1 hm
      refine r_iload_n dX3_stepOn_10 rfl (by rfl) ?_
      refine r_iload_n dX3_stepOn_11 rfl (by rfl) ?_
      refine r_icmp_ge (tgt := 25) dX3_stepOn_12 (by decide) (by unfold inR; omega) (by unfold inR; omega) (fun c_1 => ?_) (fun c_1 => ?_)
      · refine r_aload_n dX3_stepOn_25 rfl (by rfl) ?_
        refine r_get_r kX3_21 dX3_stepOn_26 KD_1 (RHO_1_1 _) ?_
        refine r_callV0 ct_X1_rewritten fX1_rewritten qX3_77 dX3_stepOn_29 KD_10 (by decide) ⟨Nat.zero_le _, Nat.zero_le _⟩ (Nat.le_of_ble_eq_true rfl) ?_
        refine r_iload_n dX3_stepOn_32 rfl (by rfl) ?_
        refine r_isub dX3_stepOn_33 ?_
        exact r_ret_is dX3_stepOn_34 rfl ⟨Nat.zero_le _, Nat.zero_le _⟩ (by rw [sr_10, show k.toNat = n.toNat by omega]) (by rw [show k.toNat = n.toNat by omega]) (by exact trivial)
      · refine r_aload_n dX3_stepOn_15 rfl (by rfl) ?_
        refine r_callY0 (ct_X3_stepOnce (CI_sr (CI_itS hI _))) fX3_stepOnce qX3_81 dX3_stepOn_16 KD_1 (by decide) ⟨Nat.zero_le _, Nat.zero_le _⟩ (Nat.le_of_ble_eq_true rfl) (fun f_NEW hf_NEW => ?_)
        refine r_iinc dX3_stepOn_19 (by rfl) (Nat.le_of_ble_eq_true rfl) (L' := [_, _, _, _]) (by rfl) ?_
        refine r_goto (tgt := 10) dX3_stepOn_22 (by decide) ?_
        refine WP.mem (σ' := sr (itS σ (k + 1).toNat) 15 f_NEW) ?_ (ih (k + 1) _ (by omega) (by omega) (by omega))
        rw [st1_sr, sr_sr, show (k + 1).toNat = k.toNat + 1 by omega]
        rfl
  refine r_aload_n dX3_stepOn_0 rfl (by rfl) ?_
  refine r_get_r kX3_21 dX3_stepOn_1 KD_1 (RHO_1_1 _) ?_
  refine r_callV0 ct_X1_rewritten fX1_rewritten qX3_77 dX3_stepOn_4 KD_10 (by decide) ⟨Nat.zero_le _, Nat.zero_le _⟩ (Nat.le_of_ble_eq_true rfl) ?_
  refine r_istore_n dX3_stepOn_7 rfl (Nat.le_of_ble_eq_true rfl) (L' := [_, _, _, _]) (by rfl) ?_
  refine r_iconst dX3_stepOn_8 ?_
  refine r_istore_n dX3_stepOn_9 rfl (Nat.le_of_ble_eq_true rfl) (L' := [_, _, _, _]) (by rfl) ?_
  refine WP.mem (σ' := sr (itS σ (0 : Int).toNat) 15 (σ 15)) ?_ (cut_10 20 0 _ (by omega) (by omega) (by omega))
  exact (sr_self σ 15).symm

set_option maxRecDepth 100000 in
set_option maxHeartbeats 4000000 in
theorem ct_X3_rowsOfShape {l : Launch} {G : GG} {π : Nat → Option Nat} {σ τ : ST} (hI : CI σ) (s : Int) (hs : inR s) : Ct l G mX3_rowsOfShape (2, 0, 0) [.ref 1, .int (iI s)] 110 KD σ τ (RHO π) (KQ (some (.int (iI (cntR σ s (σ 10 0).toNat)))) 110 KD σ τ (RHO π)) := by
  have hr := hI.ro
  unfold inR at hs
  refine ct_intro (own := "ShapedRows$State") rfl (by decide +kernel) (Nat.le_of_ble_eq_true rfl) (L := _) rfl ?_
  have cut_4 : ∀ (N : Nat) (k : Int) (m : Int), (0 ≤ k) → (k ≤ σ 10 0) → (m = cntR σ s k.toNat) → σ 10 0 - k < (N : Int) → WP l G "ShapedRows$State" mX3_rowsOfShape (2, 0, 0) (KQ (some (.int (iI (cntR σ s (σ 10 0).toNat)))) 110 KD σ τ (RHO π)) noX 110 4 [some (.ref 1), some (.int (iI s)), some (.int (iI m)), some (.int (iI k))] [] 110 KD σ τ (RHO π) 0 0 := by
    intro N
    induction N with
    | zero => intro k m k0 k1 hm0 hm; exact absurd hm (by omega)
    | succ N ih =>
      intro k m k0 k1 hm0 hm
      refine r_iload_n dX3_rowsOfShape_4 rfl (by rfl) ?_
      refine r_aload_n dX3_rowsOfShape_5 rfl (by rfl) ?_
      refine r_get_r kX3_21 dX3_rowsOfShape_6 KD_1 (RHO_1_1 _) ?_
      refine r_callV0 ct_X1_size fX1_size qX3_84 dX3_rowsOfShape_9 KD_10 (by decide) ⟨Nat.zero_le _, Nat.zero_le _⟩ (Nat.le_of_ble_eq_true rfl) ?_
      refine r_icmp_ge (tgt := 36) dX3_rowsOfShape_12 (by decide) (by unfold inR; omega) (by unfold inR; omega) (fun c_1 => ?_) (fun c_1 => ?_)
      · refine r_iload_n dX3_rowsOfShape_36 rfl (by rfl) ?_
        exact r_ret_i dX3_rowsOfShape_37 rfl ⟨Nat.zero_le _, Nat.zero_le _⟩ (by rw [hm0, show k.toNat = (σ 10 0).toNat by omega]) ⟨rfl, rfl, (by first | rfl | omega), rfl, rfl⟩
      · refine r_aload_n dX3_rowsOfShape_15 rfl (by rfl) ?_
        refine r_get_r kX3_21 dX3_rowsOfShape_16 KD_1 (RHO_1_1 _) ?_
        refine r_iload_n dX3_rowsOfShape_19 rfl (by rfl) ?_
        refine r_callV1 (ct_X1_shapeOf _ (by omega) (by omega)) fX1_shapeOf qX3_48 dX3_rowsOfShape_20 KD_10 (by decide) ⟨Nat.zero_le _, Nat.zero_le _⟩ (Nat.le_of_ble_eq_true rfl) ?_
        have hv := hI.rs k.toNat
        refine r_iload_n dX3_rowsOfShape_23 rfl (by rfl) ?_
        refine r_icmp_ne (tgt := 30) dX3_rowsOfShape_24 (by decide) (by unfold inR; omega) (by unfold inR; omega) (fun hc => ?_) (fun hc => ?_)
        · refine r_iinc dX3_rowsOfShape_30 (by rfl) (Nat.le_of_ble_eq_true rfl) (L' := [_, _, _, _]) (by rfl) ?_
          refine r_goto (tgt := 4) dX3_rowsOfShape_33 (by decide) ?_
          exact ih (k + 1) _ (by omega) (by omega) (by
            rw [show (k + 1).toNat = k.toNat + 1 by omega]
            unfold cntR
            rw [← hm0]
            first | (rw [if_pos hc]; done) | (rw [if_neg hc]; omega)) (by omega)
        · refine r_iinc dX3_rowsOfShape_27 (by rfl) (Nat.le_of_ble_eq_true rfl) (L' := [_, _, _, _]) (by rfl) ?_
          refine r_iinc dX3_rowsOfShape_30 (by rfl) (Nat.le_of_ble_eq_true rfl) (L' := [_, _, _, _]) (by rfl) ?_
          refine r_goto (tgt := 4) dX3_rowsOfShape_33 (by decide) ?_
          exact ih (k + 1) _ (by omega) (by omega) (by
            rw [show (k + 1).toNat = k.toNat + 1 by omega]
            unfold cntR
            rw [← hm0]
            first | (rw [if_pos hc]; done) | (rw [if_neg hc]; omega)) (by omega)
  refine r_iconst dX3_rowsOfShape_0 ?_
  refine r_istore_n dX3_rowsOfShape_1 rfl (Nat.le_of_ble_eq_true rfl) (L' := [_, _, _, _]) (by rfl) ?_
  refine r_iconst dX3_rowsOfShape_2 ?_
  refine r_istore_n dX3_rowsOfShape_3 rfl (Nat.le_of_ble_eq_true rfl) (L' := [_, _, _, _]) (by rfl) ?_
  exact cut_4 20 0 0 (by omega) (by omega) rfl (by omega)

set_option maxRecDepth 100000 in
set_option maxHeartbeats 4000000 in
theorem ct_X3_readersOfShape {l : Launch} {G : GG} {π : Nat → Option Nat} {σ τ : ST} (hI : CI σ) (s : Int) (hs : inR s) : Ct l G mX3_readersOfShape (2, 0, 0) [.ref 1, .int (iI s)] 110 KD σ τ (RHO π) (KQ (some (.int (iI (cntH σ s 4)))) 110 KD σ τ (RHO π)) := by
  unfold inR at hs
  refine ct_intro (own := "ShapedRows$State") rfl (by decide +kernel) (Nat.le_of_ble_eq_true rfl) (L := _) rfl ?_
  have cut_4 : ∀ (N : Nat) (k : Int) (m : Int), (0 ≤ k) → (k ≤ 4) → (m = cntH σ s k.toNat) → 4 - k < (N : Int) → WP l G "ShapedRows$State" mX3_readersOfShape (2, 0, 0) (KQ (some (.int (iI (cntH σ s 4)))) 110 KD σ τ (RHO π)) noX 110 4 [some (.ref 1), some (.int (iI s)), some (.int (iI m)), some (.int (iI k))] [] 110 KD σ τ (RHO π) 0 0 := by
    intro N
    induction N with
    | zero => intro k m k0 k1 hm0 hm; exact absurd hm (by omega)
    | succ N ih =>
      intro k m k0 k1 hm0 hm
      refine r_iload_n dX3_readersOfShape_4 rfl (by rfl) ?_
      refine r_iconst dX3_readersOfShape_5 ?_
      refine r_icmp_ge (tgt := 27) dX3_readersOfShape_6 (by decide) (by unfold inR; omega) (by unfold inR; omega) (fun c_1 => ?_) (fun c_1 => ?_)
      · refine r_iload_n dX3_readersOfShape_27 rfl (by rfl) ?_
        exact r_ret_i dX3_readersOfShape_28 rfl ⟨Nat.zero_le _, Nat.zero_le _⟩ (by rw [hm0, show k.toNat = 4 by omega]) ⟨rfl, rfl, (by first | rfl | omega), rfl, rfl⟩
      · refine r_aload_n dX3_readersOfShape_9 rfl (by rfl) ?_
        refine r_iload_n dX3_readersOfShape_10 rfl (by rfl) ?_
        refine r_callV1 (ct_X3_heldBy _ (by omega) (by omega)) fX3_heldBy qX3_36 dX3_readersOfShape_11 KD_1 (by decide) ⟨Nat.zero_le _, Nat.zero_le _⟩ (Nat.le_of_ble_eq_true rfl) ?_
        have hv := hI.he k.toNat
        refine r_iload_n dX3_readersOfShape_14 rfl (by rfl) ?_
        refine r_icmp_ne (tgt := 21) dX3_readersOfShape_15 (by decide) (by unfold inR; omega) (by unfold inR; omega) (fun hc => ?_) (fun hc => ?_)
        · refine r_iinc dX3_readersOfShape_21 (by rfl) (Nat.le_of_ble_eq_true rfl) (L' := [_, _, _, _]) (by rfl) ?_
          refine r_goto (tgt := 4) dX3_readersOfShape_24 (by decide) ?_
          exact ih (k + 1) _ (by omega) (by omega) (by
            rw [show (k + 1).toNat = k.toNat + 1 by omega]
            unfold cntH
            rw [← hm0]
            first | (rw [if_pos hc]; done) | (rw [if_neg hc]; omega)) (by omega)
        · refine r_iinc dX3_readersOfShape_18 (by rfl) (Nat.le_of_ble_eq_true rfl) (L' := [_, _, _, _]) (by rfl) ?_
          refine r_iinc dX3_readersOfShape_21 (by rfl) (Nat.le_of_ble_eq_true rfl) (L' := [_, _, _, _]) (by rfl) ?_
          refine r_goto (tgt := 4) dX3_readersOfShape_24 (by decide) ?_
          exact ih (k + 1) _ (by omega) (by omega) (by
            rw [show (k + 1).toNat = k.toNat + 1 by omega]
            unfold cntH
            rw [← hm0]
            first | (rw [if_pos hc]; done) | (rw [if_neg hc]; omega)) (by omega)
  refine r_iconst dX3_readersOfShape_0 ?_
  refine r_istore_n dX3_readersOfShape_1 rfl (Nat.le_of_ble_eq_true rfl) (L' := [_, _, _, _]) (by rfl) ?_
  refine r_iconst dX3_readersOfShape_2 ?_
  refine r_istore_n dX3_readersOfShape_3 rfl (Nat.le_of_ble_eq_true rfl) (L' := [_, _, _, _]) (by rfl) ?_
  exact cut_4 20 0 0 (by omega) (by omega) rfl (by omega)

set_option maxRecDepth 100000 in
set_option maxHeartbeats 4000000 in
theorem ct_X3_rowsBehind {l : Launch} {G : GG} {π : Nat → Option Nat} {σ τ : ST} (hI : CI σ)  : Ct l G mX3_rowsBehind (3, 0, 0) [.ref 1] 110 KD σ τ (RHO π) (KQ (some (.int (iI (σ 10 0 - cntR σ (σ 2 0 - 1) (σ 10 0).toNat)))) 110 KD σ τ (RHO π)) := by
  have hz := hI.sz
  refine ct_intro (own := "ShapedRows$State") rfl (by decide +kernel) (Nat.le_of_ble_eq_true rfl) (L := _) rfl ?_
  refine r_aload_n dX3_rowsBehind_0 rfl (by rfl) ?_
  refine r_get_r kX3_21 dX3_rowsBehind_1 KD_1 (RHO_1_1 _) ?_
  refine r_callV0 ct_X1_size fX1_size qX3_84 dX3_rowsBehind_4 KD_10 (by decide) ⟨Nat.zero_le _, Nat.zero_le _⟩ (Nat.le_of_ble_eq_true rfl) ?_
  refine r_aload_n dX3_rowsBehind_7 rfl (by rfl) ?_
  refine r_aload_n dX3_rowsBehind_8 rfl (by rfl) ?_
  refine r_get_r kX3_12 dX3_rowsBehind_9 KD_1 (RHO_1_0 _) ?_
  refine r_callV0 ct_X2_newest fX2_newest qX3_94 dX3_rowsBehind_12 KD_2 (by decide) ⟨Nat.zero_le _, Nat.zero_le _⟩ (Nat.le_of_ble_eq_true rfl) ?_
  refine r_callV1 (ct_X3_rowsOfShape hI _ (by unfold inR; omega)) fX3_rowsOfShape qX3_97 dX3_rowsBehind_15 KD_1 (by decide) ⟨Nat.zero_le _, Nat.zero_le _⟩ (Nat.le_of_ble_eq_true rfl) ?_
  refine r_isub dX3_rowsBehind_18 ?_
  exact r_ret_i dX3_rowsBehind_19 rfl ⟨Nat.zero_le _, Nat.zero_le _⟩ (by first | rfl | omega | (split <;> omega)) ⟨rfl, rfl, (by first | rfl | omega), rfl, rfl⟩

set_option maxRecDepth 100000 in
set_option maxHeartbeats 4000000 in
theorem ct_X3_oldestNeeded {l : Launch} {G : GG} {π : Nat → Option Nat} {σ τ : ST} (hI : CI σ)  : Ct l G mX3_oldestNeeded (2, 0, 0) [.ref 1] 110 KD σ τ (RHO π) (KQ (some (.int (iI (oldF σ)))) 110 KD σ τ (RHO π)) := by
  have hz := hI.sz
  have hr := hI.ro
  refine ct_intro (own := "ShapedRows$State") rfl (by decide +kernel) (Nat.le_of_ble_eq_true rfl) (L := _) rfl ?_
  have cut_42 : ∀ (N : Nat) (k : Int) (m : Int), (0 ≤ k) → (k ≤ 4) → (m = mnF (σ 14) (mnF (σ 11) (σ 2 0 - 1) (σ 10 0).toNat) k.toNat) → 4 - k < (N : Int) → WP l G "ShapedRows$State" mX3_oldestNeeded (2, 0, 0) (KQ (some (.int (iI (oldF σ)))) 110 KD σ τ (RHO π)) noX 110 42 [some (.ref 1), some (.int (iI m)), some (.int (iI k))] [] 110 KD σ τ (RHO π) 0 0 := by
    intro N
    induction N with
    | zero => intro k m k0 k1 hm0 hm; exact absurd hm (by omega)
    | succ N ih =>
      intro k m k0 k1 hm0 hm
      have hmr : 0 ≤ m ∧ m < 12 := by rw [hm0]; exact mnF_rng (mnF_rng (by omega) hI.rs _) hI.he _
      have hv := hI.he k.toNat
      refine r_iload_n dX3_oldestNeeded_42 rfl (by rfl) ?_
      refine r_iconst dX3_oldestNeeded_43 ?_
      refine r_icmp_ge (tgt := 63) dX3_oldestNeeded_44 (by decide) (by unfold inR; omega) (by unfold inR; omega) (fun c_1 => ?_) (fun c_1 => ?_)
      · refine r_iload_n dX3_oldestNeeded_63 rfl (by rfl) ?_
        exact r_ret_i dX3_oldestNeeded_64 rfl ⟨Nat.zero_le _, Nat.zero_le _⟩ (by rw [hm0, show k.toNat = 4 by omega]; rfl) ⟨rfl, rfl, (by first | rfl | omega), rfl, rfl⟩
      · refine r_iload_n dX3_oldestNeeded_47 rfl (by rfl) ?_
        refine r_aload_n dX3_oldestNeeded_48 rfl (by rfl) ?_
        refine r_iload_n dX3_oldestNeeded_49 rfl (by rfl) ?_
        refine r_callV1 (ct_X3_heldBy _ (by omega) (by omega)) fX3_heldBy qX3_36 dX3_oldestNeeded_50 KD_1 (by decide) ⟨Nat.zero_le _, Nat.zero_le _⟩ (Nat.le_of_ble_eq_true rfl) ?_
        refine r_min qmin_X3_100 dX3_oldestNeeded_53 (by unfold inR; omega) (by unfold inR; omega) (by decide) (Nat.le_of_ble_eq_true rfl) ⟨Nat.zero_le _, Nat.zero_le _⟩ ?_
        refine r_istore_n dX3_oldestNeeded_56 rfl (Nat.le_of_ble_eq_true rfl) (L' := [_, _, _]) (by rfl) ?_
        refine r_iinc dX3_oldestNeeded_57 (by rfl) (Nat.le_of_ble_eq_true rfl) (L' := [_, _, _]) (by rfl) ?_
        refine r_goto (tgt := 42) dX3_oldestNeeded_60 (by decide) ?_
        exact ih (k + 1) _ (by omega) (by omega) (by
          rw [show (k + 1).toNat = k.toNat + 1 by omega]
          show _ = (if σ 14 k.toNat < mnF (σ 14) (mnF (σ 11) (σ 2 0 - 1) (σ 10 0).toNat) k.toNat then σ 14 k.toNat else mnF (σ 14) (mnF (σ 11) (σ 2 0 - 1) (σ 10 0).toNat) k.toNat)
          rw [← hm0]) (by omega)
  have cut_10 : ∀ (N : Nat) (k : Int) (m : Int), (0 ≤ k) → (k ≤ σ 10 0) → (m = mnF (σ 11) (σ 2 0 - 1) k.toNat) → σ 10 0 - k < (N : Int) → WP l G "ShapedRows$State" mX3_oldestNeeded (2, 0, 0) (KQ (some (.int (iI (oldF σ)))) 110 KD σ τ (RHO π)) noX 110 10 [some (.ref 1), some (.int (iI m)), some (.int (iI k))] [] 110 KD σ τ (RHO π) 0 0 := by
    intro N
    induction N with
    | zero => intro k m k0 k1 hm0 hm; exact absurd hm (by omega)
    | succ N ih =>
      intro k m k0 k1 hm0 hm
      have hmr : 0 ≤ m ∧ m < 12 := by rw [hm0]; exact mnF_rng (by omega) hI.rs _
      have hv := hI.rs k.toNat
      refine r_iload_n dX3_oldestNeeded_10 rfl (by rfl) ?_
      refine r_aload_n dX3_oldestNeeded_11 rfl (by rfl) ?_
      refine r_get_r kX3_21 dX3_oldestNeeded_12 KD_1 (RHO_1_1 _) ?_
      refine r_callV0 ct_X1_size fX1_size qX3_84 dX3_oldestNeeded_15 KD_10 (by decide) ⟨Nat.zero_le _, Nat.zero_le _⟩ (Nat.le_of_ble_eq_true rfl) ?_
      refine r_icmp_ge (tgt := 40) dX3_oldestNeeded_18 (by decide) (by unfold inR; omega) (by unfold inR; omega) (fun c_2 => ?_) (fun c_2 => ?_)
      · refine r_iconst dX3_oldestNeeded_40 ?_
        refine r_istore_n dX3_oldestNeeded_41 rfl (Nat.le_of_ble_eq_true rfl) (L' := [_, _, _]) (by rfl) ?_
        exact cut_42 20 0 m (by omega) (by omega) (by rw [hm0, show k.toNat = (σ 10 0).toNat by omega]; rfl) (by omega)
      · refine r_iload_n dX3_oldestNeeded_21 rfl (by rfl) ?_
        refine r_aload_n dX3_oldestNeeded_22 rfl (by rfl) ?_
        refine r_get_r kX3_21 dX3_oldestNeeded_23 KD_1 (RHO_1_1 _) ?_
        refine r_iload_n dX3_oldestNeeded_26 rfl (by rfl) ?_
        refine r_callV1 (ct_X1_shapeOf _ (by omega) (by omega)) fX1_shapeOf qX3_48 dX3_oldestNeeded_27 KD_10 (by decide) ⟨Nat.zero_le _, Nat.zero_le _⟩ (Nat.le_of_ble_eq_true rfl) ?_
        refine r_min qmin_X3_100 dX3_oldestNeeded_30 (by unfold inR; omega) (by unfold inR; omega) (by decide) (Nat.le_of_ble_eq_true rfl) ⟨Nat.zero_le _, Nat.zero_le _⟩ ?_
        refine r_istore_n dX3_oldestNeeded_33 rfl (Nat.le_of_ble_eq_true rfl) (L' := [_, _, _]) (by rfl) ?_
        refine r_iinc dX3_oldestNeeded_34 (by rfl) (Nat.le_of_ble_eq_true rfl) (L' := [_, _, _]) (by rfl) ?_
        refine r_goto (tgt := 10) dX3_oldestNeeded_37 (by decide) ?_
        exact ih (k + 1) _ (by omega) (by omega) (by
          rw [show (k + 1).toNat = k.toNat + 1 by omega]
          show _ = (if σ 11 k.toNat < mnF (σ 11) (σ 2 0 - 1) k.toNat then σ 11 k.toNat else mnF (σ 11) (σ 2 0 - 1) k.toNat)
          rw [← hm0]) (by omega)
  refine r_aload_n dX3_oldestNeeded_0 rfl (by rfl) ?_
  refine r_get_r kX3_12 dX3_oldestNeeded_1 KD_1 (RHO_1_0 _) ?_
  refine r_callV0 ct_X2_newest fX2_newest qX3_94 dX3_oldestNeeded_4 KD_2 (by decide) ⟨Nat.zero_le _, Nat.zero_le _⟩ (Nat.le_of_ble_eq_true rfl) ?_
  refine r_istore_n dX3_oldestNeeded_7 rfl (Nat.le_of_ble_eq_true rfl) (L' := [_, _, _]) (by rfl) ?_
  refine r_iconst dX3_oldestNeeded_8 ?_
  refine r_istore_n dX3_oldestNeeded_9 rfl (Nat.le_of_ble_eq_true rfl) (L' := [_, _, _]) (by rfl) ?_
  exact cut_10 20 0 _ (by omega) (by omega) rfl (by omega)

set_option maxRecDepth 100000 in
set_option maxHeartbeats 4000000 in
theorem ct_X3_stepsLeft {l : Launch} {G : GG} {π : Nat → Option Nat} {σ τ : ST} (hI : CI σ)  : Ct l G mX3_stepsLeft (3, 0, 0) [.ref 1] 110 KD σ τ (RHO π) (KQ (some (.int (iI (slF σ (σ 10 0).toNat)))) 110 KD σ τ (RHO π)) := by
  have hz := hI.sz
  have hr := hI.ro
  have hc := hI.cu
  have hn : 0 ≤ nrow σ ∧ nrow σ ≤ 12 ∧ (0 < σ 10 0 → nrow σ < σ 10 0) := by unfold nrow; split <;> omega
  refine ct_intro (own := "ShapedRows$State") rfl (by decide +kernel) (Nat.le_of_ble_eq_true rfl) (L := _) rfl ?_
  have cut_4 : ∀ (N : Nat) (k : Int) (m : Int), (0 ≤ k) → (k ≤ σ 10 0) → (m = slF σ k.toNat) → σ 10 0 - k < (N : Int) → WP l G "ShapedRows$State" mX3_stepsLeft (3, 0, 0) (KQ (some (.int (iI (slF σ (σ 10 0).toNat)))) 110 KD σ τ (RHO π)) noX 110 4 [some (.ref 1), some (.int (iI m)), some (.int (iI k)), none] [] 110 KD σ τ (RHO π) 0 0 := by
    intro N
    induction N with
    | zero => intro k m k0 k1 hm0 hm; exact absurd hm (by omega)
    | succ N ih =>
      intro k m k0 k1 hm0 hm
      refine r_iload_n dX3_stepsLeft_4 rfl (by rfl) ?_
      refine r_aload_n dX3_stepsLeft_5 rfl (by rfl) ?_
      refine r_get_r kX3_21 dX3_stepsLeft_6 KD_1 (RHO_1_1 _) ?_
      refine r_callV0 ct_X1_size fX1_size qX3_84 dX3_stepsLeft_9 KD_10 (by decide) ⟨Nat.zero_le _, Nat.zero_le _⟩ (Nat.le_of_ble_eq_true rfl) ?_
      refine r_icmp_ge (tgt := 66) dX3_stepsLeft_12 (by decide) (by unfold inR; omega) (by unfold inR; omega) (fun c_1 => ?_) (fun c_1 => ?_)
      · refine r_iload_n dX3_stepsLeft_66 rfl (by rfl) ?_
        exact r_ret_i dX3_stepsLeft_67 rfl ⟨Nat.zero_le _, Nat.zero_le _⟩ (by rw [hm0, show k.toNat = (σ 10 0).toNat by omega]) ⟨rfl, rfl, (by first | rfl | omega), rfl, rfl⟩
      · refine r_aload_n dX3_stepsLeft_15 rfl (by rfl) ?_
        refine r_get_r kX3_21 dX3_stepsLeft_16 KD_1 (RHO_1_1 _) ?_
        refine r_callV0 (ct_X1_nextRow hI) fX1_nextRow qX3_87 dX3_stepsLeft_19 KD_10 (by decide) ⟨Nat.zero_le _, Nat.zero_le _⟩ (Nat.le_of_ble_eq_true rfl) ?_
        rw [show (if σ 10 1 < σ 10 0 then σ 10 1 else 0) = nrow σ from rfl]
        refine r_iload_n dX3_stepsLeft_22 rfl (by rfl) ?_
        refine r_iadd dX3_stepsLeft_23 ?_
        refine r_istore_n dX3_stepsLeft_24 rfl (Nat.le_of_ble_eq_true rfl) (L' := [_, _, _, _]) (by rfl) ?_
        refine r_aload_n dX3_stepsLeft_25 rfl (by rfl) ?_
        refine r_iload_n dX3_stepsLeft_26 rfl (by rfl) ?_
        refine r_aload_n dX3_stepsLeft_27 rfl (by rfl) ?_
        refine r_get_r kX3_21 dX3_stepsLeft_28 KD_1 (RHO_1_1 _) ?_
        refine r_callV0 ct_X1_size fX1_size qX3_84 dX3_stepsLeft_31 KD_10 (by decide) ⟨Nat.zero_le _, Nat.zero_le _⟩ (Nat.le_of_ble_eq_true rfl) ?_
        refine r_icmp_ge (tgt := 41) dX3_stepsLeft_34 (by decide) (by unfold inR; omega) (by unfold inR; omega) (fun hw0 => ?_) (fun hw0 => ?_)
        · have hw : ¬ nrow σ + k < σ 10 0 := by omega
          refine r_iload_n dX3_stepsLeft_41 rfl (by rfl) ?_
          refine r_aload_n dX3_stepsLeft_42 rfl (by rfl) ?_
          refine r_get_r kX3_21 dX3_stepsLeft_43 KD_1 (RHO_1_1 _) ?_
          refine r_callV0 ct_X1_size fX1_size qX3_84 dX3_stepsLeft_46 KD_10 (by decide) ⟨Nat.zero_le _, Nat.zero_le _⟩ (Nat.le_of_ble_eq_true rfl) ?_
          refine r_isub dX3_stepsLeft_49 ?_
          refine r_callV1 (ct_X3_isBehind hI _ (by omega) (by omega)) fX3_isBehind qX3_90 dX3_stepsLeft_50 KD_1 (by decide) ⟨Nat.zero_le _, Nat.zero_le _⟩ (Nat.le_of_ble_eq_true rfl) ?_
          refine r_ifeq_b (tgt := 60) dX3_stepsLeft_53 (by decide) (fun hb => ?_) (fun hb => ?_)
          · refine r_iinc dX3_stepsLeft_60 (by rfl) (Nat.le_of_ble_eq_true rfl) (L' := [_, _, _, _]) (by rfl) ?_
            refine r_goto (tgt := 4) dX3_stepsLeft_63 (by decide) ?_
            refine WP.wk (L' := [_, _, _, none]) (leL_s (leL_s (leL_s (leL_n leL_0)))) ?_
            exact ih (k + 1) _ (by omega) (by omega) (by
              rw [show (k + 1).toNat = k.toNat + 1 by omega]
              have ek : ((k.toNat : Nat) : Int) = k := by omega
              unfold slF
              rw [ek, ← hm0]
              unfold wrap
              first | rw [if_pos hw] | rw [if_neg hw]
              first | (rw [if_pos hb]; done) | (rw [if_neg hb]; done)) (by omega)
          · refine r_iload_n dX3_stepsLeft_56 rfl (by rfl) ?_
            refine r_iconst dX3_stepsLeft_57 ?_
            refine r_iadd dX3_stepsLeft_58 ?_
            refine r_istore_n dX3_stepsLeft_59 rfl (Nat.le_of_ble_eq_true rfl) (L' := [_, _, _, _]) (by rfl) ?_
            refine r_iinc dX3_stepsLeft_60 (by rfl) (Nat.le_of_ble_eq_true rfl) (L' := [_, _, _, _]) (by rfl) ?_
            refine r_goto (tgt := 4) dX3_stepsLeft_63 (by decide) ?_
            refine WP.wk (L' := [_, _, _, none]) (leL_s (leL_s (leL_s (leL_n leL_0)))) ?_
            exact ih (k + 1) _ (by omega) (by omega) (by
              rw [show (k + 1).toNat = k.toNat + 1 by omega]
              have ek : ((k.toNat : Nat) : Int) = k := by omega
              unfold slF
              rw [ek, ← hm0]
              unfold wrap
              first | rw [if_pos hw] | rw [if_neg hw]
              first | (rw [if_pos hb]; done) | (rw [if_neg hb]; done)) (by omega)
        · have hw : nrow σ + k < σ 10 0 := hw0
          refine r_iload_n dX3_stepsLeft_37 rfl (by rfl) ?_
          refine r_goto (tgt := 50) dX3_stepsLeft_38 (by decide) ?_
          refine r_callV1 (ct_X3_isBehind hI _ (by omega) (by omega)) fX3_isBehind qX3_90 dX3_stepsLeft_50 KD_1 (by decide) ⟨Nat.zero_le _, Nat.zero_le _⟩ (Nat.le_of_ble_eq_true rfl) ?_
          refine r_ifeq_b (tgt := 60) dX3_stepsLeft_53 (by decide) (fun hb => ?_) (fun hb => ?_)
          · refine r_iinc dX3_stepsLeft_60 (by rfl) (Nat.le_of_ble_eq_true rfl) (L' := [_, _, _, _]) (by rfl) ?_
            refine r_goto (tgt := 4) dX3_stepsLeft_63 (by decide) ?_
            refine WP.wk (L' := [_, _, _, none]) (leL_s (leL_s (leL_s (leL_n leL_0)))) ?_
            exact ih (k + 1) _ (by omega) (by omega) (by
              rw [show (k + 1).toNat = k.toNat + 1 by omega]
              have ek : ((k.toNat : Nat) : Int) = k := by omega
              unfold slF
              rw [ek, ← hm0]
              unfold wrap
              first | rw [if_pos hw] | rw [if_neg hw]
              first | (rw [if_pos hb]; done) | (rw [if_neg hb]; done)) (by omega)
          · refine r_iload_n dX3_stepsLeft_56 rfl (by rfl) ?_
            refine r_iconst dX3_stepsLeft_57 ?_
            refine r_iadd dX3_stepsLeft_58 ?_
            refine r_istore_n dX3_stepsLeft_59 rfl (Nat.le_of_ble_eq_true rfl) (L' := [_, _, _, _]) (by rfl) ?_
            refine r_iinc dX3_stepsLeft_60 (by rfl) (Nat.le_of_ble_eq_true rfl) (L' := [_, _, _, _]) (by rfl) ?_
            refine r_goto (tgt := 4) dX3_stepsLeft_63 (by decide) ?_
            refine WP.wk (L' := [_, _, _, none]) (leL_s (leL_s (leL_s (leL_n leL_0)))) ?_
            exact ih (k + 1) _ (by omega) (by omega) (by
              rw [show (k + 1).toNat = k.toNat + 1 by omega]
              have ek : ((k.toNat : Nat) : Int) = k := by omega
              unfold slF
              rw [ek, ← hm0]
              unfold wrap
              first | rw [if_pos hw] | rw [if_neg hw]
              first | (rw [if_pos hb]; done) | (rw [if_neg hb]; done)) (by omega)
  refine r_iconst dX3_stepsLeft_0 ?_
  refine r_istore_n dX3_stepsLeft_1 rfl (Nat.le_of_ble_eq_true rfl) (L' := [_, _, _, _]) (by rfl) ?_
  refine r_iconst dX3_stepsLeft_2 ?_
  refine r_istore_n dX3_stepsLeft_3 rfl (Nat.le_of_ble_eq_true rfl) (L' := [_, _, _, _]) (by rfl) ?_
  exact cut_4 20 0 0 (by omega) (by omega) rfl (by omega)

set_option maxRecDepth 100000 in
set_option maxHeartbeats 4000000 in
theorem ct_X3_sumRead {l : Launch} {G : GG} {π : Nat → Option Nat} {σ τ : ST} (hI : CI σ) (r : Int) (h0 : 0 ≤ r) (h1 : r < 12) (s : Int) (h2 : 0 ≤ s) (h3 : s < 12) : Ct l G mX3_sumRead (3, 0, 0) [.ref 1, .int (iI r), .int (iI s)] 110 KD σ τ (RHO π) (KSP (some (.int (iI (sumV σ (vR σ r.toNat s.toNat) s.toNat (σ 7 s.toNat).toNat)))) σ τ π (fun _ => True)) := by
  have hw := hI.wd s.toNat
  refine ct_intro (own := "ShapedRows$State") rfl (by decide +kernel) (Nat.le_of_ble_eq_true rfl) (L := _) rfl ?_
  have cut_13 : ∀ (N : Nat) (k : Int) (m : Int) (f : Nat → Int), (∀ j, j < 12 → f j = vR σ r.toNat s.toNat j) → (0 ≤ k) → (k ≤ σ 7 s.toNat) → (m = sumV σ (vR σ r.toNat s.toNat) s.toNat k.toNat) → σ 7 s.toNat - k < (N : Int) → WP l G "ShapedRows$State" mX3_sumRead (3, 0, 0) (KSP (some (.int (iI (sumV σ (vR σ r.toNat s.toNat) s.toNat (σ 7 s.toNat).toNat)))) σ τ π (fun _ => True)) noX 110 13 [some (.ref 1), some (.int (iI r)), some (.int (iI s)), some (.ref 15), some (.int (iI m)), some (.int (iI k))] [] 110 KD (sr σ 15 f) τ (RHO π) 0 0 := by
    intro N
    induction N with
    | zero => intro k m f hf k0 k1 hm0 hm; exact absurd hm (by omega)
    | succ N ih =>
      intro k m f hf k0 k1 hm0 hm
      refine r_iload dX3_sumRead_13 (by rfl) ?_
      refine r_aload_n dX3_sumRead_15 rfl (by rfl) ?_
      refine r_get_r kX3_12 dX3_sumRead_16 KD_1 (RHO_1_0 _) ?_
      refine r_iload_n dX3_sumRead_19 rfl (by rfl) ?_
      refine r_callV1 (ct_X2_width _ (by omega) (by omega)) fX2_width qX3_105 dX3_sumRead_20 KD_2 (by decide) ⟨Nat.zero_le _, Nat.zero_le _⟩ (Nat.le_of_ble_eq_true rfl) ?_
      try simp only [sr_2, sr_3, sr_4, sr_5, sr_6, sr_7, sr_8, sr_9, sr_10, sr_11, sr_12, sr_13, sr_14, sr_16, sr_109, sr_110, sr_111, sr_sr, sr_row, plc_sr, pcl_sr, colL_sr, lmask_sr, cf_sr, cb_sr, vR_sr, vRd_sr, sumV_sr]
      refine r_icmp_ge (tgt := 51) dX3_sumRead_23 (by decide) (by unfold inR; omega) (by unfold inR; omega) (fun c_1 => ?_) (fun c_1 => ?_)
      · refine r_iload dX3_sumRead_51 (by rfl) ?_
        exact r_ret_is dX3_sumRead_53 rfl ⟨Nat.zero_le _, Nat.zero_le _⟩ (by rw [hm0, show k.toNat = (σ 7 s.toNat).toNat by omega]) (by first | rfl | exact (sr_self _ _).symm) (by exact trivial)
      · refine r_iload dX3_sumRead_26 (by rfl) ?_
        refine r_aload_n dX3_sumRead_28 rfl (by rfl) ?_
        refine r_aload_n dX3_sumRead_29 rfl (by rfl) ?_
        refine r_get_r kX3_12 dX3_sumRead_30 KD_1 (RHO_1_0 _) ?_
        refine r_iload_n dX3_sumRead_33 rfl (by rfl) ?_
        refine r_iload dX3_sumRead_34 (by rfl) ?_
        refine r_callV2 (ct_X2_columnAt _ (by omega) (by omega) _ (by omega) (by omega)) fX2_columnAt qX3_108 dX3_sumRead_36 KD_2 (by decide) ⟨Nat.zero_le _, Nat.zero_le _⟩ (Nat.le_of_ble_eq_true rfl) ?_
        try simp only [sr_2, sr_3, sr_4, sr_5, sr_6, sr_7, sr_8, sr_9, sr_10, sr_11, sr_12, sr_13, sr_14, sr_16, sr_109, sr_110, sr_111, sr_sr, sr_row, plc_sr, pcl_sr, colL_sr, lmask_sr, cf_sr, cb_sr, vR_sr, vRd_sr, sumV_sr]
        have hcc := hI.co (8 * s.toNat + k.toNat)
        refine r_callN2 (ct_X5_at KD_15 (by decide) _ (by omega) (by omega)) fX5_at qX3_32 dX3_sumRead_39 (by decide) ⟨Nat.zero_le _, Nat.zero_le _⟩ (Nat.le_of_ble_eq_true rfl) ?_
        try simp only [sr_2, sr_3, sr_4, sr_5, sr_6, sr_7, sr_8, sr_9, sr_10, sr_11, sr_12, sr_13, sr_14, sr_16, sr_109, sr_110, sr_111, sr_sr, sr_row, plc_sr, pcl_sr, colL_sr, lmask_sr, cf_sr, cb_sr, vR_sr, vRd_sr, sumV_sr]
        refine r_iadd dX3_sumRead_42 ?_
        refine r_istore dX3_sumRead_43 (Nat.le_of_ble_eq_true rfl) (L' := [_, _, _, _, _, _]) (by rfl) ?_
        refine r_iinc dX3_sumRead_45 (by rfl) (Nat.le_of_ble_eq_true rfl) (L' := [_, _, _, _, _, _]) (by rfl) ?_
        refine r_goto (tgt := 13) dX3_sumRead_48 (by decide) ?_
        exact ih (k + 1) _ _ hf (by omega) (by omega) (by
          rw [show (k + 1).toNat = k.toNat + 1 by omega]
          unfold sumV
          rw [← hm0, hf _ (by omega)]) (by omega)
  refine r_aload_n dX3_sumRead_0 rfl (by rfl) ?_
  refine r_iload_n dX3_sumRead_1 rfl (by rfl) ?_
  refine r_iload_n dX3_sumRead_2 rfl (by rfl) ?_
  refine r_callY2 (ct_X3_valuesRead hI _ (by omega) (by omega) _ (by omega) (by omega)) fX3_valuesRead qX3_61 dX3_sumRead_3 KD_1 (by decide) ⟨Nat.zero_le _, Nat.zero_le _⟩ (Nat.le_of_ble_eq_true rfl) (fun fv hfv => ?_)
  try simp only [sr_2, sr_3, sr_4, sr_5, sr_6, sr_7, sr_8, sr_9, sr_10, sr_11, sr_12, sr_13, sr_14, sr_16, sr_109, sr_110, sr_111, sr_sr, sr_row, plc_sr, pcl_sr, colL_sr, lmask_sr, cf_sr, cb_sr, vR_sr, vRd_sr, sumV_sr]
  refine r_astore_n dX3_sumRead_6 rfl (Nat.le_of_ble_eq_true rfl) (L' := [_, _, _, _, _, _]) (by rfl) ?_
  refine r_iconst dX3_sumRead_7 ?_
  refine r_istore dX3_sumRead_8 (Nat.le_of_ble_eq_true rfl) (L' := [_, _, _, _, _, _]) (by rfl) ?_
  refine r_iconst dX3_sumRead_10 ?_
  refine r_istore dX3_sumRead_11 (Nat.le_of_ble_eq_true rfl) (L' := [_, _, _, _, _, _]) (by rfl) ?_
  exact cut_13 20 0 0 _ hfv (by omega) (by omega) rfl (by omega)

set_option maxRecDepth 100000 in
set_option maxHeartbeats 4000000 in
theorem ct_X3_valuesLost {l : Launch} {G : GG} {π : Nat → Option Nat} {σ τ : ST} (hI : CI σ) (r : Int) (h0 : 0 ≤ r) (h1 : r < 12) (s : Int) (h2 : 0 ≤ s) (h3 : s < 12) : Ct l G mX3_valuesLost (3, 0, 0) [.ref 1, .int (iI r), .int (iI s)] 110 KD σ τ (RHO π) (KSP (some (.int (iI (lsC σ (lsV σ r.toNat s.toNat) r.toNat (σ 7 (σ 11 r.toNat).toNat).toNat)))) σ τ π (fun _ => True)) := by
  have ho := hI.rs r.toNat
  have hw := hI.wd (σ 11 r.toNat).toNat
  have hb0 := vR_bd hI r.toNat s.toNat
  have hb9 : bdV (lsV σ r.toNat s.toNat) := cb_bd hI (cf_bd hI hb0 _ _) _ _
  refine ct_intro (own := "ShapedRows$State") rfl (by decide +kernel) (Nat.le_of_ble_eq_true rfl) (L := _) rfl ?_
  have cut_45 : ∀ (N : Nat) (k : Int) (m : Int) (f : Nat → Int), (∀ j, j < 12 → f j = lsV σ r.toNat s.toNat j) → (0 ≤ k) → (k ≤ σ 7 (σ 11 r.toNat).toNat) → (m = lsC σ (lsV σ r.toNat s.toNat) r.toNat k.toNat) → σ 7 (σ 11 r.toNat).toNat - k < (N : Int) → WP l G "ShapedRows$State" mX3_valuesLost (3, 0, 0) (KSP (some (.int (iI (lsC σ (lsV σ r.toNat s.toNat) r.toNat (σ 7 (σ 11 r.toNat).toNat).toNat)))) σ τ π (fun _ => True)) noX 110 45 [some (.ref 1), some (.int (iI r)), some (.int (iI s)), some (.int (iI (σ 11 r.toNat))), some (.ref 15), some (.int (iI m)), some (.int (iI k)), none] [] 110 KD (sr σ 15 f) τ (RHO π) 0 0 := by
    intro N
    induction N with
    | zero => intro k m f hf k0 k1 hm0 hm; exact absurd hm (by omega)
    | succ N ih =>
      intro k m f hf k0 k1 hm0 hm
      have hcc := hI.co (8 * (σ 11 r.toNat).toNat + k.toNat)
      have hv1 := hb9 (σ 8 (8 * (σ 11 r.toNat).toNat + k.toNat)).toNat (by omega)
      have hv2 := hI.va (12 * r.toNat + (σ 8 (8 * (σ 11 r.toNat).toNat + k.toNat)).toNat)
      refine r_iload dX3_valuesLost_45 (by rfl) ?_
      refine r_aload_n dX3_valuesLost_47 rfl (by rfl) ?_
      refine r_get_r kX3_12 dX3_valuesLost_48 KD_1 (RHO_1_0 _) ?_
      refine r_iload_n dX3_valuesLost_51 rfl (by rfl) ?_
      refine r_callV1 (ct_X2_width _ (by omega) (by omega)) fX2_width qX3_105 dX3_valuesLost_52 KD_2 (by decide) ⟨Nat.zero_le _, Nat.zero_le _⟩ (Nat.le_of_ble_eq_true rfl) ?_
      try simp only [sr_2, sr_3, sr_4, sr_5, sr_6, sr_7, sr_8, sr_9, sr_10, sr_11, sr_12, sr_13, sr_14, sr_16, sr_109, sr_110, sr_111, sr_sr, sr_row, plc_sr, pcl_sr, colL_sr, lmask_sr, cf_sr, cb_sr, vR_sr, vRd_sr, sumV_sr]
      refine r_icmp_ge (tgt := 99) dX3_valuesLost_55 (by decide) (by unfold inR; omega) (by unfold inR; omega) (fun c_1 => ?_) (fun c_1 => ?_)
      · refine r_iload dX3_valuesLost_99 (by rfl) ?_
        exact r_ret_is dX3_valuesLost_101 rfl ⟨Nat.zero_le _, Nat.zero_le _⟩ (by rw [hm0, show k.toNat = (σ 7 (σ 11 r.toNat).toNat).toNat by omega]) (by first | rfl | exact (sr_self _ _).symm) (by exact trivial)
      · refine r_aload_n dX3_valuesLost_58 rfl (by rfl) ?_
        refine r_get_r kX3_12 dX3_valuesLost_59 KD_1 (RHO_1_0 _) ?_
        refine r_iload_n dX3_valuesLost_62 rfl (by rfl) ?_
        refine r_iload dX3_valuesLost_63 (by rfl) ?_
        refine r_callV2 (ct_X2_columnAt _ (by omega) (by omega) _ (by omega) (by omega)) fX2_columnAt qX3_108 dX3_valuesLost_65 KD_2 (by decide) ⟨Nat.zero_le _, Nat.zero_le _⟩ (Nat.le_of_ble_eq_true rfl) ?_
        try simp only [sr_2, sr_3, sr_4, sr_5, sr_6, sr_7, sr_8, sr_9, sr_10, sr_11, sr_12, sr_13, sr_14, sr_16, sr_109, sr_110, sr_111, sr_sr, sr_row, plc_sr, pcl_sr, colL_sr, lmask_sr, cf_sr, cb_sr, vR_sr, vRd_sr, sumV_sr]
        refine r_istore dX3_valuesLost_68 (Nat.le_of_ble_eq_true rfl) (L' := [_, _, _, _, _, _, _, _]) (by rfl) ?_
        refine r_aload dX3_valuesLost_70 (by rfl) ?_
        refine r_iload dX3_valuesLost_72 (by rfl) ?_
        refine r_callN2 (ct_X5_at KD_15 (by decide) _ (by omega) (by omega)) fX5_at qX3_32 dX3_valuesLost_74 (by decide) ⟨Nat.zero_le _, Nat.zero_le _⟩ (Nat.le_of_ble_eq_true rfl) ?_
        try simp only [sr_2, sr_3, sr_4, sr_5, sr_6, sr_7, sr_8, sr_9, sr_10, sr_11, sr_12, sr_13, sr_14, sr_16, sr_109, sr_110, sr_111, sr_sr, sr_row, plc_sr, pcl_sr, colL_sr, lmask_sr, cf_sr, cb_sr, vR_sr, vRd_sr, sumV_sr]
        rw [hf _ (by omega)]
        refine r_aload_n dX3_valuesLost_77 rfl (by rfl) ?_
        refine r_get_r kX3_21 dX3_valuesLost_78 KD_1 (RHO_1_1 _) ?_
        refine r_iload_n dX3_valuesLost_81 rfl (by rfl) ?_
        refine r_iload dX3_valuesLost_82 (by rfl) ?_
        refine r_callV2 (ct_X1_value _ (by omega) (by omega) _ (by omega) (by omega)) fX1_value qX3_111 dX3_valuesLost_84 KD_10 (by decide) ⟨Nat.zero_le _, Nat.zero_le _⟩ (Nat.le_of_ble_eq_true rfl) ?_
        try simp only [sr_2, sr_3, sr_4, sr_5, sr_6, sr_7, sr_8, sr_9, sr_10, sr_11, sr_12, sr_13, sr_14, sr_16, sr_109, sr_110, sr_111, sr_sr, sr_row, plc_sr, pcl_sr, colL_sr, lmask_sr, cf_sr, cb_sr, vR_sr, vRd_sr, sumV_sr]
        refine r_icmp_eq (tgt := 93) dX3_valuesLost_87 (by decide) (by unfold inR; omega) (by unfold inR; omega) (fun hc => ?_) (fun hc => ?_)
        · refine r_iinc dX3_valuesLost_93 (by rfl) (Nat.le_of_ble_eq_true rfl) (L' := [_, _, _, _, _, _, _, _]) (by rfl) ?_
          refine r_goto (tgt := 45) dX3_valuesLost_96 (by decide) ?_
          refine WP.wk (L' := [_, _, _, _, _, _, _, none]) (leL_s (leL_s (leL_s (leL_s (leL_s (leL_s (leL_s (leL_n leL_0)))))))) ?_
          exact ih (k + 1) _ _ hf (by omega) (by omega) (by
            rw [show (k + 1).toNat = k.toNat + 1 by omega]
            unfold lsC
            rw [← hm0]
            first | (rw [if_pos hc]; omega) | (rw [if_neg hc]; done)) (by omega)
        · refine r_iinc dX3_valuesLost_90 (by rfl) (Nat.le_of_ble_eq_true rfl) (L' := [_, _, _, _, _, _, _, _]) (by rfl) ?_
          refine r_iinc dX3_valuesLost_93 (by rfl) (Nat.le_of_ble_eq_true rfl) (L' := [_, _, _, _, _, _, _, _]) (by rfl) ?_
          refine r_goto (tgt := 45) dX3_valuesLost_96 (by decide) ?_
          refine WP.wk (L' := [_, _, _, _, _, _, _, none]) (leL_s (leL_s (leL_s (leL_s (leL_s (leL_s (leL_s (leL_n leL_0)))))))) ?_
          exact ih (k + 1) _ _ hf (by omega) (by omega) (by
            rw [show (k + 1).toNat = k.toNat + 1 by omega]
            unfold lsC
            rw [← hm0]
            first | (rw [if_pos hc]; omega) | (rw [if_neg hc]; done)) (by omega)
  refine r_aload_n dX3_valuesLost_0 rfl (by rfl) ?_
  refine r_get_r kX3_21 dX3_valuesLost_1 KD_1 (RHO_1_1 _) ?_
  refine r_iload_n dX3_valuesLost_4 rfl (by rfl) ?_
  refine r_callV1 (ct_X1_shapeOf _ (by omega) (by omega)) fX1_shapeOf qX3_48 dX3_valuesLost_5 KD_10 (by decide) ⟨Nat.zero_le _, Nat.zero_le _⟩ (Nat.le_of_ble_eq_true rfl) ?_
  refine r_istore_n dX3_valuesLost_8 rfl (Nat.le_of_ble_eq_true rfl) (L' := [_, _, _, _, _, _, _, _]) (by rfl) ?_
  refine r_aload_n dX3_valuesLost_9 rfl (by rfl) ?_
  refine r_iload_n dX3_valuesLost_10 rfl (by rfl) ?_
  refine r_iload_n dX3_valuesLost_11 rfl (by rfl) ?_
  refine r_callY2 (ct_X3_valuesRead hI _ (by omega) (by omega) _ (by omega) (by omega)) fX3_valuesRead qX3_61 dX3_valuesLost_12 KD_1 (by decide) ⟨Nat.zero_le _, Nat.zero_le _⟩ (Nat.le_of_ble_eq_true rfl) (fun fv hfv => ?_)
  try simp only [sr_2, sr_3, sr_4, sr_5, sr_6, sr_7, sr_8, sr_9, sr_10, sr_11, sr_12, sr_13, sr_14, sr_16, sr_109, sr_110, sr_111, sr_sr, sr_row, plc_sr, pcl_sr, colL_sr, lmask_sr, cf_sr, cb_sr, vR_sr, vRd_sr, sumV_sr]
  refine r_astore dX3_valuesLost_15 (Nat.le_of_ble_eq_true rfl) (L' := [_, _, _, _, _, _, _, _]) (by rfl) ?_
  refine r_aload_n dX3_valuesLost_17 rfl (by rfl) ?_
  refine r_get_r kX3_12 dX3_valuesLost_18 KD_1 (RHO_1_0 _) ?_
  refine r_aload dX3_valuesLost_21 (by rfl) ?_
  refine r_iload_n dX3_valuesLost_23 rfl (by rfl) ?_
  refine r_iload_n dX3_valuesLost_24 rfl (by rfl) ?_
  refine r_callV3 (ct_X2_carryForth (CI_sr hI) (by first | omega | (rw [sr_row]; exact fun j hj => by rw [hfv j hj]; exact hb0 j hj)) _ _ (by first | omega | (rw [sr_row]; exact fun j hj => by rw [hfv j hj]; exact hb0 j hj)) (by first | omega | (rw [sr_row]; exact fun j hj => by rw [hfv j hj]; exact hb0 j hj)) (by first | omega | (rw [sr_row]; exact fun j hj => by rw [hfv j hj]; exact hb0 j hj)) (by first | omega | (rw [sr_row]; exact fun j hj => by rw [hfv j hj]; exact hb0 j hj))) fX2_carryForth qX3_51 dX3_valuesLost_25 KD_2 (by decide) ⟨Nat.zero_le _, Nat.zero_le _⟩ (Nat.le_of_ble_eq_true rfl) ?_
  try simp only [sr_2, sr_3, sr_4, sr_5, sr_6, sr_7, sr_8, sr_9, sr_10, sr_11, sr_12, sr_13, sr_14, sr_16, sr_109, sr_110, sr_111, sr_sr, sr_row, plc_sr, pcl_sr, colL_sr, lmask_sr, cf_sr, cb_sr, vR_sr, vRd_sr, sumV_sr]
  refine r_aload_n dX3_valuesLost_28 rfl (by rfl) ?_
  refine r_get_r kX3_12 dX3_valuesLost_29 KD_1 (RHO_1_0 _) ?_
  refine r_aload dX3_valuesLost_32 (by rfl) ?_
  refine r_iload_n dX3_valuesLost_34 rfl (by rfl) ?_
  refine r_iload_n dX3_valuesLost_35 rfl (by rfl) ?_
  refine r_callV3 (ct_X2_carryBack (CI_sr hI) _ _ (by omega) (by omega) (by omega) (by omega)) fX2_carryBack qX3_54 dX3_valuesLost_36 KD_2 (by decide) ⟨Nat.zero_le _, Nat.zero_le _⟩ (Nat.le_of_ble_eq_true rfl) ?_
  try simp only [sr_2, sr_3, sr_4, sr_5, sr_6, sr_7, sr_8, sr_9, sr_10, sr_11, sr_12, sr_13, sr_14, sr_16, sr_109, sr_110, sr_111, sr_sr, sr_row, plc_sr, pcl_sr, colL_sr, lmask_sr, cf_sr, cb_sr, vR_sr, vRd_sr, sumV_sr]
  refine r_iconst dX3_valuesLost_39 ?_
  refine r_istore dX3_valuesLost_40 (Nat.le_of_ble_eq_true rfl) (L' := [_, _, _, _, _, _, _, _]) (by rfl) ?_
  refine r_iconst dX3_valuesLost_42 ?_
  refine r_istore dX3_valuesLost_43 (Nat.le_of_ble_eq_true rfl) (L' := [_, _, _, _, _, _, _, _]) (by rfl) ?_
  exact cut_45 20 0 0 _ (fun j hj => by
    unfold lsV
    rw [show (s - σ 11 r.toNat).toNat = s.toNat - (σ 11 r.toNat).toNat by omega, show (σ 11 r.toNat - s).toNat = (σ 11 r.toNat).toNat - s.toNat by omega]
    exact cb_cg (cf_cg hI hfv _ _) _ _ j hj) (by omega) (by omega) rfl (by omega)

set_option maxRecDepth 100000 in
set_option maxHeartbeats 4000000 in
theorem ct_X3_rowsWith {l : Launch} {G : GG} {π : Nat → Option Nat} {σ τ : ST} (hI : CI σ) (s : Int) (h0 : 0 ≤ s) (h1 : s < 12) (a : Int) (ha : inR a) (x : Int) (hx : inR x) : Ct l G mX3_rowsWith (4, 0, 0) [.ref 1, .int (iI s), .int (iI a), .int (iI x)] 110 KD σ τ (RHO π) (KSP (some (.int (iI (mskF σ s.toNat a x (σ 10 0).toNat)))) σ τ π (fun _ => True)) := by
  have hr := hI.ro
  have hx0 := hx
  unfold inR at hx0
  refine ct_intro (own := "ShapedRows$State") rfl (by decide +kernel) (Nat.le_of_ble_eq_true rfl) (L := _) rfl ?_
  have cut_6 : ∀ (N : Nat) (k : Int) (m : Int) (f : Nat → Int), (0 ≤ k) → (k ≤ σ 10 0) → (m = mskF σ s.toNat a x k.toNat) → σ 10 0 - k < (N : Int) → WP l G "ShapedRows$State" mX3_rowsWith (4, 0, 0) (KSP (some (.int (iI (mskF σ s.toNat a x (σ 10 0).toNat)))) σ τ π (fun _ => True)) noX 110 6 [some (.ref 1), some (.int (iI s)), some (.int (iI a)), some (.int (iI x)), some (.int (iI m)), some (.int (iI k))] [] 110 KD (sr σ 15 f) τ (RHO π) 0 0 := by
    intro N
    induction N with
    | zero => intro k m f k0 k1 hm0 hm; exact absurd hm (by omega)
    | succ N ih =>
      intro k m f k0 k1 hm0 hm
      have hv := vRd_rng hI k.toNat s.toNat a
      refine r_iload dX3_rowsWith_6 (by rfl) ?_
      refine r_aload_n dX3_rowsWith_8 rfl (by rfl) ?_
      refine r_get_r kX3_21 dX3_rowsWith_9 KD_1 (RHO_1_1 _) ?_
      refine r_callV0 ct_X1_size fX1_size qX3_84 dX3_rowsWith_12 KD_10 (by decide) ⟨Nat.zero_le _, Nat.zero_le _⟩ (Nat.le_of_ble_eq_true rfl) ?_
      try simp only [sr_2, sr_3, sr_4, sr_5, sr_6, sr_7, sr_8, sr_9, sr_10, sr_11, sr_12, sr_13, sr_14, sr_16, sr_109, sr_110, sr_111, sr_sr, sr_row, plc_sr, pcl_sr, colL_sr, lmask_sr, cf_sr, cb_sr, vR_sr, vRd_sr, sumV_sr]
      refine r_icmp_ge (tgt := 45) dX3_rowsWith_15 (by decide) (by unfold inR; omega) (by unfold inR; omega) (fun c_1 => ?_) (fun c_1 => ?_)
      · refine r_iload dX3_rowsWith_45 (by rfl) ?_
        exact r_ret_is dX3_rowsWith_47 rfl ⟨Nat.zero_le _, Nat.zero_le _⟩ (by rw [hm0, show k.toNat = (σ 10 0).toNat by omega]) (by first | rfl | exact (sr_self _ _).symm) (by exact trivial)
      · refine r_aload_n dX3_rowsWith_18 rfl (by rfl) ?_
        refine r_iload dX3_rowsWith_19 (by rfl) ?_
        refine r_iload_n dX3_rowsWith_21 rfl (by rfl) ?_
        refine r_iload_n dX3_rowsWith_22 rfl (by rfl) ?_
        refine r_callY3 (ct_X3_valueRead (CI_sr hI) _ (by first | exact ha | omega) (by first | exact ha | omega) _ (by first | exact ha | omega) (by first | exact ha | omega) _ (by first | exact ha | omega)) fX3_valueRead qX3_114 dX3_rowsWith_23 KD_1 (by decide) ⟨Nat.zero_le _, Nat.zero_le _⟩ (Nat.le_of_ble_eq_true rfl) (fun f_2 hf_2 => ?_)
        try simp only [sr_2, sr_3, sr_4, sr_5, sr_6, sr_7, sr_8, sr_9, sr_10, sr_11, sr_12, sr_13, sr_14, sr_16, sr_109, sr_110, sr_111, sr_sr, sr_row, plc_sr, pcl_sr, colL_sr, lmask_sr, cf_sr, cb_sr, vR_sr, vRd_sr, sumV_sr]
        refine r_iload_n dX3_rowsWith_26 rfl (by rfl) ?_
        refine r_icmp_ne (tgt := 39) dX3_rowsWith_27 (by decide) (by unfold inR; omega) (by unfold inR; omega) (fun hc => ?_) (fun hc => ?_)
        · refine r_iinc dX3_rowsWith_39 (by rfl) (Nat.le_of_ble_eq_true rfl) (L' := [_, _, _, _, _, _]) (by rfl) ?_
          refine r_goto (tgt := 6) dX3_rowsWith_42 (by decide) ?_
          exact ih (k + 1) _ _ (by omega) (by omega) (by
            rw [show (k + 1).toNat = k.toNat + 1 by omega]
            have ek : ((k.toNat : Nat) : Int) = k := by omega
            unfold mskF
            rw [ek, ← hm0]
            first | (rw [if_pos hc]; done) | (rw [if_neg hc]; done)) (by omega)
        · refine r_iload dX3_rowsWith_30 (by rfl) ?_
          refine r_iconst dX3_rowsWith_32 ?_
          refine r_iload dX3_rowsWith_33 (by rfl) ?_
          refine r_ishl dX3_rowsWith_35 ?_
          refine r_ior dX3_rowsWith_36 ?_
          refine r_istore dX3_rowsWith_37 (Nat.le_of_ble_eq_true rfl) (L' := [_, _, _, _, _, _]) (by rfl) ?_
          refine r_iinc dX3_rowsWith_39 (by rfl) (Nat.le_of_ble_eq_true rfl) (L' := [_, _, _, _, _, _]) (by rfl) ?_
          refine r_goto (tgt := 6) dX3_rowsWith_42 (by decide) ?_
          exact ih (k + 1) _ _ (by omega) (by omega) (by
            rw [show (k + 1).toNat = k.toNat + 1 by omega]
            have ek : ((k.toNat : Nat) : Int) = k := by omega
            unfold mskF
            rw [ek, ← hm0]
            first | (rw [if_pos hc]; done) | (rw [if_neg hc]; done)) (by omega)
  refine r_iconst dX3_rowsWith_0 ?_
  refine r_istore dX3_rowsWith_1 (Nat.le_of_ble_eq_true rfl) (L' := [_, _, _, _, _, _]) (by rfl) ?_
  refine r_iconst dX3_rowsWith_3 ?_
  refine r_istore dX3_rowsWith_4 (Nat.le_of_ble_eq_true rfl) (L' := [_, _, _, _, _, _]) (by rfl) ?_
  refine WP.mem (σ' := sr σ 15 (σ 15)) (sr_self σ 15).symm ?_
  exact cut_6 20 0 0 _ (by omega) (by omega) rfl (by omega)

def shP (σ : ST) (s : Nat) (w : Int) : Int := if w = 0 then σ 7 s else if w = 1 then σ 3 s else if w = 2 then cntR σ (s : Int) (σ 10 0).toNat else if w = 3 then cntH σ (s : Int) 4 else if w = 4 then (if (s : Int) < σ 2 1 then 1 else 0) else lmask σ s 8
def roP (σ : ST) (r : Nat) (w : Int) : Int := if w = 0 then σ 11 r else if w = 1 then σ 7 (σ 11 r).toNat else if w = 2 then σ 2 0 - 1 - σ 11 r else if w = 3 then σ 12 r else if w = 4 then sumV σ (vR σ r (σ 11 r).toNat) (σ 11 r).toNat (σ 7 (σ 11 r).toNat).toNat else sumV σ (vR σ r (σ 2 0 - 1).toNat) (σ 2 0 - 1).toNat (σ 7 (σ 2 0 - 1).toNat).toNat

set_option maxRecDepth 100000 in
set_option maxHeartbeats 4000000 in
theorem ct_X3_shapeProperty {l : Launch} {G : GG} {π : Nat → Option Nat} {σ τ : ST} (hI : CI σ) (s : Int) (h0 : 0 ≤ s) (h1 : s < 12) (w : Int) (h4 : 0 ≤ w) (h5 : w ≤ 5) : Ct l G mX3_shapeProperty (3, 0, 0) [.ref 1, .int (iI s), .int (iI w)] 110 KD σ τ (RHO π) (KQ (some (.int (iI (shP σ s.toNat w)))) 110 KD σ τ (RHO π)) := by
  have hz := hI.sz
  have es : ((s.toNat : Nat) : Int) = s := by omega
  refine ct_intro (own := "ShapedRows$State") rfl (by decide +kernel) (Nat.le_of_ble_eq_true rfl) (L := _) rfl ?_
  refine r_iload_n dX3_shapeProperty_0 rfl (by rfl) ?_
  rcases (show w = 0 ∨ w = 1 ∨ w = 2 ∨ w = 3 ∨ w = 4 ∨ (w < 0 ∨ 4 < w) by omega) with t_1 | t_1 | t_1 | t_1 | t_1 | t_1
  · refine r_tsw (tgt := 36) (a := w) dX3_shapeProperty_1 (by unfold inR; omega) (by omega) (by omega) (by rw [t_1]; rfl) (by decide) ?_
    refine r_aload_n dX3_shapeProperty_36 rfl (by rfl) ?_
    refine r_get_r kX3_12 dX3_shapeProperty_37 KD_1 (RHO_1_0 _) ?_
    refine r_iload_n dX3_shapeProperty_40 rfl (by rfl) ?_
    refine r_callV1 (ct_X2_width _ (by first | omega | (unfold inR; omega)) (by first | omega | (unfold inR; omega))) fX2_width qX3_105 dX3_shapeProperty_41 KD_2 (by decide) ⟨Nat.zero_le _, Nat.zero_le _⟩ (Nat.le_of_ble_eq_true rfl) ?_
    exact r_ret_i dX3_shapeProperty_44 rfl ⟨Nat.zero_le _, Nat.zero_le _⟩ (by unfold shP; rw [es]; first | (rw [if_pos (show w = 0 by omega)]; done) | (rw [if_neg (show ¬ w = 0 by omega), if_pos (show w = 1 by omega)]; done) | (rw [if_neg (show ¬ w = 0 by omega), if_neg (show ¬ w = 1 by omega), if_pos (show w = 2 by omega)]; done) | (rw [if_neg (show ¬ w = 0 by omega), if_neg (show ¬ w = 1 by omega), if_neg (show ¬ w = 2 by omega), if_pos (show w = 3 by omega)]; done) | (rw [if_neg (show ¬ w = 0 by omega), if_neg (show ¬ w = 1 by omega), if_neg (show ¬ w = 2 by omega), if_neg (show ¬ w = 3 by omega), if_pos (show w = 4 by omega)]; done) | (rw [if_neg (show ¬ w = 0 by omega), if_neg (show ¬ w = 1 by omega), if_neg (show ¬ w = 2 by omega), if_neg (show ¬ w = 3 by omega), if_neg (show ¬ w = 4 by omega)]; done) | (rw [if_neg (show ¬ w = 0 by omega), if_neg (show ¬ w = 1 by omega), if_neg (show ¬ w = 2 by omega), if_neg (show ¬ w = 3 by omega), if_pos (show w = 4 by omega)]; first | (rw [if_pos (by assumption)]; done) | (rw [if_neg (by assumption)]; done))) ⟨rfl, rfl, (by first | rfl | omega), rfl, rfl⟩
  · refine r_tsw (tgt := 45) (a := w) dX3_shapeProperty_1 (by unfold inR; omega) (by omega) (by omega) (by rw [t_1]; rfl) (by decide) ?_
    refine r_aload_n dX3_shapeProperty_45 rfl (by rfl) ?_
    refine r_get_r kX3_12 dX3_shapeProperty_46 KD_1 (RHO_1_0 _) ?_
    refine r_iload_n dX3_shapeProperty_49 rfl (by rfl) ?_
    refine r_callV1 (ct_X2_changeOf _ (by first | omega | (unfold inR; omega)) (by first | omega | (unfold inR; omega))) fX2_changeOf qX3_118 dX3_shapeProperty_50 KD_2 (by decide) ⟨Nat.zero_le _, Nat.zero_le _⟩ (Nat.le_of_ble_eq_true rfl) ?_
    exact r_ret_i dX3_shapeProperty_53 rfl ⟨Nat.zero_le _, Nat.zero_le _⟩ (by unfold shP; rw [es]; first | (rw [if_pos (show w = 0 by omega)]; done) | (rw [if_neg (show ¬ w = 0 by omega), if_pos (show w = 1 by omega)]; done) | (rw [if_neg (show ¬ w = 0 by omega), if_neg (show ¬ w = 1 by omega), if_pos (show w = 2 by omega)]; done) | (rw [if_neg (show ¬ w = 0 by omega), if_neg (show ¬ w = 1 by omega), if_neg (show ¬ w = 2 by omega), if_pos (show w = 3 by omega)]; done) | (rw [if_neg (show ¬ w = 0 by omega), if_neg (show ¬ w = 1 by omega), if_neg (show ¬ w = 2 by omega), if_neg (show ¬ w = 3 by omega), if_pos (show w = 4 by omega)]; done) | (rw [if_neg (show ¬ w = 0 by omega), if_neg (show ¬ w = 1 by omega), if_neg (show ¬ w = 2 by omega), if_neg (show ¬ w = 3 by omega), if_neg (show ¬ w = 4 by omega)]; done) | (rw [if_neg (show ¬ w = 0 by omega), if_neg (show ¬ w = 1 by omega), if_neg (show ¬ w = 2 by omega), if_neg (show ¬ w = 3 by omega), if_pos (show w = 4 by omega)]; first | (rw [if_pos (by assumption)]; done) | (rw [if_neg (by assumption)]; done))) ⟨rfl, rfl, (by first | rfl | omega), rfl, rfl⟩
  · refine r_tsw (tgt := 54) (a := w) dX3_shapeProperty_1 (by unfold inR; omega) (by omega) (by omega) (by rw [t_1]; rfl) (by decide) ?_
    refine r_aload_n dX3_shapeProperty_54 rfl (by rfl) ?_
    refine r_iload_n dX3_shapeProperty_55 rfl (by rfl) ?_
    refine r_callV1 (ct_X3_rowsOfShape hI _ (by first | omega | (unfold inR; omega))) fX3_rowsOfShape qX3_97 dX3_shapeProperty_56 KD_1 (by decide) ⟨Nat.zero_le _, Nat.zero_le _⟩ (Nat.le_of_ble_eq_true rfl) ?_
    exact r_ret_i dX3_shapeProperty_59 rfl ⟨Nat.zero_le _, Nat.zero_le _⟩ (by unfold shP; rw [es]; first | (rw [if_pos (show w = 0 by omega)]; done) | (rw [if_neg (show ¬ w = 0 by omega), if_pos (show w = 1 by omega)]; done) | (rw [if_neg (show ¬ w = 0 by omega), if_neg (show ¬ w = 1 by omega), if_pos (show w = 2 by omega)]; done) | (rw [if_neg (show ¬ w = 0 by omega), if_neg (show ¬ w = 1 by omega), if_neg (show ¬ w = 2 by omega), if_pos (show w = 3 by omega)]; done) | (rw [if_neg (show ¬ w = 0 by omega), if_neg (show ¬ w = 1 by omega), if_neg (show ¬ w = 2 by omega), if_neg (show ¬ w = 3 by omega), if_pos (show w = 4 by omega)]; done) | (rw [if_neg (show ¬ w = 0 by omega), if_neg (show ¬ w = 1 by omega), if_neg (show ¬ w = 2 by omega), if_neg (show ¬ w = 3 by omega), if_neg (show ¬ w = 4 by omega)]; done) | (rw [if_neg (show ¬ w = 0 by omega), if_neg (show ¬ w = 1 by omega), if_neg (show ¬ w = 2 by omega), if_neg (show ¬ w = 3 by omega), if_pos (show w = 4 by omega)]; first | (rw [if_pos (by assumption)]; done) | (rw [if_neg (by assumption)]; done))) ⟨rfl, rfl, (by first | rfl | omega), rfl, rfl⟩
  · refine r_tsw (tgt := 60) (a := w) dX3_shapeProperty_1 (by unfold inR; omega) (by omega) (by omega) (by rw [t_1]; rfl) (by decide) ?_
    refine r_aload_n dX3_shapeProperty_60 rfl (by rfl) ?_
    refine r_iload_n dX3_shapeProperty_61 rfl (by rfl) ?_
    refine r_callV1 (ct_X3_readersOfShape hI _ (by first | omega | (unfold inR; omega))) fX3_readersOfShape qX3_121 dX3_shapeProperty_62 KD_1 (by decide) ⟨Nat.zero_le _, Nat.zero_le _⟩ (Nat.le_of_ble_eq_true rfl) ?_
    exact r_ret_i dX3_shapeProperty_65 rfl ⟨Nat.zero_le _, Nat.zero_le _⟩ (by unfold shP; rw [es]; first | (rw [if_pos (show w = 0 by omega)]; done) | (rw [if_neg (show ¬ w = 0 by omega), if_pos (show w = 1 by omega)]; done) | (rw [if_neg (show ¬ w = 0 by omega), if_neg (show ¬ w = 1 by omega), if_pos (show w = 2 by omega)]; done) | (rw [if_neg (show ¬ w = 0 by omega), if_neg (show ¬ w = 1 by omega), if_neg (show ¬ w = 2 by omega), if_pos (show w = 3 by omega)]; done) | (rw [if_neg (show ¬ w = 0 by omega), if_neg (show ¬ w = 1 by omega), if_neg (show ¬ w = 2 by omega), if_neg (show ¬ w = 3 by omega), if_pos (show w = 4 by omega)]; done) | (rw [if_neg (show ¬ w = 0 by omega), if_neg (show ¬ w = 1 by omega), if_neg (show ¬ w = 2 by omega), if_neg (show ¬ w = 3 by omega), if_neg (show ¬ w = 4 by omega)]; done) | (rw [if_neg (show ¬ w = 0 by omega), if_neg (show ¬ w = 1 by omega), if_neg (show ¬ w = 2 by omega), if_neg (show ¬ w = 3 by omega), if_pos (show w = 4 by omega)]; first | (rw [if_pos (by assumption)]; done) | (rw [if_neg (by assumption)]; done))) ⟨rfl, rfl, (by first | rfl | omega), rfl, rfl⟩
  · refine r_tsw (tgt := 66) (a := w) dX3_shapeProperty_1 (by unfold inR; omega) (by omega) (by omega) (by rw [t_1]; rfl) (by decide) ?_
    refine r_aload_n dX3_shapeProperty_66 rfl (by rfl) ?_
    refine r_get_r kX3_12 dX3_shapeProperty_67 KD_1 (RHO_1_0 _) ?_
    refine r_iload_n dX3_shapeProperty_70 rfl (by rfl) ?_
    refine r_callV1 (ct_X2_isRetired hI _ (by first | omega | (unfold inR; omega))) fX2_isRetired qX3_124 dX3_shapeProperty_71 KD_2 (by decide) ⟨Nat.zero_le _, Nat.zero_le _⟩ (Nat.le_of_ble_eq_true rfl) ?_
    refine r_ifeq_b (tgt := 81) dX3_shapeProperty_74 (by decide) (fun c_2 => ?_) (fun c_2 => ?_)
    · refine r_iconst dX3_shapeProperty_81 ?_
      exact r_ret_i dX3_shapeProperty_82 rfl ⟨Nat.zero_le _, Nat.zero_le _⟩ (by unfold shP; rw [es]; first | (rw [if_pos (show w = 0 by omega)]; done) | (rw [if_neg (show ¬ w = 0 by omega), if_pos (show w = 1 by omega)]; done) | (rw [if_neg (show ¬ w = 0 by omega), if_neg (show ¬ w = 1 by omega), if_pos (show w = 2 by omega)]; done) | (rw [if_neg (show ¬ w = 0 by omega), if_neg (show ¬ w = 1 by omega), if_neg (show ¬ w = 2 by omega), if_pos (show w = 3 by omega)]; done) | (rw [if_neg (show ¬ w = 0 by omega), if_neg (show ¬ w = 1 by omega), if_neg (show ¬ w = 2 by omega), if_neg (show ¬ w = 3 by omega), if_pos (show w = 4 by omega)]; done) | (rw [if_neg (show ¬ w = 0 by omega), if_neg (show ¬ w = 1 by omega), if_neg (show ¬ w = 2 by omega), if_neg (show ¬ w = 3 by omega), if_neg (show ¬ w = 4 by omega)]; done) | (rw [if_neg (show ¬ w = 0 by omega), if_neg (show ¬ w = 1 by omega), if_neg (show ¬ w = 2 by omega), if_neg (show ¬ w = 3 by omega), if_pos (show w = 4 by omega)]; first | (rw [if_pos (by assumption)]; done) | (rw [if_neg (by assumption)]; done))) ⟨rfl, rfl, (by first | rfl | omega), rfl, rfl⟩
    · refine r_iconst dX3_shapeProperty_77 ?_
      refine r_goto (tgt := 82) dX3_shapeProperty_78 (by decide) ?_
      exact r_ret_i dX3_shapeProperty_82 rfl ⟨Nat.zero_le _, Nat.zero_le _⟩ (by unfold shP; rw [es]; first | (rw [if_pos (show w = 0 by omega)]; done) | (rw [if_neg (show ¬ w = 0 by omega), if_pos (show w = 1 by omega)]; done) | (rw [if_neg (show ¬ w = 0 by omega), if_neg (show ¬ w = 1 by omega), if_pos (show w = 2 by omega)]; done) | (rw [if_neg (show ¬ w = 0 by omega), if_neg (show ¬ w = 1 by omega), if_neg (show ¬ w = 2 by omega), if_pos (show w = 3 by omega)]; done) | (rw [if_neg (show ¬ w = 0 by omega), if_neg (show ¬ w = 1 by omega), if_neg (show ¬ w = 2 by omega), if_neg (show ¬ w = 3 by omega), if_pos (show w = 4 by omega)]; done) | (rw [if_neg (show ¬ w = 0 by omega), if_neg (show ¬ w = 1 by omega), if_neg (show ¬ w = 2 by omega), if_neg (show ¬ w = 3 by omega), if_neg (show ¬ w = 4 by omega)]; done) | (rw [if_neg (show ¬ w = 0 by omega), if_neg (show ¬ w = 1 by omega), if_neg (show ¬ w = 2 by omega), if_neg (show ¬ w = 3 by omega), if_pos (show w = 4 by omega)]; first | (rw [if_pos (by assumption)]; done) | (rw [if_neg (by assumption)]; done))) ⟨rfl, rfl, (by first | rfl | omega), rfl, rfl⟩
  · refine r_tsd (tgt := 83) (a := w) dX3_shapeProperty_1 (by unfold inR; omega) t_1 (by decide) ?_
    refine r_aload_n dX3_shapeProperty_83 rfl (by rfl) ?_
    refine r_get_r kX3_12 dX3_shapeProperty_84 KD_1 (RHO_1_0 _) ?_
    refine r_iload_n dX3_shapeProperty_87 rfl (by rfl) ?_
    refine r_callV1 (ct_X2_letterMask hI _ (by first | omega | (unfold inR; omega)) (by first | omega | (unfold inR; omega))) fX2_letterMask qX3_127 dX3_shapeProperty_88 KD_2 (by decide) ⟨Nat.zero_le _, Nat.zero_le _⟩ (Nat.le_of_ble_eq_true rfl) ?_
    exact r_ret_i dX3_shapeProperty_91 rfl ⟨Nat.zero_le _, Nat.zero_le _⟩ (by unfold shP; rw [es]; first | (rw [if_pos (show w = 0 by omega)]; done) | (rw [if_neg (show ¬ w = 0 by omega), if_pos (show w = 1 by omega)]; done) | (rw [if_neg (show ¬ w = 0 by omega), if_neg (show ¬ w = 1 by omega), if_pos (show w = 2 by omega)]; done) | (rw [if_neg (show ¬ w = 0 by omega), if_neg (show ¬ w = 1 by omega), if_neg (show ¬ w = 2 by omega), if_pos (show w = 3 by omega)]; done) | (rw [if_neg (show ¬ w = 0 by omega), if_neg (show ¬ w = 1 by omega), if_neg (show ¬ w = 2 by omega), if_neg (show ¬ w = 3 by omega), if_pos (show w = 4 by omega)]; done) | (rw [if_neg (show ¬ w = 0 by omega), if_neg (show ¬ w = 1 by omega), if_neg (show ¬ w = 2 by omega), if_neg (show ¬ w = 3 by omega), if_neg (show ¬ w = 4 by omega)]; done) | (rw [if_neg (show ¬ w = 0 by omega), if_neg (show ¬ w = 1 by omega), if_neg (show ¬ w = 2 by omega), if_neg (show ¬ w = 3 by omega), if_pos (show w = 4 by omega)]; first | (rw [if_pos (by assumption)]; done) | (rw [if_neg (by assumption)]; done))) ⟨rfl, rfl, (by first | rfl | omega), rfl, rfl⟩

set_option maxRecDepth 100000 in
set_option maxHeartbeats 4000000 in
theorem ct_X3_rowProperty {l : Launch} {G : GG} {π : Nat → Option Nat} {σ τ : ST} (hI : CI σ) (r : Int) (h0 : 0 ≤ r) (h1 : r < 12) (w : Int) (h4 : 0 ≤ w) (h5 : w ≤ 5) : Ct l G mX3_rowProperty (4, 0, 0) [.ref 1, .int (iI r), .int (iI w)] 110 KD σ τ (RHO π) (KSP (some (.int (iI (roP σ r.toNat w)))) σ τ π (fun _ => True)) := by
  have hz := hI.sz
  have ho := hI.rs r.toNat
  refine ct_intro (own := "ShapedRows$State") rfl (by decide +kernel) (Nat.le_of_ble_eq_true rfl) (L := _) rfl ?_
  refine r_aload_n dX3_rowProperty_0 rfl (by rfl) ?_
  refine r_get_r kX3_21 dX3_rowProperty_1 KD_1 (RHO_1_1 _) ?_
  refine r_iload_n dX3_rowProperty_4 rfl (by rfl) ?_
  refine r_callV1 (ct_X1_shapeOf _ (by omega) (by omega)) fX1_shapeOf qX3_48 dX3_rowProperty_5 KD_10 (by decide) ⟨Nat.zero_le _, Nat.zero_le _⟩ (Nat.le_of_ble_eq_true rfl) ?_
  refine r_istore_n dX3_rowProperty_8 rfl (Nat.le_of_ble_eq_true rfl) (L' := [_, _, _, _]) (by rfl) ?_
  refine r_iload_n dX3_rowProperty_9 rfl (by rfl) ?_
  rcases (show w = 0 ∨ w = 1 ∨ w = 2 ∨ w = 3 ∨ w = 4 ∨ (w < 0 ∨ 4 < w) by omega) with t_1 | t_1 | t_1 | t_1 | t_1 | t_1
  · refine r_tsw (tgt := 44) (a := w) dX3_rowProperty_10 (by unfold inR; omega) (by omega) (by omega) (by rw [t_1]; rfl) (by decide) ?_
    refine r_iload_n dX3_rowProperty_44 rfl (by rfl) ?_
    exact r_ret_is dX3_rowProperty_45 rfl ⟨Nat.zero_le _, Nat.zero_le _⟩ (by unfold roP; first | (rw [if_pos (show w = 0 by omega)]; done) | (rw [if_neg (show ¬ w = 0 by omega), if_pos (show w = 1 by omega)]; done) | (rw [if_neg (show ¬ w = 0 by omega), if_neg (show ¬ w = 1 by omega), if_pos (show w = 2 by omega)]; done) | (rw [if_neg (show ¬ w = 0 by omega), if_neg (show ¬ w = 1 by omega), if_neg (show ¬ w = 2 by omega), if_pos (show w = 3 by omega)]; done) | (rw [if_neg (show ¬ w = 0 by omega), if_neg (show ¬ w = 1 by omega), if_neg (show ¬ w = 2 by omega), if_neg (show ¬ w = 3 by omega), if_pos (show w = 4 by omega)]; done) | (rw [if_neg (show ¬ w = 0 by omega), if_neg (show ¬ w = 1 by omega), if_neg (show ¬ w = 2 by omega), if_neg (show ¬ w = 3 by omega), if_neg (show ¬ w = 4 by omega)]; done)) (by first | rfl | exact (sr_self _ _).symm) (by exact trivial)
  · refine r_tsw (tgt := 46) (a := w) dX3_rowProperty_10 (by unfold inR; omega) (by omega) (by omega) (by rw [t_1]; rfl) (by decide) ?_
    refine r_aload_n dX3_rowProperty_46 rfl (by rfl) ?_
    refine r_get_r kX3_12 dX3_rowProperty_47 KD_1 (RHO_1_0 _) ?_
    refine r_iload_n dX3_rowProperty_50 rfl (by rfl) ?_
    refine r_callV1 (ct_X2_width _ (by omega) (by omega)) fX2_width qX3_105 dX3_rowProperty_51 KD_2 (by decide) ⟨Nat.zero_le _, Nat.zero_le _⟩ (Nat.le_of_ble_eq_true rfl) ?_
    exact r_ret_is dX3_rowProperty_54 rfl ⟨Nat.zero_le _, Nat.zero_le _⟩ (by unfold roP; first | (rw [if_pos (show w = 0 by omega)]; done) | (rw [if_neg (show ¬ w = 0 by omega), if_pos (show w = 1 by omega)]; done) | (rw [if_neg (show ¬ w = 0 by omega), if_neg (show ¬ w = 1 by omega), if_pos (show w = 2 by omega)]; done) | (rw [if_neg (show ¬ w = 0 by omega), if_neg (show ¬ w = 1 by omega), if_neg (show ¬ w = 2 by omega), if_pos (show w = 3 by omega)]; done) | (rw [if_neg (show ¬ w = 0 by omega), if_neg (show ¬ w = 1 by omega), if_neg (show ¬ w = 2 by omega), if_neg (show ¬ w = 3 by omega), if_pos (show w = 4 by omega)]; done) | (rw [if_neg (show ¬ w = 0 by omega), if_neg (show ¬ w = 1 by omega), if_neg (show ¬ w = 2 by omega), if_neg (show ¬ w = 3 by omega), if_neg (show ¬ w = 4 by omega)]; done)) (by first | rfl | exact (sr_self _ _).symm) (by exact trivial)
  · refine r_tsw (tgt := 55) (a := w) dX3_rowProperty_10 (by unfold inR; omega) (by omega) (by omega) (by rw [t_1]; rfl) (by decide) ?_
    refine r_aload_n dX3_rowProperty_55 rfl (by rfl) ?_
    refine r_get_r kX3_12 dX3_rowProperty_56 KD_1 (RHO_1_0 _) ?_
    refine r_callV0 ct_X2_newest fX2_newest qX3_94 dX3_rowProperty_59 KD_2 (by decide) ⟨Nat.zero_le _, Nat.zero_le _⟩ (Nat.le_of_ble_eq_true rfl) ?_
    refine r_iload_n dX3_rowProperty_62 rfl (by rfl) ?_
    refine r_isub dX3_rowProperty_63 ?_
    exact r_ret_is dX3_rowProperty_64 rfl ⟨Nat.zero_le _, Nat.zero_le _⟩ (by unfold roP; first | (rw [if_pos (show w = 0 by omega)]; done) | (rw [if_neg (show ¬ w = 0 by omega), if_pos (show w = 1 by omega)]; done) | (rw [if_neg (show ¬ w = 0 by omega), if_neg (show ¬ w = 1 by omega), if_pos (show w = 2 by omega)]; done) | (rw [if_neg (show ¬ w = 0 by omega), if_neg (show ¬ w = 1 by omega), if_neg (show ¬ w = 2 by omega), if_pos (show w = 3 by omega)]; done) | (rw [if_neg (show ¬ w = 0 by omega), if_neg (show ¬ w = 1 by omega), if_neg (show ¬ w = 2 by omega), if_neg (show ¬ w = 3 by omega), if_pos (show w = 4 by omega)]; done) | (rw [if_neg (show ¬ w = 0 by omega), if_neg (show ¬ w = 1 by omega), if_neg (show ¬ w = 2 by omega), if_neg (show ¬ w = 3 by omega), if_neg (show ¬ w = 4 by omega)]; done)) (by first | rfl | exact (sr_self _ _).symm) (by exact trivial)
  · refine r_tsw (tgt := 65) (a := w) dX3_rowProperty_10 (by unfold inR; omega) (by omega) (by omega) (by rw [t_1]; rfl) (by decide) ?_
    refine r_aload_n dX3_rowProperty_65 rfl (by rfl) ?_
    refine r_get_r kX3_21 dX3_rowProperty_66 KD_1 (RHO_1_1 _) ?_
    refine r_iload_n dX3_rowProperty_69 rfl (by rfl) ?_
    refine r_callV1 (ct_X1_rewritesOf _ (by omega) (by omega)) fX1_rewritesOf qX3_130 dX3_rowProperty_70 KD_10 (by decide) ⟨Nat.zero_le _, Nat.zero_le _⟩ (Nat.le_of_ble_eq_true rfl) ?_
    exact r_ret_is dX3_rowProperty_73 rfl ⟨Nat.zero_le _, Nat.zero_le _⟩ (by unfold roP; first | (rw [if_pos (show w = 0 by omega)]; done) | (rw [if_neg (show ¬ w = 0 by omega), if_pos (show w = 1 by omega)]; done) | (rw [if_neg (show ¬ w = 0 by omega), if_neg (show ¬ w = 1 by omega), if_pos (show w = 2 by omega)]; done) | (rw [if_neg (show ¬ w = 0 by omega), if_neg (show ¬ w = 1 by omega), if_neg (show ¬ w = 2 by omega), if_pos (show w = 3 by omega)]; done) | (rw [if_neg (show ¬ w = 0 by omega), if_neg (show ¬ w = 1 by omega), if_neg (show ¬ w = 2 by omega), if_neg (show ¬ w = 3 by omega), if_pos (show w = 4 by omega)]; done) | (rw [if_neg (show ¬ w = 0 by omega), if_neg (show ¬ w = 1 by omega), if_neg (show ¬ w = 2 by omega), if_neg (show ¬ w = 3 by omega), if_neg (show ¬ w = 4 by omega)]; done)) (by first | rfl | exact (sr_self _ _).symm) (by exact trivial)
  · refine r_tsw (tgt := 74) (a := w) dX3_rowProperty_10 (by unfold inR; omega) (by omega) (by omega) (by rw [t_1]; rfl) (by decide) ?_
    refine r_aload_n dX3_rowProperty_74 rfl (by rfl) ?_
    refine r_iload_n dX3_rowProperty_75 rfl (by rfl) ?_
    refine r_iload_n dX3_rowProperty_76 rfl (by rfl) ?_
    refine r_callY2 (ct_X3_sumRead hI _ (by omega) (by omega) _ (by omega) (by omega)) fX3_sumRead qX3_133 dX3_rowProperty_77 KD_1 (by decide) ⟨Nat.zero_le _, Nat.zero_le _⟩ (Nat.le_of_ble_eq_true rfl) (fun f_2 hf_2 => ?_)
    exact r_ret_is dX3_rowProperty_80 rfl ⟨Nat.zero_le _, Nat.zero_le _⟩ (by unfold roP; first | (rw [if_pos (show w = 0 by omega)]; done) | (rw [if_neg (show ¬ w = 0 by omega), if_pos (show w = 1 by omega)]; done) | (rw [if_neg (show ¬ w = 0 by omega), if_neg (show ¬ w = 1 by omega), if_pos (show w = 2 by omega)]; done) | (rw [if_neg (show ¬ w = 0 by omega), if_neg (show ¬ w = 1 by omega), if_neg (show ¬ w = 2 by omega), if_pos (show w = 3 by omega)]; done) | (rw [if_neg (show ¬ w = 0 by omega), if_neg (show ¬ w = 1 by omega), if_neg (show ¬ w = 2 by omega), if_neg (show ¬ w = 3 by omega), if_pos (show w = 4 by omega)]; done) | (rw [if_neg (show ¬ w = 0 by omega), if_neg (show ¬ w = 1 by omega), if_neg (show ¬ w = 2 by omega), if_neg (show ¬ w = 3 by omega), if_neg (show ¬ w = 4 by omega)]; done)) (by first | rfl | exact (sr_self _ _).symm) (by exact trivial)
  · refine r_tsd (tgt := 81) (a := w) dX3_rowProperty_10 (by unfold inR; omega) t_1 (by decide) ?_
    refine r_aload_n dX3_rowProperty_81 rfl (by rfl) ?_
    refine r_iload_n dX3_rowProperty_82 rfl (by rfl) ?_
    refine r_aload_n dX3_rowProperty_83 rfl (by rfl) ?_
    refine r_get_r kX3_12 dX3_rowProperty_84 KD_1 (RHO_1_0 _) ?_
    refine r_callV0 ct_X2_newest fX2_newest qX3_94 dX3_rowProperty_87 KD_2 (by decide) ⟨Nat.zero_le _, Nat.zero_le _⟩ (Nat.le_of_ble_eq_true rfl) ?_
    refine r_callY2 (ct_X3_sumRead hI _ (by omega) (by omega) _ (by omega) (by omega)) fX3_sumRead qX3_133 dX3_rowProperty_90 KD_1 (by decide) ⟨Nat.zero_le _, Nat.zero_le _⟩ (Nat.le_of_ble_eq_true rfl) (fun f_3 hf_3 => ?_)
    exact r_ret_is dX3_rowProperty_93 rfl ⟨Nat.zero_le _, Nat.zero_le _⟩ (by unfold roP; first | (rw [if_pos (show w = 0 by omega)]; done) | (rw [if_neg (show ¬ w = 0 by omega), if_pos (show w = 1 by omega)]; done) | (rw [if_neg (show ¬ w = 0 by omega), if_neg (show ¬ w = 1 by omega), if_pos (show w = 2 by omega)]; done) | (rw [if_neg (show ¬ w = 0 by omega), if_neg (show ¬ w = 1 by omega), if_neg (show ¬ w = 2 by omega), if_pos (show w = 3 by omega)]; done) | (rw [if_neg (show ¬ w = 0 by omega), if_neg (show ¬ w = 1 by omega), if_neg (show ¬ w = 2 by omega), if_neg (show ¬ w = 3 by omega), if_pos (show w = 4 by omega)]; done) | (rw [if_neg (show ¬ w = 0 by omega), if_neg (show ¬ w = 1 by omega), if_neg (show ¬ w = 2 by omega), if_neg (show ¬ w = 3 by omega), if_neg (show ¬ w = 4 by omega)]; done)) (by first | rfl | exact (sr_self _ _).symm) (by exact trivial)
