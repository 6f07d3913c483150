/-! p31: what holds of rows and readers, kept by what changes -/
theorem st1_r {σ : ST} {p : Nat} (hp : p < 10) : st1 σ p = σ p := by
  unfold st1 rwV
  split
  · rfl
  · simp only []
    (repeat' split) <;> simp (disch := omega) only [up2_off, cpR_off]
theorem itS_r {σ : ST} {p : Nat} (hp : p < 10) : ∀ n, itS σ n p = σ p
  | 0 => rfl
  | n + 1 => by unfold itS; rw [st1_r hp, itS_r hp n]
def sm12 (σ : ST) : Nat → Int
  | 0 => 0
  | n + 1 => sm12 σ n + σ 12 n
theorem sm12_cg {σ σ' : ST} : ∀ n : Nat, (∀ r, r < n → σ' 12 r = σ 12 r) → sm12 σ' n = sm12 σ n
  | 0, _ => rfl
  | n + 1, h => by unfold sm12; rw [sm12_cg n (fun r hr => h r (by omega)), h n (by omega)]
theorem sm12_one {σ σ' : ST} {k : Nat} (hk : σ' 12 k = σ 12 k + 1) : ∀ n : Nat, k < n → (∀ r, r < n → r ≠ k → σ' 12 r = σ 12 r) → sm12 σ' n = sm12 σ n + 1
  | 0, h, _ => absurd h (by omega)
  | n + 1, h, ho => by
    unfold sm12
    by_cases e : k = n
    · subst e
      rw [sm12_cg k (fun r hr => ho r (by omega) (by omega)), hk]
      omega
    · rw [sm12_one hk n (by omega) (fun r hr hn => ho r (by omega) hn), ho n (by omega) (fun z => e z.symm)]
      omega
theorem sm12_out {σ σ' : ST} {g : Nat} : ∀ n : Nat, g ≤ n → (∀ r, r < g → σ' 12 r = σ 12 r) → (∀ r, g ≤ r → r < n → σ' 12 r = σ 12 (r + 1)) → sm12 σ' n = sm12 σ (n + 1) - σ 12 g
  | 0, h, _, _ => by
    have e : g = 0 := by omega
    subst e
    show (0 : Int) = 0 + σ 12 0 - σ 12 0
    omega
  | n + 1, h, h1, h2 => by
    by_cases e : g = n + 1
    · subst e
      rw [sm12_cg (n + 1) (fun r hr => h1 r hr)]
      show sm12 σ (n + 1) = sm12 σ (n + 1) + σ 12 (n + 1) - σ 12 (n + 1)
      omega
    · have q := sm12_out n (by omega) h1 (fun r a b => h2 r a (by omega))
      show sm12 σ' n + σ' 12 n = sm12 σ (n + 1) + σ 12 (n + 1) - σ 12 g
      rw [q, h2 n (by omega) (by omega)]
      omega
def RW (σ : ST) : Prop := σ 2 1 < σ 2 0 ∧ (∀ r : Nat, (r : Int) < σ 10 0 → σ 2 1 ≤ σ 11 r ∧ σ 11 r < σ 2 0 ∧ 0 ≤ σ 12 r) ∧ (∀ q : Nat, q < 4 → σ 2 1 ≤ σ 14 q ∧ σ 14 q < σ 2 0) ∧ sm12 σ (σ 10 0).toNat ≤ σ 10 2
theorem RW.mk {σ : ST} (h : RW σ) : σ 2 1 < σ 2 0 := h.1
theorem RW.ro {σ : ST} (h : RW σ) (r : Nat) (a : (r : Int) < σ 10 0) : σ 2 1 ≤ σ 11 r ∧ σ 11 r < σ 2 0 ∧ 0 ≤ σ 12 r := h.2.1 r a
theorem RW.he {σ : ST} (h : RW σ) (q : Nat) (a : q < 4) : σ 2 1 ≤ σ 14 q ∧ σ 14 q < σ 2 0 := h.2.2.1 q a
theorem RW.su {σ : ST} (h : RW σ) : sm12 σ (σ 10 0).toNat ≤ σ 10 2 := h.2.2.2
theorem RW_of {σ σ' : ST} (h : RW σ) (e : ∀ p, (p = 11 ∨ p = 12 ∨ p = 14) → σ' p = σ p) (e20 : σ 2 0 ≤ σ' 2 0) (e21 : σ' 2 1 = σ 2 1) (e100 : σ' 10 0 = σ 10 0) (e102 : σ' 10 2 = σ 10 2) : RW σ' := by
  refine ⟨?_, fun r hr => ?_, fun q hq => ?_, ?_⟩
  · have := h.mk; omega
  · rw [e100] at hr
    have := h.ro r hr
    rw [e 11 (by omega), e 12 (by omega), e21]
    omega
  · have := h.he q hq
    rw [e 14 (by omega), e21]
    omega
  · rw [e100, e102, sm12_cg _ (fun r _ => by rw [e 12 (by omega)])]
    exact h.su
theorem mnF_le {f : Nat → Int} {z : Int} : ∀ n : Nat, mnF f z n ≤ z ∧ ∀ k, k < n → mnF f z n ≤ f k
  | 0 => ⟨Int.le_refl _, fun k h => absurd h (by omega)⟩
  | n + 1 => by
    obtain ⟨h1, h2⟩ := mnF_le (f := f) (z := z) n
    unfold mnF
    refine ⟨by split <;> omega, fun k hk => ?_⟩
    by_cases e : k = n
    · subst e; split <;> omega
    · have := h2 k (by omega)
      split <;> omega
theorem mnF_ge {f : Nat → Int} {z m : Int} (hz : m ≤ z) : ∀ n : Nat, (∀ k, k < n → m ≤ f k) → m ≤ mnF f z n
  | 0, _ => hz
  | n + 1, h => by
    have h1 := mnF_ge hz n (fun k hk => h k (by omega))
    have h2 := h n (by omega)
    unfold mnF
    split <;> omega
theorem oldF_le {σ : ST} (hI : CI σ) : oldF σ ≤ σ 2 0 - 1 ∧ (∀ r : Nat, (r : Int) < σ 10 0 → oldF σ ≤ σ 11 r) ∧ ∀ q : Nat, q < 4 → oldF σ ≤ σ 14 q := by
  have hr := hI.ro
  obtain ⟨a1, a2⟩ := mnF_le (f := σ 11) (z := σ 2 0 - 1) (σ 10 0).toNat
  obtain ⟨b1, b2⟩ := mnF_le (f := σ 14) (z := mnF (σ 11) (σ 2 0 - 1) (σ 10 0).toNat) 4
  unfold oldF
  refine ⟨by omega, fun r h => ?_, fun q h => b2 q h⟩
  have := a2 r (by omega)
  omega
theorem oldF_ge {σ : ST} (hI : CI σ) (h : RW σ) : σ 2 1 ≤ oldF σ := by
  have hr := hI.ro
  have hm := h.mk
  unfold oldF
  exact mnF_ge (mnF_ge (by omega) _ (fun k hk => (h.ro k (by omega)).1)) 4 (fun k hk => (h.he k hk).1)
theorem RW_adR {σ : ST} (h : RW σ) (hI : CI σ) {s : Int} (hs : σ 2 1 ≤ s ∧ s < σ 2 0) : RW (adR σ s) := by
  have hr := hI.ro
  have e11 : ∀ r : Nat, adR σ s 11 r = if r = (σ 10 0).toNat then s else σ 11 r := fun r => by
    unfold adR adRM
    rw [up2_no _ (by omega), cpR_no _ (by omega), up2_no _ (by omega), up2_row]
  have e12 : ∀ r : Nat, adR σ s 12 r = if r = (σ 10 0).toNat then 0 else σ 12 r := fun r => by
    unfold adR adRM
    rw [up2_no _ (by omega), cpR_no _ (by omega), up2_row, up2_off _ (by decide)]
  have e14 : adR σ s 14 = σ 14 := by
    unfold adR adRM
    rw [up2_off _ (by decide), cpR_off _ _ _ _ (by decide), up2_off _ (by decide), up2_off _ (by decide)]
  have e2 : adR σ s 2 = σ 2 := by
    unfold adR adRM
    rw [up2_off _ (by decide), cpR_off _ _ _ _ (by decide), up2_off _ (by decide), up2_off _ (by decide)]
  have e100 : adR σ s 10 0 = σ 10 0 + 1 := by unfold adR; rw [up2_at]
  have e102 : adR σ s 10 2 = σ 10 2 := by
    unfold adR adRM
    rw [up2_no _ (by omega), cpR_no _ (by omega), up2_no _ (by omega), up2_no _ (by omega)]
  refine ⟨by rw [e2]; exact h.mk, fun r hr2 => ?_, fun q hq => by rw [e2, e14]; exact h.he q hq, ?_⟩
  · rw [e100] at hr2
    rw [e2, e11, e12]
    by_cases g : r = (σ 10 0).toNat
    · rw [if_pos g, if_pos g]; omega
    · rw [if_neg g, if_neg g]; exact h.ro r (by omega)
  · rw [e100, e102, show (σ 10 0 + 1).toNat = (σ 10 0).toNat + 1 by omega]
    show sm12 (adR σ s) (σ 10 0).toNat + adR σ s 12 (σ 10 0).toNat ≤ σ 10 2
    rw [e12, if_pos rfl, sm12_cg _ (fun r hr2 => by rw [e12, if_neg (by omega)])]
    have := h.su
    omega
theorem RW_rwV {σ : ST} (h : RW σ) (hI : CI σ) {r s : Int} (v : Nat → Int) (r0 : 0 ≤ r) (r1 : r < σ 10 0) (hs : σ 2 1 ≤ s ∧ s < σ 2 0) : RW (rwV σ r s v) := by
  have hr := hI.ro
  have e11 : ∀ i : Nat, rwV σ r s v 11 i = if i = r.toNat then s else σ 11 i := fun i => by
    unfold rwV
    rw [up2_no _ (by omega), up2_no _ (by omega), up2_row, cpR_off _ _ _ _ (by decide)]
  have e12 : ∀ i : Nat, rwV σ r s v 12 i = if i = r.toNat then σ 12 r.toNat + 1 else σ 12 i := fun i => by
    unfold rwV
    rw [up2_no _ (by omega), up2_row, up2_off _ (by decide), cpR_off _ _ _ _ (by decide)]
  have e14 : rwV σ r s v 14 = σ 14 := by
    unfold rwV
    rw [up2_off _ (by decide), up2_off _ (by decide), up2_off _ (by decide), cpR_off _ _ _ _ (by decide)]
  have e2 : rwV σ r s v 2 = σ 2 := by
    unfold rwV
    rw [up2_off _ (by decide), up2_off _ (by decide), up2_off _ (by decide), cpR_off _ _ _ _ (by decide)]
  have e100 : rwV σ r s v 10 0 = σ 10 0 := by
    unfold rwV
    rw [up2_no _ (by omega), up2_no _ (by omega), up2_no _ (by omega), cpR_no _ (by omega)]
  have e102 : rwV σ r s v 10 2 = σ 10 2 + 1 := by unfold rwV; rw [up2_at]
  refine ⟨by rw [e2]; exact h.mk, fun i hi => ?_, fun q hq => by rw [e2, e14]; exact h.he q hq, ?_⟩
  · rw [e100] at hi
    have q := h.ro r.toNat (by omega)
    rw [e2, e11, e12]
    by_cases g : i = r.toNat
    · rw [if_pos g, if_pos g]; omega
    · rw [if_neg g, if_neg g]; exact h.ro i hi
  · rw [e100, e102, sm12_one (σ := σ) (k := r.toNat) (by rw [e12, if_pos rfl]) _ (by omega) (fun i _ hn => by rw [e12, if_neg hn])]
    have := h.su
    omega
theorem RW_st1 {σ : ST} (h : RW σ) (hI : CI σ) : RW (st1 σ) := by
  have hr := hI.ro
  have hc := hI.cu
  have hm := h.mk
  have u : ∀ (μ : ST) (x : Int), RW μ → RW (up2 μ 10 1 x) := fun μ x q =>
    RW_of q (fun p hp => up2_off _ (by omega)) (by rw [up2_no _ (by omega)]; exact Int.le_refl _) (by rw [up2_no _ (by omega)]) (by rw [up2_no _ (by omega)]) (by rw [up2_no _ (by omega)])
  unfold st1
  by_cases z : σ 10 0 = 0
  · rw [if_pos z]; exact h
  · rw [if_neg z]
    obtain ⟨r, hre⟩ : ∃ r : Int, r = if σ 10 1 < σ 10 0 then σ 10 1 else 0 := ⟨_, rfl⟩
    have hr0 : 0 ≤ r ∧ r < σ 10 0 := by rw [hre]; split <;> omega
    simp only [← hre]
    split
    · exact u _ _ (RW_rwV h hI _ hr0.1 hr0.2 (by omega))
    · exact u _ _ h
theorem RW_itS {σ : ST} (h : RW σ) (hI : CI σ) : ∀ n, RW (itS σ n)
  | 0 => h
  | n + 1 => RW_st1 (RW_itS h hI n) (CI_itS hI n)
theorem RW_wrV {σ : ST} (h : RW σ) (hI : CI σ) {r s : Int} (a v : Int) (r0 : 0 ≤ r) (r1 : r < σ 10 0) (hs : σ 2 1 ≤ s ∧ s < σ 2 0) : RW (wrV σ r s a v) := by
  have u : ∀ (μ : ST) (k : Nat) (x y : Int), RW μ → RW (up2 (up2 μ 13 k x) 10 3 y) := fun μ k x y q =>
    RW_of q (fun p hp => by rw [up2_off _ (by omega), up2_off _ (by omega)]) (by rw [up2_no _ (by omega), up2_no _ (by omega)]; exact Int.le_refl _) (by rw [up2_no _ (by omega), up2_no _ (by omega)]) (by rw [up2_no _ (by omega), up2_no _ (by omega)]) (by rw [up2_no _ (by omega), up2_no _ (by omega)])
  unfold wrV
  simp only []
  refine u _ _ _ _ ?_
  split
  · exact h
  · exact RW_rwV h hI _ r0 r1 hs
theorem RW_hold {σ : ST} (h : RW σ) (q : Nat) {s : Int} (hs : σ 2 1 ≤ s ∧ s < σ 2 0) : RW (up2 σ 14 q s) := by
  refine ⟨by rw [up2_off _ (by decide)]; exact h.mk, fun r hr => ?_, fun i hi => ?_, ?_⟩
  · rw [up2_off _ (by decide)] at hr
    rw [up2_off _ (by decide), up2_off _ (by decide), up2_off _ (by decide)]
    exact h.ro r hr
  · rw [up2_off _ (by decide), up2_row]
    by_cases g : i = q
    · simp only [if_pos g]; exact hs
    · simp only [if_neg g]; exact h.he i hi
  · rw [up2_off _ (by decide), sm12_cg _ (fun r _ => by rw [up2_off _ (by decide)])]
    exact h.su
theorem RW_mark {σ : ST} (h : RW σ) (hI : CI σ) : RW (up2 σ 2 1 (oldF σ)) := by
  obtain ⟨o1, o2, o3⟩ := oldF_le hI
  have e20 : up2 σ 2 1 (oldF σ) 2 0 = σ 2 0 := up2_no _ (by omega)
  have eo : ∀ p, p ≠ 2 → up2 σ 2 1 (oldF σ) p = σ p := fun p hp => up2_off _ hp
  refine ⟨?_, fun r hr => ?_, fun q hq => ?_, ?_⟩
  · rw [up2_at, e20]; omega
  · rw [eo 10 (by decide)] at hr
    have q := h.ro r hr
    have q2 := o2 r hr
    rw [up2_at, e20, eo 11 (by decide), eo 12 (by decide)]
    omega
  · have q1 := h.he q hq
    have q2 := o3 q hq
    rw [up2_at, e20, eo 14 (by decide)]
    omega
  · rw [eo 10 (by decide), sm12_cg _ (fun r _ => by rw [eo 12 (by decide)])]
    exact h.su
theorem RW_tkF {σ : ST} (h : RW σ) (hI : CI σ) {g : Int} (g0 : 0 ≤ g) (g1 : g < σ 10 0) : RW (tkF σ g) := by
  have hr := hI.ro
  obtain ⟨μ, hμ⟩ : ∃ μ : ST, μ = up2 (tkO σ g (σ 10 0 - 1 - g).toNat) 10 0 (σ 10 0 - 1) := ⟨_, rfl⟩
  have e11 : ∀ i : Nat, (i : Int) < σ 10 0 - 1 → μ 11 i = if (i : Int) < g then σ 11 i else σ 11 (i + 1) := fun i hi => by
    rw [hμ]
    unfold tkO
    rw [up2_no _ (by omega), cpR_no _ (by omega), cpR_no _ (by omega)]
    by_cases q : (i : Int) < g
    · rw [if_pos q, cpR_no _ (by omega)]
    · rw [if_neg q, cpR_yes _ (by omega)]
      congr 1
      omega
  have e12 : ∀ i : Nat, (i : Int) < σ 10 0 - 1 → μ 12 i = if (i : Int) < g then σ 12 i else σ 12 (i + 1) := fun i hi => by
    rw [hμ]
    unfold tkO
    rw [up2_no _ (by omega), cpR_no _ (by omega)]
    by_cases q : (i : Int) < g
    · rw [if_pos q, cpR_no _ (by omega), cpR_no _ (by omega)]
    · rw [if_neg q, cpR_yes _ (by omega)]
      congr 1
      omega
  have e14 : μ 14 = σ 14 := by
    rw [hμ]
    unfold tkO
    rw [up2_off _ (by decide), cpR_off _ _ _ _ (by decide), cpR_off _ _ _ _ (by decide), cpR_off _ _ _ _ (by decide)]
  have e2 : μ 2 = σ 2 := by
    rw [hμ]
    unfold tkO
    rw [up2_off _ (by decide), cpR_off _ _ _ _ (by decide), cpR_off _ _ _ _ (by decide), cpR_off _ _ _ _ (by decide)]
  have e100 : μ 10 0 = σ 10 0 - 1 := by rw [hμ, up2_at]
  have e102 : μ 10 2 = σ 10 2 := by
    rw [hμ]
    unfold tkO
    rw [up2_no _ (by omega), cpR_no _ (by omega), cpR_no _ (by omega), cpR_no _ (by omega)]
  have hμR : RW μ := by
    refine ⟨by rw [e2]; exact h.mk, fun i hi => ?_, fun q hq => by rw [e2, e14]; exact h.he q hq, ?_⟩
    · rw [e100] at hi
      rw [e2, e11 i hi, e12 i hi]
      by_cases q : (i : Int) < g
      · rw [if_pos q, if_pos q]; exact h.ro i (by omega)
      · rw [if_neg q, if_neg q]; exact h.ro (i + 1) (by omega)
    · have q := h.ro g.toNat (by omega)
      have q2 := h.su
      rw [e100, e102, sm12_out (σ := σ) (g := g.toNat) _ (by omega) (fun r hr2 => by rw [e12 r (by omega), if_pos (by omega)]) (fun r a b => by rw [e12 r (by omega), if_neg (by omega)])]
      rw [show (σ 10 0 - 1).toNat + 1 = (σ 10 0).toNat by omega]
      omega
  have e0 : tkF σ g = if g < σ 10 1 then up2 μ 10 1 (σ 10 1 - 1) else μ := by
    unfold tkF
    rw [hμ]
  rw [e0]
  split
  · exact RW_of hμR (fun p hp => up2_off _ (by omega)) (by rw [up2_no _ (by omega)]; exact Int.le_refl _) (by rw [up2_no _ (by omega)]) (by rw [up2_no _ (by omega)]) (by rw [up2_no _ (by omega)])
  · exact hμR
