/-! p31: what a change leaves alone; undo -/
def lnK (q : Nat) : Nat := if q = 2 then 2 else if q < 8 then 12 else if q < 10 then 96 else if q = 10 then 4 else if q < 13 then 12 else if q = 13 then 144 else 4
def bk (σ : ST) (p : Nat) : ST := fun q => σ (q + p - 1)
theorem bk_1 (σ : ST) {q : Nat} (h : 1 ≤ q) : bk σ 1 q = σ q := by unfold bk; congr 1
theorem cpI_e (σ : ST) {q p n a b : Nat} : cpI σ q p n a b = if a = p ∧ b < n then σ q b else σ a b := rfl
theorem tkSt_at {σ : ST} {q p : Nat} (hp : blkP p) (hq : blkP q) (hn : q ≠ p) {r i : Nat} (r2 : 2 ≤ r) (r14 : r ≤ 14) : bk (tkSt σ q p) p r i = if i < lnK r then bk σ q r i else bk σ p r i := by
  have far : q + 15 ≤ p ∨ p + 15 ≤ q := by
    unfold blkP at hp hq
    omega
  have p1 : 1 ≤ p := by unfold blkP at hp; omega
  have q1 : 1 ≤ q := by unfold blkP at hq; omega
  have no : ∀ (τ : ST) (x y n a b : Nat), a ≠ y → cpI τ x y n a b = τ a b := fun τ x y n a b h => by rw [cpI_e, if_neg (fun z => h z.1)]
  have ye : ∀ (τ : ST) (x y n b : Nat), cpI τ x y n y b = if b < n then τ x b else τ y b := fun τ x y n b => by
    rw [cpI_e]
    by_cases z : b < n
    · rw [if_pos ⟨rfl, z⟩, if_pos z]
    · rw [if_neg (fun w => z w.2), if_neg z]
  unfold bk tkSt tkRo tkSh
  rcases (show r = 2 ∨ r = 3 ∨ r = 4 ∨ r = 5 ∨ r = 6 ∨ r = 7 ∨ r = 8 ∨ r = 9 ∨ r = 10 ∨ r = 11 ∨ r = 12 ∨ r = 13 ∨ r = 14 by omega) with e | e | e | e | e | e | e | e | e | e | e | e | e
  · subst e
    rw [show 2 + p - 1 = p + 1 by omega, show 2 + q - 1 = q + 1 by omega]
    repeat rw [no _ _ _ _ _ _ (by omega)]
    rw [ye]
    repeat rw [no _ _ _ _ _ _ (by omega)]
    rfl
  · subst e
    rw [show 3 + p - 1 = p + 2 by omega, show 3 + q - 1 = q + 2 by omega]
    repeat rw [no _ _ _ _ _ _ (by omega)]
    rw [ye]
    repeat rw [no _ _ _ _ _ _ (by omega)]
    rfl
  · subst e
    rw [show 4 + p - 1 = p + 3 by omega, show 4 + q - 1 = q + 3 by omega]
    repeat rw [no _ _ _ _ _ _ (by omega)]
    rw [ye]
    repeat rw [no _ _ _ _ _ _ (by omega)]
    rfl
  · subst e
    rw [show 5 + p - 1 = p + 4 by omega, show 5 + q - 1 = q + 4 by omega]
    repeat rw [no _ _ _ _ _ _ (by omega)]
    rw [ye]
    repeat rw [no _ _ _ _ _ _ (by omega)]
    rfl
  · subst e
    rw [show 6 + p - 1 = p + 5 by omega, show 6 + q - 1 = q + 5 by omega]
    repeat rw [no _ _ _ _ _ _ (by omega)]
    rw [ye]
    repeat rw [no _ _ _ _ _ _ (by omega)]
    rfl
  · subst e
    rw [show 7 + p - 1 = p + 6 by omega, show 7 + q - 1 = q + 6 by omega]
    repeat rw [no _ _ _ _ _ _ (by omega)]
    rw [ye]
    repeat rw [no _ _ _ _ _ _ (by omega)]
    rfl
  · subst e
    rw [show 8 + p - 1 = p + 7 by omega, show 8 + q - 1 = q + 7 by omega]
    repeat rw [no _ _ _ _ _ _ (by omega)]
    rw [ye]
    repeat rw [no _ _ _ _ _ _ (by omega)]
    rfl
  · subst e
    rw [show 9 + p - 1 = p + 8 by omega, show 9 + q - 1 = q + 8 by omega]
    repeat rw [no _ _ _ _ _ _ (by omega)]
    rw [ye]
    repeat rw [no _ _ _ _ _ _ (by omega)]
    rfl
  · subst e
    rw [show 10 + p - 1 = p + 9 by omega, show 10 + q - 1 = q + 9 by omega]
    repeat rw [no _ _ _ _ _ _ (by omega)]
    rw [ye]
    repeat rw [no _ _ _ _ _ _ (by omega)]
    rfl
  · subst e
    rw [show 11 + p - 1 = p + 10 by omega, show 11 + q - 1 = q + 10 by omega]
    repeat rw [no _ _ _ _ _ _ (by omega)]
    rw [ye]
    repeat rw [no _ _ _ _ _ _ (by omega)]
    rfl
  · subst e
    rw [show 12 + p - 1 = p + 11 by omega, show 12 + q - 1 = q + 11 by omega]
    repeat rw [no _ _ _ _ _ _ (by omega)]
    rw [ye]
    repeat rw [no _ _ _ _ _ _ (by omega)]
    rfl
  · subst e
    rw [show 13 + p - 1 = p + 12 by omega, show 13 + q - 1 = q + 12 by omega]
    repeat rw [no _ _ _ _ _ _ (by omega)]
    rw [ye]
    repeat rw [no _ _ _ _ _ _ (by omega)]
    rfl
  · subst e
    rw [show 14 + p - 1 = p + 13 by omega, show 14 + q - 1 = q + 13 by omega]
    repeat rw [no _ _ _ _ _ _ (by omega)]
    rw [ye]
    repeat rw [no _ _ _ _ _ _ (by omega)]
    rfl
theorem blk_rng {p : Nat} (hp : blkP p) : 1 ≤ p ∧ p + 14 < 108 ∧ (p = 1 ∨ 18 ≤ p) := by
  unfold blkP at hp
  omega
def HJ (p j : Nat) : Prop := (p ≠ 2 ∨ 2 ≤ j) ∧ (p < 3 ∨ 7 < p ∨ 12 ≤ j) ∧ (p < 8 ∨ 9 < p ∨ 96 ≤ j) ∧ (p ≠ 10 ∨ 4 ≤ j) ∧ (p < 11 ∨ 12 < p ∨ 12 ≤ j) ∧ (p ≠ 13 ∨ 144 ≤ j) ∧ (p ≠ 14 ∨ 4 ≤ j) ∧ (p < 15 ∨ 15 < p)
theorem HJ_of {p j : Nat} (h2 : 2 ≤ p) (h14 : p ≤ 14) (h : ¬ j < lnK p) : HJ p j := by
  unfold HJ
  rcases (show p = 2 ∨ p = 3 ∨ p = 4 ∨ p = 5 ∨ p = 6 ∨ p = 7 ∨ p = 8 ∨ p = 9 ∨ p = 10 ∨ p = 11 ∨ p = 12 ∨ p = 13 ∨ p = 14 by omega) with e | e | e | e | e | e | e | e | e | e | e | e | e <;> subst e <;> (unfold lnK at h; simp at h; omega)
theorem HJ_16 {p j : Nat} (h : 16 ≤ p) : HJ p j := by unfold HJ; omega
theorem come_hi {σ : ST} (hI : CI σ) (hz : σ 2 0 < 12) (ch : Int) {p j : Nat} (h : HJ p j) : comeF σ ch p j = σ p j := by
  unfold HJ at h
  have hs := hI.sz
  have hw := hI.wd (σ 2 0 - 1).toNat
  unfold comeF comeM come1
  rw [up2_no _ (by omega), cpR_no _ (by omega), cpR_no _ (by omega), up2_no _ (by omega), up2_no _ (by omega)]
theorem addL_hi {μ : ST} {s a : Int} (s0 : 0 ≤ s) (s1 : s < 12) (hw : μ 7 s.toNat < 8) {p j : Nat} (h : HJ p j) : addLF μ s a p j = μ p j := by
  unfold HJ at h
  unfold addLF
  rw [up2_no _ (by omega), up2_no _ (by omega), up2_no _ (by omega)]
theorem gap_hi {μ : ST} {s g : Int} (s0 : 0 ≤ s) (s1 : s < 12) (g0 : 0 ≤ g) (hw : μ 7 s.toNat ≤ 8) {p j : Nat} (h : HJ p j) : gapF μ s g p j = μ p j := by
  unfold HJ at h
  unfold gapF gapM
  rw [up2_no _ (by omega), cpR_no _ (by omega), cpR_no _ (by omega)]
theorem rwV_hi {σ : ST} {r s : Int} (r0 : 0 ≤ r) (r1 : r < 12) (v : Nat → Int) {p j : Nat} (h : HJ p j) : rwV σ r s v p j = σ p j := by
  unfold HJ at h
  unfold rwV
  rw [up2_no _ (by omega), up2_no _ (by omega), up2_no _ (by omega), cpR_no _ (by omega)]
theorem st1_hi {σ : ST} (hI : CI σ) {p j : Nat} (h : HJ p j) : st1 σ p j = σ p j := by
  have hr := hI.ro
  have hc := hI.cu
  unfold st1
  by_cases z : σ 10 0 = 0
  · rw [if_pos z]
  · rw [if_neg z]
    obtain ⟨r, hre⟩ : ∃ r : Int, r = if σ 10 1 < σ 10 0 then σ 10 1 else 0 := ⟨_, rfl⟩
    have hr0 : 0 ≤ r ∧ r < 12 := by rw [hre]; split <;> omega
    simp only [← hre]
    rw [up2_no _ (by unfold HJ at h; omega)]
    split
    · exact rwV_hi hr0.1 hr0.2 _ h
    · rfl
theorem itS_hi {σ : ST} (hI : CI σ) {p j : Nat} (h : HJ p j) : ∀ n, itS σ n p j = σ p j
  | 0 => rfl
  | n + 1 => by unfold itS; rw [st1_hi (CI_itS hI n) h, itS_hi hI h n]
theorem adR_hi {σ : ST} (hI : CI σ) (hz : σ 10 0 < 12) (s : Int) {p j : Nat} (h : HJ p j) : adR σ s p j = σ p j := by
  unfold HJ at h
  have hr := hI.ro
  unfold adR adRM
  rw [up2_no _ (by omega), cpR_no _ (by omega), up2_no _ (by omega), up2_no _ (by omega)]
theorem tkF_hi {σ : ST} (hI : CI σ) {g : Int} (g0 : 0 ≤ g) (g1 : g < σ 10 0) {p j : Nat} (h : HJ p j) : tkF σ g p j = σ p j := by
  unfold HJ at h
  have hr := hI.ro
  unfold tkF tkO
  (try simp only [])
  split
  · rw [up2_no _ (by omega), up2_no _ (by omega), cpR_no _ (by omega), cpR_no _ (by omega), cpR_no _ (by omega)]
  · rw [up2_no _ (by omega), cpR_no _ (by omega), cpR_no _ (by omega), cpR_no _ (by omega)]
theorem wrV_hi {σ : ST} (hI : CI σ) {r s a v : Int} (r0 : 0 ≤ r) (r1 : r < 12) {p j : Nat} (h : HJ p j) : wrV σ r s a v p j = σ p j := by
  have hcl := colL_rng hI s.toNat a
  unfold wrV
  (try simp only [])
  rw [up2_no _ (by unfold HJ at h; omega), up2_no _ (by unfold HJ at h; omega)]
  split
  · rfl
  · exact rwV_hi r0 r1 _ h
/-- what a change leaves alone: what lies beyond the arrays' ends, and all rows behind the state -/
theorem aO_hi {σ : ST} (h : KI σ) {v w : Int} {k : Nat} (hp : aP σ v w k) {p j : Nat} (hj : HJ p j) : aO σ v w k p j = σ p j := by
  obtain ⟨hI, hS, hR⟩ := h
  have hz := hI.sz
  have hA := wA_rng w
  have hW := WI_of hI (hS.li hI)
  have hr := hI.ro
  have hw := hI.wd (σ 2 0 - 1).toNat
  match k with
  | 0 =>
    have h1 : σ 2 0 < 12 := hp.1
    have h8 := hW _ hA.1 hA.2 hp.2
    unfold aO exN
    (try simp only [])
    rw [addL_hi (by omega) (by omega) (by rw [up2_no _ (by omega), comeF_7 hI]; exact h8) hj, up2_no _ (by unfold HJ at hj; omega), come_hi hI h1 _ hj]
  | 1 =>
    have h1 : σ 2 0 < 12 := hp.1.1
    have h8 := hW _ hA.1 hA.2 hp.1.2
    unfold aO exC
    (try simp only [])
    rw [addL_hi (by omega) (by omega) (by rw [up2_no _ (by omega), up2_no _ (by omega), comeF_7 hI]; exact h8) hj, up2_no _ (by unfold HJ at hj; omega), up2_no _ (by unfold HJ at hj; omega), come_hi hI h1 _ hj]
  | 2 =>
    have h1 : σ 2 0 < 12 := hp.1
    have hg := plc_rng hI (σ 2 0 - 1).toNat (wA w)
    have hn : plc σ (σ 2 0 - 1).toNat (wA w) ≠ -1 := hp.2
    unfold aO lvO
    (try simp only [])
    rw [gap_hi (by omega) (by omega) (by omega) (by rw [up2_no _ (by omega), up2_no _ (by omega), comeF_7 hI]; exact hw.2) hj, up2_no _ (by unfold HJ at hj; omega), up2_no _ (by unfold HJ at hj; omega), come_hi hI h1 _ hj]
  | 3 =>
    have h1 : σ 2 0 < 12 := hp.1.1
    have hg := plc_rng hI (σ 2 0 - 1).toNat (wA w)
    unfold aO xcL
    (try simp only [])
    rw [up2_no _ (by unfold HJ at hj; omega), come_hi hI h1 _ hj]
  | 4 => exact adR_hi hI hp _ hj
  | 5 => exact itS_hi hI hj _
  | 6 =>
    have hp1 : 0 < σ 10 0 := hp
    have q := rowF_rng hI v (by omega)
    exact tkF_hi hI q.1 q.2 hj
  | 7 =>
    have q := and_3 w
    exact up2_no _ (by unfold HJ at hj; omega)
  | 8 => exact up2_no _ (by unfold HJ at hj; omega)
  | k + 9 =>
    have q := rowF_rng hI v hp.1
    exact wrV_hi hI q.1 (by omega) hj
theorem rwV_102 (σ : ST) (r s : Int) (v : Nat → Int) : rwV σ r s v 10 2 = σ 10 2 + 1 := by unfold rwV; rw [up2_at]
theorem st1_102 (σ : ST) : st1 σ 10 2 ≤ σ 10 2 + 1 := by
  unfold st1
  split
  · omega
  · simp only []
    rw [up2_no _ (by omega)]
    split <;> (split <;> (first | (rw [rwV_102]; omega) | omega))
theorem itS_102 (σ : ST) : ∀ n : Nat, itS σ n 10 2 ≤ σ 10 2 + (n : Int)
  | 0 => by unfold itS; omega
  | n + 1 => by
    have h1 := itS_102 σ n
    have h2 := st1_102 (itS σ n)
    unfold itS
    omega
/-- how many rewritings a call adds -/
theorem aO_102 (σ : ST) (v w : Int) (k : Nat) : aO σ v w k 10 2 ≤ σ 10 2 + 12 := by
  match k with
  | 0 => have e := exN_q (σ := σ) (wA w) (lowI (shrI w 6) 100) (p := 10) (by omega); show exN σ _ _ 10 2 ≤ _; rw [e]; omega
  | 1 => have e := exC_q (σ := σ) (wA w) (wB w) (if andI (shrI w 6) 1 = 0 then -1 else wB w) (p := 10) (by omega); show exC σ _ _ _ 10 2 ≤ _; rw [e]; omega
  | 2 => have e := lvO_q (σ := σ) (wA w) (lowI (shrI w 6) 100) (p := 10) (by omega); show lvO σ _ _ 10 2 ≤ _; rw [e]; omega
  | 3 => have e := xcL_q (σ := σ) (wA w) (wB w) (p := 10) (by omega); show xcL σ _ _ 10 2 ≤ _; rw [e]; omega
  | 4 =>
    show adR σ _ 10 2 ≤ _
    unfold adR adRM
    rw [up2_no _ (by omega), cpR_no _ (by omega), up2_no _ (by omega), up2_no _ (by omega)]
    omega
  | 5 =>
    have q := itS_102 σ (1 + lowI w 12).toNat
    have q2 := lowI_rng w (n := 12) (by omega)
    show itS σ _ 10 2 ≤ _
    omega
  | 6 =>
    show tkF σ _ 10 2 ≤ _
    unfold tkF tkO
    (try simp only [])
    split
    · rw [up2_no _ (by omega), up2_no _ (by omega), cpR_no _ (by omega), cpR_no _ (by omega), cpR_no _ (by omega)]
      omega
    · rw [up2_no _ (by omega), cpR_no _ (by omega), cpR_no _ (by omega), cpR_no _ (by omega)]
      omega
  | 7 => show up2 σ 14 _ _ 10 2 ≤ _; rw [up2_no _ (by omega)]; omega
  | 8 => show up2 σ 2 1 _ 10 2 ≤ _; rw [up2_no _ (by omega)]; omega
  | k + 9 =>
    show wrV σ _ _ _ _ 10 2 ≤ _
    unfold wrV
    (try simp only [])
    rw [up2_no _ (by omega), up2_no _ (by omega)]
    split
    · omega
    · rw [rwV_102]; omega
/-- a saved state is the state, where calls look -/
theorem svF_16 {σ : ST} {b : Nat → Nat} (hB : okB b) (hN : 0 ≤ σ 16 1 ∧ σ 16 1 ≤ 6) : svF σ b 16 1 = if σ 16 1 < 6 then σ 16 1 + 1 else 6 := by
  unfold svF
  split
  · rw [up2_at]
  · rw [up2_at]; omega
theorem svF_rw {σ : ST} {b : Nat → Nat} (hB : okB b) (hN : 0 ≤ σ 16 1 ∧ σ 16 1 ≤ 6) {p : Nat} (hp : p < 16) : svF σ b p = σ p := svF_row hB hN (Or.inl hp)
theorem KI_sv {σ : ST} {b : Nat → Nat} (hB : okB b) (hN : 0 ≤ σ 16 1 ∧ σ 16 1 ≤ 6) (h : KI σ) : KI (svF σ b) :=
  ⟨CI_sv hB hN h.1, SH_of h.2.1 (by rw [svF_rw hB hN (by omega)]) (fun p _ _ => svF_rw hB hN (by omega)), RW_of h.2.2 (fun p hp => svF_rw hB hN (by omega)) (by rw [svF_rw hB hN (by omega)]; exact Int.le_refl _) (by rw [svF_rw hB hN (by omega)]) (by rw [svF_rw hB hN (by omega)]) (by rw [svF_rw hB hN (by omega)])⟩
theorem svF_E {σ σ' : ST} {b b' : Nat → Nat} (e : E σ σ') (hB : okB b) (hB' : okB b') (hN : 0 ≤ σ 16 1 ∧ σ 16 1 ≤ 6) : E (svF σ b) (svF σ' b') := by
  have hN' : 0 ≤ σ' 16 1 ∧ σ' 16 1 ≤ 6 := by rw [← e.r16]; exact hN
  refine ⟨fun p a c => ?_, ?_, ?_, ?_⟩
  · rw [svF_rw hB hN (by omega), svF_rw hB' hN' (by omega)]; exact e.1 p a c
  · rw [svF_16 hB hN, svF_16 hB' hN', e.r16]
  · rw [svF_row hB hN (Or.inr (by omega)), svF_row hB' hN' (Or.inr (by omega))]; exact e.r108
  · rw [svF_row hB hN (Or.inr (by omega)), svF_row hB' hN' (Or.inr (by omega))]; exact e.r109
theorem okB_sv {σ : ST} {b : Nat → Nat} (h : okB b) : okB (svB σ b) := by
  unfold svB
  split
  · exact h
  · exact okB_rot h
theorem aP_sv {σ : ST} {b : Nat → Nat} (hB : okB b) (hN : 0 ≤ σ 16 1 ∧ σ 16 1 ≤ 6) {v w : Int} {k : Nat} (h : aP σ v w k) : aP (svF σ b) v w k := by
  have e : ∀ p, p < 16 → svF σ b p = σ p := fun p hp => svF_rw hB hN hp
  have hc : ∀ s a, colL (svF σ b) s a = colL σ s a := fun s a => colL_sv hB hN s a
  have hr : ∀ r s a, refu (svF σ b) r s a = refu σ r s a := fun r s a => by unfold refu; rw [hc, pcl_sv hB hN, e 11 (by omega)]
  have h1 : rowF (svF σ b) v = rowF σ v := by unfold rowF; rw [e 10 (by omega)]
  have h2 : shF (svF σ b) v = shF σ v := by unfold shF; rw [e 2 (by omega)]
  match k with
  | 0 => unfold aP at h ⊢; rw [e 2 (by omega), plc_sv hB hN]; exact h
  | 1 => unfold aP at h ⊢; rw [e 2 (by omega), plc_sv hB hN, plc_sv hB hN]; exact h
  | 2 => unfold aP at h ⊢; rw [e 2 (by omega), plc_sv hB hN]; exact h
  | 3 => unfold aP at h ⊢; rw [e 2 (by omega), plc_sv hB hN, plc_sv hB hN]; exact h
  | 4 => unfold aP at h ⊢; rw [e 10 (by omega)]; exact h
  | 5 => trivial
  | 6 => unfold aP at h ⊢; rw [e 10 (by omega)]; exact h
  | 7 => trivial
  | 8 => trivial
  | k + 9 => unfold aP at h ⊢; rw [e 10 (by omega), h1, h2, hr]; exact h
/-- undo brings the state back -/
theorem un_E {σ σ1 : ST} {b : Nat → Nat} (hB : okB b) (hN : 0 ≤ σ 16 1 ∧ σ 16 1 < 6) (hh : ∀ p j, HJ p j → σ1 p j = svF σ b p j) : E (up2 (tkSt σ1 (b (σ1 16 1 - 1).toNat) 1) 16 1 (σ1 16 1 - 1)) σ := by
  have hN6 : 0 ≤ σ 16 1 ∧ σ 16 1 ≤ 6 := by omega
  have hr : ∀ p, 16 ≤ p → σ1 p = svF σ b p := fun p hp => by funext j; exact hh p j (HJ_16 hp)
  have e16 : σ1 16 1 = σ 16 1 + 1 := by rw [hr 16 (by omega), svF_16 hB hN6, if_pos hN.2]
  rw [e16, show (σ 16 1 + 1 - 1).toNat = (σ 16 1).toNat by omega]
  obtain ⟨hb1, hb2⟩ := hB (σ 16 1).toNat (by omega)
  obtain ⟨B, eB⟩ : ∃ B, B = b (σ 16 1).toNat := ⟨_, rfl⟩
  rw [← eB] at hb1 hb2 ⊢
  have rB := blk_rng hb1
  have one : blkP 1 := Or.inl rfl
  have eF : svF σ b = up2 (tkSt σ 1 B) 16 1 (σ 16 1 + 1) := by unfold svF; rw [if_pos hN.2, ← eB]
  refine ⟨fun r a c => ?_, ?_, ?_, ?_⟩
  · funext j
    rw [up2_off _ (by omega)]
    have q := tkSt_at (σ := σ1) one hb1 hb2 a c (i := j)
    rw [bk_1 _ (by omega)] at q
    rw [q]
    by_cases g : j < lnK r
    · rw [if_pos g]
      show σ1 (r + B - 1) j = σ r j
      rw [hr _ (by omega), eF, up2_off _ (by omega)]
      have q2 := tkSt_at (σ := σ) hb1 one (fun z => hb2 z.symm) a c (i := j)
      rw [if_pos g, bk_1 σ (by omega)] at q2
      exact q2
    · rw [if_neg g, bk_1 _ (by omega), hh r j (HJ_of a c g), svF_rw hB hN6 (by omega)]
  · rw [up2_at]; omega
  · rw [up2_off _ (by omega), tkSt_off σ1 hb1 one 108 (by omega), hr 108 (by omega), svF_row hB hN6 (Or.inr (by omega))]
  · rw [up2_off _ (by omega), tkSt_off σ1 hb1 one 109 (by omega), hr 109 (by omega), svF_row hB hN6 (Or.inr (by omega))]
