/-! orders: the scratch row, the text, what a complete text holds -/
theorem cpR_srg (σ : ST) (f : Nat → Int) {p : Nat} (lo n : Nat) (g : Nat → Int) (h : p ≠ 15) : cpR (sr σ 15 f) p lo n g = sr (cpR σ p lo n g) 15 f := by
  funext a b
  show (if a = p ∧ lo ≤ b ∧ b < lo + n then g (b - lo) else if a = 15 then f b else σ a b) = (if a = 15 then f b else if a = p ∧ lo ≤ b ∧ b < lo + n then g (b - lo) else σ a b)
  by_cases q : a = 15
  · rw [if_neg (fun z => by omega), if_pos q, if_pos q]
  · rw [if_neg q, if_neg q]
theorem comeF_sr (σ : ST) (f : Nat → Int) (ch : Int) : comeF (sr σ 15 f) ch = sr (comeF σ ch) 15 f := by
  unfold comeF comeM come1
  simp only [sr_2, sr_7, sr_8, sr_9]
  rw [up2_srn _ _ _ _ (by decide), up2_srn _ _ _ _ (by decide), cpR_srg _ _ _ _ _ (by decide), cpR_srg _ _ _ _ _ (by decide), up2_srn _ _ _ _ (by decide)]
theorem addLF_sr (σ : ST) (f : Nat → Int) (s a : Int) : addLF (sr σ 15 f) s a = sr (addLF σ s a) 15 f := by
  unfold addLF
  simp only [sr_7]
  rw [up2_srn _ _ _ _ (by decide), up2_srn _ _ _ _ (by decide), up2_srn _ _ _ _ (by decide)]
theorem gapF_sr (σ : ST) (f : Nat → Int) (s g : Int) : gapF (sr σ 15 f) s g = sr (gapF σ s g) 15 f := by
  unfold gapF gapM
  simp only [sr_7, sr_8, sr_9]
  rw [cpR_srg _ _ _ _ _ (by decide), cpR_srg _ _ _ _ _ (by decide), up2_srn _ _ _ _ (by decide)]
theorem exN_sr (σ : ST) (f : Nat → Int) (a m : Int) : exN (sr σ 15 f) a m = sr (exN σ a m) 15 f := by
  unfold exN
  simp only [sr_2]
  rw [comeF_sr, up2_srn _ _ _ _ (by decide), addLF_sr]
theorem exC_sr (σ : ST) (f : Nat → Int) (a b c : Int) : exC (sr σ 15 f) a b c = sr (exC σ a b c) 15 f := by
  unfold exC
  simp only [sr_2, colL_sr]
  rw [comeF_sr, up2_srn _ _ _ _ (by decide), up2_srn _ _ _ _ (by decide), addLF_sr]
theorem lvO_sr (σ : ST) (f : Nat → Int) (a m : Int) : lvO (sr σ 15 f) a m = sr (lvO σ a m) 15 f := by
  unfold lvO
  simp only [sr_2, sr_8, plc_sr]
  rw [comeF_sr, up2_srn _ _ _ _ (by decide), up2_srn _ _ _ _ (by decide), gapF_sr]
theorem xcL_sr (σ : ST) (f : Nat → Int) (a b : Int) : xcL (sr σ 15 f) a b = sr (xcL σ a b) 15 f := by
  unfold xcL
  simp only [sr_2, plc_sr]
  rw [comeF_sr, up2_srn _ _ _ _ (by decide)]
theorem adR_sr (σ : ST) (f : Nat → Int) (s : Int) : adR (sr σ 15 f) s = sr (adR σ s) 15 f := by
  unfold adR adRM
  simp only [sr_10]
  rw [up2_srn _ _ _ _ (by decide), up2_srn _ _ _ _ (by decide), cpR_srg _ _ _ _ _ (by decide), up2_srn _ _ _ _ (by decide)]
theorem itS_sr (σ : ST) (f : Nat → Int) : ∀ n, itS (sr σ 15 f) n = sr (itS σ n) 15 f
  | 0 => rfl
  | n + 1 => by unfold itS; rw [itS_sr σ f n, st1_sr]
theorem nbF_sr (σ : ST) (f : Nat → Int) (i : Int) : ∀ n, nbF (sr σ 15 f) i n = nbF σ i n
  | 0 => rfl
  | n + 1 => by unfold nbF; rw [nbF_sr σ f i n, cdF_sr]
theorem letF_sr (σ : ST) (f : Nat → Int) (i : Int) : letF (sr σ 15 f) i = letF σ i := by unfold letF; rw [cdF_sr]
theorem afW_sr (σ : ST) (f : Nat → Int) (x y : Int) : afW (sr σ 15 f) x y = afW σ x y := by unfold afW; rw [letF_sr]
theorem ite_sr (c : Prop) [Decidable c] (σ τ : ST) (f : Nat → Int) : (if c then sr σ 15 f else sr τ 15 f) = sr (if c then σ else τ) 15 f := by split <;> rfl
theorem exO_sr (σ : ST) (f : Nat → Int) (x y : Int) : exO (sr σ 15 f) x y = sr (exO σ x y) 15 f := by
  unfold exO
  simp only [cdF_sr, letF_sr, nbF_sr, afW_sr, plc_sr, sr_2, sr_10, exN_sr, exC_sr, lvO_sr, xcL_sr, adR_sr, itS_sr, ite_sr]
theorem exA_sr (σ : ST) (f : Nat → Int) (x y : Int) : exA (sr σ 15 f) x y = exA σ x y := by
  unfold exA
  simp only [cdF_sr, letF_sr, afW_sr, plc_sr, sr_2, sr_10]
theorem exA_01 (σ : ST) (x y : Int) : exA σ x y = 0 ∨ exA σ x y = 1 := by
  unfold exA
  (repeat' split) <;> omega
theorem st1_off (σ : ST) {p : Nat} (hp : 16 ≤ p) : st1 σ p = σ p := by
  unfold st1 rwV
  split
  · rfl
  · simp only []
    (repeat' split) <;> simp (disch := omega) only [up2_off, cpR_off]
theorem itS_off (σ : ST) {p : Nat} (hp : 16 ≤ p) : ∀ n, itS σ n p = σ p
  | 0 => rfl
  | n + 1 => by unfold itS; rw [st1_off _ hp, itS_off σ hp n]
theorem exO_off (σ : ST) (x y : Int) {p : Nat} (hp : 16 ≤ p) : exO σ x y p = σ p := by
  unfold exO
  (repeat' split) <;> first | rfl | exact itS_off σ hp _ | (unfold exN addLF comeF comeM come1; simp (disch := omega) only [up2_off, cpR_off]; done) | (unfold exC addLF comeF comeM come1; simp (disch := omega) only [up2_off, cpR_off]; done) | (unfold lvO gapF gapM comeF comeM come1; simp (disch := omega) only [up2_off, cpR_off]; done) | (unfold xcL comeF comeM come1; simp (disch := omega) only [up2_off, cpR_off]; done) | (unfold adR adRM; simp (disch := omega) only [up2_off, cpR_off]; done)
theorem st1_r {σ : ST} {p : Nat} (hp : p < 10) : st1 σ p = σ p := by
  unfold st1 rwV
  split
  · rfl
  · simp only []
    (repeat' split) <;> simp (disch := omega) only [up2_off, cpR_off]
theorem itS_r {σ : ST} {p : Nat} (hp : p < 10) : ∀ n, itS σ n p = σ p
  | 0 => rfl
  | n + 1 => by unfold itS; rw [st1_r hp, itS_r hp n]

def IV (σ : ST) (f k : Int) : Nat → Prop
  | 0 => k = f
  | 1 => k = f + 1 ∧ cdF σ f = 43
  | 2 => k = f + 2 ∧ cdF σ f = 43 ∧ 97 ≤ cdF σ (f + 1) ∧ cdF σ (f + 1) ≤ 104
  | 3 => k = f + 3 ∧ cdF σ f = 43 ∧ 97 ≤ cdF σ (f + 1) ∧ cdF σ (f + 1) ≤ 104 ∧ cdF σ (f + 2) = 58
  | 4 => k = f + 4 ∧ cdF σ f = 43 ∧ 97 ≤ cdF σ (f + 1) ∧ cdF σ (f + 1) ≤ 104 ∧ cdF σ (f + 2) = 58
  | 5 => k = f + 5 ∧ cdF σ f = 43 ∧ 97 ≤ cdF σ (f + 1) ∧ cdF σ (f + 1) ≤ 104 ∧ cdF σ (f + 2) = 58
  | 6 => k = f + 1 ∧ cdF σ f = 45
  | 7 => k = f + 2 ∧ cdF σ f = 45 ∧ 97 ≤ cdF σ (f + 1) ∧ cdF σ (f + 1) ≤ 104
  | 8 => k = f + 3 ∧ (cdF σ f = 43 ∨ cdF σ f = 45) ∧ 97 ≤ cdF σ (f + 1) ∧ cdF σ (f + 1) ≤ 104 ∧ cdF σ (f + 2) = 61
  | 9 => k = f + 4 ∧ (cdF σ f = 43 ∨ cdF σ f = 45) ∧ 97 ≤ cdF σ (f + 1) ∧ cdF σ (f + 1) ≤ 104 ∧ cdF σ (f + 2) = 61 ∧ 49 ≤ cdF σ (f + 3) ∧ cdF σ (f + 3) ≤ 57
  | 10 => k = f + 1 ∧ cdF σ f = 62
  | 11 => k = f + 2 ∧ cdF σ f = 62 ∧ 97 ≤ cdF σ (f + 1) ∧ cdF σ (f + 1) ≤ 104
  | 12 => k = f + 1 ∧ cdF σ f = 42
  | 13 => k = f + 2 ∧ cdF σ f = 42 ∧ cdF σ (f + 1) = 49
  | 14 => (k = f + 1 ∧ cdF σ f = 110) ∨ (k = f + 6 ∧ cdF σ f = 43 ∧ 97 ≤ cdF σ (f + 1) ∧ cdF σ (f + 1) ≤ 104 ∧ cdF σ (f + 2) = 58) ∨ (k = f + 4 ∧ (cdF σ f = 43 ∨ cdF σ f = 45) ∧ 97 ≤ cdF σ (f + 1) ∧ cdF σ (f + 1) ≤ 104 ∧ cdF σ (f + 2) = 61 ∧ cdF σ (f + 3) = 48) ∨ (k = f + 5 ∧ (cdF σ f = 43 ∨ cdF σ f = 45) ∧ 97 ≤ cdF σ (f + 1) ∧ cdF σ (f + 1) ≤ 104 ∧ cdF σ (f + 2) = 61 ∧ 49 ≤ cdF σ (f + 3) ∧ cdF σ (f + 3) ≤ 57 ∧ 48 ≤ cdF σ (f + 4) ∧ cdF σ (f + 4) ≤ 57) ∨ (k = f + 3 ∧ cdF σ f = 62 ∧ 97 ≤ cdF σ (f + 1) ∧ cdF σ (f + 1) ≤ 104 ∧ 97 ≤ cdF σ (f + 2) ∧ cdF σ (f + 2) ≤ 104) ∨ (k = f + 2 ∧ cdF σ f = 42 ∧ 50 ≤ cdF σ (f + 1) ∧ cdF σ (f + 1) ≤ 57) ∨ (k = f + 3 ∧ cdF σ f = 42 ∧ cdF σ (f + 1) = 49 ∧ 48 ≤ cdF σ (f + 2) ∧ cdF σ (f + 2) ≤ 50)
  | _ => False
def nxB (s c t : Int) : Bool := decide (t = -1) || (decide (c = 59) || (decide (s = 0 ∧ (c = 43) ∧ t = 1) || (decide (s = 0 ∧ (c = 45) ∧ t = 6) || (decide (s = 0 ∧ (c = 62) ∧ t = 10) || (decide (s = 0 ∧ (c = 110) ∧ t = 14) || (decide (s = 0 ∧ (c = 42) ∧ t = 12) || (decide (s = 1 ∧ (97 ≤ c ∧ c ≤ 104) ∧ t = 2) || (decide (s = 2 ∧ (c = 58) ∧ t = 3) || (decide (s = 2 ∧ (c = 61) ∧ t = 8) || (decide (s = 3 ∧ (97 ≤ c ∧ c ≤ 104) ∧ t = 4) || (decide (s = 4 ∧ (c = 43) ∧ t = 5) || (decide (s = 5 ∧ (97 ≤ c ∧ c ≤ 104) ∧ t = 14) || (decide (s = 6 ∧ (97 ≤ c ∧ c ≤ 104) ∧ t = 7) || (decide (s = 7 ∧ (c = 61) ∧ t = 8) || (decide (s = 8 ∧ (c = 48) ∧ t = 14) || (decide (s = 8 ∧ (49 ≤ c ∧ c ≤ 57) ∧ t = 9) || (decide (s = 9 ∧ (48 ≤ c ∧ c ≤ 57) ∧ t = 14) || (decide (s = 10 ∧ (97 ≤ c ∧ c ≤ 104) ∧ t = 11) || (decide (s = 11 ∧ (97 ≤ c ∧ c ≤ 104) ∧ t = 14) || (decide (s = 12 ∧ (c = 49) ∧ t = 13) || (decide (s = 12 ∧ (50 ≤ c ∧ c ≤ 57) ∧ t = 14) || (decide (s = 13 ∧ (48 ≤ c ∧ c ≤ 50) ∧ t = 14)))))))))))))))))))))))
theorem nx_all : ∀ s : Nat, s < 15 → ∀ c : Nat, c < 128 → nxB (s : Int) ((c : Int) - 1) (nxF (s : Int) ((c : Int) - 1)) = true := by decide +kernel
theorem nx_tr {s c t : Int} (s0 : 0 ≤ s) (s1 : s ≤ 14) (c0 : -1 ≤ c) (c1 : c ≤ 126) (h : nxF s c = t) (ht : t ≠ -1) (hc : c ≠ 59) : (s = 0 ∧ (c = 43) ∧ t = 1) ∨ (s = 0 ∧ (c = 45) ∧ t = 6) ∨ (s = 0 ∧ (c = 62) ∧ t = 10) ∨ (s = 0 ∧ (c = 110) ∧ t = 14) ∨ (s = 0 ∧ (c = 42) ∧ t = 12) ∨ (s = 1 ∧ (97 ≤ c ∧ c ≤ 104) ∧ t = 2) ∨ (s = 2 ∧ (c = 58) ∧ t = 3) ∨ (s = 2 ∧ (c = 61) ∧ t = 8) ∨ (s = 3 ∧ (97 ≤ c ∧ c ≤ 104) ∧ t = 4) ∨ (s = 4 ∧ (c = 43) ∧ t = 5) ∨ (s = 5 ∧ (97 ≤ c ∧ c ≤ 104) ∧ t = 14) ∨ (s = 6 ∧ (97 ≤ c ∧ c ≤ 104) ∧ t = 7) ∨ (s = 7 ∧ (c = 61) ∧ t = 8) ∨ (s = 8 ∧ (c = 48) ∧ t = 14) ∨ (s = 8 ∧ (49 ≤ c ∧ c ≤ 57) ∧ t = 9) ∨ (s = 9 ∧ (48 ≤ c ∧ c ≤ 57) ∧ t = 14) ∨ (s = 10 ∧ (97 ≤ c ∧ c ≤ 104) ∧ t = 11) ∨ (s = 11 ∧ (97 ≤ c ∧ c ≤ 104) ∧ t = 14) ∨ (s = 12 ∧ (c = 49) ∧ t = 13) ∨ (s = 12 ∧ (50 ≤ c ∧ c ≤ 57) ∧ t = 14) ∨ (s = 13 ∧ (48 ≤ c ∧ c ≤ 50) ∧ t = 14) := by
  have q := nx_all s.toNat (by omega) (c + 1).toNat (by omega)
  rw [show ((s.toNat : Nat) : Int) = s by omega, show (((c + 1).toNat : Nat) : Int) - 1 = c by omega, h] at q
  unfold nxB at q
  simp only [Bool.or_eq_true, decide_eq_true_eq] at q
  exact (q.resolve_left ht).resolve_left hc

theorem IV_step {σ : ST} {f k s t : Int} (s0 : 0 ≤ s) (s1 : s ≤ 14) (hT : TI σ) (h : IV σ f k s.toNat) (hn : nxF s (cdF σ k) = t) (ht : t ≠ -1) (hc : cdF σ k ≠ 59) : IV σ f (k + 1) t.toNat := by
  have hcr := cdF_rng hT k
  rcases nx_tr s0 s1 hcr.1 hcr.2 hn ht hc with ⟨rfl, q, rfl⟩ | ⟨rfl, q, rfl⟩ | ⟨rfl, q, rfl⟩ | ⟨rfl, q, rfl⟩ | ⟨rfl, q, rfl⟩ | ⟨rfl, q, rfl⟩ | ⟨rfl, q, rfl⟩ | ⟨rfl, q, rfl⟩ | ⟨rfl, q, rfl⟩ | ⟨rfl, q, rfl⟩ | ⟨rfl, q, rfl⟩ | ⟨rfl, q, rfl⟩ | ⟨rfl, q, rfl⟩ | ⟨rfl, q, rfl⟩ | ⟨rfl, q, rfl⟩ | ⟨rfl, q, rfl⟩ | ⟨rfl, q, rfl⟩ | ⟨rfl, q, rfl⟩ | ⟨rfl, q, rfl⟩ | ⟨rfl, q, rfl⟩ | ⟨rfl, q, rfl⟩
  · have h2 : k = f := h
    have hkf : k = f := h2
    subst hkf
    show k + 1 = k + 1 ∧ cdF σ k = 43
    omega
  · have h2 : k = f := h
    have hkf : k = f := h2
    subst hkf
    show k + 1 = k + 1 ∧ cdF σ k = 45
    omega
  · have h2 : k = f := h
    have hkf : k = f := h2
    subst hkf
    show k + 1 = k + 1 ∧ cdF σ k = 62
    omega
  · have h2 : k = f := h
    have hkf : k = f := h2
    subst hkf
    exact Or.inl (by omega)
  · have h2 : k = f := h
    have hkf : k = f := h2
    subst hkf
    show k + 1 = k + 1 ∧ cdF σ k = 42
    omega
  · have h2 : k = f + 1 ∧ cdF σ f = 43 := h
    obtain ⟨hk, hr⟩ := h2
    subst hk
    show (f + 1) + 1 = f + 2 ∧ cdF σ f = 43 ∧ 97 ≤ cdF σ (f + 1) ∧ cdF σ (f + 1) ≤ 104
    omega
  · have h2 : k = f + 2 ∧ cdF σ f = 43 ∧ 97 ≤ cdF σ (f + 1) ∧ cdF σ (f + 1) ≤ 104 := h
    obtain ⟨hk, hr⟩ := h2
    subst hk
    show (f + 2) + 1 = f + 3 ∧ cdF σ f = 43 ∧ 97 ≤ cdF σ (f + 1) ∧ cdF σ (f + 1) ≤ 104 ∧ cdF σ (f + 2) = 58
    omega
  · have h2 : k = f + 2 ∧ cdF σ f = 43 ∧ 97 ≤ cdF σ (f + 1) ∧ cdF σ (f + 1) ≤ 104 := h
    obtain ⟨hk, hr⟩ := h2
    subst hk
    show (f + 2) + 1 = f + 3 ∧ (cdF σ f = 43 ∨ cdF σ f = 45) ∧ 97 ≤ cdF σ (f + 1) ∧ cdF σ (f + 1) ≤ 104 ∧ cdF σ (f + 2) = 61
    omega
  · have h2 : k = f + 3 ∧ cdF σ f = 43 ∧ 97 ≤ cdF σ (f + 1) ∧ cdF σ (f + 1) ≤ 104 ∧ cdF σ (f + 2) = 58 := h
    obtain ⟨hk, hr⟩ := h2
    subst hk
    show (f + 3) + 1 = f + 4 ∧ cdF σ f = 43 ∧ 97 ≤ cdF σ (f + 1) ∧ cdF σ (f + 1) ≤ 104 ∧ cdF σ (f + 2) = 58
    omega
  · have h2 : k = f + 4 ∧ cdF σ f = 43 ∧ 97 ≤ cdF σ (f + 1) ∧ cdF σ (f + 1) ≤ 104 ∧ cdF σ (f + 2) = 58 := h
    obtain ⟨hk, hr⟩ := h2
    subst hk
    show (f + 4) + 1 = f + 5 ∧ cdF σ f = 43 ∧ 97 ≤ cdF σ (f + 1) ∧ cdF σ (f + 1) ≤ 104 ∧ cdF σ (f + 2) = 58
    omega
  · have h2 : k = f + 5 ∧ cdF σ f = 43 ∧ 97 ≤ cdF σ (f + 1) ∧ cdF σ (f + 1) ≤ 104 ∧ cdF σ (f + 2) = 58 := h
    obtain ⟨hk, hr⟩ := h2
    subst hk
    exact Or.inr (Or.inl (by omega))
  · have h2 : k = f + 1 ∧ cdF σ f = 45 := h
    obtain ⟨hk, hr⟩ := h2
    subst hk
    show (f + 1) + 1 = f + 2 ∧ cdF σ f = 45 ∧ 97 ≤ cdF σ (f + 1) ∧ cdF σ (f + 1) ≤ 104
    omega
  · have h2 : k = f + 2 ∧ cdF σ f = 45 ∧ 97 ≤ cdF σ (f + 1) ∧ cdF σ (f + 1) ≤ 104 := h
    obtain ⟨hk, hr⟩ := h2
    subst hk
    show (f + 2) + 1 = f + 3 ∧ (cdF σ f = 43 ∨ cdF σ f = 45) ∧ 97 ≤ cdF σ (f + 1) ∧ cdF σ (f + 1) ≤ 104 ∧ cdF σ (f + 2) = 61
    omega
  · have h2 : k = f + 3 ∧ (cdF σ f = 43 ∨ cdF σ f = 45) ∧ 97 ≤ cdF σ (f + 1) ∧ cdF σ (f + 1) ≤ 104 ∧ cdF σ (f + 2) = 61 := h
    obtain ⟨hk, hr⟩ := h2
    subst hk
    exact Or.inr (Or.inr (Or.inl (by omega)))
  · have h2 : k = f + 3 ∧ (cdF σ f = 43 ∨ cdF σ f = 45) ∧ 97 ≤ cdF σ (f + 1) ∧ cdF σ (f + 1) ≤ 104 ∧ cdF σ (f + 2) = 61 := h
    obtain ⟨hk, hr⟩ := h2
    subst hk
    show (f + 3) + 1 = f + 4 ∧ (cdF σ f = 43 ∨ cdF σ f = 45) ∧ 97 ≤ cdF σ (f + 1) ∧ cdF σ (f + 1) ≤ 104 ∧ cdF σ (f + 2) = 61 ∧ 49 ≤ cdF σ (f + 3) ∧ cdF σ (f + 3) ≤ 57
    omega
  · have h2 : k = f + 4 ∧ (cdF σ f = 43 ∨ cdF σ f = 45) ∧ 97 ≤ cdF σ (f + 1) ∧ cdF σ (f + 1) ≤ 104 ∧ cdF σ (f + 2) = 61 ∧ 49 ≤ cdF σ (f + 3) ∧ cdF σ (f + 3) ≤ 57 := h
    obtain ⟨hk, hr⟩ := h2
    subst hk
    exact Or.inr (Or.inr (Or.inr (Or.inl (by omega))))
  · have h2 : k = f + 1 ∧ cdF σ f = 62 := h
    obtain ⟨hk, hr⟩ := h2
    subst hk
    show (f + 1) + 1 = f + 2 ∧ cdF σ f = 62 ∧ 97 ≤ cdF σ (f + 1) ∧ cdF σ (f + 1) ≤ 104
    omega
  · have h2 : k = f + 2 ∧ cdF σ f = 62 ∧ 97 ≤ cdF σ (f + 1) ∧ cdF σ (f + 1) ≤ 104 := h
    obtain ⟨hk, hr⟩ := h2
    subst hk
    exact Or.inr (Or.inr (Or.inr (Or.inr (Or.inl (by omega)))))
  · have h2 : k = f + 1 ∧ cdF σ f = 42 := h
    obtain ⟨hk, hr⟩ := h2
    subst hk
    show (f + 1) + 1 = f + 2 ∧ cdF σ f = 42 ∧ cdF σ (f + 1) = 49
    omega
  · have h2 : k = f + 1 ∧ cdF σ f = 42 := h
    obtain ⟨hk, hr⟩ := h2
    subst hk
    exact Or.inr (Or.inr (Or.inr (Or.inr (Or.inr (Or.inl (by omega))))))
  · have h2 : k = f + 2 ∧ cdF σ f = 42 ∧ cdF σ (f + 1) = 49 := h
    obtain ⟨hk, hr⟩ := h2
    subst hk
    exact Or.inr (Or.inr (Or.inr (Or.inr (Or.inr (Or.inr ((by omega)))))))
