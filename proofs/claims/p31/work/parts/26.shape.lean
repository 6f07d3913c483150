/-! p31: what holds of the shapes, kept by what changes -/
theorem up2_no (σ : ST) {p k a b : Nat} {v : Int} (h : ¬ (a = p ∧ b = k)) : up2 σ p k v a b = σ a b := by unfold up2; rw [if_neg h]
theorem cpR_no (σ : ST) {p lo n a b : Nat} {f : Nat → Int} (h : ¬ (a = p ∧ lo ≤ b ∧ b < lo + n)) : cpR σ p lo n f a b = σ a b := by unfold cpR; rw [if_neg h]
theorem cpR_yes (σ : ST) {p lo n b : Nat} {f : Nat → Int} (h : lo ≤ b ∧ b < lo + n) : cpR σ p lo n f p b = f (b - lo) := by unfold cpR; rw [if_pos ⟨rfl, h⟩]
theorem come_o {c : ST} (h : CI c) (ch : Int) {p i : Nat} (p2 : p ≠ 2) (h8 : p < 8 → i < (c 2 0).toNat) (h9 : p < 10 → i < 8 * (c 2 0).toNat) : comeF c ch p i = c p i := by
  unfold comeF comeM come1
  rw [up2_no _ (by omega), cpR_no _ (by omega), cpR_no _ (by omega), up2_no _ (by omega), up2_no _ (by omega)]
theorem come_21 (c : ST) (ch : Int) : comeF c ch 2 1 = c 2 1 := by
  unfold comeF comeM come1
  rw [up2_no _ (by omega), cpR_no _ (by omega), cpR_no _ (by omega), up2_no _ (by omega), up2_no _ (by omega)]
theorem come_3 {c : ST} (ch : Int) : comeF c ch 3 (c 2 0).toNat = ch := by
  unfold comeF comeM come1
  rw [up2_no _ (by omega), cpR_no _ (by omega), cpR_no _ (by omega), up2_no _ (by omega), up2_at]
theorem addL_o {μ : ST} {s a : Int} {p i : Nat} (h8 : p < 8 → i < s.toNat) (h9 : p < 10 → i < 8 * s.toNat) : addLF μ s a p i = μ p i := by
  unfold addLF
  rw [up2_no _ (by omega), up2_no _ (by omega), up2_no _ (by omega)]
theorem addL_q {μ : ST} {s a : Int} {p i : Nat} (h : p ≠ 7 ∧ p ≠ 8 ∧ p ≠ 9) : addLF μ s a p i = μ p i := by
  unfold addLF
  rw [up2_no _ (by omega), up2_no _ (by omega), up2_no _ (by omega)]
theorem addL_7 {μ : ST} {s a : Int} : addLF μ s a 7 s.toNat = μ 7 s.toNat + 1 := by
  unfold addLF
  rw [up2_no _ (by omega), up2_no _ (by omega), up2_at]
theorem addL_8 {μ : ST} {s a : Int} (k : Nat) : addLF μ s a 8 (8 * s.toNat + k) = if k = (μ 7 s.toNat).toNat then s else μ 8 (8 * s.toNat + k) := by
  unfold addLF
  rw [up2_no _ (by omega)]
  by_cases g : k = (μ 7 s.toNat).toNat
  · rw [if_pos g, g, up2_at]
  · rw [if_neg g, up2_no _ (by omega), up2_no _ (by omega)]
theorem addL_9 {μ : ST} {s a : Int} (k : Nat) : addLF μ s a 9 (8 * s.toNat + k) = if k = (μ 7 s.toNat).toNat then a else μ 9 (8 * s.toNat + k) := by
  unfold addLF
  by_cases g : k = (μ 7 s.toNat).toNat
  · rw [if_pos g, g, up2_at]
  · rw [if_neg g, up2_no _ (by omega), up2_no _ (by omega), up2_no _ (by omega)]
theorem gap_o {μ : ST} {s g : Int} {p i : Nat} (g0 : 0 ≤ g) (s0 : 0 ≤ s) (h8 : p < 8 → i < s.toNat) (h9 : p < 10 → i < 8 * s.toNat) : gapF μ s g p i = μ p i := by
  unfold gapF gapM
  rw [up2_no _ (by omega), cpR_no _ (by omega), cpR_no _ (by omega)]
theorem gap_q {μ : ST} {s g : Int} {p : Nat} (h : p ≠ 7 ∧ p ≠ 8 ∧ p ≠ 9) : gapF μ s g p = μ p := by
  unfold gapF gapM
  rw [up2_off _ (by omega), cpR_off _ _ _ _ (by omega), cpR_off _ _ _ _ (by omega)]
theorem gap_7 {μ : ST} {s g : Int} : gapF μ s g 7 s.toNat = μ 7 s.toNat - 1 := by unfold gapF; rw [up2_at]
theorem gap_8 {μ : ST} {s g : Int} (g0 : 0 ≤ g) {k : Nat} (hk : (k : Int) < μ 7 s.toNat - 1) : gapF μ s g 8 (8 * s.toNat + k) = if (k : Int) < g then μ 8 (8 * s.toNat + k) else μ 8 (8 * s.toNat + (k + 1)) := by
  unfold gapF gapM
  rw [up2_no _ (by omega), cpR_no _ (by omega)]
  by_cases f : (k : Int) < g
  · rw [if_pos f, cpR_no _ (by omega)]
  · rw [if_neg f, cpR_yes _ (by omega)]
    show μ 8 (8 * s.toNat + (g.toNat + (8 * s.toNat + k - (8 * s.toNat + g.toNat)) + 1)) = _
    congr 1
    omega
theorem gap_9 {μ : ST} {s g : Int} (g0 : 0 ≤ g) {k : Nat} (hk : (k : Int) < μ 7 s.toNat - 1) : gapF μ s g 9 (8 * s.toNat + k) = if (k : Int) < g then μ 9 (8 * s.toNat + k) else μ 9 (8 * s.toNat + (k + 1)) := by
  unfold gapF gapM
  rw [up2_no _ (by omega)]
  by_cases f : (k : Int) < g
  · rw [if_pos f, cpR_no _ (by omega), cpR_no _ (by omega)]
  · rw [if_neg f, cpR_yes _ (by omega)]
    show μ 9 (8 * s.toNat + (g.toNat + (8 * s.toNat + k - (8 * s.toNat + g.toNat)) + 1)) = _
    congr 1
    omega
def SH (σ : ST) : Prop :=
  (σ 7 0 = 0 ∧ σ 3 0 = 0) ∧
  (∀ s : Nat, (s : Int) + 1 < σ 2 0 → (1 ≤ σ 3 (s + 1) ∧ σ 3 (s + 1) ≤ 5) ∧ σ 7 (s + 1) - σ 7 s = (if σ 3 (s + 1) < 4 then 1 else if σ 3 (s + 1) = 4 then -1 else 0)) ∧
  (∀ s i j : Nat, (s : Int) < σ 2 0 → i < j → (j : Int) < σ 7 s → σ 9 (8 * s + i) ≠ σ 9 (8 * s + j)) ∧
  (∀ s i j : Nat, (s : Int) < σ 2 0 → i < j → (j : Int) < σ 7 s → σ 8 (8 * s + i) ≠ σ 8 (8 * s + j)) ∧
  (∀ s k : Nat, (s : Int) < σ 2 0 → (k : Int) < σ 7 s → σ 8 (8 * s + k) ≤ (s : Int)) ∧
  (∀ s t k : Nat, σ 3 s = 4 → s ≤ t → (t : Int) < σ 2 0 → (k : Int) < σ 7 t → σ 8 (8 * t + k) ≠ σ 5 s) ∧
  (∀ s : Nat, (s : Int) < σ 2 0 → σ 3 s = 4 → σ 5 s < (s : Int))
theorem SH.w0 {σ : ST} (h : SH σ) : σ 7 0 = 0 ∧ σ 3 0 = 0 := h.1
theorem SH.st {σ : ST} (h : SH σ) (s : Nat) (a : (s : Int) + 1 < σ 2 0) : (1 ≤ σ 3 (s + 1) ∧ σ 3 (s + 1) ≤ 5) ∧ σ 7 (s + 1) - σ 7 s = (if σ 3 (s + 1) < 4 then 1 else if σ 3 (s + 1) = 4 then -1 else 0) := h.2.1 s a
theorem SH.ls {σ : ST} (h : SH σ) (s i j : Nat) (a : (s : Int) < σ 2 0) (b : i < j) (d : (j : Int) < σ 7 s) : σ 9 (8 * s + i) ≠ σ 9 (8 * s + j) := h.2.2.1 s i j a b d
theorem SH.cs {σ : ST} (h : SH σ) (s i j : Nat) (a : (s : Int) < σ 2 0) (b : i < j) (d : (j : Int) < σ 7 s) : σ 8 (8 * s + i) ≠ σ 8 (8 * s + j) := h.2.2.2.1 s i j a b d
theorem SH.ub {σ : ST} (h : SH σ) (s k : Nat) (a : (s : Int) < σ 2 0) (b : (k : Int) < σ 7 s) : σ 8 (8 * s + k) ≤ (s : Int) := h.2.2.2.2.1 s k a b
theorem SH.dr {σ : ST} (h : SH σ) (s t k : Nat) (a : σ 3 s = 4) (b : s ≤ t) (d : (t : Int) < σ 2 0) (e : (k : Int) < σ 7 t) : σ 8 (8 * t + k) ≠ σ 5 s := h.2.2.2.2.2.1 s t k a b d e
theorem SH.ds {σ : ST} (h : SH σ) (s : Nat) (a : (s : Int) < σ 2 0) (b : σ 3 s = 4) : σ 5 s < (s : Int) := h.2.2.2.2.2.2 s a b
theorem SH_of {σ σ' : ST} (h : SH σ) (e2 : σ' 2 0 = σ 2 0) (e : ∀ p, 3 ≤ p → p ≤ 9 → σ' p = σ p) : SH σ' := by
  unfold SH at h ⊢
  rw [e2, e 3 (by omega) (by omega), e 5 (by omega) (by omega), e 7 (by omega) (by omega), e 8 (by omega) (by omega), e 9 (by omega) (by omega)]
  exact h
theorem SH.li {σ : ST} (h : SH σ) (hI : CI σ) : LI σ := by
  have hz := hI.sz
  exact fun i j hij hj => h.ls _ i j (by omega) hij hj
theorem SH_grow {c d : ST} {S : Nat} (h : SH c) (hS : c 2 0 = (S : Int)) (h1 : 1 ≤ S) (hw : ∀ k, c 7 k ≤ 8) (d2 : d 2 0 = (S : Int) + 1)
    (e3 : ∀ s, s < S → d 3 s = c 3 s) (e5 : ∀ s, s < S → d 5 s = c 5 s) (e7 : ∀ s, s < S → d 7 s = c 7 s) (e8 : ∀ i, i < 8 * S → d 8 i = c 8 i) (e9 : ∀ i, i < 8 * S → d 9 i = c 9 i)
    (n3 : 1 ≤ d 3 S ∧ d 3 S ≤ 5) (n7 : d 7 S - c 7 (S - 1) = (if d 3 S < 4 then 1 else if d 3 S = 4 then -1 else 0))
    (n9 : ∀ i j : Nat, i < j → (j : Int) < d 7 S → d 9 (8 * S + i) ≠ d 9 (8 * S + j))
    (n8 : ∀ i j : Nat, i < j → (j : Int) < d 7 S → d 8 (8 * S + i) ≠ d 8 (8 * S + j))
    (nc : ∀ k : Nat, (k : Int) < d 7 S → d 8 (8 * S + k) = (S : Int) ∨ ∃ j : Nat, (j : Int) < c 7 (S - 1) ∧ d 8 (8 * S + k) = c 8 (8 * (S - 1) + j))
    (n5 : d 3 S = 4 → (∃ j : Nat, (j : Int) < c 7 (S - 1) ∧ d 5 S = c 8 (8 * (S - 1) + j)) ∧ ∀ k : Nat, (k : Int) < d 7 S → d 8 (8 * S + k) ≠ d 5 S) : SH d := by
  refine ⟨⟨?_, ?_⟩, fun s hs => ?_, fun s i j hs hij hj => ?_, fun s i j hs hij hj => ?_, fun s k hs hk => ?_, fun s t k h3 hst ht hk => ?_, fun s hs h3 => ?_⟩
  · rw [e7 0 (by omega)]; exact h.w0.1
  · rw [e3 0 (by omega)]; exact h.w0.2
  · by_cases e : s + 1 = S
    · have es : S - 1 = s := by omega
      rw [es] at n7
      rw [e, e7 s (by omega)]
      exact ⟨n3, n7⟩
    · rw [e3 (s + 1) (by omega), e7 (s + 1) (by omega), e7 s (by omega)]
      exact h.st s (by omega)
  · by_cases e : s = S
    · rw [e] at hj ⊢
      exact n9 i j hij hj
    · have w8 := hw s
      rw [e7 s (by omega)] at hj
      rw [e9 _ (by omega), e9 _ (by omega)]
      exact h.ls s i j (by omega) hij hj
  · by_cases e : s = S
    · rw [e] at hj ⊢
      exact n8 i j hij hj
    · have w8 := hw s
      rw [e7 s (by omega)] at hj
      rw [e8 _ (by omega), e8 _ (by omega)]
      exact h.cs s i j (by omega) hij hj
  · by_cases e : s = S
    · rw [e] at hk ⊢
      rcases nc k hk with q | ⟨j, hj, q⟩
      · omega
      · have := h.ub (S - 1) j (by omega) hj
        omega
    · have w8 := hw s
      rw [e7 s (by omega)] at hk
      rw [e8 _ (by omega)]
      exact h.ub s k (by omega) hk
  · by_cases e : t = S
    · rw [e] at hk ⊢
      by_cases f : s = S
      · rw [f] at h3 ⊢
        exact (n5 h3).2 k hk
      · rw [e3 s (by omega)] at h3
        rw [e5 s (by omega)]
        have ub := h.ds s (by omega) h3
        rcases nc k hk with q | ⟨j, hj, q⟩
        · omega
        · rw [q]
          exact h.dr s (S - 1) j h3 (by omega) (by omega) hj
    · have w8 := hw t
      rw [e7 t (by omega)] at hk
      rw [e3 s (by omega)] at h3
      rw [e8 _ (by omega), e5 s (by omega)]
      exact h.dr s t k h3 hst (by omega) hk
  · by_cases e : s = S
    · rw [e] at h3 ⊢
      obtain ⟨⟨j, hj, q⟩, -⟩ := n5 h3
      have := h.ub (S - 1) j (by omega) hj
      omega
    · rw [e3 s (by omega)] at h3
      rw [e5 s (by omega)]
      exact h.ds s (by omega) h3
theorem SH_add {c c1 : ST} (h : SH c) (hI : CI c) {a ch : Int} (hch : 1 ≤ ch ∧ ch ≤ 3) (hL : LI (addLF c1 (c 2 0) a))
    (e20 : c1 2 0 = c 2 0 + 1) (eo : ∀ p i, p ≠ 2 → (p < 8 → i < (c 2 0).toNat) → (p < 10 → i < 8 * (c 2 0).toNat) → c1 p i = c p i) (e3 : c1 3 (c 2 0).toNat = ch) (e7 : c1 7 (c 2 0).toNat = c 7 (c 2 0 - 1).toNat)
    (e8 : ∀ k : Nat, (k : Int) < c 7 (c 2 0 - 1).toNat → c1 8 (8 * (c 2 0).toNat + k) = c 8 (8 * (c 2 0 - 1).toNat + k)) : SH (addLF c1 (c 2 0) a) := by
  have hs := hI.sz
  obtain ⟨S, hS⟩ : ∃ S : Nat, c 2 0 = (S : Int) := ⟨(c 2 0).toNat, by omega⟩
  have eS : (c 2 0).toNat = S := by omega
  have eS1 : (c 2 0 - 1).toNat = S - 1 := by omega
  rw [eS] at e3 eo
  rw [eS, eS1] at e7 e8
  have hwS := hI.wd (S - 1)
  have d2 : addLF c1 (c 2 0) a 2 0 = (S : Int) + 1 := by rw [addLF_20, e20, hS]
  have d3 : addLF c1 (c 2 0) a 3 S = ch := by rw [addL_q (by omega), e3]
  have d7 : addLF c1 (c 2 0) a 7 S = c 7 (S - 1) + 1 := by
    have q := @addL_7 c1 (c 2 0) a
    rw [eS] at q
    rw [q, e7]
  have d8 : ∀ k : Nat, (k : Int) < c 7 (S - 1) → addLF c1 (c 2 0) a 8 (8 * S + k) = c 8 (8 * (S - 1) + k) := fun k hk => by
    have q := @addL_8 c1 (c 2 0) a k
    rw [eS, e7] at q
    rw [q, if_neg (by omega)]
    exact e8 k hk
  have d8n : addLF c1 (c 2 0) a 8 (8 * S + (c 7 (S - 1)).toNat) = (S : Int) := by
    have q := @addL_8 c1 (c 2 0) a (c 7 (S - 1)).toNat
    rw [eS, e7, if_pos rfl] at q
    rw [q, hS]
  refine SH_grow (S := S) h hS (by omega) (fun k => (hI.wd k).2) d2 (fun s q => ?_) (fun s q => ?_) (fun s q => ?_) (fun i q => ?_) (fun i q => ?_) ?_ ?_ (fun i j hij hj => ?_) (fun i j hij hj => ?_) (fun k hk => ?_) (fun q => ?_)
  · rw [addL_q (by omega)]; exact eo 3 s (by omega) (fun _ => by omega) (fun _ => by omega)
  · rw [addL_q (by omega)]; exact eo 5 s (by omega) (fun _ => by omega) (fun _ => by omega)
  · rw [addL_o (fun _ => by omega) (fun _ => by omega)]; exact eo 7 s (by omega) (fun _ => by omega) (fun _ => by omega)
  · rw [addL_o (fun z => absurd z (by omega)) (fun _ => by omega)]; exact eo 8 i (by omega) (fun z => absurd z (by omega)) (fun _ => by omega)
  · rw [addL_o (fun z => absurd z (by omega)) (fun _ => by omega)]; exact eo 9 i (by omega) (fun z => absurd z (by omega)) (fun _ => by omega)
  · rw [d3]; omega
  · rw [d3, d7, if_pos (by omega)]; omega
  · have q := hL i j
    rw [d2, show ((S : Int) + 1 - 1).toNat = S by omega] at q
    exact q hij hj
  · rw [d7] at hj
    by_cases g : (j : Int) < c 7 (S - 1)
    · rw [d8 i (by omega), d8 j g]
      exact h.cs (S - 1) i j (by omega) hij g
    · have ej : j = (c 7 (S - 1)).toNat := by omega
      rw [d8 i (by omega), ej, d8n]
      have := h.ub (S - 1) i (by omega) (by omega)
      omega
  · rw [d7] at hk
    by_cases g : (k : Int) < c 7 (S - 1)
    · exact Or.inr ⟨k, g, d8 k g⟩
    · have ek : k = (c 7 (S - 1)).toNat := by omega
      rw [ek]
      exact Or.inl d8n
  · rw [d3] at q
    omega
theorem SH_exN {c : ST} (h : SH c) (hI : CI c) {a : Int} (m : Int) (hp : plc c (c 2 0 - 1).toNat a = -1) : SH (exN c a m) := by
  have hs := hI.sz
  refine SH_add (ch := 1) h hI ⟨by omega, by omega⟩ (LI_exN hI (h.li hI) m hp) ?_ (fun p i p2 h8 h9 => ?_) ?_ ?_ (fun k hk => ?_)
  · rw [up2_no _ (by omega), comeF_20]
  · rw [up2_no _ (fun z => absurd (h8 (by omega)) (by omega))]; exact come_o hI 1 p2 h8 h9
  · rw [up2_no _ (by omega), come_3]
  · rw [up2_no _ (by omega), comeF_7 hI]
  · rw [up2_no _ (by omega)]; exact comeF_8 hI 1 k hk
theorem SH_exC {c : ST} (h : SH c) (hI : CI c) {a : Int} (b e : Int) (hp : plc c (c 2 0 - 1).toNat a = -1) : SH (exC c a b e) := by
  have hs := hI.sz
  refine SH_add (ch := if e = -1 then 2 else 3) h hI ⟨by split <;> omega, by split <;> omega⟩ (LI_exC hI (h.li hI) b e hp) ?_ (fun p i p2 h8 h9 => ?_) ?_ ?_ (fun k hk => ?_)
  · rw [up2_no _ (by omega), up2_no _ (by omega), comeF_20]
  · rw [up2_no _ (fun z => absurd (h8 (by omega)) (by omega)), up2_no _ (fun z => absurd (h8 (by omega)) (by omega))]; exact come_o hI _ p2 h8 h9
  · rw [up2_no _ (by omega), up2_no _ (by omega), come_3]
  · rw [up2_no _ (by omega), up2_no _ (by omega), comeF_7 hI]
  · rw [up2_no _ (by omega), up2_no _ (by omega)]; exact comeF_8 hI _ k hk
theorem SH_lvO {c : ST} (h : SH c) (hI : CI c) {a : Int} (m : Int) (hp : plc c (c 2 0 - 1).toNat a ≠ -1) : SH (lvO c a m) := by
  have hs := hI.sz
  have hL : LI (lvO c a m) := LI_lvO hI (h.li hI) m hp
  obtain ⟨S, hS⟩ : ∃ S : Nat, c 2 0 = (S : Int) := ⟨(c 2 0).toNat, by omega⟩
  have eS : (c 2 0).toNat = S := by omega
  have eS1 : (c 2 0 - 1).toNat = S - 1 := by omega
  have hg := plc_rng hI (c 2 0 - 1).toNat a
  obtain ⟨g, eg⟩ : ∃ g, g = plc c (c 2 0 - 1).toNat a := ⟨_, rfl⟩
  rw [← eg] at hp
  rw [← eg, eS1] at hg
  obtain ⟨μ, eμ⟩ : ∃ μ : ST, μ = up2 (up2 (comeF c 4) 5 S (c 8 (8 * (S - 1) + g.toNat))) 4 S m := ⟨_, rfl⟩
  have e0 : lvO c a m = gapF μ (c 2 0) g := by
    rw [eμ]
    unfold lvO
    rw [← eg, eS, eS1]
  have m7 : μ 7 S = c 7 (S - 1) := by
    have q := comeF_7 hI (ch := 4)
    rw [eS, eS1] at q
    rw [eμ, up2_no _ (by omega), up2_no _ (by omega), q]
  have mo : ∀ p i, p ≠ 2 → (p < 8 → i < S) → (p < 10 → i < 8 * S) → μ p i = c p i := fun p i p2 h8 h9 => by
    rw [eμ, up2_no _ (fun z => absurd (h8 (by omega)) (by omega)), up2_no _ (fun z => absurd (h8 (by omega)) (by omega))]
    exact come_o hI _ p2 (by rw [eS]; exact h8) (by rw [eS]; exact h9)
  have m8 : ∀ k : Nat, (k : Int) < c 7 (S - 1) → μ 8 (8 * S + k) = c 8 (8 * (S - 1) + k) := fun k hk => by
    have q := comeF_8 hI 4 k (by rw [eS1]; exact hk)
    rw [eS, eS1] at q
    rw [eμ, up2_no _ (by omega), up2_no _ (by omega), q]
  rw [e0] at hL ⊢
  have d2 : gapF μ (c 2 0) g 2 0 = (S : Int) + 1 := by
    rw [gap_q (by omega), eμ, up2_no _ (by omega), up2_no _ (by omega), comeF_20, hS]
  have d3 : gapF μ (c 2 0) g 3 S = 4 := by
    rw [gap_q (by omega), eμ, up2_no _ (by omega), up2_no _ (by omega), ← eS, come_3]
  have d5 : gapF μ (c 2 0) g 5 S = c 8 (8 * (S - 1) + g.toNat) := by
    rw [gap_q (by omega), eμ, up2_no _ (by omega), up2_at]
  have d7 : gapF μ (c 2 0) g 7 S = c 7 (S - 1) - 1 := by
    have q := @gap_7 μ (c 2 0) g
    rw [eS, m7] at q
    exact q
  have d8 : ∀ k : Nat, (k : Int) < c 7 (S - 1) - 1 → gapF μ (c 2 0) g 8 (8 * S + k) = c 8 (8 * (S - 1) + (if (k : Int) < g then k else k + 1)) := fun k hk => by
    have q := gap_8 (μ := μ) (s := c 2 0) (g := g) (by omega) (k := k) (by rw [eS, m7]; exact hk)
    rw [eS] at q
    rw [q]
    split
    · exact m8 k (by omega)
    · exact m8 (k + 1) (by omega)
  refine SH_grow (S := S) h hS (by omega) (fun k => (hI.wd k).2) d2 (fun s q => ?_) (fun s q => ?_) (fun s q => ?_) (fun i q => ?_) (fun i q => ?_) ?_ ?_ (fun i j hij hj => ?_) (fun i j hij hj => ?_) (fun k hk => ?_) (fun _ => ⟨⟨g.toNat, by omega, d5⟩, fun k hk => ?_⟩)
  · rw [gap_q (by omega)]; exact mo 3 s (by omega) (fun _ => by omega) (fun _ => by omega)
  · rw [gap_q (by omega)]; exact mo 5 s (by omega) (fun _ => by omega) (fun _ => by omega)
  · rw [gap_o (by omega) (by omega) (fun _ => by omega) (fun _ => by omega)]; exact mo 7 s (by omega) (fun _ => by omega) (fun _ => by omega)
  · rw [gap_o (by omega) (by omega) (fun z => absurd z (by omega)) (fun _ => by omega)]; exact mo 8 i (by omega) (fun z => absurd z (by omega)) (fun _ => by omega)
  · rw [gap_o (by omega) (by omega) (fun z => absurd z (by omega)) (fun _ => by omega)]; exact mo 9 i (by omega) (fun z => absurd z (by omega)) (fun _ => by omega)
  · rw [d3]; omega
  · rw [d3, d7, if_neg (by omega), if_pos rfl]; omega
  · have q := hL i j
    rw [d2, show ((S : Int) + 1 - 1).toNat = S by omega] at q
    exact q hij hj
  · rw [d7] at hj
    rw [d8 i (by omega), d8 j hj]
    refine h.cs (S - 1) _ _ (by omega) ?_ ?_
    · split <;> split <;> omega
    · split <;> omega
  · rw [d7] at hk
    exact Or.inr ⟨_, by split <;> omega, d8 k hk⟩
  · rw [d7] at hk
    rw [d5, d8 k hk]
    by_cases f : (k : Int) < g
    · rw [if_pos f]
      exact h.cs (S - 1) k g.toNat (by omega) (by omega) (by omega)
    · rw [if_neg f]
      exact (h.cs (S - 1) g.toNat (k + 1) (by omega) (by omega) (by omega)).symm
theorem SH_xcL {c : ST} (h : SH c) (hI : CI c) {a b : Int} (hp : plc c (c 2 0 - 1).toNat a ≠ -1) (hb : plc c (c 2 0 - 1).toNat b = -1) : SH (xcL c a b) := by
  have hs := hI.sz
  have hL : LI (xcL c a b) := LI_xcL hI (h.li hI) hp hb
  obtain ⟨S, hS⟩ : ∃ S : Nat, c 2 0 = (S : Int) := ⟨(c 2 0).toNat, by omega⟩
  have eS : (c 2 0).toNat = S := by omega
  have eS1 : (c 2 0 - 1).toNat = S - 1 := by omega
  have hg := plc_rng hI (c 2 0 - 1).toNat a
  unfold xcL at hL ⊢
  rw [eS, eS1] at hL ⊢
  rw [eS1] at hp hb hg
  have xo : ∀ (v : Int) p i, p ≠ 2 → (p < 8 → i < S) → (p < 10 → i < 8 * S) → up2 (comeF c 5) 9 (8 * S + (plc c (S - 1) a).toNat) v p i = c p i := fun v p i p2 h8 h9 => by
    rw [up2_no _ (fun z => absurd (h9 (by omega)) (by omega))]
    exact come_o hI _ p2 (by rw [eS]; exact h8) (by rw [eS]; exact h9)
  have d2 : up2 (comeF c 5) 9 (8 * S + (plc c (S - 1) a).toNat) b 2 0 = (S : Int) + 1 := by rw [up2_no _ (by omega), comeF_20, hS]
  have d3 : up2 (comeF c 5) 9 (8 * S + (plc c (S - 1) a).toNat) b 3 S = 5 := by
    have q := @come_3 c 5
    rw [eS] at q
    rw [up2_no _ (by omega), q]
  have d7 : up2 (comeF c 5) 9 (8 * S + (plc c (S - 1) a).toNat) b 7 S = c 7 (S - 1) := by
    have q := comeF_7 hI (ch := 5)
    rw [eS, eS1] at q
    rw [up2_no _ (by omega), q]
  have d8 : ∀ k : Nat, (k : Int) < c 7 (S - 1) → up2 (comeF c 5) 9 (8 * S + (plc c (S - 1) a).toNat) b 8 (8 * S + k) = c 8 (8 * (S - 1) + k) := fun k hk => by
    have q := comeF_8 hI 5 k (by rw [eS1]; exact hk)
    rw [eS, eS1] at q
    rw [up2_no _ (by omega), q]
  refine SH_grow (S := S) h hS (by omega) (fun k => (hI.wd k).2) d2 (fun s q => xo _ 3 s (by omega) (fun _ => by omega) (fun _ => by omega)) (fun s q => xo _ 5 s (by omega) (fun _ => by omega) (fun _ => by omega)) (fun s q => xo _ 7 s (by omega) (fun _ => by omega) (fun _ => by omega)) (fun i q => xo _ 8 i (by omega) (fun z => absurd z (by omega)) (fun _ => by omega)) (fun i q => xo _ 9 i (by omega) (fun z => absurd z (by omega)) (fun _ => by omega)) ?_ ?_ (fun i j hij hj => ?_) (fun i j hij hj => ?_) (fun k hk => ?_) (fun q => ?_)
  · rw [d3]; omega
  · rw [d3, d7, if_neg (by omega), if_neg (by omega)]; omega
  · have q := hL i j
    rw [d2, show ((S : Int) + 1 - 1).toNat = S by omega] at q
    exact q hij hj
  · rw [d7] at hj
    rw [d8 i (by omega), d8 j hj]
    exact h.cs (S - 1) i j (by omega) hij hj
  · rw [d7] at hk
    exact Or.inr ⟨k, hk, d8 k hk⟩
  · rw [d3] at q
    omega
