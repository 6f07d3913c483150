/-! p31: the memory at the law's beginning -/
def b0 : Nat → Nat := fun i => 18 + 15 * i
theorem z5_at (a k : Nat) : z5 a k = if k = 0 ∧ (a = 2 ∨ a = 19 ∨ a = 34 ∨ a = 49 ∨ a = 64 ∨ a = 79 ∨ a = 94) then 1 else 0 := by
  unfold z5
  simp only [hZ]
  unfold up2 Z0
  (repeat' split) <;> first | rfl | omega
theorem CI_new {c : ST} (h0 : c 2 0 = 1) (h1 : c 2 1 = 0) (h : ∀ q k, 3 ≤ q → q ≤ 14 → c q k = 0) : CI c := by
  refine ⟨by omega, by omega, fun k => ?_, fun k => ?_, fun k => ?_, fun k => ?_, fun k => ?_, fun k => ?_, fun k => ?_, ?_, ?_, fun k => ?_, fun k => ?_, fun k => ?_⟩
  · have := h 3 k (by omega) (by omega); omega
  · have := h 4 k (by omega) (by omega); omega
  · have := h 5 k (by omega) (by omega); omega
  · have := h 6 k (by omega) (by omega); have := h 3 k (by omega) (by omega); omega
  · have := h 7 k (by omega) (by omega); omega
  · have := h 8 k (by omega) (by omega); omega
  · have := h 9 k (by omega) (by omega); omega
  · have := h 10 0 (by omega) (by omega); omega
  · have := h 10 1 (by omega) (by omega); omega
  · have := h 11 k (by omega) (by omega); omega
  · have := h 13 k (by omega) (by omega); omega
  · have := h 14 k (by omega) (by omega); omega
theorem z5_0 {a k : Nat} (h : ¬ (k = 0 ∧ (a = 2 ∨ a = 19 ∨ a = 34 ∨ a = 49 ∨ a = 64 ∨ a = 79 ∨ a = 94))) : z5 a k = 0 := by
  rw [z5_at, if_neg h]
theorem z5_1 : z5 2 0 = 1 := by rw [z5_at, if_pos (by omega)]
theorem KI_0 : KI z5 := by
  have h7 : ∀ k, z5 7 k = 0 := fun k => z5_0 (by omega)
  have h3 : ∀ k, z5 3 k = 0 := fun k => z5_0 (by omega)
  have e20 := z5_1
  have e21 : z5 2 1 = 0 := z5_0 (by omega)
  have e10 : z5 10 0 = 0 := z5_0 (by omega)
  have e102 : z5 10 2 = 0 := z5_0 (by omega)
  have e14 : ∀ k, z5 14 k = 0 := fun k => z5_0 (by omega)
  refine ⟨CI_new z5_1 e21 (fun q k a b => z5_0 (by omega)), ⟨⟨h7 0, h3 0⟩, fun s hs => ?_, fun s i j hs hij hj => ?_, fun s i j hs hij hj => ?_, fun s k hs hk => ?_, fun s t k a b d e => ?_, fun s a b => ?_⟩, ⟨by omega, fun r hr => ?_, fun q _ => ?_, ?_⟩⟩
  · omega
  · rw [h7] at hj; omega
  · rw [h7] at hj; omega
  · rw [h7] at hk; omega
  · rw [h3] at a; omega
  · rw [h3] at b; omega
  · omega
  · rw [e14]; omega
  · rw [e10, e102]
    exact Int.le_refl _
theorem TI_0 : TI z5 := ⟨by rw [z5_0 (by omega)]; omega, fun k => by rw [z5_0 (by omega)]; omega⟩
theorem okB_0 : okB b0 := fun k hk => by
  unfold b0 blkP
  omega
/-- the references are all laid -/
theorem upR_hk {ρ : RT} {p k : Nat} {v : Option Nat} {a i : Nat} (h : i ≠ k) : upR ρ p k v a i = ρ a i := by
  unfold upR
  exact if_neg (fun q => h q.2)
theorem sR3_hk {ρ : RT} {q a i : Nat} (h : 16 ≤ i) : sR3 ρ q a i = ρ a i := by
  unfold sR3 sR1 sR2
  repeat rw [upR_hk (by omega)]
theorem hR_hk {ρ : RT} {a i : Nat} (h : 16 ≤ i) : ∀ n, n ≤ 6 → hR ρ n a i = ρ a i
  | 0, _ => upR_hk (by omega)
  | n + 1, hn => by
    show upR (sR3 (hR ρ n) (18 + 15 * n)) 17 n (some (18 + 15 * n)) a i = ρ a i
    rw [upR_hk (by omega), sR3_hk h, hR_hk h n (by omega)]
theorem r5_hk {a i : Nat} (h : 16 ≤ i) : r5 a i = none := by
  unfold r5
  rw [upR_hk (by omega), upR_hk (by omega), upR_hk (by omega), hR_hk h 6 (by omega), upR_hk (by omega), sR3_hk h]
  rfl
set_option maxRecDepth 100000 in
theorem RHL_ln : ∀ x ∈ RHL, x.length ≤ 16 := by decide +kernel
set_option maxRecDepth 100000 in
theorem r5_at : ∀ a, a < 110 → ∀ i, i < 16 → r5 a i = RHO (PB b0) a i := by decide +kernel
theorem RHL_len : RHL.length = 110 := by decide +kernel
theorem RHO_hk {π : Nat → Option Nat} {a i : Nat} (h : 16 ≤ i) (hp : π i = none) : RHO π a i = none := by
  show (if a = 17 then π i else (RHL.getD a []).getD i none) = none
  split
  · exact hp
  · by_cases ha : a < RHL.length
    · have e : RHL.getD a [] = RHL[a] := by rw [List.getD_eq_getElem?_getD, List.getElem?_eq_getElem ha]; rfl
      rw [e, List.getD_eq_getElem?_getD, List.getElem?_eq_none (Nat.le_trans (RHL_ln _ (List.getElem_mem ha)) h)]
      rfl
    · have e : RHL.getD a [] = [] := by rw [List.getD_eq_getElem?_getD, List.getElem?_eq_none (Nat.le_of_not_lt ha)]; rfl
      rw [e]
      rfl
theorem RHO_hi {π : Nat → Option Nat} {a i : Nat} (h : 110 ≤ a) : RHO π a i = none := by
  show (if a = 17 then π i else (RHL.getD a []).getD i none) = none
  have e : RHL.getD a [] = [] := by rw [List.getD_eq_getElem?_getD, List.getElem?_eq_none (by rw [RHL_len]; exact h)]; rfl
  rw [if_neg (by omega), e]
  rfl
theorem r5_eq : r5 = RHO (PB b0) := by
  funext a i
  by_cases h : 16 ≤ i
  · rw [r5_hk h, RHO_hk h (if_neg (by omega))]
  · by_cases g : 110 ≤ a
    · rw [RHO_hi g, r5_hi (by omega)]
    · exact r5_at a (by omega) i (by omega)
theorem KDL_len : KDL.length = 110 := by decide +kernel
theorem kdN_110 : kdN 110 = KD := by
  funext p
  unfold kdN
  split
  · rfl
  · show (9, 0) = KDL.getD p (9, 0)
    rw [List.getD_eq_getElem?_getD, List.getElem?_eq_none (by rw [KDL_len]; omega)]
    rfl
