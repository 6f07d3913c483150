/-! the memory at the law's beginning -/
def z7 : ST := up2 z5 111 0 1
def b0 : Nat → Nat := fun i => 18 + 15 * i
theorem z7_at (a k : Nat) : z7 a k = if k = 0 ∧ (a = 2 ∨ a = 111 ∨ a = 19 ∨ a = 34 ∨ a = 49 ∨ a = 64 ∨ a = 79 ∨ a = 94) then 1 else 0 := by
  unfold z7 z5
  simp only [hZ]
  unfold up2 Z0
  (repeat' split) <;> first | rfl | omega
theorem CI_new {c : ST} (h0 : c 2 0 = 1) (h1 : c 2 1 = 0) (h : ∀ q k, 3 ≤ q → q ≤ 14 → c q k = 0) : CI c := by
  refine ⟨by omega, by omega, fun k => ?_, fun k => ?_, fun k => ?_, fun k => ?_, fun k => ?_, fun k => ?_, fun k => ?_, ?_, ?_, fun k => ?_, fun k => ?_, fun k => ?_⟩
  · have := h 3 k (by omega) (by omega); omega
  · have := h 4 k (by omega) (by omega); omega
  · have := h 5 k (by omega) (by omega); omega
  · have := h 6 k (by omega) (by omega); have := h 3 k (by omega) (by omega); omega
  · have := h 7 k (by omega) (by omega); omega
  · have := h 8 k (by omega) (by omega); omega
  · have := h 9 k (by omega) (by omega); omega
  · have := h 10 0 (by omega) (by omega); omega
  · have := h 10 1 (by omega) (by omega); omega
  · have := h 11 k (by omega) (by omega); omega
  · have := h 13 k (by omega) (by omega); omega
  · have := h 14 k (by omega) (by omega); omega
theorem z7_0 {a k : Nat} (h : ¬ (k = 0 ∧ (a = 2 ∨ a = 111 ∨ a = 19 ∨ a = 34 ∨ a = 49 ∨ a = 64 ∨ a = 79 ∨ a = 94))) : z7 a k = 0 := by
  rw [z7_at, if_neg h]
theorem z7_1 {a k : Nat} (h : k = 0 ∧ (a = 2 ∨ a = 111 ∨ a = 19 ∨ a = 34 ∨ a = 49 ∨ a = 64 ∨ a = 79 ∨ a = 94)) : z7 a k = 1 := by
  rw [z7_at, if_pos h]
theorem gM_z7 {s j : Int} (h : 0 ≤ s) (hj : 0 ≤ j) : gM z7 s j = 0 := by
  unfold gM
  exact z7_0 (by omega)
theorem INV_0 : INV z7 b0 := by
  have hI : CI z7 := CI_new (z7_1 (by omega)) (z7_0 (by omega)) (fun q k a b => z7_0 (by omega))
  have h7 : ∀ k, z7 7 k = 0 := fun k => z7_0 (by omega)
  have e20 : z7 2 0 = 1 := z7_1 (by omega)
  have e10 : z7 10 0 = 0 := z7_0 (by omega)
  have e111 : z7 111 0 = 1 := z7_1 (by omega)
  have hm : ∀ k, k ≠ 0 → z7 111 k = 0 := fun k h => z7_0 (by omega)
  have eR : Rel z7 z7 := by
    refine ⟨hI, ?_, ?_, ?_, ?_, ?_, ?_, ?_, h7 0, ?_, ?_, ?_⟩
    · intro i j hij hj
      rw [h7] at hj
      omega
    · refine ⟨by omega, by have := hm 1 (by omega); omega, by have := hm 2 (by omega); omega, by have := hm 3 (by omega); omega, fun r r0 r1 => ?_, fun s s0 s1 => ?_, fun s j s0 s1 j0 j1 => ?_, fun s s0 s1 => ?_, fun r r0 r1 => ?_, fun r j r0 r1 => ?_⟩
      · have := hm (6 + r).toNat (by omega); omega
      · have := gM_z7 s0 (Int.le_refl 0); omega
      · have := gM_z7 s0 (Int.le_refl 0); omega
      · have h1 := gM_z7 (j := 17) s0 (by omega)
        have h2 := gM_z7 (j := 18) s0 (by omega)
        have h3 := gM_z7 (j := 19) s0 (by omega)
        omega
      · have := hm 2 (by omega); omega
      · have := hm 2 (by omega); omega
    · refine ⟨by omega, ?_, ?_, ?_, ?_, ?_⟩
      · rw [hm 1 (by omega)]; exact (z7_0 (by omega)).symm
      · rw [hm 2 (by omega)]; exact (z7_0 (by omega)).symm
      · rw [hm 3 (by omega)]; exact (z7_0 (by omega)).symm
      · rw [hm 4 (by omega)]; exact (z7_0 (by omega)).symm
      · rw [hm 5 (by omega)]; exact (z7_0 (by omega)).symm
    · intro r _
      rw [hm (6 + r) (by omega)]
      exact (z7_0 (by omega)).symm
    · intro s _
      exact ⟨(gM_z7 (by omega) (by omega)).trans (h7 s).symm, (gM_z7 (by omega) (by omega)).trans (z7_0 (by omega)).symm⟩
    · intro s k _ hk
      rw [h7] at hk
      omega
    · intro s i j _ hij hj
      rw [h7] at hj
      omega
    · intro s hs
      rw [e20] at hs
      omega
    · intro r hr
      rw [e10] at hr
      omega
    · intro r k hr
      rw [e10] at hr
      omega
  have e16 : z7 16 1 = 0 := z7_0 (by omega)
  have e108 : z7 108 1 = 0 := z7_0 (by omega)
  have e3 : z7 110 3 = 0 := z7_0 (by omega)
  have e5 : z7 110 5 = 0 := z7_0 (by omega)
  refine ⟨eR, ⟨⟨by omega, fun k => ?_⟩, by omega, fun k hk => ?_, fun k => ?_⟩, fun k hk => ⟨?_, ?_⟩, fun i j _ _ h => ?_, by omega, by omega, fun k hk => ?_, fun k hk => ?_⟩
  · rw [z7_0 (by omega)]; omega
  · rw [e108] at hk; omega
  · rw [z7_0 (by omega)]; omega
  · unfold b0 blkP; omega
  · unfold b0; omega
  · unfold b0; omega
  · refine CI_new ?_ ?_ (fun q i a b => ?_)
    · exact z7_1 (by unfold b0; omega)
    · exact z7_0 (by omega)
    · exact z7_0 (by unfold b0; omega)
  · rw [e16] at hk; omega
/-- the references are all laid -/
def r7 : RT := sR6 r5
theorem upR_hk {ρ : RT} {p k : Nat} {v : Option Nat} {a i : Nat} (h : i ≠ k) : upR ρ p k v a i = ρ a i := by
  unfold upR
  exact if_neg (fun q => h q.2)
theorem sR3_hk {ρ : RT} {q a i : Nat} (h : 16 ≤ i) : sR3 ρ q a i = ρ a i := by
  unfold sR3 sR1 sR2
  repeat rw [upR_hk (by omega)]
theorem hR_hk {ρ : RT} {a i : Nat} (h : 16 ≤ i) : ∀ n, n ≤ 6 → hR ρ n a i = ρ a i
  | 0, _ => upR_hk (by omega)
  | n + 1, hn => by
    show upR (sR3 (hR ρ n) (18 + 15 * n)) 17 n (some (18 + 15 * n)) a i = ρ a i
    rw [upR_hk (by omega), sR3_hk h, hR_hk h n (by omega)]
theorem r7_hk {a i : Nat} (h : 16 ≤ i) : r7 a i = none := by
  unfold r7 sR6 r5
  rw [upR_hk (by omega), upR_hk (by omega), upR_hk (by omega), upR_hk (by omega), upR_hk (by omega), upR_hk (by omega), upR_hk (by omega), upR_hk (by omega), hR_hk h 6 (by omega), upR_hk (by omega), sR3_hk h]
  rfl
theorem r7_hi {a i : Nat} (h : 117 ≤ a) : r7 a i = none := by
  unfold r7 sR6
  rw [upR_off _ (by omega), upR_off _ (by omega), upR_off _ (by omega), upR_off _ (by omega), upR_off _ (by omega), r5_hi (by omega)]
set_option maxRecDepth 100000 in
theorem RHL_ln : ∀ x ∈ RHL, x.length ≤ 16 := by decide +kernel
set_option maxRecDepth 100000 in
theorem r7_at : ∀ a, a < 117 → ∀ i, i < 16 → r7 a i = RHO (PB b0) a i := by decide +kernel
theorem RHL_len : RHL.length = 117 := by decide +kernel
theorem RHO_hk {π : Nat → Option Nat} {a i : Nat} (h : 16 ≤ i) (hp : π i = none) : RHO π a i = none := by
  show (if a = 17 then π i else (RHL.getD a []).getD i none) = none
  split
  · exact hp
  · by_cases ha : a < RHL.length
    · have e : RHL.getD a [] = RHL[a] := by rw [List.getD_eq_getElem?_getD, List.getElem?_eq_getElem ha]; rfl
      rw [e, List.getD_eq_getElem?_getD, List.getElem?_eq_none (Nat.le_trans (RHL_ln _ (List.getElem_mem ha)) h)]
      rfl
    · have e : RHL.getD a [] = [] := by rw [List.getD_eq_getElem?_getD, List.getElem?_eq_none (Nat.le_of_not_lt ha)]; rfl
      rw [e]
      rfl
theorem RHO_hi {π : Nat → Option Nat} {a i : Nat} (h : 117 ≤ a) : RHO π a i = none := by
  show (if a = 17 then π i else (RHL.getD a []).getD i none) = none
  have e : RHL.getD a [] = [] := by rw [List.getD_eq_getElem?_getD, List.getElem?_eq_none (by rw [RHL_len]; exact h)]; rfl
  rw [if_neg (by omega), e]
  rfl
theorem r7_eq : r7 = RHO (PB b0) := by
  funext a i
  by_cases h : 16 ≤ i
  · rw [r7_hk h, RHO_hk h (if_neg (by omega))]
  · by_cases g : 117 ≤ a
    · rw [r7_hi g, RHO_hi g]
    · exact r7_at a (by omega) i (by omega)
theorem KDL_len : KDL.length = 117 := by decide +kernel
theorem kdN_117 : kdN 117 = KD := by
  funext p
  unfold kdN
  split
  · rfl
  · show (9, 0) = KDL.getD p (9, 0)
    rw [List.getD_eq_getElem?_getD, List.getElem?_eq_none (by rw [KDL_len]; omega)]
    rfl
