def tkO (σ : ST) (g : Int) (n : Nat) : ST := cpR (cpR (cpR σ 11 g.toNat n (fun j => σ 11 (g.toNat + j + 1))) 12 g.toNat n (fun j => σ 12 (g.toNat + j + 1))) 13 (12 * g.toNat) (12 * n) (fun j => σ 13 (12 * g.toNat + j + 12))
theorem tkO_0 (σ : ST) (g : Int) : tkO σ g 0 = σ := by unfold tkO; rw [cpR_0, cpR_0, cpR_0]
theorem mvD_tkO (σ : ST) (g r : Int) (n : Nat) (h0 : 0 ≤ g) (hr : r = g + 1 + n) : mvD (tkO σ g n) r = tkO σ g (n + 1) := by
  subst hr
  have e1 : (g + 1 + (n : Int) - 1).toNat = g.toNat + n := by omega
  have e2 : (g + 1 + (n : Int)).toNat = g.toNat + n + 1 := by omega
  funext a b
  unfold mvD mvM
  rw [e1, e2]
  have v11 : tkO σ g n 11 (g.toNat + n + 1) = σ 11 (g.toNat + n + 1) := by unfold tkO; rw [cpR_off _ _ _ _ (by decide), cpR_off _ _ _ _ (by decide), cpR_out _ _ _ _ (by omega)]
  have v12 : tkO σ g n 12 (g.toNat + n + 1) = σ 12 (g.toNat + n + 1) := by unfold tkO; rw [cpR_off _ _ _ _ (by decide), cpR_out _ _ _ _ (by omega), cpR_off _ _ _ _ (by decide)]
  have v13 : ∀ j, tkO σ g n 13 (12 * (g.toNat + n + 1) + j) = σ 13 (12 * (g.toNat + n + 1) + j) := fun j => by unfold tkO; rw [cpR_out _ _ _ _ (by omega), cpR_off _ _ _ _ (by decide), cpR_off _ _ _ _ (by decide)]
  rw [v11, v12]
  simp only [v13]
  unfold cpR up2 tkO cpR
  by_cases p11 : a = 11
  · subst p11
    simp only [Nat.reduceEqDiff, false_and, true_and, if_false]
    by_cases q : b = g.toNat + n
    · subst q
      simp only [if_true]
      rw [if_pos (by omega)]
      congr 1; omega
    · rw [if_neg q]
      by_cases q2 : g.toNat ≤ b ∧ b < g.toNat + n
      · rw [if_pos q2, if_pos (by omega)]
      · rw [if_neg q2, if_neg (by omega)]
  · by_cases p12 : a = 12
    · subst p12
      simp only [Nat.reduceEqDiff, false_and, true_and, if_false]
      by_cases q : b = g.toNat + n
      · subst q
        simp only [if_true]
        rw [if_pos (by omega)]
        congr 1; omega
      · rw [if_neg q]
        by_cases q2 : g.toNat ≤ b ∧ b < g.toNat + n
        · rw [if_pos q2, if_pos (by omega)]
        · rw [if_neg q2, if_neg (by omega)]
    · by_cases p13 : a = 13
      · subst p13
        simp only [Nat.reduceEqDiff, false_and, true_and, if_false]
        by_cases q : 12 * (g.toNat + n) ≤ b ∧ b < 12 * (g.toNat + n) + 12
        · rw [if_pos q, if_pos (by omega)]
          congr 1; omega
        · rw [if_neg q]
          by_cases q2 : 12 * g.toNat ≤ b ∧ b < 12 * g.toNat + 12 * n
          · rw [if_pos q2, if_pos (by omega)]
          · rw [if_neg q2, if_neg (by omega)]
      · simp only [p11, p12, p13, false_and, if_false]
def tkF (σ : ST) (g : Int) : ST :=
  let σ1 := up2 (tkO σ g (σ 10 0 - 1 - g).toNat) 10 0 (σ 10 0 - 1)
  if g < σ 10 1 then up2 σ1 10 1 (σ 10 1 - 1) else σ1

set_option maxRecDepth 100000 in
set_option maxHeartbeats 4000000 in
theorem ct_X1_takeOut {l : Launch} {G : GG} {π : Nat → Option Nat} {σ τ : ST} (hI : CI σ) (g : Int) (h0 : 0 ≤ g) (h1 : g < σ 10 0) : Ct l G mX1_takeOut (3, 0, 0) [.ref 10, .int (iI g)] 110 KD σ τ (RHO π) (KQ (some (.int (iI (σ 10 0 - 1)))) 110 KD (tkF σ g) τ (RHO π)) := by
  have hr := hI.ro
  have hcu := hI.cu
  refine ct_intro (own := "ShapedRows$Rows") rfl (by decide +kernel) (Nat.le_of_ble_eq_true rfl) (L := _) rfl ?_
  have cut_4 : ∀ (N : Nat) (k : Int), (g + 1 ≤ k) → (k ≤ σ 10 0) → σ 10 0 - k < (N : Int) → WP l G "ShapedRows$Rows" mX1_takeOut (3, 0, 0) (KQ (some (.int (iI (σ 10 0 - 1)))) 110 KD (tkF σ g) τ (RHO π)) noX 110 4 [some (.ref 10), some (.int (iI g)), some (.int (iI k))] [] 110 KD (tkO σ g (k - g - 1).toNat) τ (RHO π) 0 0 := by
    intro N
    induction N with
    | zero => intro k k0 k1 hm; exact absurd hm (by omega)
    | succ N ih =>
      intro k k0 k1 hm
      refine r_iload_n dX1_takeOut_4 rfl (by rfl) ?_
      refine r_aload_n dX1_takeOut_5 rfl (by rfl) ?_
      refine r_get_i kX1_9 dX1_takeOut_6 KD_10 ?_
      rw [show tkO σ g (k - g - 1).toNat 10 = σ 10 by unfold tkO; rw [cpR_off _ _ _ _ (by decide), cpR_off _ _ _ _ (by decide), cpR_off _ _ _ _ (by decide)]]
      refine r_icmp_ge (tgt := 23) dX1_takeOut_9 (by decide) (by unfold inR; omega) (by unfold inR; omega) (fun c_1 => ?_) (fun c_1 => ?_)
      · refine r_aload_n dX1_takeOut_23 rfl (by rfl) ?_
        refine r_dup dX1_takeOut_24 rfl ?_
        refine r_get_i kX1_9 dX1_takeOut_25 KD_10 ?_
        rw [show tkO σ g (k - g - 1).toNat 10 = σ 10 by unfold tkO; rw [cpR_off _ _ _ _ (by decide), cpR_off _ _ _ _ (by decide), cpR_off _ _ _ _ (by decide)]]
        refine r_iconst dX1_takeOut_28 ?_
        refine r_isub dX1_takeOut_29 ?_
        refine r_put_i kX1_9 dX1_takeOut_30 KD_10 ?_
        refine r_aload_n dX1_takeOut_33 rfl (by rfl) ?_
        refine r_get_i kX1_15 dX1_takeOut_34 KD_10 ?_
        refine r_iload_n dX1_takeOut_37 rfl (by rfl) ?_
        rw [up2_el _ _ _ (by decide), show tkO σ g (k - g - 1).toNat 10 = σ 10 by unfold tkO; rw [cpR_off _ _ _ _ (by decide), cpR_off _ _ _ _ (by decide), cpR_off _ _ _ _ (by decide)]]
        refine r_icmp_le (tgt := 51) dX1_takeOut_38 (by decide) (by unfold inR; omega) (by unfold inR; omega) (fun hq => ?_) (fun hq => ?_)
        · refine r_aload_n dX1_takeOut_51 rfl (by rfl) ?_
          refine r_get_i kX1_9 dX1_takeOut_52 KD_10 ?_
          exact r_ret_i dX1_takeOut_55 rfl ⟨Nat.zero_le _, Nat.zero_le _⟩ (by first | rw [up2_at] | rw [up2_el _ _ _ (by decide), up2_at]) ⟨rfl, rfl, (by unfold tkF; rw [show (σ 10 0 - 1 - g).toNat = (k - g - 1).toNat by omega]; first | (rw [if_pos hq]; done) | (rw [if_neg (by omega)]; done)), rfl, rfl⟩
        · refine r_aload_n dX1_takeOut_41 rfl (by rfl) ?_
          refine r_dup dX1_takeOut_42 rfl ?_
          refine r_get_i kX1_15 dX1_takeOut_43 KD_10 ?_
          rw [up2_el _ _ _ (by decide), show tkO σ g (k - g - 1).toNat 10 = σ 10 by unfold tkO; rw [cpR_off _ _ _ _ (by decide), cpR_off _ _ _ _ (by decide), cpR_off _ _ _ _ (by decide)]]
          refine r_iconst dX1_takeOut_46 ?_
          refine r_isub dX1_takeOut_47 ?_
          refine r_put_i kX1_15 dX1_takeOut_48 KD_10 ?_
          refine r_aload_n dX1_takeOut_51 rfl (by rfl) ?_
          refine r_get_i kX1_9 dX1_takeOut_52 KD_10 ?_
          exact r_ret_i dX1_takeOut_55 rfl ⟨Nat.zero_le _, Nat.zero_le _⟩ (by first | rw [up2_at] | rw [up2_el _ _ _ (by decide), up2_at]) ⟨rfl, rfl, (by unfold tkF; rw [show (σ 10 0 - 1 - g).toNat = (k - g - 1).toNat by omega]; first | (rw [if_pos hq]; done) | (rw [if_neg (by omega)]; done)), rfl, rfl⟩
      · refine r_aload_n dX1_takeOut_12 rfl (by rfl) ?_
        refine r_iload_n dX1_takeOut_13 rfl (by rfl) ?_
        refine r_callV1 (ct_X1_moveDown _ (by omega) (by omega)) fX1_moveDown qX1_42 dX1_takeOut_14 KD_10 (by decide) ⟨Nat.zero_le _, Nat.zero_le _⟩ (Nat.le_of_ble_eq_true rfl) ?_
        refine r_iinc dX1_takeOut_17 (by rfl) (Nat.le_of_ble_eq_true rfl) (L' := [_, _, _]) (by rfl) ?_
        refine r_goto (tgt := 4) dX1_takeOut_20 (by decide) ?_
        refine WP.mem (σ' := tkO σ g (k + 1 - g - 1).toNat) ?_ (ih (k + 1) (by omega) (by omega) (by omega))
        rw [mvD_tkO σ g k _ h0 (by omega), show (k + 1 - g - 1).toNat = (k - g - 1).toNat + 1 by omega]
  refine r_iload_n dX1_takeOut_0 rfl (by rfl) ?_
  refine r_iconst dX1_takeOut_1 ?_
  refine r_iadd dX1_takeOut_2 ?_
  refine r_istore_n dX1_takeOut_3 rfl (Nat.le_of_ble_eq_true rfl) (L' := [_, _, _]) (by rfl) ?_
  refine WP.mem (σ' := tkO σ g (g + 1 - g - 1).toNat) ?_ (cut_4 20 (g + 1) (by omega) (by omega) (by omega))
  rw [show (g + 1 - g - 1).toNat = 0 by omega, tkO_0]

def blkP (p : Nat) : Prop := p = 1 ∨ p = 18 ∨ p = 33 ∨ p = 48 ∨ p = 63 ∨ p = 78 ∨ p = 93
theorem blk_apart {p q : Nat} (hp : blkP p) (hq : blkP q) (h : p ≠ q) : p + 15 ≤ q ∨ q + 15 ≤ p := by unfold blkP at hp hq; omega
theorem blk_lt {p : Nat} (hp : blkP p) : 0 < p ∧ p < 100 ∧ (p + 14 < 16 ∨ 17 < p) := by unfold blkP at hp; omega
theorem KDb_0 {p : Nat} (hp : blkP p) : KD (p + 0) = (0, 3) := by rcases hp with rfl | rfl | rfl | rfl | rfl | rfl | rfl <;> rfl
theorem KDb_1 {p : Nat} (hp : blkP p) : KD (p + 1) = (0, 2) := by rcases hp with rfl | rfl | rfl | rfl | rfl | rfl | rfl <;> rfl
theorem KDb_2 {p : Nat} (hp : blkP p) : KD (p + 2) = (1, 12) := by rcases hp with rfl | rfl | rfl | rfl | rfl | rfl | rfl <;> rfl
theorem KDb_3 {p : Nat} (hp : blkP p) : KD (p + 3) = (1, 12) := by rcases hp with rfl | rfl | rfl | rfl | rfl | rfl | rfl <;> rfl
theorem KDb_4 {p : Nat} (hp : blkP p) : KD (p + 4) = (1, 12) := by rcases hp with rfl | rfl | rfl | rfl | rfl | rfl | rfl <;> rfl
theorem KDb_5 {p : Nat} (hp : blkP p) : KD (p + 5) = (1, 12) := by rcases hp with rfl | rfl | rfl | rfl | rfl | rfl | rfl <;> rfl
theorem KDb_6 {p : Nat} (hp : blkP p) : KD (p + 6) = (1, 12) := by rcases hp with rfl | rfl | rfl | rfl | rfl | rfl | rfl <;> rfl
theorem KDb_7 {p : Nat} (hp : blkP p) : KD (p + 7) = (1, 96) := by rcases hp with rfl | rfl | rfl | rfl | rfl | rfl | rfl <;> rfl
theorem KDb_8 {p : Nat} (hp : blkP p) : KD (p + 8) = (1, 96) := by rcases hp with rfl | rfl | rfl | rfl | rfl | rfl | rfl <;> rfl
theorem KDb_9 {p : Nat} (hp : blkP p) : KD (p + 9) = (0, 1) := by rcases hp with rfl | rfl | rfl | rfl | rfl | rfl | rfl <;> rfl
theorem KDb_10 {p : Nat} (hp : blkP p) : KD (p + 10) = (1, 12) := by rcases hp with rfl | rfl | rfl | rfl | rfl | rfl | rfl <;> rfl
theorem KDb_11 {p : Nat} (hp : blkP p) : KD (p + 11) = (1, 12) := by rcases hp with rfl | rfl | rfl | rfl | rfl | rfl | rfl <;> rfl
theorem KDb_12 {p : Nat} (hp : blkP p) : KD (p + 12) = (1, 144) := by rcases hp with rfl | rfl | rfl | rfl | rfl | rfl | rfl <;> rfl
theorem KDb_13 {p : Nat} (hp : blkP p) : KD (p + 13) = (1, 4) := by rcases hp with rfl | rfl | rfl | rfl | rfl | rfl | rfl <;> rfl
theorem KDb_14 {p : Nat} (hp : blkP p) : KD (p + 14) = (1, 12) := by rcases hp with rfl | rfl | rfl | rfl | rfl | rfl | rfl <;> rfl
theorem RHb_0_0 {p : Nat} (hp : blkP p) (π : Nat → Option Nat) : RHO π (p + 0) 0 = some (p + 1) := by rcases hp with rfl | rfl | rfl | rfl | rfl | rfl | rfl <;> rfl
theorem RHb_0_1 {p : Nat} (hp : blkP p) (π : Nat → Option Nat) : RHO π (p + 0) 1 = some (p + 9) := by rcases hp with rfl | rfl | rfl | rfl | rfl | rfl | rfl <;> rfl
theorem RHb_0_2 {p : Nat} (hp : blkP p) (π : Nat → Option Nat) : RHO π (p + 0) 2 = some (p + 13) := by rcases hp with rfl | rfl | rfl | rfl | rfl | rfl | rfl <;> rfl
theorem RHb_0_3 {p : Nat} (hp : blkP p) (π : Nat → Option Nat) : RHO π (p + 0) 3 = some (p + 14) := by rcases hp with rfl | rfl | rfl | rfl | rfl | rfl | rfl <;> rfl
theorem RHb_1_2 {p : Nat} (hp : blkP p) (π : Nat → Option Nat) : RHO π (p + 1) 2 = some (p + 2) := by rcases hp with rfl | rfl | rfl | rfl | rfl | rfl | rfl <;> rfl
theorem RHb_1_3 {p : Nat} (hp : blkP p) (π : Nat → Option Nat) : RHO π (p + 1) 3 = some (p + 3) := by rcases hp with rfl | rfl | rfl | rfl | rfl | rfl | rfl <;> rfl
theorem RHb_1_4 {p : Nat} (hp : blkP p) (π : Nat → Option Nat) : RHO π (p + 1) 4 = some (p + 4) := by rcases hp with rfl | rfl | rfl | rfl | rfl | rfl | rfl <;> rfl
theorem RHb_1_5 {p : Nat} (hp : blkP p) (π : Nat → Option Nat) : RHO π (p + 1) 5 = some (p + 5) := by rcases hp with rfl | rfl | rfl | rfl | rfl | rfl | rfl <;> rfl
theorem RHb_1_6 {p : Nat} (hp : blkP p) (π : Nat → Option Nat) : RHO π (p + 1) 6 = some (p + 6) := by rcases hp with rfl | rfl | rfl | rfl | rfl | rfl | rfl <;> rfl
theorem RHb_1_7 {p : Nat} (hp : blkP p) (π : Nat → Option Nat) : RHO π (p + 1) 7 = some (p + 7) := by rcases hp with rfl | rfl | rfl | rfl | rfl | rfl | rfl <;> rfl
theorem RHb_1_8 {p : Nat} (hp : blkP p) (π : Nat → Option Nat) : RHO π (p + 1) 8 = some (p + 8) := by rcases hp with rfl | rfl | rfl | rfl | rfl | rfl | rfl <;> rfl
theorem RHb_9_4 {p : Nat} (hp : blkP p) (π : Nat → Option Nat) : RHO π (p + 9) 4 = some (p + 10) := by rcases hp with rfl | rfl | rfl | rfl | rfl | rfl | rfl <;> rfl
theorem RHb_9_5 {p : Nat} (hp : blkP p) (π : Nat → Option Nat) : RHO π (p + 9) 5 = some (p + 11) := by rcases hp with rfl | rfl | rfl | rfl | rfl | rfl | rfl <;> rfl
theorem RHb_9_6 {p : Nat} (hp : blkP p) (π : Nat → Option Nat) : RHO π (p + 9) 6 = some (p + 12) := by rcases hp with rfl | rfl | rfl | rfl | rfl | rfl | rfl <;> rfl
theorem cp2 (σ : ST) {p q : Nat} (h : q ≠ p) : up2 (up2 σ p 0 (σ q 0)) p 1 (up2 σ p 0 (σ q 0) q 1) = cpI σ q p 2 := by
  funext a b
  rw [up2_ne _ _ _ _ h]
  show (if a = p ∧ b = 1 then σ q 1 else if a = p ∧ b = 0 then σ q 0 else σ a b) = if a = p ∧ b < 2 then σ q b else σ a b
  by_cases h1 : a = p ∧ b = 1
  · rw [if_pos h1, if_pos (by omega), h1.2]
  · rw [if_neg h1]
    by_cases h0 : a = p ∧ b = 0
    · rw [if_pos h0, if_pos (by omega), h0.2]
    · rw [if_neg h0, if_neg (by omega)]
theorem cp4 (σ : ST) {p q : Nat} (h : q ≠ p) : up2 (up2 (cpI σ q p 2) p 2 (cpI σ q p 2 q 2)) p 3 (up2 (cpI σ q p 2) p 2 (cpI σ q p 2 q 2) q 3) = cpI σ q p 4 := by
  have e : ∀ b, cpI σ q p 2 q b = σ q b := fun b => by unfold cpI; rw [if_neg (fun z => h z.1)]
  funext a b
  rw [up2_ne _ _ _ _ h, e, e]
  show (if a = p ∧ b = 3 then σ q 3 else if a = p ∧ b = 2 then σ q 2 else if a = p ∧ b < 2 then σ q b else σ a b) = if a = p ∧ b < 4 then σ q b else σ a b
  by_cases h1 : a = p ∧ b = 3
  · rw [if_pos h1, if_pos (by omega), h1.2]
  · rw [if_neg h1]
    by_cases h0 : a = p ∧ b = 2
    · rw [if_pos h0, if_pos (by omega), h0.2]
    · rw [if_neg h0]
      by_cases h2 : a = p ∧ b < 2
      · rw [if_pos h2, if_pos (by omega)]
      · rw [if_neg h2, if_neg (by omega)]
def tkSh (σ : ST) (q p : Nat) : ST := cpI (cpI (cpI (cpI (cpI (cpI (cpI (cpI σ (q + 1) (p + 1) 2) (q + 2) (p + 2) 12) (q + 3) (p + 3) 12) (q + 4) (p + 4) 12) (q + 5) (p + 5) 12) (q + 6) (p + 6) 12) (q + 7) (p + 7) 96) (q + 8) (p + 8) 96
def tkRo (σ : ST) (q p : Nat) : ST := cpI (cpI (cpI (cpI σ (q + 9) (p + 9) 4) (q + 10) (p + 10) 12) (q + 11) (p + 11) 12) (q + 12) (p + 12) 144
def tkSt (σ : ST) (q p : Nat) : ST := cpI (tkRo (tkSh σ q p) q p) (q + 13) (p + 13) 4

set_option maxRecDepth 100000 in
set_option maxHeartbeats 4000000 in
theorem ct_X5_copyAll {l : Launch} {G : GG} {π : Nat → Option Nat} {σ τ : ST} {q p m : Nat} (hkq : KD q = (1, m)) (hkp : KD p = (1, m)) (hm : m < 2147483648) : Ct l G mX5_copyAll (2, 0, 0) [.ref q, .ref p] 110 KD σ τ (RHO π) (KQ none 110 KD (cpI σ q p m) τ (RHO π)) := by
  refine ct_intro (own := "ShapedRows") rfl (by decide +kernel) (Nat.le_of_ble_eq_true rfl) (L := _) rfl ?_
  refine r_aload_n dX5_copyAll_0 rfl (by rfl) ?_
  refine r_iconst dX5_copyAll_1 ?_
  refine r_aload_n dX5_copyAll_2 rfl (by rfl) ?_
  refine r_iconst dX5_copyAll_3 ?_
  refine r_aload_n dX5_copyAll_4 rfl (by rfl) ?_
  refine r_alen (by decide) dX5_copyAll_5 hkq ?_
  refine r_aload_n dX5_copyAll_6 rfl (by rfl) ?_
  refine r_alen (by decide) dX5_copyAll_7 hkp ?_
  refine r_min qmin_X5_333 dX5_copyAll_8 (by unfold inR; omega) (by unfold inR; omega) (by decide) (Nat.le_of_ble_eq_true rfl) ⟨Nat.zero_le _, Nat.zero_le _⟩ ?_
  refine r_copy (m := m) qcopy_X5_338 dX5_copyAll_11 hkq hkp (by rfl) (by rfl) (by split <;> rfl) (by omega) (by omega) (by omega) (by decide) ?_
  exact r_ret_v dX5_copyAll_14 rfl ⟨Nat.zero_le _, Nat.zero_le _⟩ ⟨rfl, rfl, (by first | rfl | omega), rfl, rfl⟩

set_option maxRecDepth 100000 in
set_option maxHeartbeats 4000000 in
theorem ct_X2_takeFrom {l : Launch} {G : GG} {π : Nat → Option Nat} {σ τ : ST} {p q : Nat} (hp : blkP p) (hq : blkP q) (hn : q ≠ p) : Ct l G mX2_takeFrom (3, 0, 0) [.ref (p + 1), .ref (q + 1)] 110 KD σ τ (RHO π) (KQ none 110 KD (tkSh σ q p) τ (RHO π)) := by
  refine ct_intro (own := "ShapedRows$Shapes") rfl (by decide +kernel) (Nat.le_of_ble_eq_true rfl) (L := _) rfl ?_
  refine r_aload_n dX2_takeFrom_0 rfl (by rfl) ?_
  refine r_aload_n dX2_takeFrom_1 rfl (by rfl) ?_
  refine r_get_i kX2_9 dX2_takeFrom_2 (KDb_1 hq) ?_
  refine r_put_i kX2_9 dX2_takeFrom_5 (KDb_1 hp) ?_
  refine r_aload_n dX2_takeFrom_8 rfl (by rfl) ?_
  refine r_aload_n dX2_takeFrom_9 rfl (by rfl) ?_
  refine r_get_i kX2_15 dX2_takeFrom_10 (KDb_1 hq) ?_
  refine r_put_i kX2_15 dX2_takeFrom_13 (KDb_1 hp) ?_
  refine WP.mem (cp2 σ (show q + 1 ≠ p + 1 by omega)) ?_
  refine r_aload_n dX2_takeFrom_16 rfl (by rfl) ?_
  refine r_get_r kX2_18 dX2_takeFrom_17 (KDb_1 hq) (RHb_1_2 hq _) ?_
  refine r_aload_n dX2_takeFrom_20 rfl (by rfl) ?_
  refine r_get_r kX2_18 dX2_takeFrom_21 (KDb_1 hp) (RHb_1_2 hp _) ?_
  refine r_callN2 (ct_X5_copyAll (KDb_2 hq) (KDb_2 hp) (by decide)) fX5_copyAll qX2_102 dX2_takeFrom_24 (by decide) ⟨Nat.zero_le _, Nat.zero_le _⟩ (Nat.le_of_ble_eq_true rfl) ?_
  refine r_aload_n dX2_takeFrom_27 rfl (by rfl) ?_
  refine r_get_r kX2_22 dX2_takeFrom_28 (KDb_1 hq) (RHb_1_3 hq _) ?_
  refine r_aload_n dX2_takeFrom_31 rfl (by rfl) ?_
  refine r_get_r kX2_22 dX2_takeFrom_32 (KDb_1 hp) (RHb_1_3 hp _) ?_
  refine r_callN2 (ct_X5_copyAll (KDb_3 hq) (KDb_3 hp) (by decide)) fX5_copyAll qX2_102 dX2_takeFrom_35 (by decide) ⟨Nat.zero_le _, Nat.zero_le _⟩ (Nat.le_of_ble_eq_true rfl) ?_
  refine r_aload_n dX2_takeFrom_38 rfl (by rfl) ?_
  refine r_get_r kX2_25 dX2_takeFrom_39 (KDb_1 hq) (RHb_1_4 hq _) ?_
  refine r_aload_n dX2_takeFrom_42 rfl (by rfl) ?_
  refine r_get_r kX2_25 dX2_takeFrom_43 (KDb_1 hp) (RHb_1_4 hp _) ?_
  refine r_callN2 (ct_X5_copyAll (KDb_4 hq) (KDb_4 hp) (by decide)) fX5_copyAll qX2_102 dX2_takeFrom_46 (by decide) ⟨Nat.zero_le _, Nat.zero_le _⟩ (Nat.le_of_ble_eq_true rfl) ?_
  refine r_aload_n dX2_takeFrom_49 rfl (by rfl) ?_
  refine r_get_r kX2_28 dX2_takeFrom_50 (KDb_1 hq) (RHb_1_5 hq _) ?_
  refine r_aload_n dX2_takeFrom_53 rfl (by rfl) ?_
  refine r_get_r kX2_28 dX2_takeFrom_54 (KDb_1 hp) (RHb_1_5 hp _) ?_
  refine r_callN2 (ct_X5_copyAll (KDb_5 hq) (KDb_5 hp) (by decide)) fX5_copyAll qX2_102 dX2_takeFrom_57 (by decide) ⟨Nat.zero_le _, Nat.zero_le _⟩ (Nat.le_of_ble_eq_true rfl) ?_
  refine r_aload_n dX2_takeFrom_60 rfl (by rfl) ?_
  refine r_get_r kX2_31 dX2_takeFrom_61 (KDb_1 hq) (RHb_1_6 hq _) ?_
  refine r_aload_n dX2_takeFrom_64 rfl (by rfl) ?_
  refine r_get_r kX2_31 dX2_takeFrom_65 (KDb_1 hp) (RHb_1_6 hp _) ?_
  refine r_callN2 (ct_X5_copyAll (KDb_6 hq) (KDb_6 hp) (by decide)) fX5_copyAll qX2_102 dX2_takeFrom_68 (by decide) ⟨Nat.zero_le _, Nat.zero_le _⟩ (Nat.le_of_ble_eq_true rfl) ?_
  refine r_aload_n dX2_takeFrom_71 rfl (by rfl) ?_
  refine r_get_r kX2_34 dX2_takeFrom_72 (KDb_1 hq) (RHb_1_7 hq _) ?_
  refine r_aload_n dX2_takeFrom_75 rfl (by rfl) ?_
  refine r_get_r kX2_34 dX2_takeFrom_76 (KDb_1 hp) (RHb_1_7 hp _) ?_
  refine r_callN2 (ct_X5_copyAll (KDb_7 hq) (KDb_7 hp) (by decide)) fX5_copyAll qX2_102 dX2_takeFrom_79 (by decide) ⟨Nat.zero_le _, Nat.zero_le _⟩ (Nat.le_of_ble_eq_true rfl) ?_
  refine r_aload_n dX2_takeFrom_82 rfl (by rfl) ?_
  refine r_get_r kX2_37 dX2_takeFrom_83 (KDb_1 hq) (RHb_1_8 hq _) ?_
  refine r_aload_n dX2_takeFrom_86 rfl (by rfl) ?_
  refine r_get_r kX2_37 dX2_takeFrom_87 (KDb_1 hp) (RHb_1_8 hp _) ?_
  refine r_callN2 (ct_X5_copyAll (KDb_8 hq) (KDb_8 hp) (by decide)) fX5_copyAll qX2_102 dX2_takeFrom_90 (by decide) ⟨Nat.zero_le _, Nat.zero_le _⟩ (Nat.le_of_ble_eq_true rfl) ?_
  exact r_ret_v dX2_takeFrom_93 rfl ⟨Nat.zero_le _, Nat.zero_le _⟩ ⟨rfl, rfl, (by first | rfl | omega), rfl, rfl⟩

set_option maxRecDepth 100000 in
set_option maxHeartbeats 4000000 in
theorem ct_X1_takeFrom {l : Launch} {G : GG} {π : Nat → Option Nat} {σ τ : ST} {p q : Nat} (hp : blkP p) (hq : blkP q) (hn : q ≠ p) : Ct l G mX1_takeFrom (3, 0, 0) [.ref (p + 9), .ref (q + 9)] 110 KD σ τ (RHO π) (KQ none 110 KD (tkRo σ q p) τ (RHO π)) := by
  refine ct_intro (own := "ShapedRows$Rows") rfl (by decide +kernel) (Nat.le_of_ble_eq_true rfl) (L := _) rfl ?_
  refine r_aload_n dX1_takeFrom_0 rfl (by rfl) ?_
  refine r_aload_n dX1_takeFrom_1 rfl (by rfl) ?_
  refine r_get_i kX1_9 dX1_takeFrom_2 (KDb_9 hq) ?_
  refine r_put_i kX1_9 dX1_takeFrom_5 (KDb_9 hp) ?_
  refine r_aload_n dX1_takeFrom_8 rfl (by rfl) ?_
  refine r_aload_n dX1_takeFrom_9 rfl (by rfl) ?_
  refine r_get_i kX1_15 dX1_takeFrom_10 (KDb_9 hq) ?_
  refine r_put_i kX1_15 dX1_takeFrom_13 (KDb_9 hp) ?_
  refine WP.mem (cp2 σ (show q + 9 ≠ p + 9 by omega)) ?_
  refine r_aload_n dX1_takeFrom_16 rfl (by rfl) ?_
  refine r_aload_n dX1_takeFrom_17 rfl (by rfl) ?_
  refine r_get_i kX1_18 dX1_takeFrom_18 (KDb_9 hq) ?_
  refine r_put_i kX1_18 dX1_takeFrom_21 (KDb_9 hp) ?_
  refine r_aload_n dX1_takeFrom_24 rfl (by rfl) ?_
  refine r_aload_n dX1_takeFrom_25 rfl (by rfl) ?_
  refine r_get_i kX1_21 dX1_takeFrom_26 (KDb_9 hq) ?_
  refine r_put_i kX1_21 dX1_takeFrom_29 (KDb_9 hp) ?_
  refine WP.mem (cp4 σ (show q + 9 ≠ p + 9 by omega)) ?_
  refine r_aload_n dX1_takeFrom_32 rfl (by rfl) ?_
  refine r_get_r kX1_24 dX1_takeFrom_33 (KDb_9 hq) (RHb_9_4 hq _) ?_
  refine r_aload_n dX1_takeFrom_36 rfl (by rfl) ?_
  refine r_get_r kX1_24 dX1_takeFrom_37 (KDb_9 hp) (RHb_9_4 hp _) ?_
  refine r_callN2 (ct_X5_copyAll (KDb_10 hq) (KDb_10 hp) (by decide)) fX5_copyAll qX1_54 dX1_takeFrom_40 (by decide) ⟨Nat.zero_le _, Nat.zero_le _⟩ (Nat.le_of_ble_eq_true rfl) ?_
  refine r_aload_n dX1_takeFrom_43 rfl (by rfl) ?_
  refine r_get_r kX1_28 dX1_takeFrom_44 (KDb_9 hq) (RHb_9_5 hq _) ?_
  refine r_aload_n dX1_takeFrom_47 rfl (by rfl) ?_
  refine r_get_r kX1_28 dX1_takeFrom_48 (KDb_9 hp) (RHb_9_5 hp _) ?_
  refine r_callN2 (ct_X5_copyAll (KDb_11 hq) (KDb_11 hp) (by decide)) fX5_copyAll qX1_54 dX1_takeFrom_51 (by decide) ⟨Nat.zero_le _, Nat.zero_le _⟩ (Nat.le_of_ble_eq_true rfl) ?_
  refine r_aload_n dX1_takeFrom_54 rfl (by rfl) ?_
  refine r_get_r kX1_31 dX1_takeFrom_55 (KDb_9 hq) (RHb_9_6 hq _) ?_
  refine r_aload_n dX1_takeFrom_58 rfl (by rfl) ?_
  refine r_get_r kX1_31 dX1_takeFrom_59 (KDb_9 hp) (RHb_9_6 hp _) ?_
  refine r_callN2 (ct_X5_copyAll (KDb_12 hq) (KDb_12 hp) (by decide)) fX5_copyAll qX1_54 dX1_takeFrom_62 (by decide) ⟨Nat.zero_le _, Nat.zero_le _⟩ (Nat.le_of_ble_eq_true rfl) ?_
  exact r_ret_v dX1_takeFrom_65 rfl ⟨Nat.zero_le _, Nat.zero_le _⟩ ⟨rfl, rfl, (by first | rfl | omega), rfl, rfl⟩

set_option maxRecDepth 100000 in
set_option maxHeartbeats 4000000 in
theorem ct_X3_takeFrom {l : Launch} {G : GG} {π : Nat → Option Nat} {σ τ : ST} {p q : Nat} (hp : blkP p) (hq : blkP q) (hn : q ≠ p) : Ct l G mX3_takeFrom (4, 0, 0) [.ref (p + 0), .ref (q + 0)] 110 KD σ τ (RHO π) (KQ none 110 KD (tkSt σ q p) τ (RHO π)) := by
  refine ct_intro (own := "ShapedRows$State") rfl (by decide +kernel) (Nat.le_of_ble_eq_true rfl) (L := _) rfl ?_
  refine r_aload_n dX3_takeFrom_0 rfl (by rfl) ?_
  refine r_get_r kX3_12 dX3_takeFrom_1 (KDb_0 hp) (RHb_0_0 hp _) ?_
  refine r_aload_n dX3_takeFrom_4 rfl (by rfl) ?_
  refine r_get_r kX3_12 dX3_takeFrom_5 (KDb_0 hq) (RHb_0_0 hq _) ?_
  refine r_callV1 (ct_X2_takeFrom (by first | exact hp | exact hq | exact hn) (by first | exact hp | exact hq | exact hn) (by first | exact hp | exact hq | exact hn)) fX2_takeFrom qX3_136 dX3_takeFrom_8 (KDb_1 hp) (by decide) ⟨Nat.zero_le _, Nat.zero_le _⟩ (Nat.le_of_ble_eq_true rfl) ?_
  refine r_aload_n dX3_takeFrom_11 rfl (by rfl) ?_
  refine r_get_r kX3_21 dX3_takeFrom_12 (KDb_0 hp) (RHb_0_1 hp _) ?_
  refine r_aload_n dX3_takeFrom_15 rfl (by rfl) ?_
  refine r_get_r kX3_21 dX3_takeFrom_16 (KDb_0 hq) (RHb_0_1 hq _) ?_
  refine r_callV1 (ct_X1_takeFrom (by first | exact hp | exact hq | exact hn) (by first | exact hp | exact hq | exact hn) (by first | exact hp | exact hq | exact hn)) fX1_takeFrom qX3_140 dX3_takeFrom_19 (KDb_9 hp) (by decide) ⟨Nat.zero_le _, Nat.zero_le _⟩ (Nat.le_of_ble_eq_true rfl) ?_
  refine r_aload_n dX3_takeFrom_22 rfl (by rfl) ?_
  refine r_get_r kX3_25 dX3_takeFrom_23 (KDb_0 hq) (RHb_0_2 hq _) ?_
  refine r_aload_n dX3_takeFrom_26 rfl (by rfl) ?_
  refine r_get_r kX3_25 dX3_takeFrom_27 (KDb_0 hp) (RHb_0_2 hp _) ?_
  refine r_callN2 (ct_X5_copyAll (KDb_13 hq) (KDb_13 hp) (by decide)) fX5_copyAll qX3_143 dX3_takeFrom_30 (by decide) ⟨Nat.zero_le _, Nat.zero_le _⟩ (Nat.le_of_ble_eq_true rfl) ?_
  exact r_ret_v dX3_takeFrom_33 rfl ⟨Nat.zero_le _, Nat.zero_le _⟩ ⟨rfl, rfl, (by first | rfl | omega), rfl, rfl⟩

def TI (σ : ST) : Prop := (0 ≤ σ 108 1 ∧ σ 108 1 ≤ 60) ∧ ∀ k, 0 ≤ σ 109 k ∧ σ 109 k ≤ 126
def meP (s : Int) : Prop := s = 4 ∨ s = 9 ∨ s = 13 ∨ s = 14
def ooF (f l c s : Int) : Int := if f ≤ c ∧ c ≤ l then s else -1
def afF (c : Int) : Int := if c = 43 then 1 else if c = 45 then 6 else if c = 62 then 10 else if c = 110 then 14 else if c = 42 then 12 else -1
def alF (s : Int) : Int := if s = 1 then 2 else if s = 3 then 4 else if s = 6 then 7 else if s = 10 then 11 else if s = 5 ∨ s = 11 then 14 else -1
def nxF (s c : Int) : Int := if c = 59 then (if s = 4 ∨ s = 9 ∨ s = 13 ∨ s = 14 then 0 else -1) else if s = 0 then afF c else if s = 2 then (if c = 58 then 3 else ooF 61 61 c 8) else if s = 4 then ooF 43 43 c 5 else if s = 7 then ooF 61 61 c 8 else if s = 8 then (if c = 48 then 14 else ooF 49 57 c 9) else if s = 9 then ooF 48 57 c 14 else if s = 12 then (if c = 49 then 13 else ooF 50 57 c 14) else if s = 13 then ooF 48 50 c 14 else ooF 97 104 c (alF s)
theorem nxF_rng (s c : Int) : -1 ≤ nxF s c ∧ nxF s c ≤ 14 := by
  unfold nxF ooF afF alF
  (repeat' split) <;> omega
def dfR (f : Nat → Int) : Nat → Int
  | 0 => 0
  | k + 1 => nxF (dfR f k) (f k)
theorem dfR_rng (f : Nat → Int) : ∀ n, -1 ≤ dfR f n ∧ dfR f n ≤ 14
  | 0 => by unfold dfR; omega
  | n + 1 => nxF_rng _ _
def cdF (σ : ST) (i : Int) : Int := if i < σ 108 1 then σ 109 i.toNat else -1
def nbF (σ : ST) (i : Int) : Nat → Int
  | 0 => 0
  | k + 1 => 10 * nbF σ i k + (cdF σ (i + k) - 48)
def epF (σ : ST) : Int := if fnd (fun k => dfR (σ 109) (k + 1)) (-1) (σ 108 1).toNat = -1 then σ 108 1 else fnd (fun k => dfR (σ 109) (k + 1)) (-1) (σ 108 1).toNat

set_option maxRecDepth 100000 in
set_option maxHeartbeats 4000000 in
theorem ct_X4_length {l : Launch} {G : GG} {π : Nat → Option Nat} {σ τ : ST}  : Ct l G mX4_length (0, 0, 0) [.ref 108] 110 KD σ τ (RHO π) (KQ (some (.int (iI (σ 108 1)))) 110 KD σ τ (RHO π)) := by
  refine ct_intro (own := "ShapedRows$Text") rfl (by decide +kernel) (Nat.le_of_ble_eq_true rfl) (L := _) rfl ?_
  refine r_aload_n dX4_length_0 rfl (by rfl) ?_
  refine r_get_i kX4_15 dX4_length_1 KD_108 ?_
  exact r_ret_i dX4_length_4 rfl ⟨Nat.zero_le _, Nat.zero_le _⟩ (by first | rfl | omega | (split <;> omega)) ⟨rfl, rfl, (by first | rfl | omega), rfl, rfl⟩

set_option maxRecDepth 100000 in
set_option maxHeartbeats 4000000 in
theorem ct_X4_code {l : Launch} {G : GG} {π : Nat → Option Nat} {σ τ : ST} (hT : TI σ) (i : Int) (h0 : 0 ≤ i) (h1 : i ≤ 2000000000) : Ct l G mX4_code (1, 0, 0) [.ref 108, .int (iI i)] 110 KD σ τ (RHO π) (KQ (some (.int (iI (cdF σ i)))) 110 KD σ τ (RHO π)) := by
  have hl := hT.1
  refine ct_intro (own := "ShapedRows$Text") rfl (by decide +kernel) (Nat.le_of_ble_eq_true rfl) (L := _) rfl ?_
  refine r_iload_n dX4_code_0 rfl (by rfl) ?_
  refine r_aload_n dX4_code_1 rfl (by rfl) ?_
  refine r_get_i kX4_15 dX4_code_2 KD_108 ?_
  refine r_icmp_ge (tgt := 19) dX4_code_5 (by decide) (by unfold inR; omega) (by unfold inR; omega) (fun c_1 => ?_) (fun c_1 => ?_)
  · refine r_iconst dX4_code_19 ?_
    exact r_ret_i dX4_code_20 rfl ⟨Nat.zero_le _, Nat.zero_le _⟩ (by unfold cdF; first | (rw [if_pos (by omega)]; done) | (rw [if_neg (by omega)]; done)) ⟨rfl, rfl, (by first | rfl | omega), rfl, rfl⟩
  · refine r_aload_n dX4_code_8 rfl (by rfl) ?_
    refine r_get_r kX4_9 dX4_code_9 KD_108 (RHO_108_0 _) ?_
    refine r_iload_n dX4_code_12 rfl (by rfl) ?_
    refine r_callN2 (ct_X5_at KD_109 (by decide) _ (by omega) (by omega)) fX5_at qX4_23 dX4_code_13 (by decide) ⟨Nat.zero_le _, Nat.zero_le _⟩ (Nat.le_of_ble_eq_true rfl) ?_
    refine r_goto (tgt := 20) dX4_code_16 (by decide) ?_
    exact r_ret_i dX4_code_20 rfl ⟨Nat.zero_le _, Nat.zero_le _⟩ (by unfold cdF; first | (rw [if_pos (by omega)]; done) | (rw [if_neg (by omega)]; done)) ⟨rfl, rfl, (by first | rfl | omega), rfl, rfl⟩
