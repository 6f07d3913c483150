/-! a run of the text -/
theorem nb1 (σ : ST) (i : Int) : nbF σ i 1 = cdF σ i - 48 := by
  show 10 * 0 + (cdF σ (i + ((0 : Nat) : Int)) - 48) = _
  rw [show i + ((0 : Nat) : Int) = i by omega]
  omega
theorem nb2 (σ : ST) (i : Int) : nbF σ i 2 = 10 * (cdF σ i - 48) + (cdF σ (i + 1) - 48) := by
  show 10 * nbF σ i 1 + (cdF σ (i + ((1 : Nat) : Int)) - 48) = _
  rw [nb1]
  rfl
def okP (σ : ST) (f e : Int) : Prop := okO σ f e ∧ ((cdF σ f = 45 ∨ (cdF σ f = 43 ∧ cdF σ (f + 2) = 61)) → 0 ≤ nbF σ (f + 3) (e - (f + 3)).toNat ∧ nbF σ (f + 3) (e - (f + 3)).toNat ≤ 99) ∧ (cdF σ f = 62 → 0 ≤ letF σ (f + 2) ∧ letF σ (f + 2) < 8)
theorem IV_ok {σ : ST} {f k s : Int} (h : IV σ f k s.toNat) (hs : s = 4 ∨ s = 9 ∨ s = 13 ∨ s = 14) (f0 : 0 ≤ f) (hk : k ≤ 1000) : okP σ f k := by
  have l1 : letF σ (f + 1) = cdF σ (f + 1) - 97 := rfl
  have l2 : letF σ (f + 2) = cdF σ (f + 2) - 97 := rfl
  have n1 : k = f + 4 → nbF σ (f + 3) (k - (f + 3)).toNat = cdF σ (f + 3) - 48 := fun q => by rw [show (k - (f + 3)).toNat = 1 by omega, nb1]
  have n2 : k = f + 5 → nbF σ (f + 3) (k - (f + 3)).toNat = 10 * (cdF σ (f + 3) - 48) + (cdF σ (f + 4) - 48) := fun q => by rw [show (k - (f + 3)).toNat = 2 by omega, nb2, show f + 3 + 1 = f + 4 by omega]
  have m1 : k = f + 2 → nbF σ (f + 1) (k - (f + 1)).toNat = cdF σ (f + 1) - 48 := fun q => by rw [show (k - (f + 1)).toNat = 1 by omega, nb1]
  have m2 : k = f + 3 → nbF σ (f + 1) (k - (f + 1)).toNat = 10 * (cdF σ (f + 1) - 48) + (cdF σ (f + 2) - 48) := fun q => by rw [show (k - (f + 1)).toNat = 2 by omega, nb2, show f + 1 + 1 = f + 2 by omega]
  rcases hs with rfl | rfl | rfl | rfl
  · have h2 : k = f + 4 ∧ cdF σ f = 43 ∧ 97 ≤ cdF σ (f + 1) ∧ cdF σ (f + 1) ≤ 104 ∧ cdF σ (f + 2) = 58 := h
    exact ⟨⟨f0, by omega, hk, fun _ => by omega, fun _ _ => by omega, fun _ => by omega, fun q => by omega⟩, fun q => by omega, fun q => by omega⟩
  · have h2 : k = f + 4 ∧ (cdF σ f = 43 ∨ cdF σ f = 45) ∧ 97 ≤ cdF σ (f + 1) ∧ cdF σ (f + 1) ≤ 104 ∧ cdF σ (f + 2) = 61 ∧ 49 ≤ cdF σ (f + 3) ∧ cdF σ (f + 3) ≤ 57 := h
    have n := n1 h2.1
    exact ⟨⟨f0, by omega, hk, fun _ => by omega, fun _ _ => by omega, fun _ => by omega, fun q => by omega⟩, fun q => by omega, fun q => by omega⟩
  · have h2 : k = f + 2 ∧ cdF σ f = 42 ∧ cdF σ (f + 1) = 49 := h
    have n := m1 h2.1
    exact ⟨⟨f0, by omega, hk, fun _ => by omega, fun _ _ => by omega, fun _ => by omega, fun q => by omega⟩, fun q => by omega, fun q => by omega⟩
  · rcases h with h2 | h2 | h2 | h2 | h2 | h2 | h2
    · exact ⟨⟨f0, by omega, hk, fun _ => by omega, fun _ _ => by omega, fun _ => by omega, fun q => by omega⟩, fun q => by omega, fun q => by omega⟩
    · exact ⟨⟨f0, by omega, hk, fun _ => by omega, fun _ _ => by omega, fun _ => by omega, fun q => by omega⟩, fun q => by omega, fun q => by omega⟩
    · have n := n1 h2.1
      exact ⟨⟨f0, by omega, hk, fun _ => by omega, fun _ _ => by omega, fun _ => by omega, fun q => by omega⟩, fun q => by omega, fun q => by omega⟩
    · have n := n2 h2.1
      exact ⟨⟨f0, by omega, hk, fun _ => by omega, fun _ _ => by omega, fun _ => by omega, fun q => by omega⟩, fun q => by omega, fun q => by omega⟩
    · exact ⟨⟨f0, by omega, hk, fun _ => by omega, fun _ _ => by omega, fun _ => by omega, fun q => by omega⟩, fun q => by omega, fun q => by omega⟩
    · have n := m1 h2.1
      exact ⟨⟨f0, by omega, hk, fun _ => by omega, fun _ _ => by omega, fun _ => by omega, fun q => by omega⟩, fun q => by omega, fun q => by omega⟩
    · have n := m2 h2.1
      exact ⟨⟨f0, by omega, hk, fun _ => by omega, fun _ _ => by omega, fun _ => by omega, fun q => by omega⟩, fun q => by omega, fun q => by omega⟩
theorem LI_itS {σ : ST} (h : LI σ) (n : Nat) : LI (itS σ n) := LI_of h (by rw [itS_r (by decide)]) (itS_r (by decide) n) (itS_r (by decide) n)
theorem LI_adR {σ : ST} (h : LI σ) (s : Int) : LI (adR σ s) := by
  have e : ∀ p, p < 10 → adR σ s p = σ p := fun p hp => by
    unfold adR adRM
    simp (disch := omega) only [up2_off, cpR_off]
  exact LI_of h (by rw [e _ (by decide)]) (e _ (by decide)) (e _ (by decide))
theorem exO_keep {σ : ST} (hI : CI σ) (hL : LI σ) {f e : Int} (hO : okP σ f e) : CI (exO σ f e) ∧ LI (exO σ f e) := by
  obtain ⟨⟨h0, h1, h2, h3, h4, h5, h6⟩, h7, h8⟩ := hO
  have hz := hI.sz
  have hW := WI_of hI hL
  unfold exO
  by_cases c1 : cdF σ f = 43
  · have ha := h3 (Or.inl c1)
    rw [if_pos c1]
    by_cases c2 : cdF σ (f + 2) = 61
    · rw [if_pos c2]
      split
      · rename_i q
        exact ⟨CI_exN hI q.1 ha (h7 (Or.inr ⟨c1, c2⟩)) (hW _ ha.1 ha.2 q.2), LI_exN hI hL _ q.2⟩
      · exact ⟨hI, hL⟩
    · rw [if_neg c2]
      split
      · rename_i q
        exact ⟨CI_exC hI q.1 ha q.2.2.1 q.2.2.2 (hW _ ha.1 ha.2 q.2.1), LI_exC hI hL _ _ q.2.1⟩
      · exact ⟨hI, hL⟩
  · rw [if_neg c1]
    by_cases c2 : cdF σ f = 45
    · rw [if_pos c2]
      split
      · rename_i q
        exact ⟨CI_lvO hI q.1 (h7 (Or.inl c2)) q.2, LI_lvO hI hL _ q.2⟩
      · exact ⟨hI, hL⟩
    · rw [if_neg c2]
      by_cases c3 : cdF σ f = 62
      · rw [if_pos c3]
        split
        · rename_i q
          exact ⟨CI_xcL hI q.1 _ (h8 c3), LI_xcL hI hL q.2.1 q.2.2⟩
        · exact ⟨hI, hL⟩
      · rw [if_neg c3]
        by_cases c4 : cdF σ f = 110
        · rw [if_pos c4]
          split
          · rename_i q
            exact ⟨CI_adR hI q (by omega), LI_adR hL _⟩
          · exact ⟨hI, hL⟩
        · rw [if_neg c4]
          exact ⟨CI_itS hI _, LI_itS hL _⟩
theorem cdF_cg {σ σ' : ST} (e8 : σ' 108 = σ 108) (e9 : σ' 109 = σ 109) (i : Int) : cdF σ' i = cdF σ i := by unfold cdF; rw [e8, e9]
theorem nbF_cg {σ σ' : ST} (e8 : σ' 108 = σ 108) (e9 : σ' 109 = σ 109) (i : Int) : ∀ n, nbF σ' i n = nbF σ i n
  | 0 => rfl
  | n + 1 => by unfold nbF; rw [nbF_cg e8 e9 i n, cdF_cg e8 e9]
theorem okP_cg {σ σ' : ST} (e8 : σ' 108 = σ 108) (e9 : σ' 109 = σ 109) {f e : Int} (h : okP σ f e) : okP σ' f e := by
  unfold okP okO letF at h ⊢
  simp only [cdF_cg e8 e9, nbF_cg e8 e9]
  exact h
def cmT (σ : ST) : Prop := dfR (σ 109) (σ 108 1).toNat = 4 ∨ dfR (σ 109) (σ 108 1).toNat = 9 ∨ dfR (σ 109) (σ 108 1).toNat = 13 ∨ dfR (σ 109) (σ 108 1).toNat = 14
theorem nx_abs (c : Int) : nxF (-1) c = -1 := by
  unfold nxF ooF alF
  (repeat' split) <;> omega
theorem dfR_abs (f : Nat → Int) (k : Nat) (h : dfR f k = -1) : ∀ m, dfR f (k + m) = -1
  | 0 => h
  | m + 1 => by
    show nxF (dfR f (k + m)) (f (k + m)) = -1
    rw [dfR_abs f k h m]
    exact nx_abs _
theorem dfR_pos {σ : ST} (hT : TI σ) (hc : cmT σ) {k : Nat} (hk : (k : Int) ≤ σ 108 1) : 0 ≤ dfR (σ 109) k ∧ dfR (σ 109) k ≤ 14 := by
  have h := dfR_rng (σ 109) k
  by_cases e : dfR (σ 109) k = -1
  · exfalso
    have h2 := dfR_abs (σ 109) k e ((σ 108 1).toNat - k)
    rw [show k + ((σ 108 1).toNat - k) = (σ 108 1).toNat by omega] at h2
    unfold cmT at hc
    omega
  · omega
theorem nx_59 {s : Int} (h : nxF s 59 ≠ -1) : (s = 4 ∨ s = 9 ∨ s = 13 ∨ s = 14) ∧ nxF s 59 = 0 := by
  unfold nxF at h ⊢
  rw [if_pos rfl] at h ⊢
  by_cases q : s = 4 ∨ s = 9 ∨ s = 13 ∨ s = 14
  · exact ⟨q, if_pos q⟩
  · rw [if_neg q] at h; exact absurd rfl h
/-- after k places: the state, the orders done, where the next begins, whether it goes on -/
def rn (σ : ST) : Nat → ST × Int × Int × Int
  | 0 => (σ, 0, 0, 1)
  | k + 1 => if (rn σ k).2.2.2 = 0 then rn σ k else if (k : Int) = σ 108 1 ∨ cdF σ (k : Int) = 59 then (exO (rn σ k).1 (rn σ k).2.2.1 (k : Int), (rn σ k).2.1 + exA (rn σ k).1 (rn σ k).2.2.1 (k : Int), (k : Int) + 1, exA (rn σ k).1 (rn σ k).2.2.1 (k : Int)) else rn σ k
def RV (σ : ST) (k : Nat) (q : ST × Int × Int × Int) : Prop := CI q.1 ∧ LI q.1 ∧ (∀ p, 16 ≤ p → q.1 p = σ p) ∧ (q.2.2.2 = 0 ∨ q.2.2.2 = 1) ∧ (0 ≤ q.2.1 ∧ q.2.1 ≤ (k : Int)) ∧ (0 ≤ q.2.2.1 ∧ q.2.2.1 ≤ (k : Int)) ∧ (q.2.2.2 = 1 → (k : Int) ≤ σ 108 1 → IV σ q.2.2.1 (k : Int) (dfR (σ 109) k).toNat)
theorem RV_ok {σ : ST} (hT : TI σ) (hc : cmT σ) {k : Nat} {q : ST × Int × Int × Int} (h : RV σ k q) (hg : q.2.2.2 ≠ 0) (hk : (k : Int) ≤ σ 108 1) (he : (k : Int) = σ 108 1 ∨ cdF σ (k : Int) = 59) : okP q.1 q.2.2.1 (k : Int) := by
  obtain ⟨h1, h2, h3, h4, h5, h6, h7⟩ := h
  have hl := hT.1
  have hi := h7 (h4.resolve_left hg) hk
  refine okP_cg (h3 108 (by decide)) (h3 109 (by decide)) (IV_ok hi ?_ h6.1 (by omega))
  by_cases e : (k : Int) = σ 108 1
  · unfold cmT at hc
    rw [← e, Int.toNat_natCast] at hc
    exact hc
  · have h59 := he.resolve_left e
    have hn := dfR_pos hT hc (k := k + 1) (by omega)
    have e2 : dfR (σ 109) (k + 1) = nxF (dfR (σ 109) k) (σ 109 k) := rfl
    have e3 : cdF σ (k : Int) = σ 109 k := by unfold cdF; rw [if_pos (by omega)]; rfl
    rw [e2, ← e3, h59] at hn
    exact (nx_59 (by omega)).1
theorem rn_inv {σ : ST} (hI : CI σ) (hL : LI σ) (hT : TI σ) (hc : cmT σ) : ∀ k : Nat, (k : Int) ≤ σ 108 1 + 1 → RV σ k (rn σ k)
  | 0, _ => ⟨hI, hL, fun _ _ => rfl, Or.inr rfl, ⟨Int.le_refl _, Int.le_refl _⟩, ⟨Int.le_refl _, Int.le_refl _⟩, fun _ _ => rfl⟩
  | k + 1, hk => by
    have h := rn_inv hI hL hT hc k (by omega)
    have hR := h
    obtain ⟨h1, h2, h3, h4, h5, h6, h7⟩ := h
    have hl := hT.1
    have hd := dfR_pos hT hc (k := k) (by omega)
    unfold rn
    by_cases g0 : (rn σ k).2.2.2 = 0
    · rw [if_pos g0]
      exact ⟨h1, h2, h3, h4, by omega, by omega, fun q => by omega⟩
    · rw [if_neg g0]
      by_cases e : (k : Int) = σ 108 1 ∨ cdF σ (k : Int) = 59
      · rw [if_pos e]
        have hO := RV_ok hT hc hR g0 (by omega) e
        have hx := exA_01 (rn σ k).1 (rn σ k).2.2.1 (k : Int)
        have hkeep := exO_keep h1 h2 hO
        refine ⟨hkeep.1, hkeep.2, fun p hp => (exO_off _ _ _ hp).trans (h3 p hp), hx, ?_, ⟨by show (0 : Int) ≤ (k : Int) + 1; omega, by show (k : Int) + 1 ≤ ((k + 1 : Nat) : Int); omega⟩, fun _ hlen => ?_⟩
        · show 0 ≤ (rn σ k).2.1 + exA (rn σ k).1 (rn σ k).2.2.1 (k : Int) ∧ (rn σ k).2.1 + exA (rn σ k).1 (rn σ k).2.2.1 (k : Int) ≤ ((k + 1 : Nat) : Int)
          omega
        · have h59 : cdF σ (k : Int) = 59 := e.resolve_left (by omega)
          have hn := dfR_pos hT hc (k := k + 1) hlen
          have e2 : dfR (σ 109) (k + 1) = nxF (dfR (σ 109) k) (σ 109 k) := rfl
          have e3 : cdF σ (k : Int) = σ 109 k := by unfold cdF; rw [if_pos (by omega)]; rfl
          rw [e2, ← e3, h59] at hn
          rw [e2, ← e3, h59, (nx_59 (by omega)).2]
          show ((k + 1 : Nat) : Int) = (k : Int) + 1
          omega
      · rw [if_neg e]
        refine ⟨h1, h2, h3, h4, by omega, by omega, fun q hlen => ?_⟩
        have hn := dfR_pos hT hc (k := k + 1) hlen
        have e2 : dfR (σ 109) (k + 1) = nxF (dfR (σ 109) k) (σ 109 k) := rfl
        have e3 : cdF σ (k : Int) = σ 109 k := by unfold cdF; rw [if_pos (by omega)]; rfl
        have h9 := IV_step hd.1 hd.2 hT (h7 q (by omega)) (t := dfR (σ 109) (k + 1)) (by rw [e2, e3]) (by omega) (fun z => e (Or.inr z))
        exact h9
theorem rn_stop {σ : ST} {k : Nat} (h : (rn σ k).2.2.2 = 0) : ∀ m, rn σ (k + m) = rn σ k
  | 0 => rfl
  | m + 1 => by
    have e := rn_stop h m
    show (if (rn σ (k + m)).2.2.2 = 0 then rn σ (k + m) else _) = _
    rw [e, if_pos h]
def rnS (σ : ST) : ST := (rn σ ((σ 108 1).toNat + 1)).1
def rnD (σ : ST) : Int := (rn σ ((σ 108 1).toNat + 1)).2.1
theorem rn_no {ζ S : ST} {k d f g : Int} (k0 : 0 ≤ k) (hq : rn ζ k.toNat = (S, d, f, g)) (hg : g ≠ 0) (he : ¬ (k = ζ 108 1 ∨ cdF ζ k = 59)) : rn ζ (k + 1).toNat = (S, d, f, g) := by
  have ek : ((k.toNat : Nat) : Int) = k := by omega
  rw [show (k + 1).toNat = k.toNat + 1 by omega]
  unfold rn
  rw [hq, ek, if_neg hg, if_neg he]
theorem rn_yes {ζ S : ST} {k d f g e : Int} (k0 : 0 ≤ k) (hq : rn ζ k.toNat = (S, d, f, g)) (hg : g ≠ 0) (he : k = ζ 108 1 ∨ cdF ζ k = 59) (hd : d + exA S f k = e) : rn ζ (k + 1).toNat = (exO S f k, e, k + 1, exA S f k) := by
  have ek : ((k.toNat : Nat) : Int) = k := by omega
  rw [show (k + 1).toNat = k.toNat + 1 by omega]
  unfold rn
  rw [hq, ek, if_neg hg, if_pos he, hd]

def er_run (σ : ST) : Int := if dfR (σ 109) (σ 108 1).toNat = 4 ∨ dfR (σ 109) (σ 108 1).toNat = 9 ∨ dfR (σ 109) (σ 108 1).toNat = 13 ∨ dfR (σ 109) (σ 108 1).toNat = 14 then 0 else 1
theorem cmT_sv {σ : ST} {b : Nat → Nat} (hB : okB b) (hN : 0 ≤ σ 16 1 ∧ σ 16 1 ≤ 6) (h : cmT σ) : cmT (svF σ b) := by
  unfold cmT at h ⊢
  rw [sv_108 hB hN, sv_109 hB hN]
  exact h
theorem LI_sv {σ : ST} {b : Nat → Nat} (hB : okB b) (hN : 0 ≤ σ 16 1 ∧ σ 16 1 ≤ 6) (h : LI σ) : LI (svF σ b) := LI_of h (by rw [sv_2 hB hN]) (sv_7 hB hN) (sv_9 hB hN)

set_option maxRecDepth 100000 in
set_option maxHeartbeats 4000000 in
theorem ct_X5_run {l : Launch} {G : GG} {σ τ : ST} (hl : l.stackTraces = false) (hI : CI σ) (hL : LI σ) (hT : TI σ) (b : Nat → Nat) (hB : okB b) (hN : 0 ≤ σ 16 1 ∧ σ 16 1 ≤ 6)  : CtX l G mX5_run (7, 1, 6) [.ref 0] 117 KD σ τ (RHO (PB b)) (KF (er_run σ) (some (.int (iI (rnD (svF σ b))))) (up2 (rnS (svF σ b)) 108 1 0) τ (PB (svB σ b))) (KE1 (er_run σ) σ τ (PB b)) := by
  have hlen := hT.1
  obtain ⟨ζ, hζ⟩ : ∃ ζ, ζ = svF σ b := ⟨_, rfl⟩
  have z8 : ζ 108 = σ 108 := by rw [hζ]; exact sv_108 hB hN
  have z81 : ζ 108 1 = σ 108 1 := by rw [z8]
  have zI : CI ζ := by rw [hζ]; exact CI_sv hB hN hI
  have zL : LI ζ := by rw [hζ]; exact LI_sv hB hN hL
  have zT : TI ζ := by rw [hζ]; exact TI_sv hB hN hT
  refine ctx_intro (own := "ShapedRows") hl rfl (by decide +kernel) (by decide) (Nat.le_of_ble_eq_true rfl) (L := _) rfl ?_
  have cut_40 : ∀ (N : Nat) (k d f g : Int) (S : ST) (h : Nat → Int), (cmT σ) → (0 ≤ k) → (k ≤ ζ 108 1 + 1) → (rn ζ k.toNat = (S, d, f, g)) → ζ 108 1 + 1 - k < (N : Int) → WP l G "ShapedRows" mX5_run (7, 1, 6) (KF (er_run σ) (some (.int (iI (rnD (svF σ b))))) (up2 (rnS (svF σ b)) 108 1 0) τ (PB (svB σ b))) (KE1 (er_run σ) σ τ (PB b)) 117 40 [some (.ref 0), some (.int (iI d)), some (.int (iI f)), some (.int (iI g)), some (.int (iI k))] [] 117 KD (sr S 15 h) τ (RHO (PB (svB σ b))) 0 0 := by
    intro N
    induction N with
    | zero => intro k d f g S h hcm k0 k1 hq hm; exact absurd hm (by omega)
    | succ N ih =>
      intro k d f g S h hcm k0 k1 hq hm
      have hV := rn_inv zI zL zT (by rw [hζ]; exact cmT_sv hB hN hcm) k.toNat (by omega)
      rw [hq] at hV
      have hVS := hV
      obtain ⟨v1, v2, v3, v4, v5, v6, v7⟩ := hV
      simp only at v1 v2 v3 v4 v5 v6 v7
      have s8 : S 108 = ζ 108 := v3 108 (by decide)
      have s9 : S 109 = ζ 109 := v3 109 (by decide)
      have ek : ((k.toNat : Nat) : Int) = k := by omega
      rw [ek] at v5 v6 v7
      have hTS : TI (sr S 15 h) := TI_sr (by unfold TI at zT ⊢; rw [s8, s9]; exact zT)
      have hcs : cdF S k = cdF ζ k := cdF_cg s8 s9 k
      have s81 : S 108 1 = ζ 108 1 := by rw [s8]
      have hWS : WI (sr S 15 h) := WI_of (CI_sr v1) (LI_of v2 (by rw [sr_2]) (sr_7 _ _) (sr_9 _ _))
      refine r_iload_n dX5_run_40 rfl (by rfl) ?_
      refine r_if_eq (tgt := 99) dX5_run_41 (by decide) (by unfold inR; omega) (fun hg => ?_) (fun hg => ?_)
      · have hfin : rn ζ ((ζ 108 1).toNat + 1) = (S, d, f, g) := by
          have q := rn_stop (σ := ζ) (k := k.toNat) (by rw [hq]; exact hg) ((ζ 108 1).toNat + 1 - k.toNat)
          rw [show k.toNat + ((ζ 108 1).toNat + 1 - k.toNat) = (ζ 108 1).toNat + 1 by omega, hq] at q
          exact q
        refine r_aload_n dX5_run_99 rfl (by rfl) ?_
        refine r_get_r kX5_26 dX5_run_100 KD_0 (RHO_0_2 _) ?_
        refine r_callV0 ct_X4_clear fX4_clear qX5_177 dX5_run_103 KD_108 (by decide) ⟨Nat.zero_le _, Nat.zero_le _⟩ (Nat.le_of_ble_eq_true rfl) ?_
        try simp only [sr_2, sr_3, sr_4, sr_5, sr_6, sr_7, sr_8, sr_9, sr_10, sr_11, sr_12, sr_13, sr_14, sr_16, sr_108, sr_109, sr_110, sr_111, sr_sr, sr_row, cdF_sr, exO_sr, exA_sr]
        refine r_pop dX5_run_106 rfl ?_
        refine r_iload_n dX5_run_107 rfl (by rfl) ?_
        exact r_ret_if dX5_run_108 rfl ⟨Nat.zero_le _, Nat.zero_le _⟩ (by unfold er_run; first | (rw [if_pos (show dfR (σ 109) (σ 108 1).toNat = 4 ∨ dfR (σ 109) (σ 108 1).toNat = 9 ∨ dfR (σ 109) (σ 108 1).toNat = 13 ∨ dfR (σ 109) (σ 108 1).toNat = 14 from hcm)]; done) | (rw [if_neg (show ¬ (dfR (σ 109) (σ 108 1).toNat = 4 ∨ dfR (σ 109) (σ 108 1).toNat = 9 ∨ dfR (σ 109) (σ 108 1).toNat = 13 ∨ dfR (σ 109) (σ 108 1).toNat = 14) from hcm)]; done)) (by rw [← hζ]; unfold rnD; rw [hfin]) (by rw [← hζ]; unfold rnS; rw [hfin]; exact up2_srn _ _ _ _ (by decide))
      · refine r_iload dX5_run_44 (by rfl) ?_
        refine r_aload_n dX5_run_46 rfl (by rfl) ?_
        refine r_get_r kX5_26 dX5_run_47 KD_0 (RHO_0_2 _) ?_
        refine r_callV0 ct_X4_length fX4_length qX5_188 dX5_run_50 KD_108 (by decide) ⟨Nat.zero_le _, Nat.zero_le _⟩ (Nat.le_of_ble_eq_true rfl) ?_
        try simp only [sr_2, sr_3, sr_4, sr_5, sr_6, sr_7, sr_8, sr_9, sr_10, sr_11, sr_12, sr_13, sr_14, sr_16, sr_108, sr_109, sr_110, sr_111, sr_sr, sr_row, cdF_sr, exO_sr, exA_sr]
        refine r_icmp_gt (tgt := 99) dX5_run_53 (by decide) (by unfold inR; omega) (by unfold inR; omega) (fun hlt => ?_) (fun hlt => ?_)
        · have hfin : rn ζ ((ζ 108 1).toNat + 1) = (S, d, f, g) := by
            rw [show (ζ 108 1).toNat + 1 = k.toNat by omega]
            exact hq
          refine r_aload_n dX5_run_99 rfl (by rfl) ?_
          refine r_get_r kX5_26 dX5_run_100 KD_0 (RHO_0_2 _) ?_
          refine r_callV0 ct_X4_clear fX4_clear qX5_177 dX5_run_103 KD_108 (by decide) ⟨Nat.zero_le _, Nat.zero_le _⟩ (Nat.le_of_ble_eq_true rfl) ?_
          try simp only [sr_2, sr_3, sr_4, sr_5, sr_6, sr_7, sr_8, sr_9, sr_10, sr_11, sr_12, sr_13, sr_14, sr_16, sr_108, sr_109, sr_110, sr_111, sr_sr, sr_row, cdF_sr, exO_sr, exA_sr]
          refine r_pop dX5_run_106 rfl ?_
          refine r_iload_n dX5_run_107 rfl (by rfl) ?_
          exact r_ret_if dX5_run_108 rfl ⟨Nat.zero_le _, Nat.zero_le _⟩ (by unfold er_run; first | (rw [if_pos (show dfR (σ 109) (σ 108 1).toNat = 4 ∨ dfR (σ 109) (σ 108 1).toNat = 9 ∨ dfR (σ 109) (σ 108 1).toNat = 13 ∨ dfR (σ 109) (σ 108 1).toNat = 14 from hcm)]; done) | (rw [if_neg (show ¬ (dfR (σ 109) (σ 108 1).toNat = 4 ∨ dfR (σ 109) (σ 108 1).toNat = 9 ∨ dfR (σ 109) (σ 108 1).toNat = 13 ∨ dfR (σ 109) (σ 108 1).toNat = 14) from hcm)]; done)) (by rw [← hζ]; unfold rnD; rw [hfin]) (by rw [← hζ]; unfold rnS; rw [hfin]; exact up2_srn _ _ _ _ (by decide))
        · refine r_aload_n dX5_run_56 rfl (by rfl) ?_
          refine r_get_r kX5_26 dX5_run_57 KD_0 (RHO_0_2 _) ?_
          refine r_iload dX5_run_60 (by rfl) ?_
          refine r_callV1 (ct_X4_endsOrder (by first | exact hT | exact hO | exact hWS | exact hB | exact hN | exact hTS | (unfold inR; omega) | omega) _ (by first | exact hT | exact hO | exact hWS | exact hB | exact hN | exact hTS | (unfold inR; omega) | omega) (by first | exact hT | exact hO | exact hWS | exact hB | exact hN | exact hTS | (unfold inR; omega) | omega)) fX4_endsOrder qX5_191 dX5_run_62 KD_108 (by decide) ⟨Nat.zero_le _, Nat.zero_le _⟩ (Nat.le_of_ble_eq_true rfl) ?_
          try simp only [sr_2, sr_3, sr_4, sr_5, sr_6, sr_7, sr_8, sr_9, sr_10, sr_11, sr_12, sr_13, sr_14, sr_16, sr_108, sr_109, sr_110, sr_111, sr_sr, sr_row, cdF_sr, exO_sr, exA_sr]
          refine r_ifeq_b (tgt := 93) dX5_run_65 (by decide) (fun hend => ?_) (fun hend => ?_)
          · refine r_iinc dX5_run_93 (by rfl) (Nat.le_of_ble_eq_true rfl) (L' := [_, _, _, _, _]) (by rfl) ?_
            refine r_goto (tgt := 40) dX5_run_96 (by decide) ?_
            first | exact ih (k + 1) d f g S h hcm (by omega) (by omega) (rn_no k0 hq hg (by rw [← s81, ← hcs]; exact hend)) (by omega) | exact ih (k + 1) _ (k + 1) (exA S f k) (exO S f k) _ hcm (by omega) (by omega) (rn_yes k0 hq hg (by rw [← s81, ← hcs]; exact hend) (by have hx := exA_01 S f k; omega)) (by omega)
          · have hO : okO (sr S 15 h) f k := by
              have q := RV_ok zT (by rw [hζ]; exact cmT_sv hB hN hcm) hVS hg (by omega) (by rw [ek, ← s81, ← hcs]; exact hend)
              rw [ek] at q
              exact (okP_cg (σ' := sr S 15 h) (sr_108 _ _) (sr_109 _ _) q).1
            refine r_aload_n dX5_run_68 rfl (by rfl) ?_
            refine r_iload_n dX5_run_69 rfl (by rfl) ?_
            refine r_iload dX5_run_70 (by rfl) ?_
            refine r_callY2 (ct_X5_carriesOut (CI_sr v1) (by first | exact hT | exact hO | exact hWS | exact hB | exact hN | exact hTS | (unfold inR; omega) | omega) (by first | exact hT | exact hO | exact hWS | exact hB | exact hN | exact hTS | (unfold inR; omega) | omega) _ _ (by first | exact hT | exact hO | exact hWS | exact hB | exact hN | exact hTS | (unfold inR; omega) | omega)) fX5_carriesOut qX5_194 dX5_run_72 KD_0 (by decide) ⟨Nat.zero_le _, Nat.zero_le _⟩ (Nat.le_of_ble_eq_true rfl) (fun f_1 hf_1 => ?_)
            try simp only [sr_2, sr_3, sr_4, sr_5, sr_6, sr_7, sr_8, sr_9, sr_10, sr_11, sr_12, sr_13, sr_14, sr_16, sr_108, sr_109, sr_110, sr_111, sr_sr, sr_row, cdF_sr, exO_sr, exA_sr]
            refine r_istore_n dX5_run_75 rfl (Nat.le_of_ble_eq_true rfl) (L' := [_, _, _, _, _]) (by rfl) ?_
            refine r_iload_n dX5_run_76 rfl (by rfl) ?_
            refine r_iload_n dX5_run_77 rfl (by rfl) ?_
            refine r_if_eq (tgt := 85) dX5_run_78 (by decide) (by have := exA_01 S f k; unfold inR; omega) (fun c_2 => ?_) (fun c_2 => ?_)
            · refine r_iconst dX5_run_85 ?_
              refine r_iadd dX5_run_86 ?_
              refine r_istore_n dX5_run_87 rfl (Nat.le_of_ble_eq_true rfl) (L' := [_, _, _, _, _]) (by rfl) ?_
              refine r_iload dX5_run_88 (by rfl) ?_
              refine r_iconst dX5_run_90 ?_
              refine r_iadd dX5_run_91 ?_
              refine r_istore_n dX5_run_92 rfl (Nat.le_of_ble_eq_true rfl) (L' := [_, _, _, _, _]) (by rfl) ?_
              refine r_iinc dX5_run_93 (by rfl) (Nat.le_of_ble_eq_true rfl) (L' := [_, _, _, _, _]) (by rfl) ?_
              refine r_goto (tgt := 40) dX5_run_96 (by decide) ?_
              first | exact ih (k + 1) d f g S h hcm (by omega) (by omega) (rn_no k0 hq hg (by rw [← s81, ← hcs]; exact hend)) (by omega) | exact ih (k + 1) _ (k + 1) (exA S f k) (exO S f k) _ hcm (by omega) (by omega) (rn_yes k0 hq hg (by rw [← s81, ← hcs]; exact hend) (by have hx := exA_01 S f k; omega)) (by omega)
            · refine r_iconst dX5_run_81 ?_
              refine r_goto (tgt := 86) dX5_run_82 (by decide) ?_
              refine r_iadd dX5_run_86 ?_
              refine r_istore_n dX5_run_87 rfl (Nat.le_of_ble_eq_true rfl) (L' := [_, _, _, _, _]) (by rfl) ?_
              refine r_iload dX5_run_88 (by rfl) ?_
              refine r_iconst dX5_run_90 ?_
              refine r_iadd dX5_run_91 ?_
              refine r_istore_n dX5_run_92 rfl (Nat.le_of_ble_eq_true rfl) (L' := [_, _, _, _, _]) (by rfl) ?_
              refine r_iinc dX5_run_93 (by rfl) (Nat.le_of_ble_eq_true rfl) (L' := [_, _, _, _, _]) (by rfl) ?_
              refine r_goto (tgt := 40) dX5_run_96 (by decide) ?_
              first | exact ih (k + 1) d f g S h hcm (by omega) (by omega) (rn_no k0 hq hg (by rw [← s81, ← hcs]; exact hend)) (by omega) | exact ih (k + 1) _ (k + 1) (exA S f k) (exO S f k) _ hcm (by omega) (by omega) (rn_yes k0 hq hg (by rw [← s81, ← hcs]; exact hend) (by have hx := exA_01 S f k; omega)) (by omega)
  refine r_aload_n dX5_run_0 rfl (by rfl) ?_
  refine r_get_r kX5_26 dX5_run_1 KD_0 (RHO_0_2 _) ?_
  refine r_callV0 (ct_X4_isComplete (by first | exact hT | exact hO | exact hWS | exact hB | exact hN | exact hTS | (unfold inR; omega) | omega)) fX4_isComplete qX5_183 dX5_run_4 KD_108 (by decide) ⟨Nat.zero_le _, Nat.zero_le _⟩ (Nat.le_of_ble_eq_true rfl) ?_
  refine r_ifne_b (tgt := 20) dX5_run_7 (by decide) (fun hcm => ?_) (fun hcm => ?_)
  · refine r_aload_n dX5_run_20 rfl (by rfl) ?_
    refine r_get_r kX5_19 dX5_run_21 KD_0 (RHO_0_1 _) ?_
    refine r_aload_n dX5_run_24 rfl (by rfl) ?_
    refine r_get_r kX5_10 dX5_run_25 KD_0 (RHO_0_0 _) ?_
    refine r_callV1 (ct_X0_save _ (by first | exact hT | exact hO | exact hWS | exact hB | exact hN | exact hTS | (unfold inR; omega) | omega) (by first | exact hT | exact hO | exact hWS | exact hB | exact hN | exact hTS | (unfold inR; omega) | omega)) fX0_save qX5_58 dX5_run_28 KD_16 (by decide) ⟨Nat.zero_le _, Nat.zero_le _⟩ (Nat.le_of_ble_eq_true rfl) ?_
    refine r_iconst dX5_run_31 ?_
    refine r_istore_n dX5_run_32 rfl (Nat.le_of_ble_eq_true rfl) (L' := [_, _, _, _, _]) (by rfl) ?_
    refine r_iconst dX5_run_33 ?_
    refine r_istore_n dX5_run_34 rfl (Nat.le_of_ble_eq_true rfl) (L' := [_, _, _, _, _]) (by rfl) ?_
    refine r_iconst dX5_run_35 ?_
    refine r_istore_n dX5_run_36 rfl (Nat.le_of_ble_eq_true rfl) (L' := [_, _, _, _, _]) (by rfl) ?_
    refine r_iconst dX5_run_37 ?_
    refine r_istore dX5_run_38 (Nat.le_of_ble_eq_true rfl) (L' := [_, _, _, _, _]) (by rfl) ?_
    refine WP.mem (σ' := sr ζ 15 (ζ 15)) ?_ (cut_40 70 0 0 0 1 ζ _ hcm (by omega) (by omega) rfl (by omega))
    rw [hζ]
    exact (sr_self _ _).symm
  · exact r_thr (k := 1) (by unfold er_run; first | (rw [if_pos (show dfR (σ 109) (σ 108 1).toNat = 4 ∨ dfR (σ 109) (σ 108 1).toNat = 9 ∨ dfR (σ 109) (σ 108 1).toNat = 13 ∨ dfR (σ 109) (σ 108 1).toNat = 14 from hcm)]; done) | (rw [if_neg (show ¬ (dfR (σ 109) (σ 108 1).toNat = 4 ∨ dfR (σ 109) (σ 108 1).toNat = 9 ∨ dfR (σ 109) (σ 108 1).toNat = 13 ∨ dfR (σ 109) (σ 108 1).toNat = 14) from hcm)]; done)) (by decide) ⟨Nat.le_of_ble_eq_true rfl, Nat.le_of_ble_eq_true rfl⟩ (ta_mk tw_IA (is := 186) (text := "the buffer is not complete orders") (by decide +kernel) dX5_run_10 dX5_run_13 dX5_run_14 dX5_run_16 dX5_run_19)
