/-! p31: what the law's checks rest on -/
theorem cf_ne {σ : ST} {v : Nat → Int} {a c : Nat} : ∀ n : Nat, (∀ i, a < i → i ≤ a + n → i ≠ c) → cf σ v a n c = v c
  | 0, _ => rfl
  | n + 1, h => by
    have ih := cf_ne (σ := σ) (v := v) n (fun i h1 h2 => h i h1 (by omega))
    have hn := h (a + n + 1) (by omega) (by omega)
    unfold cf cfS
    split
    · unfold upF; rw [if_neg (fun z => hn z.symm), ih]
    · split
      · unfold upF; rw [if_neg (fun z => hn z.symm), ih]
      · split
        · unfold upF; rw [if_neg (fun z => hn z.symm), ih]
        · exact ih
theorem cb_ne {σ : ST} {v : Nat → Int} {a c : Nat} : ∀ n : Nat, (∀ i, i < n → σ 3 (a - i) = 4 → (σ 5 (a - i)).toNat ≠ c) → cb σ v a n c = v c
  | 0, _ => rfl
  | n + 1, h => by
    have ih := cb_ne (σ := σ) (v := v) n (fun i h1 h2 => h i (by omega) h2)
    unfold cb cbS
    split
    · rename_i g
      have hn := h n (by omega) g
      unfold upF
      rw [if_neg (fun z => hn z.symm), ih]
    · exact ih
theorem pcl_hit {σ : ST} {s : Nat} {c : Int} (h : pcl σ s c ≠ -1) : ∃ j : Nat, (j : Int) < σ 7 s ∧ σ 8 (8 * s + j) = c := by
  unfold pcl at h
  rcases fnd_or (fun k => σ 8 (8 * s + k)) c (σ 7 s).toNat with ⟨-, h1⟩ | ⟨k, h1, h2, -, -⟩
  · exact absurd h1 h
  · exact ⟨k, by omega, h2⟩
theorem refu_0 {σ : ST} {r s : Nat} {a : Int} (h : refu σ r s a = 0) : colL σ s a ≠ -1 ∧ (σ 11 r < (s : Int) ∨ pcl σ (σ 11 r).toNat (colL σ s a) ≠ -1) := by
  unfold refu at h
  by_cases g : colL σ s a = -1
  · rw [if_pos g] at h; omega
  · rw [if_neg g] at h
    by_cases f : σ 11 r < (s : Int) ∨ pcl σ (σ 11 r).toNat (colL σ s a) ≠ -1
    · exact ⟨g, f⟩
    · rw [if_neg f] at h; omega
/-- what is written is read -/
theorem wr_rd {σ : ST} (h : KI σ) {r s a x : Int} (r0 : 0 ≤ r) (r1 : r < σ 10 0) (s0 : σ 2 1 ≤ s) (s1 : s < σ 2 0) (hf : refu σ r.toNat s.toNat a = 0) :
    vRd (wrV σ r s a x) r.toNat s.toNat a = x ∧ (wrV σ r s a x 11 r.toNat = σ 11 r.toNat ∨ wrV σ r s a x 11 r.toNat = s) := by
  obtain ⟨hI, hS, hR⟩ := h
  have hz := hI.sz
  have hm := hI.mk
  have hro := hI.ro
  have hq := hR.ro r.toNat (by omega)
  obtain ⟨f1, f2⟩ := refu_0 hf
  have hc := colL_rng hI s.toNat a
  obtain ⟨c, ec⟩ : ∃ c, c = colL σ s.toNat a := ⟨_, rfl⟩
  have ecol : colL (wrV σ r s a x) s.toNat a = c := by
    rw [ec]
    unfold colL plc
    rw [wrV_r (by omega), wrV_r (by omega), wrV_r (by omega)]
  have e3 : wrV σ r s a x 3 = σ 3 := wrV_r (by omega)
  have e5 : wrV σ r s a x 5 = σ 5 := wrV_r (by omega)
  rw [← ec] at f1 f2 hc
  have hval : ∀ μ : ST, up2 (up2 μ 13 (12 * r.toNat + c.toNat) x) 10 3 (μ 10 3 + 1) 13 (12 * r.toNat + c.toNat) = x := fun μ => by rw [up2_no _ (by omega), up2_at]
  have h11 : ∀ μ : ST, up2 (up2 μ 13 (12 * r.toNat + c.toNat) x) 10 3 (μ 10 3 + 1) 11 r.toNat = μ 11 r.toNat := fun μ => by rw [up2_no _ (by omega), up2_no _ (by omega)]
  have key : ∀ o : Nat, (wrV σ r s a x 11 r.toNat).toNat = o → (∀ i : Nat, o < i → i ≤ o + (s.toNat - o) → i ≠ c.toNat) → (∀ i : Nat, i < o - s.toNat → σ 3 (o - i) = 4 → (σ 5 (o - i)).toNat ≠ c.toNat) → wrV σ r s a x 13 (12 * r.toNat + c.toNat) = x → vRd (wrV σ r s a x) r.toNat s.toNat a = x := fun o ho k1 k2 k3 => by
    unfold vRd vR
    rw [ecol, if_neg f1, ho, cb_ne _ (by rw [e3, e5]; exact k2), cf_ne _ k1]
    exact k3
  by_cases g : pcl σ (σ 11 r.toNat).toNat c ≠ -1
  · have e0 : wrV σ r s a x = up2 (up2 σ 13 (12 * r.toNat + c.toNat) x) 10 3 (σ 10 3 + 1) := by
      unfold wrV
      simp only []
      rw [← ec, if_pos g]
    have ho : wrV σ r s a x 11 r.toNat = σ 11 r.toNat := by rw [e0, h11]
    refine ⟨key (σ 11 r.toNat).toNat (by rw [ho]) (fun i i1 i2 => ?_) (fun i i1 i2 => ?_) (by rw [e0]; exact hval σ), Or.inl ho⟩
    · obtain ⟨j, j1, j2⟩ := pcl_hit g
      have := hS.ub (σ 11 r.toNat).toNat j (by omega) j1
      omega
    · obtain ⟨j, j1, j2⟩ := pcl_hit g
      have q := hS.dr _ (σ 11 r.toNat).toNat j i2 (by omega) (by omega) j1
      have q2 := hI.so ((σ 11 r.toNat).toNat - i)
      omega
  · have e0 : wrV σ r s a x = up2 (up2 (rwV σ r s (vR σ r.toNat s.toNat)) 13 (12 * r.toNat + c.toNat) x) 10 3 (rwV σ r s (vR σ r.toNat s.toNat) 10 3 + 1) := by
      unfold wrV
      simp only []
      rw [← ec, if_neg g]
    have ho : wrV σ r s a x 11 r.toNat = s := by
      rw [e0, h11]
      unfold rwV
      rw [up2_no _ (by omega), up2_no _ (by omega), up2_at]
    exact ⟨key s.toNat (by rw [ho]) (fun i i1 i2 => by omega) (fun i i1 i2 => by omega) (by rw [e0]; exact hval _), Or.inr ho⟩
def cntG (f : Nat → Int) (s : Int) : Nat → Int
  | 0 => 0
  | k + 1 => cntG f s k + (if f k = s then 1 else 0)
theorem cntR_G (σ : ST) (s : Int) : ∀ n, cntR σ s n = cntG (σ 11) s n
  | 0 => rfl
  | n + 1 => by unfold cntR cntG; rw [cntR_G σ s n]
theorem cntH_G (σ : ST) (s : Int) : ∀ n, cntH σ s n = cntG (σ 14) s n
  | 0 => rfl
  | n + 1 => by unfold cntH cntG; rw [cntH_G σ s n]
theorem cntG_0 {f : Nat → Int} {s : Int} : ∀ n : Nat, (∀ k, k < n → f k ≠ s) → cntG f s n = 0
  | 0, _ => rfl
  | n + 1, h => by unfold cntG; rw [cntG_0 n (fun k hk => h k (by omega)), if_neg (h n (by omega))]; rfl
/-- all of them, shape by shape -/
def totG (f : Nat → Int) (m : Nat) : Nat → Int
  | 0 => 0
  | s + 1 => totG f m s + cntG f (s : Int) m
theorem totG_s (f : Nat → Int) (m : Nat) : ∀ n : Nat, totG f (m + 1) n = totG f m n + (if 0 ≤ f m ∧ f m < (n : Int) then 1 else 0)
  | 0 => by unfold totG; rw [if_neg (by omega)]; rfl
  | n + 1 => by
    have ih := totG_s f m n
    have e : cntG f (n : Int) (m + 1) = cntG f (n : Int) m + (if f m = (n : Int) then 1 else 0) := rfl
    unfold totG
    rw [ih, e]
    by_cases h1 : 0 ≤ f m ∧ f m < (n : Int)
    · rw [if_pos h1, if_neg (by omega), if_pos (by omega)]; omega
    · rw [if_neg h1]
      by_cases h2 : f m = (n : Int)
      · rw [if_pos h2, if_pos (by omega)]; omega
      · rw [if_neg h2, if_neg (by omega)]; omega
theorem totG_0 (f : Nat → Int) : ∀ n : Nat, totG f 0 n = 0
  | 0 => rfl
  | n + 1 => by unfold totG; rw [totG_0 f n]; rfl
theorem totG_all {f : Nat → Int} {n : Nat} : ∀ m : Nat, (∀ k, k < m → 0 ≤ f k ∧ f k < (n : Int)) → totG f m n = (m : Int)
  | 0, _ => totG_0 f n
  | m + 1, h => by rw [totG_s, totG_all m (fun k hk => h k (by omega)), if_pos (h m (by omega))]; omega
theorem totG_rng (f : Nat → Int) (m : Nat) : ∀ n : Nat, 0 ≤ totG f m n ∧ totG f m n ≤ (m : Int) * (n : Int)
  | 0 => by unfold totG; omega
  | n + 1 => by
    have h1 := totG_rng f m n
    have h2 : 0 ≤ cntG f (n : Int) m ∧ cntG f (n : Int) m ≤ (m : Int) := by
      clear h1
      induction m with
      | zero => unfold cntG; omega
      | succ m ih => unfold cntG; split <;> omega
    have e : (m : Int) * ((n + 1 : Nat) : Int) = (m : Int) * (n : Int) + (m : Int) := by
      rw [show ((n + 1 : Nat) : Int) = (n : Int) + 1 by omega, Int.mul_add, Int.mul_one]
    unfold totG
    rw [e]
    omega
/-- sums by letter and by place -/
def sA (h : Nat → Int) : Nat → Int
  | 0 => 0
  | m + 1 => sA h m + h m
theorem sA_add {h h' : Nat → Int} {x y : Int} : ∀ m : Nat, (∀ a : Nat, a < m → h' a = h a + (if x = (a : Int) then y else 0)) → sA h' m = sA h m + (if 0 ≤ x ∧ x < (m : Int) then y else 0)
  | 0, _ => by unfold sA; rw [if_neg (by omega)]; rfl
  | m + 1, e => by
    have ih := sA_add (h := h) (h' := h') (x := x) (y := y) m (fun a ha => e a (by omega))
    unfold sA
    rw [ih, e m (by omega)]
    by_cases h1 : 0 ≤ x ∧ x < (m : Int)
    · rw [if_pos h1, if_neg (by omega), if_pos (by omega)]; omega
    · rw [if_neg h1]
      by_cases h2 : x = (m : Int)
      · rw [if_pos h2, if_pos (by omega)]; omega
      · rw [if_neg h2, if_neg (by omega)]; omega
theorem sA_0 : ∀ m : Nat, sA (fun _ => 0) m = 0
  | 0 => rfl
  | m + 1 => by unfold sA; rw [sA_0 m]; rfl
theorem sA_cg {h h' : Nat → Int} : ∀ m : Nat, (∀ a, a < m → h a = h' a) → sA h m = sA h' m
  | 0, _ => rfl
  | m + 1, e => by unfold sA; rw [sA_cg m (fun a ha => e a (by omega)), e m (by omega)]
def lF (f g : Nat → Int) (n : Nat) (a : Int) : Int := if fnd f a n = -1 then 0 else g (fnd f a n).toNat
theorem lF_sum {f g : Nat → Int} : ∀ n : Nat, (∀ i j, i < j → j < n → f i ≠ f j) → (∀ i, i < n → 0 ≤ f i ∧ f i < 8) → sA (fun a => lF f g n (a : Int)) 8 = sA g n
  | 0, _, _ => sA_0 8
  | n + 1, hd, hr => by
    have ih := lF_sum (f := f) (g := g) n (fun i j h1 h2 => hd i j h1 (by omega)) (fun i hi => hr i (by omega))
    have hn := hr n (by omega)
    rw [sA_add (h := fun a => lF f g n (a : Int)) (x := f n) (y := g n) 8 (fun a ha => ?_), ih, if_pos (by omega)]
    · rfl
    · show lF f g (n + 1) (a : Int) = lF f g n (a : Int) + _
      unfold lF
      have e : fnd f (a : Int) (n + 1) = if fnd f (a : Int) n = -1 then (if f n = (a : Int) then (n : Int) else -1) else fnd f (a : Int) n := rfl
      rw [e]
      by_cases h1 : fnd f (a : Int) n = -1
      · rw [if_pos h1, if_pos h1]
        by_cases h2 : f n = (a : Int)
        · rw [if_pos h2, if_pos h2, if_neg (by omega)]
          show g n = 0 + g n
          omega
        · rw [if_neg h2, if_neg h2, if_pos rfl]; rfl
      · rw [if_neg h1, if_neg h1]
        rcases fnd_or f (a : Int) n with ⟨-, z⟩ | ⟨k, k1, k2, -, -⟩
        · exact absurd z h1
        · have := hd k n k1 (by omega)
          rw [if_neg (show ¬ f n = (a : Int) from fun z => this (by rw [k2, z]))]
          omega
theorem sumV_sA (σ : ST) (v : Nat → Int) (s : Nat) : ∀ n : Nat, sumV σ v s n = sA (fun k => v (σ 8 (8 * s + k)).toNat) n
  | 0 => rfl
  | n + 1 => by unfold sumV sA; rw [sumV_sA σ v s n]
def sumL (σ : ST) (r s : Nat) : Nat → Int
  | 0 => 0
  | a + 1 => sumL σ r s a + (if vRd σ r s (a : Int) < 0 then 0 else vRd σ r s (a : Int))
theorem sumL_sA (σ : ST) (r s : Nat) : ∀ n : Nat, sumL σ r s n = sA (fun a => if vRd σ r s (a : Int) < 0 then 0 else vRd σ r s (a : Int)) n
  | 0 => rfl
  | n + 1 => by unfold sumL sA; rw [sumL_sA σ r s n]
theorem sumL_rng {σ : ST} (hI : CI σ) (r s : Nat) : ∀ n : Nat, 0 ≤ sumL σ r s n ∧ sumL σ r s n ≤ 99999 * (n : Int)
  | 0 => by unfold sumL; omega
  | n + 1 => by
    have h1 := sumL_rng hI r s n
    have h2 := vRd_rng hI r s (n : Int)
    unfold sumL
    split <;> omega
theorem sumL_eq {σ : ST} (hI : CI σ) (hS : SH σ) (r : Nat) {s : Nat} (hs : (s : Int) < σ 2 0) : sumL σ r s 8 = sumV σ (vR σ r s) s (σ 7 s).toNat := by
  have hw := hI.wd s
  rw [sumL_sA, sumV_sA, ← lF_sum (f := fun k => σ 9 (8 * s + k)) (σ 7 s).toNat (fun i j h1 h2 => hS.ls s i j hs h1 (by omega)) (fun i _ => by have := hI.le (8 * s + i); omega)]
  refine sA_cg 8 (fun a ha => ?_)
  have ep : plc σ s (a : Int) = fnd (fun k => σ 9 (8 * s + k)) (a : Int) (σ 7 s).toNat := rfl
  have hc := hI.co (8 * s + (plc σ s (a : Int)).toNat)
  have hv := vR_bd hI r s (σ 8 (8 * s + (plc σ s (a : Int)).toNat)).toNat (by omega)
  show (if vRd σ r s (a : Int) < 0 then 0 else vRd σ r s (a : Int)) = lF _ _ _ _
  unfold vRd colL lF
  rw [← ep]
  by_cases g : plc σ s (a : Int) = -1
  · rw [if_pos g, if_pos g, if_pos rfl, if_pos (by omega)]
  · rw [if_neg g, if_neg g, if_neg (by omega), if_neg (by omega)]
/-- rows behind -/
def oldC (σ : ST) : Nat → Int
  | 0 => 0
  | r + 1 => oldC σ r + (if 0 < σ 2 0 - 1 - σ 11 r then 1 else 0)
theorem oldC_eq {σ : ST} : ∀ n : Nat, (∀ r, r < n → σ 11 r < σ 2 0) → oldC σ n = (n : Int) - cntR σ (σ 2 0 - 1) n
  | 0, _ => rfl
  | n + 1, h => by
    have ih := oldC_eq n (fun r hr => h r (by omega))
    have := h n (by omega)
    unfold oldC cntR
    rw [ih]
    by_cases g : σ 11 n = σ 2 0 - 1
    · rw [if_pos g, if_neg (by omega)]; omega
    · rw [if_neg g, if_pos (by omega)]; omega
theorem oldC_rng (σ : ST) : ∀ n : Nat, 0 ≤ oldC σ n ∧ oldC σ n ≤ (n : Int)
  | 0 => by unfold oldC; omega
  | n + 1 => by have h1 := oldC_rng σ n; unfold oldC; split <;> omega
theorem sm12_mono {σ : ST} {m : Nat} (h : ∀ r, r < m → 0 ≤ σ 12 r) : ∀ n : Nat, n ≤ m → 0 ≤ sm12 σ n ∧ sm12 σ n ≤ sm12 σ m := by
  have up : ∀ d n : Nat, n + d = m → 0 ≤ sm12 σ n → sm12 σ n ≤ sm12 σ m := by
    intro d
    induction d with
    | zero => intro n e _; rw [show n = m by omega]; exact Int.le_refl _
    | succ d ih =>
      intro n e h0
      have q : sm12 σ (n + 1) = sm12 σ n + σ 12 n := rfl
      have := h n (by omega)
      have := ih (n + 1) (by omega) (by omega)
      omega
  have pos : ∀ n : Nat, n ≤ m → 0 ≤ sm12 σ n := by
    intro n
    induction n with
    | zero => intro _; show (0 : Int) ≤ 0; omega
    | succ n ih =>
      intro e
      have q : sm12 σ (n + 1) = sm12 σ n + σ 12 n := rfl
      have := h n (by omega)
      have := ih (by omega)
      omega
  exact fun n hn => ⟨pos n hn, up (m - n) n (by omega) (pos n hn)⟩
theorem lost_0 {σ : ST} (r : Nat) : ∀ n : Nat, lsC σ (lsV σ r (σ 11 r).toNat) r n = 0
  | 0 => rfl
  | n + 1 => by
    have e : ∀ j, lsV σ r (σ 11 r).toNat j = σ 13 (12 * r + j) := fun j => by
      unfold lsV vR
      rw [Nat.sub_self]
      rfl
    unfold lsC
    rw [lost_0 r n, if_pos (e _)]
    rfl
def dcL (x y : UInt64) : Int := (Op.cmpValue (FP.dcmp x y) .l).toInt
theorem fr_all : ∀ n : Nat, n < 13 → 0 < n → ∀ k : Nat, k < 13 → k ≤ n → (dcL (frQ (k : Int) (n : Int)) FP.dconst1 = 0 ↔ k = n) := by decide +kernel
theorem fr_1 : dcL FP.dconst1 FP.dconst1 = 0 := by decide +kernel
theorem fr_eq {σ : ST} (hI : CI σ) (hR : RW σ) : dcL (frS σ) FP.dconst1 = 0 ↔ oldC σ (σ 10 0).toNat = 0 := by
  have hr := hI.ro
  have hc := cntR_rng σ (σ 2 0 - 1) (σ 10 0).toNat
  rw [oldC_eq _ (fun r h => (hR.ro r (by omega)).2.1)]
  unfold frS
  by_cases g : σ 10 0 = 0
  · rw [if_pos g, g]
    exact ⟨fun _ => rfl, fun _ => fr_1⟩
  · rw [if_neg g]
    have q := fr_all (σ 10 0).toNat (by omega) (by omega) (cntR σ (σ 2 0 - 1) (σ 10 0).toNat).toNat (by omega) (by omega)
    rw [show (((cntR σ (σ 2 0 - 1) (σ 10 0).toNat).toNat : Nat) : Int) = σ 10 0 - (σ 10 0 - cntR σ (σ 2 0 - 1) (σ 10 0).toNat) by omega, show (((σ 10 0).toNat : Nat) : Int) = σ 10 0 by omega] at q
    rw [q]
    omega
