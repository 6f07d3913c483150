/-! what the model tells is what the class tells -/
theorem va_eq {c σ : ST} (h : Rel c σ) {r s : Int} (r0 : 0 ≤ r) (r1 : r < c 10 0) (s0 : 0 ≤ s) (s1 : s < c 2 0) (a : Int) : vaM σ r s a = vRd c r.toNat s.toNat a := by
  obtain ⟨-, q, hq, e⟩ := VR_rdI h r0 r1 s0 s1
  have hp := plc_rng h.ci s.toNat a
  unfold vaM vRd colL
  rw [pl_eq h s0 s1]
  by_cases g : plc c s.toNat a = -1
  · rw [if_pos g, if_pos g, if_pos rfl]
  · have hc := h.ci.co (8 * s.toNat + (plc c s.toNat a).toNat)
    rw [if_neg g, if_neg g, if_neg (by omega), e, sc_114]
    exact hq.2 _ (by omega)
theorem su_eq {c : ST} {s : Int} {v : Nat → Int} {μ : ST} {q : Int × (Nat → Int)} (hq : PV c s v q) (e : μ 114 = q.2) : ∀ n : Nat, (n : Int) ≤ c 7 s.toNat → suM μ n = sumV c v s.toNat n
  | 0, _ => rfl
  | n + 1, hn => by
    unfold suM sumV
    rw [su_eq hq e n (by omega), e, hq.2 n (by omega)]
theorem sm_eq {c σ : ST} (h : Rel c σ) {r s : Int} (r0 : 0 ≤ r) (r1 : r < c 10 0) (s0 : 0 ≤ s) (s1 : s < c 2 0) : smM σ r s = sumV c (vR c r.toNat s.toNat) s.toNat (c 7 s.toNat).toNat := by
  obtain ⟨-, q, hq, e⟩ := VR_rdI h r0 r1 s0 s1
  have hw := h.ci.wd s.toNat
  unfold smM
  rw [e, sc_7, hq.1]
  exact su_eq hq (sc_114 σ q) _ (by omega)
theorem rs_eq {c σ : ST} (h : Rel c σ) {r : Int} (r0 : 0 ≤ r) (r1 : r < c 10 0) : oM σ r 0 = c 11 r.toNat ∧ oM σ r 1 = c 12 r.toNat ∧ c 11 r.toNat < c 2 0 ∧ 0 ≤ c 11 r.toNat := by
  have e := h.ro r.toNat (by omega)
  rw [show ((r.toNat : Nat) : Int) = r by omega] at e
  exact ⟨e.1, e.2.1, e.2.2, (h.ci.rs _).1⟩
theorem wd_eq {c σ : ST} (h : Rel c σ) {s : Int} (s0 : 0 ≤ s) (s1 : s < c 2 0) : gM σ s 0 = c 7 s.toNat ∧ gM σ s 17 = c 3 s.toNat := by
  have e := h.wd s.toNat (by omega)
  rw [show ((s.toNat : Nat) : Int) = s by omega] at e
  exact e
theorem cl_eq {c σ : ST} (h : Rel c σ) {s p : Int} (s0 : 0 ≤ s) (s1 : s < c 2 0) (p0 : 0 ≤ p) (p1 : p < c 7 s.toNat) : gM σ s (1 + p) = c 8 (8 * s.toNat + p.toNat) ∧ gM σ s (9 + p) = c 9 (8 * s.toNat + p.toNat) := by
  have e := h.cl s.toNat p.toNat (by omega) (by omega)
  rw [show ((s.toNat : Nat) : Int) = s by omega, show ((p.toNat : Nat) : Int) = p by omega] at e
  exact ⟨e.1, e.2.1⟩
theorem tr_eq {c σ : ST} (h : Rel c σ) {r : Int} (r0 : 0 ≤ r) (r1 : r < c 10 0) (w : Int) : trM σ r w = roP c r.toNat w := by
  have hz := h.nm
  have hs := h.ci.sz
  obtain ⟨e0, e1, e2, e3⟩ := rs_eq h r0 r1
  unfold trM roP
  rw [e0, e1, (wd_eq h e3 e2).1, hz.1, sm_eq h r0 r1 e3 e2, sm_eq h r0 r1 (s := c 2 0 - 1) (by omega) (by omega)]
theorem co_eq {c σ : ST} (h : Rel c σ) {s p : Int} (s0 : 0 ≤ s) (s1 : s < c 2 0) (p0 : 0 ≤ p) (w : Int) : coM σ s p w = csP c s.toNat p w := by
  have hz := h.nm
  have hs := h.ci.sz
  have e0 := (wd_eq h s0 s1).1
  unfold coM csP
  rw [e0]
  by_cases g : p < c 7 s.toNat
  · obtain ⟨e1, e2⟩ := cl_eq h s0 s1 p0 g
    rw [if_pos g, if_neg (show ¬ c 7 s.toNat ≤ p by omega), e1, e2, hz.1, pc_eq h (s := c 2 0 - 1) (by omega) (by omega)]
  · rw [if_neg g, if_pos (show c 7 s.toNat ≤ p by omega)]
theorem ag_eq {c σ : ST} (h : Rel c σ) {r s : Int} (r0 : 0 ≤ r) (r1 : r < c 10 0) (s0 : 0 ≤ s) (s1 : s < c 2 0) (a : Int) : agM σ r s a = refu c r.toNat s.toNat a := by
  obtain ⟨e0, e1, e2, e3⟩ := rs_eq h r0 r1
  have hp := plc_rng h.ci s.toNat a
  unfold agM refu colL
  rw [pl_eq h s0 s1, e0]
  by_cases g : plc c s.toNat a = -1
  · rw [if_pos g, if_pos g, if_pos rfl]
  · have hc := h.ci.co (8 * s.toNat + (plc c s.toNat a).toNat)
    rw [if_neg g, if_neg g, (cl_eq h s0 s1 (by omega) (by omega)).1, pc_eq h e3 e2, if_neg (show ¬ c 8 (8 * s.toNat + (plc c s.toNat a).toNat) = -1 by omega), show ((s.toNat : Nat) : Int) = s by omega]
    by_cases x : pcl c (c 11 r.toNat).toNat (c 8 (8 * s.toNat + (plc c s.toNat a).toNat)) ≠ -1
    · rw [if_pos (Or.inl x), if_pos (Or.inr x)]
    · by_cases y : c 11 r.toNat < s
      · rw [if_pos (Or.inr y), if_pos (Or.inl y)]
      · rw [if_neg (by omega), if_neg (by omega)]
/-! masks -/
theorem or_cm (a b : Int) : orI a b = orI b a := by unfold orI; rw [Int32.or_comm]
theorem or_as (a b d : Int) : orI (orI a b) d = orI a (orI b d) := by unfold orI; rw [iI_of, iI_of, Int32.or_assoc]
theorem or_id (a b : Int) : orI (orI a b) b = orI a b := by unfold orI; rw [iI_of, Int32.or_assoc, Int32.or_self]
theorem or_sw (a b d : Int) : orI (orI a b) d = orI (orI a d) b := by rw [or_as, or_as, or_cm b d]
def mkB (f : Nat → Bool) : Nat → Int
  | 0 => 0
  | k + 1 => if f k then orI (mkB f k) (shlI 1 (k : Int)) else mkB f k
theorem mkB_cg {f g : Nat → Bool} : ∀ {n : Nat}, (∀ j, j < n → f j = g j) → mkB f n = mkB g n
  | 0, _ => rfl
  | n + 1, h => by
    unfold mkB
    rw [mkB_cg (n := n) (fun j hj => h j (by omega)), h n (by omega)]
theorem mkB_or (f : Nat → Bool) (x : Nat) : ∀ n : Nat, x < n → orI (mkB f n) (shlI 1 (x : Int)) = mkB (fun j => f j || decide (j = x)) n
  | 0, h => by omega
  | n + 1, h => by
    unfold mkB
    by_cases e : x = n
    · subst e
      rw [mkB_cg (f := fun j => f j || decide (j = x)) (g := f) (fun j hj => by simp [show j ≠ x by omega])]
      simp only [decide_true, Bool.or_true, if_true]
      by_cases g : f x = true
      · rw [if_pos g, or_id]
      · rw [if_neg g]
    · have ih := mkB_or f x n (by omega)
      simp only [show decide (n = x) = false by simp; omega, Bool.or_false]
      by_cases g : f n = true
      · rw [if_pos g, if_pos g, or_sw, ih]
      · rw [if_neg g, if_neg g, ih]
theorem mkB_0 : ∀ n, mkB (fun _ => false) n = 0
  | 0 => rfl
  | n + 1 => by unfold mkB; rw [mkB_0 n]; rfl
theorem lm_mk (c : ST) (s : Nat) : ∀ n, lmask c s n = mkB (fun a => decide (plc c s (a : Int) ≠ -1)) n
  | 0 => rfl
  | n + 1 => by
    unfold lmask mkB
    rw [lm_mk c s n]
    by_cases g : plc c s (n : Int) = -1
    · rw [if_pos g, if_neg (by simp [g])]
    · rw [if_neg g, if_pos (by simp [g])]
theorem mk_mk {c σ : ST} (h : Rel c σ) {s : Int} (s0 : 0 ≤ s) (s1 : s < c 2 0) : ∀ n : Nat, (n : Int) ≤ c 7 s.toNat → mkM σ s n = mkB (fun a => decide (fnd (fun k => c 9 (8 * s.toNat + k)) (a : Int) n ≠ -1)) 8
  | 0, _ => by
    unfold mkM
    rw [← mkB_0 8]
    exact mkB_cg (fun j _ => by simp [fnd])
  | n + 1, hn => by
    have e := (cl_eq h s0 s1 (p := (n : Int)) (by omega) (by omega)).2
    have hl := h.ci.le (8 * s.toNat + n)
    rw [show ((n : Int)).toNat = n by omega] at e
    unfold mkM
    rw [mk_mk h s0 s1 n (by omega), e, show c 9 (8 * s.toNat + n) = (((c 9 (8 * s.toNat + n)).toNat : Nat) : Int) by omega, mkB_or _ _ 8 (by omega)]
    refine mkB_cg (fun j hj => ?_)
    show (decide (fnd (fun k => c 9 (8 * s.toNat + k)) (j : Int) n ≠ -1) || decide (j = (c 9 (8 * s.toNat + n)).toNat)) = decide (fnd (fun k => c 9 (8 * s.toNat + k)) (j : Int) (n + 1) ≠ -1)
    rw [show fnd (fun k => c 9 (8 * s.toNat + k)) (j : Int) (n + 1) = if fnd (fun k => c 9 (8 * s.toNat + k)) (j : Int) n = -1 then (if c 9 (8 * s.toNat + n) = (j : Int) then (n : Int) else -1) else fnd (fun k => c 9 (8 * s.toNat + k)) (j : Int) n from rfl]
    by_cases g : fnd (fun k => c 9 (8 * s.toNat + k)) (j : Int) n = -1
    · rw [if_pos g]
      by_cases x : c 9 (8 * s.toNat + n) = (j : Int)
      · rw [if_pos x]
        have y : j = (c 9 (8 * s.toNat + n)).toNat := by omega
        simp [g, ← y]
      · rw [if_neg x]
        have y : ¬ j = (c 9 (8 * s.toNat + n)).toNat := by omega
        simp [g, y]
    · rw [if_neg g]; simp [g]
theorem ts_eq {c σ : ST} (h : Rel c σ) {s : Int} (s0 : 0 ≤ s) (s1 : s < c 2 0) (w : Int) : tsM σ s w = shP c s.toNat w := by
  have hz := h.nm
  obtain ⟨e0, e1⟩ := wd_eq h s0 s1
  have hw := h.ci.wd s.toNat
  have hr := h.ci.ro
  unfold tsM shP
  rw [e0, e1, hz.2.2.1, rc_eq h s _ (by omega), hc_eq h s 4 (by omega), hz.2.1, show ((s.toNat : Nat) : Int) = s by omega, lm_mk, mk_mk h s0 s1 _ (by omega)]
  rfl
/-! the least of some -/
theorem mnF_le (f : Nat → Int) (z : Int) : ∀ n : Nat, mnF f z n ≤ z ∧ ∀ k, k < n → mnF f z n ≤ f k
  | 0 => ⟨Int.le_refl _, fun k hk => by omega⟩
  | n + 1 => by
    obtain ⟨h1, h2⟩ := mnF_le f z n
    unfold mnF
    by_cases g : f n < mnF f z n
    · rw [if_pos g]
      exact ⟨by omega, fun k hk => by
        by_cases e : k = n
        · rw [e]; omega
        · have := h2 k (by omega); omega⟩
    · rw [if_neg g]
      exact ⟨h1, fun k hk => by
        by_cases e : k = n
        · rw [e]; omega
        · exact h2 k (by omega)⟩
theorem mnF_in (f : Nat → Int) (z : Int) : ∀ n : Nat, mnF f z n = z ∨ ∃ k, k < n ∧ mnF f z n = f k
  | 0 => Or.inl rfl
  | n + 1 => by
    unfold mnF
    by_cases g : f n < mnF f z n
    · rw [if_pos g]; exact Or.inr ⟨n, by omega, rfl⟩
    · rw [if_neg g]
      rcases mnF_in f z n with h | ⟨k, h1, h2⟩
      · exact Or.inl h
      · exact Or.inr ⟨k, by omega, h2⟩
theorem ol_eq {c σ : ST} (h : Rel c σ) : olM σ = oldF c := by
  have hz := h.nm
  have hs := h.ci.sz
  have hr := h.ci.ro
  have hm := h.mj
  have eo : ∀ k : Nat, (k : Int) < c 10 0 → oM σ (k : Int) 0 = c 11 k := fun k hk => (h.ro k hk).1
  have eh : ∀ k : Nat, k < 4 → σ 111 (6 + (k : Int)).toNat = c 14 k := fun k hk => by rw [show (6 + (k : Int)).toNat = 6 + k by omega]; exact h.he k hk
  have eh0 : σ 111 6 = c 14 0 := h.he 0 (by omega)
  have bh : ∀ k : Nat, k < 4 → c 14 k ≤ c 2 0 - 1 := fun k hk => by
    have := hm.he (k : Int) (by omega) (by omega)
    rw [eh k hk] at this
    omega
  unfold olM oldF
  rw [hz.2.2.1]
  obtain ⟨a1, a2⟩ := mnF_le (fun j => oM σ (j : Int) 0) (mnF (fun j => σ 111 (6 + (j : Int)).toNat) (σ 111 6) 4) (c 10 0).toNat
  obtain ⟨b1, b2⟩ := mnF_le (fun j => σ 111 (6 + (j : Int)).toNat) (σ 111 6) 4
  obtain ⟨d1, d2⟩ := mnF_le (c 14) (mnF (c 11) (c 2 0 - 1) (c 10 0).toNat) 4
  obtain ⟨f1, f2⟩ := mnF_le (c 11) (c 2 0 - 1) (c 10 0).toNat
  apply Int.le_antisymm
  · rcases mnF_in (c 14) (mnF (c 11) (c 2 0 - 1) (c 10 0).toNat) 4 with g | ⟨k, k1, g⟩
    · rw [g]
      rcases mnF_in (c 11) (c 2 0 - 1) (c 10 0).toNat with g2 | ⟨k, k1, g2⟩
      · rw [g2]; have := bh 0 (by omega); omega
      · rw [g2]; have x1 := a2 k k1; have x2 := eo k (by omega); omega
    · rw [g]; have x1 := b2 k k1; have x2 := eh k k1; omega
  · rcases mnF_in (fun j => oM σ (j : Int) 0) (mnF (fun j => σ 111 (6 + (j : Int)).toNat) (σ 111 6) 4) (c 10 0).toNat with g | ⟨k, k1, g⟩
    · rw [g]
      rcases mnF_in (fun j => σ 111 (6 + (j : Int)).toNat) (σ 111 6) 4 with g2 | ⟨k, k1, g2⟩
      · rw [g2, eh0]; exact d2 0 (by omega)
      · rw [g2]; have x1 := d2 k k1; have x2 := eh k k1; omega
    · rw [g]; have x1 := f2 k k1; have x2 := eo k (by omega); omega
theorem cn_eq {c σ : ST} (h : Rel c σ) (h9 : σ 110 3 = c 16 1) (w : Int) : cnM σ w = ctP c w := by
  have hz := h.nm
  have hs := h.ci.sz
  have hr := h.ci.ro
  unfold cnM ctP
  rw [hz.1, hz.2.1, hz.2.2.1, hz.2.2.2.1, hz.2.2.2.2.1, hz.2.2.2.2.2, h9, ol_eq h, rc_eq h _ _ (by omega), (wd_eq h (s := c 2 0 - 1) (by omega) (by omega)).1]
theorem or_0 {a : Int} (h : inR a) : orI a 0 = a := by unfold orI; rw [iI_0, Int32.or_zero, iI_toInt h]
theorem msk_rng (c : ST) (s : Nat) (a x : Int) : ∀ n, inR (mskF c s a x n)
  | 0 => inR_0
  | n + 1 => by
    unfold mskF
    split
    · exact inR_orI _ _
    · exact msk_rng c s a x n
/-! sums; the rows behind, from the cursor on -/
def sG (f : Nat → Int) : Nat → Int
  | 0 => 0
  | k + 1 => sG f k + f k
theorem sG_cg {f g : Nat → Int} : ∀ {n : Nat}, (∀ j, j < n → f j = g j) → sG f n = sG g n
  | 0, _ => rfl
  | n + 1, h => by
    unfold sG
    rw [sG_cg (n := n) (fun j hj => h j (by omega)), h n (by omega)]
theorem sG_ap (f : Nat → Int) (m : Nat) : ∀ n : Nat, sG f (m + n) = sG f m + sG (fun j => f (m + j)) n
  | 0 => by show sG f m = sG f m + 0; omega
  | n + 1 => by
    show sG f (m + n) + f (m + n) = sG f m + (sG (fun j => f (m + j)) n + f (m + n))
    rw [sG_ap f m n]; omega
def bhF (c : ST) (r : Nat) : Int := if c 11 r < c 2 0 - 1 then 1 else 0
def cW (c : ST) : Nat → Int := sG (fun k => bhF c (wrap c (k : Int)).toNat)
theorem bh_cnt {c σ : ST} (h : Rel c σ) : ∀ n : Nat, (n : Int) ≤ c 10 0 → sG (bhF c) n = (n : Int) - cntR c (c 2 0 - 1) n
  | 0, _ => rfl
  | n + 1, hn => by
    have e := (h.ro n (by omega)).2.2
    unfold sG cntR
    rw [bh_cnt h n (by omega)]
    unfold bhF
    by_cases g : c 11 n = c 2 0 - 1
    · rw [if_pos g, if_neg (by omega)]; omega
    · rw [if_neg g, if_pos (by omega)]; omega
theorem cW_all {c σ : ST} (h : Rel c σ) : cW c (c 10 0).toNat = c 10 0 - cntR c (c 2 0 - 1) (c 10 0).toNat := by
  have hr := h.ci.ro
  have hc := h.ci.cu
  rw [show c 10 0 - cntR c (c 2 0 - 1) (c 10 0).toNat = (((c 10 0).toNat : Nat) : Int) - cntR c (c 2 0 - 1) (c 10 0).toNat by omega, ← bh_cnt h _ (by omega)]
  have hn : 0 ≤ nrow c ∧ (c 10 0 = 0 ∨ nrow c < c 10 0) := by unfold nrow; split <;> omega
  by_cases z : c 10 0 = 0
  · rw [z]; rfl
  · have e1 : (c 10 0).toNat = ((c 10 0).toNat - (nrow c).toNat) + (nrow c).toNat := by omega
    have e2 : (c 10 0).toNat = (nrow c).toNat + ((c 10 0).toNat - (nrow c).toNat) := by omega
    unfold cW
    rw [e1, sG_ap, ← e1, e2, sG_ap (bhF c), ← e2, Int.add_comm]
    congr 1
    · refine sG_cg (fun j hj => ?_)
      show bhF c (wrap c ((((c 10 0).toNat - (nrow c).toNat) + j : Nat) : Int)).toNat = bhF c j
      congr 1
      unfold wrap
      rw [if_neg (by omega)]
      omega
    · refine sG_cg (fun j hj => ?_)
      show bhF c (wrap c (j : Int)).toNat = bhF c ((nrow c).toNat + j)
      congr 1
      unfold wrap
      rw [if_pos (by omega)]
      omega
theorem bh_01 (c : ST) (r : Nat) : bhF c r = 0 ∨ bhF c r = 1 := by unfold bhF; split <;> omega
theorem cW_mono (c : ST) (m : Nat) : ∀ n : Nat, cW c m ≤ cW c (m + n)
  | 0 => Int.le_refl _
  | n + 1 => by
    have h1 := cW_mono c m n
    have h2 := bh_01 c (wrap c ((m + n : Nat) : Int)).toNat
    show cW c m ≤ cW c (m + n) + bhF c (wrap c ((m + n : Nat) : Int)).toNat
    omega
theorem sl_skip (c : ST) (m : Nat) : ∀ n : Nat, cW c (m + n) = cW c m → slF c (m + n) = slF c m
  | 0, _ => rfl
  | n + 1, h => by
    have h1 := cW_mono c m n
    have h2 := bh_01 c (wrap c ((m + n : Nat) : Int)).toNat
    have h3 : cW c (m + (n + 1)) = cW c (m + n) + bhF c (wrap c ((m + n : Nat) : Int)).toNat := rfl
    have h4 : bhF c (wrap c ((m + n : Nat) : Int)).toNat = 0 := by omega
    have h5 := sl_skip c m n (by omega)
    show (if c 11 (wrap c ((m + n : Nat) : Int)).toNat < c 2 0 - 1 then ((m + n : Nat) : Int) + 1 else slF c (m + n)) = _
    rw [if_neg (fun g => by unfold bhF at h4; rw [if_pos g] at h4; omega), h5]
theorem sl_end {c : ST} {n R : Nat} (hn : n ≤ R) (h : cW c n = cW c R) (hm : n = 0 ∨ cW c (n - 1) < cW c R) : slF c R = (n : Int) := by
  have e : R = n + (R - n) := by omega
  rw [e, sl_skip c n (R - n) (by rw [← e]; omega)]
  rcases hm with rfl | hm
  · rfl
  · match n with
    | 0 => rfl
    | k + 1 =>
      have h1 : cW c (k + 1) = cW c k + bhF c (wrap c (k : Int)).toNat := rfl
      rw [show k + 1 - 1 = k by omega] at hm
      have h2 : ¬ bhF c (wrap c (k : Int)).toNat = 0 := by omega
      show (if c 11 (wrap c (k : Int)).toNat < c 2 0 - 1 then (k : Int) + 1 else slF c k) = _
      rw [if_pos (by
        by_cases g : c 11 (wrap c (k : Int)).toNat < c 2 0 - 1
        · exact g
        · exact absurd (by unfold bhF; rw [if_neg g]) h2)]
      omega
theorem wr_rng {c : ST} (h : CI c) {k : Int} (k0 : 0 ≤ k) (k1 : k < c 10 0) : 0 ≤ wrap c k ∧ wrap c k < c 10 0 := by
  have hr := h.ro
  have hc := h.cu
  have hn : 0 ≤ nrow c ∧ (c 10 0 = 0 ∨ nrow c < c 10 0) := by unfold nrow; split <;> omega
  unfold wrap
  split <;> omega
theorem wr_next {c : ST} (h : CI c) {k : Int} (k0 : 0 ≤ k) (k1 : k + 1 < c 10 0) : (if wrap c k + 1 < c 10 0 then wrap c k + 1 else 0) = wrap c (k + 1) := by
  have hr := h.ro
  have hc := h.cu
  have hn : 0 ≤ nrow c ∧ (c 10 0 = 0 ∨ nrow c < c 10 0) := by unfold nrow; split <;> omega
  unfold wrap
  (repeat' split) <;> omega
theorem wr_0 {c : ST} (h : CI c) (k : 0 < c 10 0) : (if c 10 1 < c 10 0 then c 10 1 else 0) = wrap c 0 := by
  have hc := h.cu
  unfold wrap nrow
  (repeat' split) <;> omega
