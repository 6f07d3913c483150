/-! p31: bits; what acts does -/
def andI (a b : Int) : Int := (iI a &&& iI b).toInt
def shrI (a b : Int) : Int := (iI a >>> (iI b &&& 31)).toInt
theorem inR_andI (a b : Int) : inR (andI a b) := inR_of _
theorem inR_shrI (a b : Int) : inR (shrI a b) := inR_of _
section Rows29
variable {l : Launch} {G : GG} {own : String} {X : MI} {dm : Nat × Nat × Nat} {K : KK} {KE : KX} {n0 pc : Nat} {L : List (Option Value)} {S : List Value} {n : Nat} {kd : KT} {σ τ : ST} {ρ : RT} {ce sl : Nat}
theorem r_iand {a b : Int} (hd : decode X.2.1 pc = .ok (.iand, 1)) (k : WP l G own X dm K KE n0 (pc + 1) L (.int (iI (andI a b)) :: S) n kd σ τ ρ ce sl) : WP l G own X dm K KE n0 pc L (.int (iI b) :: .int (iI a) :: S) n kd σ τ ρ ce sl :=
  r_pure (fun ad p e R s m args below meth c H locs ls Z hx hb hL hown hts kk => lv_iand hx hb hd (by
    have e1 : iI a &&& iI b = iI (andI a b) := (iI_of _).symm
    rw [e1]; exact kk)) k
theorem r_ishr {a b : Int} (hd : decode X.2.1 pc = .ok (.ishr, 1)) (k : WP l G own X dm K KE n0 (pc + 1) L (.int (iI (shrI a b)) :: S) n kd σ τ ρ ce sl) : WP l G own X dm K KE n0 pc L (.int (iI b) :: .int (iI a) :: S) n kd σ τ ρ ce sl :=
  r_pure (fun ad p e R s m args below meth c H locs ls Z hx hb hL hown hts kk => lv_ishr hx hb hd (by
    have e1 : iI a >>> (iI b &&& 31) = iI (shrI a b) := (iI_of _).symm
    rw [e1]; exact kk)) k
end Rows29
theorem andI_m (a : Int) {m : Int} (k : Nat) (hm : (iI m).toBitVec.toNat = 2 ^ k - 1) (hk : k ≤ 31) : andI a m = (((iI a).toBitVec.toNat % 2 ^ k : Nat) : Int) := by
  have h1 : (iI a).toBitVec.toNat % 2 ^ k < 2 ^ k := Nat.mod_lt _ (Nat.two_pow_pos k)
  have h2 : 2 ^ k ≤ 2 ^ 31 := Nat.pow_le_pow_right (by decide) hk
  have h3 : (2 : Nat) ^ 31 = 2147483648 := by decide
  unfold andI
  rw [pk_and _ k hm, ← iI_nI, iI_toInt (inR_nat (by omega))]
theorem and_7 (a : Int) : 0 ≤ andI a 7 ∧ andI a 7 < 8 := by
  rw [andI_m a 3 (by decide) (by decide)]
  omega
theorem and_3 (a : Int) : 0 ≤ andI a 3 ∧ andI a 3 < 4 := by
  rw [andI_m a 2 (by decide) (by decide)]
  omega
theorem and_15 (a : Int) : 0 ≤ andI a 15 ∧ andI a 15 < 16 := by
  rw [andI_m a 4 (by decide) (by decide)]
  omega
theorem and_1 (a : Int) : 0 ≤ andI a 1 ∧ andI a 1 < 2 := by
  rw [andI_m a 1 (by decide) (by decide)]
  omega
theorem and_31 (a : Int) : 0 ≤ andI a 2147483647 ∧ andI a 2147483647 < 2147483648 := by
  rw [andI_m a 31 (by decide) (by decide)]
  omega
def lowI (v n : Int) : Int := (((andI v 2147483647).toNat % n.toNat : Nat) : Int)
theorem lowI_rng (v : Int) {n : Int} (h : 0 < n) : 0 ≤ lowI v n ∧ lowI v n < n := by
  have h1 : (andI v 2147483647).toNat % n.toNat < n.toNat := Nat.mod_lt _ (by omega)
  unfold lowI
  omega
/-- a bit of a word -/
def bitB (x : Int) (r : Nat) : Bool := (iI x).toBitVec.getLsbD r
theorem shr_amt : ∀ r : Nat, r < 31 → ((iI (r : Int) &&& 31).toBitVec.smod 32).toNat = r := by decide +kernel
theorem bit_and (x : Int) {r : Int} (r0 : 0 ≤ r) (r1 : r < 31) : andI (shrI x r) 1 = if bitB x r.toNat then 1 else 0 := by
  have e0 : iI (shrI x r) = iI x >>> (iI r &&& 31) := iI_of _
  have hs := shr_amt r.toNat (by omega)
  rw [show ((r.toNat : Nat) : Int) = r by omega] at hs
  rw [andI_m _ 1 (by decide) (by decide), e0, Int32.toBitVec_shiftRight]
  show (((BitVec.sshiftRight (iI x).toBitVec ((iI r &&& 31).toBitVec.smod 32).toNat).toNat % 2 ^ 1 : Nat) : Int) = _
  rw [hs]
  have h1 : (BitVec.sshiftRight (iI x).toBitVec r.toNat).getLsbD 0 = bitB x r.toNat := by
    rw [BitVec.getLsbD_sshiftRight]
    unfold bitB
    rw [if_pos (by omega)]
    simp
  rw [← h1]
  show _ = if Nat.testBit (BitVec.sshiftRight (iI x).toBitVec r.toNat).toNat 0 = true then (1 : Int) else 0
  rw [Nat.testBit_zero]
  have h2 : (BitVec.sshiftRight (iI x).toBitVec r.toNat).toNat % 2 = 0 ∨ (BitVec.sshiftRight (iI x).toBitVec r.toNat).toNat % 2 = 1 := by omega
  rcases h2 with h | h
  · rw [show (2 : Nat) ^ 1 = 2 from rfl, h]; rfl
  · rw [show (2 : Nat) ^ 1 = 2 from rfl, h]; rfl
theorem bit_sh : ∀ k : Nat, k < 12 → ∀ r : Nat, r < 12 → bitB (shlI 1 (k : Int)) r = decide (r = k) := by decide +kernel
theorem bit_or (x y : Int) (r : Nat) : bitB (orI x y) r = (bitB x r || bitB y r) := by
  unfold bitB orI
  rw [iI_of, Int32.toBitVec_or, BitVec.getLsbD_or]
theorem bit_0 : ∀ r : Nat, r < 12 → bitB 0 r = false := by decide +kernel
theorem bit_msk (σ : ST) (s : Nat) (a x : Int) {r : Nat} (hr : r < 12) : ∀ n : Nat, n ≤ 12 → bitB (mskF σ s a x n) r = decide (r < n ∧ vRd σ r s a = x)
  | 0, _ => by
    unfold mskF
    rw [bit_0 r hr]
    simp
  | n + 1, hn => by
    have ih := bit_msk σ s a x hr n (by omega)
    unfold mskF
    by_cases g : vRd σ n s a = x
    · rw [if_pos g, bit_or, ih, bit_sh n (by omega) r hr]
      by_cases e : r = n
      · subst e; simp [g]
      · simp [e, show (r < n + 1) = (r < n) by simp; omega]
    · rw [if_neg g, ih]
      by_cases e : r = n
      · subst e; simp [g]
      · simp [show (r < n + 1) = (r < n) by simp; omega]
theorem bit_lm (σ : ST) (s : Nat) {r : Nat} (hr : r < 12) : ∀ n : Nat, n ≤ 12 → bitB (lmask σ s n) r = decide (r < n ∧ plc σ s (r : Int) ≠ -1)
  | 0, _ => by
    unfold lmask
    rw [bit_0 r hr]
    simp
  | n + 1, hn => by
    have ih := bit_lm σ s hr n (by omega)
    unfold lmask
    by_cases g : plc σ s (n : Int) = -1
    · rw [if_pos g, ih]
      by_cases e : r = n
      · subst e; simp [g]
      · simp [show (r < n + 1) = (r < n) by simp; omega]
    · rw [if_neg g, bit_or, ih, bit_sh n (by omega) r hr]
      by_cases e : r = n
      · subst e; simp [g]
      · simp [e, show (r < n + 1) = (r < n) by simp; omega]
/-- a letter of the newest shape, by the mask -/
theorem has_l (σ : ST) (s : Nat) {a : Int} (h0 : 0 ≤ a) (h1 : a < 8) : andI (shrI (lmask σ s 8) a) 1 = if plc σ s a ≠ -1 then 1 else 0 := by
  rw [bit_and _ h0 (by omega), bit_lm σ s (by omega) 8 (by omega), show ((a.toNat : Nat) : Int) = a by omega]
  by_cases g : plc σ s a = -1
  · simp [g]
  · simp [g, show a.toNat < 8 by omega]
def wA (w : Int) : Int := andI w 7
def wB (w : Int) : Int := andI (shrI w 3) 7
def rowF (σ : ST) (v : Int) : Int := if σ 10 0 = 0 then 0 else lowI (shrI v 4) (σ 10 0)
def shF (σ : ST) (v : Int) : Int := σ 2 1 + lowI (shrI v 8) (σ 2 0 - σ 2 1)
def kOp (k : Int) : Nat := if k ≤ 1 then 0 else if k ≤ 4 then (k - 1).toNat else if k ≤ 6 then 4 else if k ≤ 10 then (k - 2).toNat else 9
def aO (σ : ST) (v w : Int) : Nat → ST
  | 0 => exN σ (wA w) (lowI (shrI w 6) 100)
  | 1 => exC σ (wA w) (wB w) (if andI (shrI w 6) 1 = 0 then -1 else wB w)
  | 2 => lvO σ (wA w) (lowI (shrI w 6) 100)
  | 3 => xcL σ (wA w) (wB w)
  | 4 => adR σ (shF σ v)
  | 5 => itS σ (1 + lowI w 12).toNat
  | 6 => tkF σ (rowF σ v)
  | 7 => up2 σ 14 (andI w 3).toNat (shF σ v)
  | 8 => up2 σ 2 1 (oldF σ)
  | _ => wrV σ (rowF σ v) (shF σ v) (wA w) (lowI (shrI w 6) 1000)
def aP (σ : ST) (v w : Int) : Nat → Prop
  | 0 => σ 2 0 < 12 ∧ plc σ (σ 2 0 - 1).toNat (wA w) = -1
  | 1 => (σ 2 0 < 12 ∧ plc σ (σ 2 0 - 1).toNat (wA w) = -1) ∧ plc σ (σ 2 0 - 1).toNat (wB w) ≠ -1
  | 2 => σ 2 0 < 12 ∧ plc σ (σ 2 0 - 1).toNat (wA w) ≠ -1
  | 3 => (σ 2 0 < 12 ∧ plc σ (σ 2 0 - 1).toNat (wA w) ≠ -1) ∧ plc σ (σ 2 0 - 1).toNat (wB w) = -1
  | 4 => σ 10 0 < 12
  | 5 => True
  | 6 => 0 < σ 10 0
  | 7 => True
  | 8 => True
  | _ => σ 10 0 ≠ 0 ∧ refu σ (rowF σ v).toNat (shF σ v).toNat (wA w) = 0
theorem shF_rng {σ : ST} (h : RW σ) (v : Int) : σ 2 1 ≤ shF σ v ∧ shF σ v < σ 2 0 := by
  have hm := h.mk
  have q := lowI_rng (shrI v 8) (n := σ 2 0 - σ 2 1) (by omega)
  unfold shF
  omega
theorem rowF_rng {σ : ST} (h : CI σ) (v : Int) (h0 : σ 10 0 ≠ 0) : 0 ≤ rowF σ v ∧ rowF σ v < σ 10 0 := by
  have hr := h.ro
  have q := lowI_rng (shrI v 4) (n := σ 10 0) (by omega)
  unfold rowF
  rw [if_neg h0]
  exact q
theorem wB_rng (w : Int) : 0 ≤ wB w ∧ wB w < 8 := and_7 _
theorem wA_rng (w : Int) : 0 ≤ wA w ∧ wA w < 8 := and_7 _
theorem rowF_E {σ σ' : ST} (e : E σ σ') (v : Int) : rowF σ v = rowF σ' v := by unfold rowF; rw [e.r10]
theorem shF_E {σ σ' : ST} (e : E σ σ') (v : Int) : shF σ v = shF σ' v := by unfold shF; rw [e.r2]
theorem aP_E {σ σ' : ST} (e : E σ σ') {v w : Int} {k : Nat} (h : aP σ v w k) : aP σ' v w k := by
  match k with
  | 0 => unfold aP at h ⊢; rw [← e.r2, ← plc_E e]; exact h
  | 1 => unfold aP at h ⊢; rw [← e.r2, ← plc_E e, ← plc_E e]; exact h
  | 2 => unfold aP at h ⊢; rw [← e.r2, ← plc_E e]; exact h
  | 3 => unfold aP at h ⊢; rw [← e.r2, ← plc_E e, ← plc_E e]; exact h
  | 4 => unfold aP at h ⊢; rw [← e.r10]; exact h
  | 5 => trivial
  | 6 => unfold aP at h ⊢; rw [← e.r10]; exact h
  | 7 => trivial
  | 8 => trivial
  | k + 9 => unfold aP at h ⊢; rw [← e.r10, ← refu_E e, ← rowF_E e, ← shF_E e]; exact h
theorem aO_E {σ σ' : ST} (e : E σ σ') (v w : Int) (k : Nat) : E (aO σ v w k) (aO σ' v w k) := by
  match k with
  | 0 => exact exN_E e _ _
  | 1 => exact exC_E e _ _ _
  | 2 => exact lvO_E e _ _
  | 3 => exact xcL_E e _ _
  | 4 => unfold aO; rw [shF_E e]; exact adR_E e _
  | 5 => exact itS_E e _
  | 6 => unfold aO; rw [rowF_E e]; exact tkF_E e _
  | 7 => unfold aO; rw [shF_E e]; exact up2_E e _ _ _
  | 8 => unfold aO; rw [oldF_E e]; exact up2_E e _ _ _
  | k + 9 => unfold aO; rw [rowF_E e, shF_E e]; exact wrV_E e _ _ _ _
/-- what stands between two calls of the class -/
def KI (σ : ST) : Prop := CI σ ∧ SH σ ∧ RW σ
theorem KI_E {σ σ' : ST} (e : E σ σ') (h : KI σ) : KI σ' := ⟨CI_E e h.1, SH_E e h.2.1, RW_E e h.2.2⟩
theorem exN_q {σ : ST} (a m : Int) {p : Nat} (hp : p = 10 ∨ p = 11 ∨ p = 12 ∨ p = 14) : exN σ a m p = σ p := by
  unfold exN addLF comeF comeM come1
  simp (disch := omega) only [up2_off, cpR_off]
theorem exC_q {σ : ST} (a m c : Int) {p : Nat} (hp : p = 10 ∨ p = 11 ∨ p = 12 ∨ p = 14) : exC σ a m c p = σ p := by
  unfold exC addLF comeF comeM come1
  simp (disch := omega) only [up2_off, cpR_off]
theorem lvO_q {σ : ST} (a m : Int) {p : Nat} (hp : p = 10 ∨ p = 11 ∨ p = 12 ∨ p = 14) : lvO σ a m p = σ p := by
  unfold lvO gapF gapM comeF comeM come1
  simp (disch := omega) only [up2_off, cpR_off]
theorem xcL_q {σ : ST} (a m : Int) {p : Nat} (hp : p = 10 ∨ p = 11 ∨ p = 12 ∨ p = 14) : xcL σ a m p = σ p := by
  unfold xcL comeF comeM come1
  simp (disch := omega) only [up2_off, cpR_off]
theorem RW_new {σ μ : ST} (h : RW σ) (e : ∀ p, (p = 10 ∨ p = 11 ∨ p = 12 ∨ p = 14) → μ p = σ p) (e20 : μ 2 0 = σ 2 0 + 1) (e21 : μ 2 1 = σ 2 1) : RW μ :=
  RW_of h (fun p hp => e p (by omega)) (by omega) e21 (by rw [e 10 (by omega)]) (by rw [e 10 (by omega)])
theorem exN_2 {σ : ST} (a m : Int) : exN σ a m 2 0 = σ 2 0 + 1 ∧ exN σ a m 2 1 = σ 2 1 := by
  unfold exN
  rw [addLF_20, up2_off _ (by decide)]
  exact ⟨comeF_20 _ _, come_21 _ _⟩
theorem exC_2 {σ : ST} (a m c : Int) : exC σ a m c 2 0 = σ 2 0 + 1 ∧ exC σ a m c 2 1 = σ 2 1 := by
  unfold exC
  rw [addLF_20, up2_off _ (by decide), up2_off _ (by decide)]
  exact ⟨comeF_20 _ _, come_21 _ _⟩
theorem lvO_2 {σ : ST} (a m : Int) : lvO σ a m 2 0 = σ 2 0 + 1 ∧ lvO σ a m 2 1 = σ 2 1 := by
  unfold lvO
  rw [gap_q (by omega), up2_off _ (by decide), up2_off _ (by decide)]
  exact ⟨comeF_20 _ _, come_21 _ _⟩
theorem xcL_2 {σ : ST} (a m : Int) : xcL σ a m 2 0 = σ 2 0 + 1 ∧ xcL σ a m 2 1 = σ 2 1 := by
  unfold xcL
  rw [up2_off _ (by decide)]
  exact ⟨comeF_20 _ _, come_21 _ _⟩
theorem adR_r {σ : ST} {s : Int} {p : Nat} (hp : p < 10) : adR σ s p = σ p := by
  unfold adR adRM
  simp (disch := omega) only [up2_off, cpR_off]
theorem wrV_r {σ : ST} {r s a v : Int} {p : Nat} (hp : p < 10) : wrV σ r s a v p = σ p := by
  unfold wrV rwV
  (try simp only [])
  split <;> simp (disch := omega) only [up2_off, cpR_off]
theorem tkF_r {σ : ST} {g : Int} {p : Nat} (hp : p < 10) : tkF σ g p = σ p := by
  unfold tkF tkO
  (try simp only [])
  split <;> simp (disch := omega) only [up2_off, cpR_off]
theorem aO_KI {σ : ST} (h : KI σ) {v w : Int} {k : Nat} (hp : aP σ v w k) : KI (aO σ v w k) := by
  obtain ⟨hI, hS, hR⟩ := h
  have hz := hI.sz
  have hm := hI.mk
  have hro := hI.ro
  have hA := wA_rng w
  have hB := wB_rng w
  have hW := WI_of hI (hS.li hI)
  have hs := shF_rng hR v
  match k with
  | 0 =>
    have q := lowI_rng (shrI w 6) (n := 100) (by omega)
    exact ⟨CI_exN hI hp.1 hA (by omega) (hW _ hA.1 hA.2 hp.2), SH_exN hS hI _ hp.2, RW_new hR (fun p h => exN_q _ _ h) (exN_2 _ _).1 (exN_2 _ _).2⟩
  | 1 =>
    have hc : (if andI (shrI w 6) 1 = 0 then (-1 : Int) else wB w) = -1 ∨ plc σ (σ 2 0 - 1).toNat (if andI (shrI w 6) 1 = 0 then (-1 : Int) else wB w) ≠ -1 := by
      split
      · exact Or.inl rfl
      · exact Or.inr hp.2
    exact ⟨CI_exC hI hp.1.1 hA hp.2 hc (hW _ hA.1 hA.2 hp.1.2), SH_exC hS hI _ _ hp.1.2, RW_new hR (fun p h => exC_q _ _ _ h) (exC_2 _ _ _).1 (exC_2 _ _ _).2⟩
  | 2 =>
    have q := lowI_rng (shrI w 6) (n := 100) (by omega)
    exact ⟨CI_lvO hI hp.1 (by omega) hp.2, SH_lvO hS hI _ hp.2, RW_new hR (fun p h => lvO_q _ _ h) (lvO_2 _ _).1 (lvO_2 _ _).2⟩
  | 3 => exact ⟨CI_xcL hI hp.1.1 _ hB, SH_xcL hS hI hp.1.2 hp.2, RW_new hR (fun p h => xcL_q _ _ h) (xcL_2 _ _).1 (xcL_2 _ _).2⟩
  | 4 => exact ⟨CI_adR hI hp (by omega), SH_of hS (congrFun (adR_r (by omega)) 0) (fun p _ _ => adR_r (by omega)), RW_adR hR hI hs⟩
  | 5 => exact ⟨CI_itS hI _, SH_of hS (congrFun (itS_r (by omega) _) 0) (fun p _ _ => itS_r (by omega) _), RW_itS hR hI _⟩
  | 6 =>
    have hp1 : 0 < σ 10 0 := hp
    have q := rowF_rng hI v (by omega)
    exact ⟨CI_tkF hI q.1 q.2, SH_of hS (congrFun (tkF_r (by omega)) 0) (fun p _ _ => tkF_r (by omega)), RW_tkF hR hI q.1 q.2⟩
  | 7 => exact ⟨hI.u14 _ (by omega), SH_of hS (congrFun (up2_off _ (by omega)) 0) (fun p _ _ => up2_off _ (by omega)), RW_hold hR _ hs⟩
  | 8 =>
    have o1 := oldF_le hI
    have o2 := oldF_ge hI hR
    exact ⟨hI.u21 (by omega), SH_of hS (up2_no _ (by omega)) (fun p _ _ => up2_off _ (by omega)), RW_mark hR hI⟩
  | k + 9 =>
    have q := rowF_rng hI v hp.1
    have q2 := lowI_rng (shrI w 6) (n := 1000) (by omega)
    exact ⟨CI_wrV hI _ _ _ (by omega) (by omega), SH_of hS (congrFun (wrV_r (by omega)) 0) (fun p _ _ => wrV_r (by omega)), RW_wrV hR hI _ _ q.1 q.2 hs⟩
