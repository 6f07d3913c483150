/-! the digest -/
theorem sr_108 (σ : ST) (f : Nat → Int) : sr σ 15 f 108 = σ 108 := sr_off σ f (by decide)
def wI (a : Int) : Int := (iI a).toInt
section Rows6
variable {l : Launch} {G : GG} {own : String} {X : MI} {dm : Nat × Nat × Nat} {K : KK} {KE : KX} {n0 pc : Nat} {L : List (Option Value)} {S : List Value} {n : Nat} {kd : KT} {σ τ : ST} {ρ : RT} {ce sl : Nat}
theorem r_i2lw {a : Int} (hd : decode X.2.1 pc = .ok (.i2l, 1)) (k : WP l G own X dm K KE n0 (pc + 1) L (.long (jJ (wI a)) :: S) n kd σ τ ρ ce sl) : WP l G own X dm K KE n0 pc L (.int (iI a) :: S) n kd σ τ ρ ce sl := by
  have e : iI (wI a) = iI a := by unfold wI; exact iI_of _
  rw [← e]
  exact r_i2l hd (inR_of _) k
end Rows6
theorem TI_sr {σ : ST} {f : Nat → Int} (h : TI σ) : TI (sr σ 15 f) := by
  unfold TI at h ⊢
  simp only [sr_108, sr_109]
  exact h
theorem cntR_sr (σ : ST) (f : Nat → Int) (s : Int) : ∀ n, cntR (sr σ 15 f) s n = cntR σ s n
  | 0 => rfl
  | n + 1 => by unfold cntR; rw [cntR_sr σ f s n, sr_11]
theorem cntH_sr (σ : ST) (f : Nat → Int) (s : Int) : ∀ n, cntH (sr σ 15 f) s n = cntH σ s n
  | 0 => rfl
  | n + 1 => by unfold cntH; rw [cntH_sr σ f s n, sr_14]
theorem slF_sr (σ : ST) (f : Nat → Int) : ∀ n, slF (sr σ 15 f) n = slF σ n
  | 0 => rfl
  | n + 1 => by unfold slF wrap nrow; rw [slF_sr σ f n, sr_11, sr_10, sr_2]
theorem lsV_sr (σ : ST) (f : Nat → Int) (r s : Nat) : lsV (sr σ 15 f) r s = lsV σ r s := by unfold lsV; rw [vR_sr, cf_sr, cb_sr, sr_11]
theorem lsC_sr (σ : ST) (f v : Nat → Int) (r : Nat) : ∀ n, lsC (sr σ 15 f) v r n = lsC σ v r n
  | 0 => rfl
  | n + 1 => by unfold lsC; rw [lsC_sr σ f v r n, sr_8, sr_11, sr_13]
theorem mskF_sr (σ : ST) (f : Nat → Int) (s : Nat) (a x : Int) : ∀ n, mskF (sr σ 15 f) s a x n = mskF σ s a x n
  | 0 => rfl
  | n + 1 => by unfold mskF; rw [mskF_sr σ f s a x n, vRd_sr]
theorem roP_sr (σ : ST) (f : Nat → Int) (r : Nat) (w : Int) : roP (sr σ 15 f) r w = roP σ r w := by unfold roP; simp only [sr_2, sr_7, sr_11, sr_12, vR_sr, sumV_sr]
theorem frS_sr (σ : ST) (f : Nat → Int) : frS (sr σ 15 f) = frS σ := by unfold frS; simp only [sr_2, sr_10, cntR_sr]
theorem cdF_sr (σ : ST) (f : Nat → Int) (i : Int) : cdF (sr σ 15 f) i = cdF σ i := by unfold cdF; rw [sr_108, sr_109]
/-- the bits of a share -/
def dqS (x : UInt64) : Nat → UInt64
  | 0 => x
  | n + 1 => FP.dmul (dqS x n) 4611686018427387904
def dcG (x y : UInt64) : Int := (Op.cmpValue (FP.dcmp x y) .g).toInt
def bsV (x : UInt64) (t : Nat) : Int := shlJ (1023 - (t : Int)) 52 + (FP.d2l (FP.dmul (FP.dsub (dqS x t) FP.dconst1) 4841369599423283200)).toInt
def nnB (x : UInt64) : Bool := decide (x &&& 0x7fffffffffffffff ≤ 0x7ff0000000000000)
def tqS (x : UInt64) : Nat → Nat
  | 0 => 0
  | n + 1 => if dcG (dqS x (4 - n)) FP.dconst1 < 0 then tqS x n + 1 else 0
def bsB (x : UInt64) : Bool := decide (0 < dcG x FP.dconst0) && (List.range (tqS x 5)).all (fun k => decide (dcG (dqS x k) FP.dconst1 < 0) && nnB (dqS x (k + 1))) && decide (0 ≤ dcG (dqS x (tqS x 5)) FP.dconst1) && nnB (FP.dsub (dqS x (tqS x 5)) FP.dconst1) && nnB (FP.dmul (FP.dsub (dqS x (tqS x 5)) FP.dconst1) 4841369599423283200) && decide (jJ (bsV x (tqS x 5)) = x.toInt64) && decide (tqS x 5 ≤ 5)
theorem bsB_all : ∀ n : Nat, n < 13 → 0 < n → ∀ k : Nat, k < 13 → 0 < k → k ≤ n → bsB (frQ (k : Int) (n : Int)) = true := by decide +kernel
theorem fr0_all : ∀ n : Nat, n < 13 → 0 < n → (frQ 0 (n : Int)) = 0 := by decide +kernel
theorem bs_0 : dcG 0 FP.dconst0 = 0 ∧ jJ 0 = (0 : UInt64).toInt64 := by decide +kernel
theorem bs_1 : bsB FP.dconst1 = true := by decide +kernel
def bsP (x : UInt64) (t : Nat) : Prop := 0 < dcG x FP.dconst0 ∧ (∀ k, k < t → dcG (dqS x k) FP.dconst1 < 0 ∧ vf_n64 (dqS x (k + 1))) ∧ 0 ≤ dcG (dqS x t) FP.dconst1 ∧ vf_n64 (FP.dsub (dqS x t) FP.dconst1) ∧ vf_n64 (FP.dmul (FP.dsub (dqS x t) FP.dconst1) 4841369599423283200) ∧ jJ (bsV x t) = x.toInt64 ∧ t ≤ 5
theorem nnB_of {x : UInt64} (h : nnB x = true) : vf_n64 x := by
  have h2 := of_decide_eq_true h
  exact h2
theorem bsB_P {x : UInt64} (h : bsB x = true) : bsP x (tqS x 5) := by
  unfold bsB at h
  simp only [Bool.and_eq_true, decide_eq_true_eq, List.all_eq_true, List.mem_range] at h
  obtain ⟨⟨⟨⟨⟨⟨h1, h2⟩, h3⟩, h4⟩, h5⟩, h6⟩, h7⟩ := h
  exact ⟨h1, fun k hk => ⟨(h2 k hk).1, nnB_of (h2 k hk).2⟩, h3, nnB_of h4, nnB_of h5, h6, h7⟩
theorem bsP_or {σ : ST} (hI : CI σ) : frS σ = 0 ∨ ∃ t, bsP (frS σ) t := by
  have hr := hI.ro
  have hcn := cntR_rng σ (σ 2 0 - 1) (σ 10 0).toNat
  by_cases e : σ 10 0 = 0
  · exact Or.inr ⟨_, by unfold frS; rw [if_pos e]; exact bsB_P bs_1⟩
  · unfold frS
    rw [if_neg e]
    obtain ⟨k, hk⟩ : ∃ k : Nat, (k : Int) = σ 10 0 - (σ 10 0 - cntR σ (σ 2 0 - 1) (σ 10 0).toNat) := ⟨(σ 10 0 - (σ 10 0 - cntR σ (σ 2 0 - 1) (σ 10 0).toNat)).toNat, by omega⟩
    obtain ⟨m, hm⟩ : ∃ m : Nat, (m : Int) = σ 10 0 := ⟨(σ 10 0).toNat, by omega⟩
    rw [← hk, ← hm]
    by_cases k0 : k = 0
    · subst k0
      exact Or.inl (fr0_all m (by omega) (by omega))
    · exact Or.inr ⟨_, bsB_P (bsB_all m (by omega) (by omega) k (by omega) (by omega) (by omega))⟩
def foldM (h : Int) (f : Nat → Int) : Nat → Int
  | 0 => h
  | k + 1 => 31 * foldM h f k + wI (f k)
def csP (σ : ST) (s : Nat) (q w : Int) : Int := if σ 7 s ≤ q then -1 else if w = 0 then σ 9 (8 * s + q.toNat) else if w = 1 then σ 8 (8 * s + q.toNat) else pcl σ (σ 2 0 - 1).toNat (σ 8 (8 * s + q.toNat))
def digC (σ : ST) (s : Nat) (h : Int) : Nat → Int
  | 0 => h
  | q + 1 => foldM (digC σ s h q) (fun w => csP σ s (q : Int) (w : Int)) 3
def digS (σ : ST) (h : Int) : Nat → Int
  | 0 => h
  | s + 1 => digC σ s (foldM (digS σ h s) (fun w => shP σ s (w : Int)) 6) (σ 7 s).toNat
def digR (σ : ST) (r : Nat) (h : Int) : Nat → Int
  | 0 => foldM h (fun w => roP σ r (w : Int)) 6
  | n + 1 => 31 * foldM (digR σ r h n) (fun q => vR σ r ((σ 2 1).toNat + n) (σ 8 (8 * ((σ 2 1).toNat + n) + q)).toNat) (σ 7 ((σ 2 1).toNat + n)).toNat + wI (lsC σ (lsV σ r ((σ 2 1).toNat + n)) r (σ 7 (σ 11 r).toNat).toNat)
def digW (σ : ST) (h : Int) : Nat → Int
  | 0 => h
  | r + 1 => digR σ r (digW σ h r) (σ 2 0 - σ 2 1).toNat
def digT (σ : ST) (h : Int) : Int := foldM (31 * h + wI (σ 108 1)) (fun k => cdF σ (k : Int)) (σ 108 1).toNat
def digF (σ : ST) : Int := digT σ (31 * (31 * (31 * foldM (digW σ (digS σ (foldM 2699 (fun w => ctP σ (w : Int)) 10) (σ 2 0).toNat) (σ 10 0).toNat) (fun k => σ 14 k) 4 + wI (slF σ (σ 10 0).toNat)) + wI (mskF σ (σ 2 0 - 1).toNat 0 5 (σ 10 0).toNat)) + (frS σ).toInt64.toInt)
theorem digR_sr (σ : ST) (f : Nat → Int) (r : Nat) (h : Int) : ∀ n, digR (sr σ 15 f) r h n = digR σ r h n
  | 0 => by unfold digR; simp only [roP_sr]
  | n + 1 => by unfold digR; simp only [digR_sr σ f r h n, vR_sr, lsV_sr, lsC_sr, sr_2, sr_7, sr_8, sr_11]
theorem digT_sr (σ : ST) (f : Nat → Int) (h : Int) : digT (sr σ 15 f) h = digT σ h := by unfold digT; simp only [sr_108, cdF_sr]

def exO (σ : ST) (f e : Int) : ST := if cdF σ f = 43 then (if cdF σ (f + 2) = 61 then (if σ 2 0 < 12 ∧ plc σ (σ 2 0 - 1).toNat (letF σ (f + 1)) = -1 then exN σ (letF σ (f + 1)) (nbF σ (f + 3) (e - (f + 3)).toNat) else σ) else (if σ 2 0 < 12 ∧ plc σ (σ 2 0 - 1).toNat (letF σ (f + 1)) = -1 ∧ plc σ (σ 2 0 - 1).toNat (letF σ (f + 3)) ≠ -1 ∧ (afW σ f e = -1 ∨ plc σ (σ 2 0 - 1).toNat (afW σ f e) ≠ -1) then exC σ (letF σ (f + 1)) (letF σ (f + 3)) (afW σ f e) else σ)) else if cdF σ f = 45 then (if σ 2 0 < 12 ∧ plc σ (σ 2 0 - 1).toNat (letF σ (f + 1)) ≠ -1 then lvO σ (letF σ (f + 1)) (nbF σ (f + 3) (e - (f + 3)).toNat) else σ) else if cdF σ f = 62 then (if σ 2 0 < 12 ∧ plc σ (σ 2 0 - 1).toNat (letF σ (f + 1)) ≠ -1 ∧ plc σ (σ 2 0 - 1).toNat (letF σ (f + 2)) = -1 then xcL σ (letF σ (f + 1)) (letF σ (f + 2)) else σ) else if cdF σ f = 110 then (if σ 10 0 < 12 then adR σ (σ 2 0 - 1) else σ) else itS σ (nbF σ (f + 1) (e - (f + 1)).toNat).toNat
def exA (σ : ST) (f e : Int) : Int := if cdF σ f = 43 then (if cdF σ (f + 2) = 61 then (if σ 2 0 < 12 ∧ plc σ (σ 2 0 - 1).toNat (letF σ (f + 1)) = -1 then 1 else 0) else (if σ 2 0 < 12 ∧ plc σ (σ 2 0 - 1).toNat (letF σ (f + 1)) = -1 ∧ plc σ (σ 2 0 - 1).toNat (letF σ (f + 3)) ≠ -1 ∧ (afW σ f e = -1 ∨ plc σ (σ 2 0 - 1).toNat (afW σ f e) ≠ -1) then 1 else 0)) else if cdF σ f = 45 then (if σ 2 0 < 12 ∧ plc σ (σ 2 0 - 1).toNat (letF σ (f + 1)) ≠ -1 then 1 else 0) else if cdF σ f = 62 then (if σ 2 0 < 12 ∧ plc σ (σ 2 0 - 1).toNat (letF σ (f + 1)) ≠ -1 ∧ plc σ (σ 2 0 - 1).toNat (letF σ (f + 2)) = -1 then 1 else 0) else if cdF σ f = 110 then (if σ 10 0 < 12 then 1 else 0) else 1
/-- what an order at f, ahead of e, asks of the text -/
def okO (σ : ST) (f e : Int) : Prop := 0 ≤ f ∧ f + 1 ≤ e ∧ e ≤ 1000 ∧ ((cdF σ f = 43 ∨ cdF σ f = 45 ∨ cdF σ f = 62) → 0 ≤ letF σ (f + 1) ∧ letF σ (f + 1) < 8) ∧ (cdF σ f = 43 → cdF σ (f + 2) = 61 → f + 3 ≤ e) ∧ (cdF σ f = 45 → f + 3 ≤ e) ∧ ((cdF σ f ≠ 43 ∧ cdF σ f ≠ 45 ∧ cdF σ f ≠ 62 ∧ cdF σ f ≠ 110) → 0 ≤ nbF σ (f + 1) (e - (f + 1)).toNat ∧ nbF σ (f + 1) (e - (f + 1)).toNat ≤ 12)
theorem cdF_rng {σ : ST} (hT : TI σ) (i : Int) : -1 ≤ cdF σ i ∧ cdF σ i ≤ 126 := by
  unfold cdF
  split
  · have := hT.2 i.toNat; omega
  · omega

set_option maxRecDepth 100000 in
set_option maxHeartbeats 4000000 in
theorem ct_X5_bitsOfShare {l : Launch} {G : GG} {π : Nat → Option Nat} {σ τ : ST} (x : UInt64) (hx : x = 0 ∨ ∃ t, bsP x t) : Ct l G mX5_bitsOfShare (0, 0, 0) [.double x] 110 KD σ τ (RHO π) (KQ (some (.long (jJ x.toInt64.toInt))) 110 KD σ τ (RHO π)) := by
  have hr1 := fun y => inR_of (Op.cmpValue (FP.dcmp y FP.dconst1) .g)
  have hr0 := fun y => inR_of (Op.cmpValue (FP.dcmp y FP.dconst0) .g)
  refine ct_intro (own := "ShapedRows") rfl (by decide +kernel) (Nat.le_of_ble_eq_true rfl) (L := _) rfl ?_
  have cut_18 : ∀ (N : Nat) (t : Nat) (k : Int), (bsP x t) → (0 ≤ k) → (k ≤ (t : Int)) → (t : Int) - k < (N : Int) → WP l G "ShapedRows" mX5_bitsOfShare (0, 0, 0) (KQ (some (.long (jJ x.toInt64.toInt))) 110 KD σ τ (RHO π)) noX 110 18 [some (.double x), none, some (.double (dqS x k.toNat)), none, some (.long (jJ (1023 - k))), none, some (.int (iI k))] [] 110 KD σ τ (RHO π) 0 0 := by
    intro N
    induction N with
    | zero => intro t k hb k0 k1 hm; exact absurd hm (by omega)
    | succ N ih =>
      intro t k hb k0 k1 hm
      obtain ⟨b1, b2, b3, b4, b5, b6, b7⟩ := id hb
      refine r_iload dX5_bitsOfShare_18 (by rfl) ?_
      refine r_sipush dX5_bitsOfShare_20 (by decide) ?_
      refine r_icmp_ge (tgt := 50) dX5_bitsOfShare_23 (by decide) (by first | exact hr0 _ | exact hr1 _ | (unfold inR; omega)) (by first | exact hr0 _ | exact hr1 _ | (unfold inR; omega)) (fun hk => ?_) (fun hk => ?_)
      · exact absurd hk (by omega)
      · refine r_dload_n dX5_bitsOfShare_26 rfl (by rfl) ?_
        refine r_dconst1 dX5_bitsOfShare_27 ?_
        refine r_dcmp dX5_bitsOfShare_28 ?_
        refine r_if_ge (tgt := 50) dX5_bitsOfShare_29 (by decide) (by first | exact hr0 _ | exact hr1 _ | (unfold inR; omega)) (fun hl => ?_) (fun hl => ?_)
        · obtain rfl : k = (t : Int) := by
            by_cases hh : k < (t : Int)
            · have := (b2 k.toNat (by omega)).1; unfold dcG at this; omega
            · omega
          rw [Int.toNat_natCast]
          refine r_lload dX5_bitsOfShare_50 (by rfl) ?_
          refine r_bipush dX5_bitsOfShare_52 (by decide) ?_
          refine r_lshl dX5_bitsOfShare_54 ?_
          refine r_dload_n dX5_bitsOfShare_55 rfl (by rfl) ?_
          refine r_dconst1 dX5_bitsOfShare_56 ?_
          refine r_dsub dX5_bitsOfShare_57 (b4) ?_
          refine r_ldc2d qd_X5_330 dX5_bitsOfShare_58 ?_
          refine r_dmul dX5_bitsOfShare_61 (b5) ?_
          refine r_d2l dX5_bitsOfShare_62 ?_
          refine r_ladd dX5_bitsOfShare_63 ?_
          have e6 : jJ (bsV x t) = jJ x.toInt64.toInt := by rw [b6, jJ_of]
          unfold bsV at e6
          rw [e6]
          exact r_ret_l dX5_bitsOfShare_64 rfl ⟨Nat.zero_le _, Nat.zero_le _⟩ (by rfl) ⟨rfl, rfl, (by first | rfl | omega), rfl, rfl⟩
        · have hkt : k < (t : Int) := by
            by_cases hh : k < (t : Int)
            · exact hh
            · have e : k.toNat = t := by omega
              rw [e] at hl; unfold dcG at b3; omega
          refine r_dload_n dX5_bitsOfShare_32 rfl (by rfl) ?_
          refine r_ldc2d qd_X5_328 dX5_bitsOfShare_33 ?_
          refine r_dmul dX5_bitsOfShare_36 ((b2 k.toNat (by omega)).2) ?_
          refine r_dstore_n dX5_bitsOfShare_37 rfl (Nat.le_of_ble_eq_true rfl) (Nat.le_of_ble_eq_true rfl) (L' := [_, _, _, _, _, _, _]) (by rfl) ?_
          refine r_lload dX5_bitsOfShare_38 (by rfl) ?_
          refine r_lconst (z := 1) dX5_bitsOfShare_40 (by decide) ?_
          refine r_lsub dX5_bitsOfShare_41 ?_
          refine r_lstore dX5_bitsOfShare_42 (Nat.le_of_ble_eq_true rfl) (Nat.le_of_ble_eq_true rfl) (L' := [_, _, _, _, _, _, _]) (by rfl) ?_
          refine r_iinc dX5_bitsOfShare_44 (by rfl) (Nat.le_of_ble_eq_true rfl) (L' := [_, _, _, _, _, _, _]) (by rfl) ?_
          refine r_goto (tgt := 18) dX5_bitsOfShare_47 (by decide) ?_
          rw [show (1023 : Int) - k - 1 = 1023 - (k + 1) by omega, show FP.dmul (dqS x k.toNat) 4611686018427387904 = dqS x (k + 1).toNat by rw [show (k + 1).toNat = k.toNat + 1 by omega]; rfl]
          exact ih t (k + 1) hb (by omega) (by omega) (by omega)
  refine r_dload_n dX5_bitsOfShare_0 rfl (by rfl) ?_
  refine r_dconst0 dX5_bitsOfShare_1 ?_
  refine r_dcmp dX5_bitsOfShare_2 ?_
  refine r_if_gt (tgt := 8) dX5_bitsOfShare_3 (by decide) (by first | exact hr0 _ | exact hr1 _ | (unfold inR; omega)) (fun hg => ?_) (fun hg => ?_)
  · rcases hx with rfl | ⟨t, hb⟩
    · exact absurd (show (dcG 0 FP.dconst0) > 0 from hg) (by rw [bs_0.1]; omega)
    refine r_dload_n dX5_bitsOfShare_8 rfl (by rfl) ?_
    refine r_dstore_n dX5_bitsOfShare_9 rfl (Nat.le_of_ble_eq_true rfl) (Nat.le_of_ble_eq_true rfl) (L' := [_, _, _, _, _, _, _]) (by rfl) ?_
    refine r_ldc2 (a := 1023) ql_X5_326 (by decide) dX5_bitsOfShare_10 ?_
    refine r_lstore dX5_bitsOfShare_13 (Nat.le_of_ble_eq_true rfl) (Nat.le_of_ble_eq_true rfl) (L' := [_, _, _, _, _, _, _]) (by rfl) ?_
    refine r_iconst dX5_bitsOfShare_15 ?_
    refine r_istore dX5_bitsOfShare_16 (Nat.le_of_ble_eq_true rfl) (L' := [_, _, _, _, _, _, _]) (by rfl) ?_
    exact cut_18 6 t 0 hb (by omega) (by omega) (by have := hb.2.2.2.2.2.2; omega)
  · rcases hx with rfl | ⟨t, hb⟩
    rotate_left
    · exact absurd hb.1 (by unfold dcG; omega)
    refine r_lconst (z := 0) dX5_bitsOfShare_6 (by decide) ?_
    exact r_ret_l dX5_bitsOfShare_7 rfl ⟨Nat.zero_le _, Nat.zero_le _⟩ (by decide +kernel) ⟨rfl, rfl, (by first | rfl | omega), rfl, rfl⟩
