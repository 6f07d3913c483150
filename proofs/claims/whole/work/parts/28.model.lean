/-! the model: what bounds its live numbers; reading and laying -/
def gM (σ : ST) (s w : Int) : Int := σ 111 (10 + 20 * s + w).toNat
def oM (σ : ST) (r w : Int) : Int := σ 111 (250 + 10 * r + w).toNat
def MJ (σ : ST) : Prop := (1 ≤ σ 111 0 ∧ σ 111 0 ≤ 12) ∧ (0 ≤ σ 111 1 ∧ σ 111 1 < 12) ∧ (0 ≤ σ 111 2 ∧ σ 111 2 ≤ 12) ∧ (0 ≤ σ 111 3 ∧ σ 111 3 ≤ 12) ∧ (∀ r : Int, 0 ≤ r → r < 4 → 0 ≤ σ 111 (6 + r).toNat ∧ σ 111 (6 + r).toNat < σ 111 0) ∧ (∀ s : Int, 0 ≤ s → s < σ 111 0 → 0 ≤ gM σ s 0 ∧ gM σ s 0 ≤ 8) ∧ (∀ s j : Int, 0 ≤ s → s < σ 111 0 → 0 ≤ j → j < gM σ s 0 → 0 ≤ gM σ s (1 + j) ∧ gM σ s (1 + j) < 12 ∧ 0 ≤ gM σ s (9 + j) ∧ gM σ s (9 + j) < 8) ∧ (∀ s : Int, 0 ≤ s → s < σ 111 0 → 0 ≤ gM σ s 17 ∧ gM σ s 17 ≤ 5 ∧ 0 ≤ gM σ s 18 ∧ gM σ s 18 ≤ 99 ∧ 0 ≤ gM σ s 19 ∧ gM σ s 19 ≤ 99) ∧ (∀ r : Int, 0 ≤ r → r < σ 111 2 → 0 ≤ oM σ r 0 ∧ oM σ r 0 < σ 111 0) ∧ (∀ r j : Int, 0 ≤ r → r < σ 111 2 → 0 ≤ j → j < gM σ (oM σ r 0) 0 → 0 ≤ oM σ r (2 + j) ∧ oM σ r (2 + j) ≤ 99999)
theorem MJ.sz {σ : ST} (h : MJ σ) : 1 ≤ σ 111 0 ∧ σ 111 0 ≤ 12 := h.1
theorem MJ.mk {σ : ST} (h : MJ σ) : 0 ≤ σ 111 1 ∧ σ 111 1 < 12 := h.2.1
theorem MJ.ro {σ : ST} (h : MJ σ) : 0 ≤ σ 111 2 ∧ σ 111 2 ≤ 12 := h.2.2.1
theorem MJ.cu {σ : ST} (h : MJ σ) : 0 ≤ σ 111 3 ∧ σ 111 3 ≤ 12 := h.2.2.2.1
theorem MJ.he {σ : ST} (h : MJ σ) (r : Int) (a : 0 ≤ r) (b : r < 4) : 0 ≤ σ 111 (6 + r).toNat ∧ σ 111 (6 + r).toNat < σ 111 0 := h.2.2.2.2.1 r a b
theorem MJ.wd {σ : ST} (h : MJ σ) (s : Int) (a : 0 ≤ s) (b : s < σ 111 0) : 0 ≤ gM σ s 0 ∧ gM σ s 0 ≤ 8 := h.2.2.2.2.2.1 s a b
theorem MJ.cl {σ : ST} (h : MJ σ) (s j : Int) (a : 0 ≤ s) (b : s < σ 111 0) (c : 0 ≤ j) (d : j < gM σ s 0) : 0 ≤ gM σ s (1 + j) ∧ gM σ s (1 + j) < 12 ∧ 0 ≤ gM σ s (9 + j) ∧ gM σ s (9 + j) < 8 := h.2.2.2.2.2.2.1 s j a b c d
theorem MJ.ch {σ : ST} (h : MJ σ) (s : Int) (a : 0 ≤ s) (b : s < σ 111 0) : 0 ≤ gM σ s 17 ∧ gM σ s 17 ≤ 5 ∧ 0 ≤ gM σ s 18 ∧ gM σ s 18 ≤ 99 ∧ 0 ≤ gM σ s 19 ∧ gM σ s 19 ≤ 99 := h.2.2.2.2.2.2.2.1 s a b
theorem MJ.rs {σ : ST} (h : MJ σ) (r : Int) (a : 0 ≤ r) (b : r < σ 111 2) : 0 ≤ oM σ r 0 ∧ oM σ r 0 < σ 111 0 := h.2.2.2.2.2.2.2.2.1 r a b
theorem MJ.va {σ : ST} (h : MJ σ) (r j : Int) (a : 0 ≤ r) (b : r < σ 111 2) (c : 0 ≤ j) (d : j < gM σ (oM σ r 0) 0) : 0 ≤ oM σ r (2 + j) ∧ oM σ r (2 + j) ≤ 99999 := h.2.2.2.2.2.2.2.2.2 r j a b c d
def plM (σ : ST) (s a : Int) : Int := fnd (fun k => gM σ s (9 + (k : Int))) a (gM σ s 0).toNat
def pcM (σ : ST) (s a : Int) : Int := fnd (fun k => gM σ s (1 + (k : Int))) a (gM σ s 0).toNat
theorem plM_rng {σ : ST} (h : MJ σ) (s a : Int) (q : 0 ≤ s) (b : s < σ 111 0) : -1 ≤ plM σ s a ∧ plM σ s a < gM σ s 0 ∧ plM σ s a < 8 := by
  have h1 := fnd_rng (fun k => gM σ s (9 + (k : Int))) a (gM σ s 0).toNat
  have hw := h.wd s q b
  unfold plM
  omega
theorem pcM_rng {σ : ST} (h : MJ σ) (s a : Int) (q : 0 ≤ s) (b : s < σ 111 0) : -1 ≤ pcM σ s a ∧ pcM σ s a < gM σ s 0 ∧ pcM σ s a < 8 := by
  have h1 := fnd_rng (fun k => gM σ s (1 + (k : Int))) a (gM σ s 0).toNat
  have hw := h.wd s q b
  unfold pcM
  omega
def lyM (σ : ST) (s w v : Int) : ST := up2 σ 111 (10 + 20 * s + w).toNat v
def loM (σ : ST) (r w v : Int) : ST := up2 σ 111 (250 + 10 * r + w).toNat v

set_option maxRecDepth 100000 in
set_option maxHeartbeats 4000000 in
theorem ct_X6_in {l : Launch} {G : GG} {π : Nat → Option Nat} {σ τ : ST} (v : Int) (hv : inR v) (l1 : Int) (hl : inR l1) (m : Int) (hm : inR m) : Ct l G mX6_in (0, 0, 0) [.int (iI v), .int (iI l1), .int (iI m)] 117 KD σ τ (RHO π) (KQ (some (.int (iI (if l1 ≤ v ∧ v ≤ m then 1 else 0)))) 117 KD σ τ (RHO π)) := by
  have rv := hv
  unfold inR at rv
  have rl := hl
  unfold inR at rl
  have rm := hm
  unfold inR at rm
  refine ct_intro (own := "ShapedRowsModel") rfl (by decide +kernel) (Nat.le_of_ble_eq_true rfl) (L := _) rfl ?_
  refine r_iload_n dX6_in_0 rfl (by rfl) ?_
  refine r_iload_n dX6_in_1 rfl (by rfl) ?_
  refine r_icmp_lt (tgt := 14) dX6_in_2 (by decide) (by unfold inR; omega) (by unfold inR; omega) (fun c_1 => ?_) (fun c_1 => ?_)
  · refine r_iconst dX6_in_14 ?_
    exact r_ret_z dX6_in_15 rfl ⟨Nat.zero_le _, Nat.zero_le _⟩ (by first | exact Or.inl rfl | exact Or.inr rfl | (split <;> omega)) (by first | rfl | omega | (split <;> omega)) ⟨rfl, rfl, (by first | rfl | omega), rfl, rfl⟩
  · refine r_iload_n dX6_in_5 rfl (by rfl) ?_
    refine r_iload_n dX6_in_6 rfl (by rfl) ?_
    refine r_icmp_gt (tgt := 14) dX6_in_7 (by decide) (by unfold inR; omega) (by unfold inR; omega) (fun c_2 => ?_) (fun c_2 => ?_)
    · refine r_iconst dX6_in_14 ?_
      exact r_ret_z dX6_in_15 rfl ⟨Nat.zero_le _, Nat.zero_le _⟩ (by first | exact Or.inl rfl | exact Or.inr rfl | (split <;> omega)) (by first | rfl | omega | (split <;> omega)) ⟨rfl, rfl, (by first | rfl | omega), rfl, rfl⟩
    · refine r_iconst dX6_in_10 ?_
      refine r_goto (tgt := 15) dX6_in_11 (by decide) ?_
      exact r_ret_z dX6_in_15 rfl ⟨Nat.zero_le _, Nat.zero_le _⟩ (by first | exact Or.inl rfl | exact Or.inr rfl | (split <;> omega)) (by first | rfl | omega | (split <;> omega)) ⟨rfl, rfl, (by first | rfl | omega), rfl, rfl⟩

set_option maxRecDepth 100000 in
set_option maxHeartbeats 4000000 in
theorem ct_X6_fails {l : Launch} {G : GG} {π : Nat → Option Nat} {σ τ : ST} (c : Int) : Ct l G mX6_fails (0, 0, 0) [.ref 110, .int (iI c)] 117 KD σ τ (RHO π) (KQ (some (.int (iI 0))) 117 KD (up2 σ 110 0 c) τ (RHO π)) := by
  refine ct_intro (own := "ShapedRowsModel") rfl (by decide +kernel) (Nat.le_of_ble_eq_true rfl) (L := _) rfl ?_
  refine r_aload_n dX6_fails_0 rfl (by rfl) ?_
  refine r_iload_n dX6_fails_1 rfl (by rfl) ?_
  refine r_put_i kX6_25 dX6_fails_2 KD_110 ?_
  refine r_iconst dX6_fails_5 ?_
  exact r_ret_i dX6_fails_6 rfl ⟨Nat.zero_le _, Nat.zero_le _⟩ (by first | rfl | omega | (split <;> omega)) ⟨rfl, rfl, (by first | rfl | omega), rfl, rfl⟩

set_option maxRecDepth 100000 in
set_option maxHeartbeats 4000000 in
theorem ct_X6_thrown {l : Launch} {G : GG} {π : Nat → Option Nat} {σ τ : ST}  : Ct l G mX6_thrown (0, 0, 0) [.ref 110] 117 KD σ τ (RHO π) (KQ (some (.int (iI (σ 110 0)))) 117 KD σ τ (RHO π)) := by
  refine ct_intro (own := "ShapedRowsModel") rfl (by decide +kernel) (Nat.le_of_ble_eq_true rfl) (L := _) rfl ?_
  refine r_aload_n dX6_thrown_0 rfl (by rfl) ?_
  refine r_get_i kX6_25 dX6_thrown_1 KD_110 ?_
  exact r_ret_i dX6_thrown_4 rfl ⟨Nat.zero_le _, Nat.zero_le _⟩ (by first | rfl | omega | (split <;> omega)) ⟨rfl, rfl, (by first | rfl | omega), rfl, rfl⟩

set_option maxRecDepth 100000 in
set_option maxHeartbeats 4000000 in
theorem ct_X6_get {l : Launch} {G : GG} {π : Nat → Option Nat} {σ τ : ST} (s w : Int) (h0 : 0 ≤ 10 + 20 * s + w) (h1 : 10 + 20 * s + w < 370) : Ct l G mX6_get (0, 0, 0) [.ref 110, .int (iI s), .int (iI w)] 117 KD σ τ (RHO π) (KQ (some (.int (iI (gM σ s w)))) 117 KD σ τ (RHO π)) := by
  refine ct_intro (own := "ShapedRowsModel") rfl (by decide +kernel) (Nat.le_of_ble_eq_true rfl) (L := _) rfl ?_
  refine r_aload_n dX6_get_0 rfl (by rfl) ?_
  refine r_get_r kX6_7 dX6_get_1 KD_110 (RHO_110_1 _) ?_
  refine r_bipush dX6_get_4 (by decide) ?_
  refine r_bipush dX6_get_6 (by decide) ?_
  refine r_iload_n dX6_get_8 rfl (by rfl) ?_
  refine r_imul dX6_get_9 ?_
  refine r_iadd dX6_get_10 ?_
  refine r_iload_n dX6_get_11 rfl (by rfl) ?_
  refine r_iadd dX6_get_12 ?_
  refine r_iald dX6_get_13 KD_111 (by omega) (by omega) (by first | decide | omega) ?_
  exact r_ret_i dX6_get_14 rfl ⟨Nat.zero_le _, Nat.zero_le _⟩ (by first | rfl | omega | (split <;> omega)) ⟨rfl, rfl, (by first | rfl | omega), rfl, rfl⟩

set_option maxRecDepth 100000 in
set_option maxHeartbeats 4000000 in
theorem ct_X6_lay {l : Launch} {G : GG} {π : Nat → Option Nat} {σ τ : ST} (s w : Int) (h0 : 0 ≤ 10 + 20 * s + w) (h1 : 10 + 20 * s + w < 370) (v : Int) : Ct l G mX6_lay (0, 0, 0) [.ref 110, .int (iI s), .int (iI w), .int (iI v)] 117 KD σ τ (RHO π) (KQ none 117 KD (lyM σ s w v) τ (RHO π)) := by
  refine ct_intro (own := "ShapedRowsModel") rfl (by decide +kernel) (Nat.le_of_ble_eq_true rfl) (L := _) rfl ?_
  refine r_aload_n dX6_lay_0 rfl (by rfl) ?_
  refine r_get_r kX6_7 dX6_lay_1 KD_110 (RHO_110_1 _) ?_
  refine r_bipush dX6_lay_4 (by decide) ?_
  refine r_bipush dX6_lay_6 (by decide) ?_
  refine r_iload_n dX6_lay_8 rfl (by rfl) ?_
  refine r_imul dX6_lay_9 ?_
  refine r_iadd dX6_lay_10 ?_
  refine r_iload_n dX6_lay_11 rfl (by rfl) ?_
  refine r_iadd dX6_lay_12 ?_
  refine r_iload_n dX6_lay_13 rfl (by rfl) ?_
  refine r_iast dX6_lay_14 KD_111 (by omega) (by omega) (by first | decide | omega) ?_
  exact r_ret_v dX6_lay_15 rfl ⟨Nat.zero_le _, Nat.zero_le _⟩ ⟨rfl, rfl, (by first | rfl | omega), rfl, rfl⟩

set_option maxRecDepth 100000 in
set_option maxHeartbeats 4000000 in
theorem ct_X6_rowOf {l : Launch} {G : GG} {π : Nat → Option Nat} {σ τ : ST} (r w : Int) (h0 : 0 ≤ 250 + 10 * r + w) (h1 : 250 + 10 * r + w < 370) : Ct l G mX6_rowOf (0, 0, 0) [.ref 110, .int (iI r), .int (iI w)] 117 KD σ τ (RHO π) (KQ (some (.int (iI (oM σ r w)))) 117 KD σ τ (RHO π)) := by
  refine ct_intro (own := "ShapedRowsModel") rfl (by decide +kernel) (Nat.le_of_ble_eq_true rfl) (L := _) rfl ?_
  refine r_aload_n dX6_rowOf_0 rfl (by rfl) ?_
  refine r_get_r kX6_7 dX6_rowOf_1 KD_110 (RHO_110_1 _) ?_
  refine r_sipush dX6_rowOf_4 (by decide) ?_
  refine r_bipush dX6_rowOf_7 (by decide) ?_
  refine r_iload_n dX6_rowOf_9 rfl (by rfl) ?_
  refine r_imul dX6_rowOf_10 ?_
  refine r_iadd dX6_rowOf_11 ?_
  refine r_iload_n dX6_rowOf_12 rfl (by rfl) ?_
  refine r_iadd dX6_rowOf_13 ?_
  refine r_iald dX6_rowOf_14 KD_111 (by omega) (by omega) (by first | decide | omega) ?_
  exact r_ret_i dX6_rowOf_15 rfl ⟨Nat.zero_le _, Nat.zero_le _⟩ (by first | rfl | omega | (split <;> omega)) ⟨rfl, rfl, (by first | rfl | omega), rfl, rfl⟩

set_option maxRecDepth 100000 in
set_option maxHeartbeats 4000000 in
theorem ct_X6_layRow {l : Launch} {G : GG} {π : Nat → Option Nat} {σ τ : ST} (r w : Int) (h0 : 0 ≤ 250 + 10 * r + w) (h1 : 250 + 10 * r + w < 370) (v : Int) : Ct l G mX6_layRow (0, 0, 0) [.ref 110, .int (iI r), .int (iI w), .int (iI v)] 117 KD σ τ (RHO π) (KQ none 117 KD (loM σ r w v) τ (RHO π)) := by
  refine ct_intro (own := "ShapedRowsModel") rfl (by decide +kernel) (Nat.le_of_ble_eq_true rfl) (L := _) rfl ?_
  refine r_aload_n dX6_layRow_0 rfl (by rfl) ?_
  refine r_get_r kX6_7 dX6_layRow_1 KD_110 (RHO_110_1 _) ?_
  refine r_sipush dX6_layRow_4 (by decide) ?_
  refine r_bipush dX6_layRow_7 (by decide) ?_
  refine r_iload_n dX6_layRow_9 rfl (by rfl) ?_
  refine r_imul dX6_layRow_10 ?_
  refine r_iadd dX6_layRow_11 ?_
  refine r_iload_n dX6_layRow_12 rfl (by rfl) ?_
  refine r_iadd dX6_layRow_13 ?_
  refine r_iload_n dX6_layRow_14 rfl (by rfl) ?_
  refine r_iast dX6_layRow_15 KD_111 (by omega) (by omega) (by first | decide | omega) ?_
  exact r_ret_v dX6_layRow_16 rfl ⟨Nat.zero_le _, Nat.zero_le _⟩ ⟨rfl, rfl, (by first | rfl | omega), rfl, rfl⟩

set_option maxRecDepth 100000 in
set_option maxHeartbeats 4000000 in
theorem ct_X6_newest {l : Launch} {G : GG} {π : Nat → Option Nat} {σ τ : ST}  : Ct l G mX6_newest (0, 0, 0) [.ref 110] 117 KD σ τ (RHO π) (KQ (some (.int (iI (σ 111 0 - 1)))) 117 KD σ τ (RHO π)) := by
  refine ct_intro (own := "ShapedRowsModel") rfl (by decide +kernel) (Nat.le_of_ble_eq_true rfl) (L := _) rfl ?_
  refine r_aload_n dX6_newest_0 rfl (by rfl) ?_
  refine r_get_r kX6_7 dX6_newest_1 KD_110 (RHO_110_1 _) ?_
  refine r_iconst dX6_newest_4 ?_
  refine r_iaload (k := 0) dX6_newest_5 KD_111 (by omega) (by omega) (by decide) ?_
  refine r_iconst dX6_newest_6 ?_
  refine r_isub dX6_newest_7 ?_
  exact r_ret_i dX6_newest_8 rfl ⟨Nat.zero_le _, Nat.zero_le _⟩ (by first | rfl | omega | (split <;> omega)) ⟨rfl, rfl, (by first | rfl | omega), rfl, rfl⟩
