/-! doubles -/
def shlJ (a b : Int) : Int := (jJ a <<< ((iI b).toInt64 &&& 63)).toInt
section Rows5
variable {l : Launch} {G : GG} {own : String} {X : MI} {dm : Nat × Nat × Nat} {K : KK} {KE : KX} {n0 pc : Nat} {L : List (Option Value)} {S : List Value} {n : Nat} {kd : KT} {σ τ : ST} {ρ : RT} {ce sl : Nat}
theorem r_dconst0 (hd : decode X.2.1 pc = .ok (.dconst 0, 1)) (k : WP l G own X dm K KE n0 (pc + 1) L (.double FP.dconst0 :: S) n kd σ τ ρ ce sl) : WP l G own X dm K KE n0 pc L S n kd σ τ ρ ce sl :=
  r_pure (fun ad p e R s m args below meth c H locs ls Z hx hb hL hown hts kk => lv_dconst0 hx hb hd kk) k
theorem r_dconst1 (hd : decode X.2.1 pc = .ok (.dconst 1, 1)) (k : WP l G own X dm K KE n0 (pc + 1) L (.double FP.dconst1 :: S) n kd σ τ ρ ce sl) : WP l G own X dm K KE n0 pc L S n kd σ τ ρ ce sl :=
  r_pure (fun ad p e R s m args below meth c H locs ls Z hx hb hL hown hts kk => lv_dconst1 hx hb hd kk) k
theorem r_i2d {a : Int} (hd : decode X.2.1 pc = .ok (.i2d, 1)) (k : WP l G own X dm K KE n0 (pc + 1) L (.double (FP.i2d (iI a)) :: S) n kd σ τ ρ ce sl) : WP l G own X dm K KE n0 pc L (.int (iI a) :: S) n kd σ τ ρ ce sl :=
  r_pure (fun ad p e R s m args below meth c H locs ls Z hx hb hL hown hts kk => lv_i2d hx hb hd kk) k
theorem r_ddiv {x y : UInt64} (hd : decode X.2.1 pc = .ok (.ddiv, 1)) (hne : vf_n64 (FP.ddiv x y)) (k : WP l G own X dm K KE n0 (pc + 1) L (.double (FP.ddiv x y) :: S) n kd σ τ ρ ce sl) : WP l G own X dm K KE n0 pc L (.double y :: .double x :: S) n kd σ τ ρ ce sl :=
  r_pure (fun ad p e R s m args below meth c H locs ls Z hx hb hL hown hts kk => lv_ddiv hx hb hd hne kk) k
theorem r_dmul {x y : UInt64} (hd : decode X.2.1 pc = .ok (.dmul, 1)) (hne : vf_n64 (FP.dmul x y)) (k : WP l G own X dm K KE n0 (pc + 1) L (.double (FP.dmul x y) :: S) n kd σ τ ρ ce sl) : WP l G own X dm K KE n0 pc L (.double y :: .double x :: S) n kd σ τ ρ ce sl :=
  r_pure (fun ad p e R s m args below meth c H locs ls Z hx hb hL hown hts kk => lv_dmul hx hb hd hne kk) k
theorem r_dsub {x y : UInt64} (hd : decode X.2.1 pc = .ok (.dsub, 1)) (hne : vf_n64 (FP.dsub x y)) (k : WP l G own X dm K KE n0 (pc + 1) L (.double (FP.dsub x y) :: S) n kd σ τ ρ ce sl) : WP l G own X dm K KE n0 pc L (.double y :: .double x :: S) n kd σ τ ρ ce sl :=
  r_pure (fun ad p e R s m args below meth c H locs ls Z hx hb hL hown hts kk => lv_dsub hx hb hd hne kk) k
theorem r_dcmp {x y : UInt64} {op : CmpOp} (hd : decode X.2.1 pc = .ok (.dcmp op, 1)) (k : WP l G own X dm K KE n0 (pc + 1) L (.int (iI (Op.cmpValue (FP.dcmp x y) op).toInt) :: S) n kd σ τ ρ ce sl) : WP l G own X dm K KE n0 pc L (.double y :: .double x :: S) n kd σ τ ρ ce sl :=
  r_pure (fun ad p e R s m args below meth c H locs ls Z hx hb hL hown hts kk => lv_dcmp hx hb hd (by
    have e1 := iI_of (Op.cmpValue (FP.dcmp x y) op)
    rw [← e1]; exact kk)) k
theorem r_d2l {x : UInt64} (hd : decode X.2.1 pc = .ok (.d2l, 1)) (k : WP l G own X dm K KE n0 (pc + 1) L (.long (jJ (FP.d2l x).toInt) :: S) n kd σ τ ρ ce sl) : WP l G own X dm K KE n0 pc L (.double x :: S) n kd σ τ ρ ce sl :=
  r_pure (fun ad p e R s m args below meth c H locs ls Z hx hb hL hown hts kk => lv_d2l hx hb hd (by
    have e1 := jJ_of (FP.d2l x)
    rw [← e1]; exact kk)) k
theorem r_lshl {a b : Int} (hd : decode X.2.1 pc = .ok (.lshl, 1)) (k : WP l G own X dm K KE n0 (pc + 1) L (.long (jJ (shlJ a b)) :: S) n kd σ τ ρ ce sl) : WP l G own X dm K KE n0 pc L (.int (iI b) :: .long (jJ a) :: S) n kd σ τ ρ ce sl :=
  r_pure (fun ad p e R s m args below meth c H locs ls Z hx hb hL hown hts kk => lv_lshl (v := jJ (shlJ a b)) hx hb hd (jJ_of _).symm kk) k
theorem r_ldc2d {idx : Nat} {v : UInt64} (hc : Jvm.Cond.constantDouble own idx v ∈ TBg) (hd : decode X.2.1 pc = .ok (.ldc2_w idx, 3)) (k : WP l G own X dm K KE n0 (pc + 3) L (.double v :: S) n kd σ τ ρ ce sl) : WP l G own X dm K KE n0 pc L S n kd σ τ ρ ce sl :=
  r_pure (fun ad p e R s m args below meth c H locs ls Z hx hb hL hown hts kk => lv_ldc2d hx hb hown (hts _ hc) hd kk) k
end Rows5

set_option maxRecDepth 20000 in
theorem qd_X5_328 : Jvm.Cond.constantDouble "ShapedRows" 328 4611686018427387904 ∈ TBg := (tb_in 484 (by decide +kernel) rfl)

set_option maxRecDepth 20000 in
theorem qd_X5_330 : Jvm.Cond.constantDouble "ShapedRows" 330 4841369599423283200 ∈ TBg := (tb_in 485 (by decide +kernel) rfl)

def ctP (σ : ST) (w : Int) : Int := if w = 0 then σ 2 0 else if w = 1 then σ 2 1 else if w = 2 then σ 10 0 else if w = 3 then σ 10 0 - cntR σ (σ 2 0 - 1) (σ 10 0).toNat else if w = 4 then σ 10 1 else if w = 5 then σ 10 2 else if w = 6 then σ 10 3 else if w = 7 then σ 7 (σ 2 0 - 1).toNat else if w = 8 then oldF σ else σ 16 1
def frQ (k n : Int) : UInt64 := FP.ddiv (FP.i2d (iI k)) (FP.i2d (iI n))
def frS (σ : ST) : UInt64 := if σ 10 0 = 0 then FP.dconst1 else frQ (σ 10 0 - (σ 10 0 - cntR σ (σ 2 0 - 1) (σ 10 0).toNat)) (σ 10 0)
theorem frQ_ok0 : ∀ n : Nat, n < 13 → 0 < n → ∀ k : Nat, k ≤ n → vf_n64 (frQ (k : Int) (n : Int)) := by
  have h : ∀ n : Nat, n < 13 → 0 < n → ∀ k : Nat, k < 13 → k ≤ n → (frQ (k : Int) (n : Int) &&& 0x7fffffffffffffff ≤ 0x7ff0000000000000) := by decide +kernel
  exact fun n h1 h2 k h3 => h n h1 h2 k (by omega) h3
theorem frQ_ok {k n : Int} (h0 : 0 ≤ k) (h1 : k ≤ n) (h2 : 0 < n) (h3 : n ≤ 12) : vf_n64 (frQ k n) := by
  have h := frQ_ok0 n.toNat (by omega) (by omega) k.toNat (by omega)
  rw [show ((k.toNat : Nat) : Int) = k by omega, show ((n.toNat : Nat) : Int) = n by omega] at h
  exact h

set_option maxRecDepth 100000 in
set_option maxHeartbeats 4000000 in
theorem ct_X5_counted {l : Launch} {G : GG} {π : Nat → Option Nat} {σ τ : ST} (hI : CI σ) (w : Int) (h0 : 0 ≤ w) (h1 : w ≤ 9) : Ct l G mX5_counted (4, 0, 0) [.ref 0, .int (iI w)] 117 KD σ τ (RHO π) (KQ (some (.int (iI (ctP σ w)))) 117 KD σ τ (RHO π)) := by
  have hz := hI.sz
  refine ct_intro (own := "ShapedRows") rfl (by decide +kernel) (Nat.le_of_ble_eq_true rfl) (L := _) rfl ?_
  refine r_iload_n dX5_counted_0 rfl (by rfl) ?_
  rcases (show w = 0 ∨ w = 1 ∨ w = 2 ∨ w = 3 ∨ w = 4 ∨ w = 5 ∨ w = 6 ∨ w = 7 ∨ w = 8 ∨ (w < 0 ∨ 8 < w) by omega) with t_1 | t_1 | t_1 | t_1 | t_1 | t_1 | t_1 | t_1 | t_1 | t_1
  · refine r_tsw (tgt := 52) (a := w) dX5_counted_1 (by unfold inR; omega) (by omega) (by omega) (by rw [t_1]; rfl) (by decide) ?_
    refine r_aload_n dX5_counted_52 rfl (by rfl) ?_
    refine r_get_r kX5_10 dX5_counted_53 KD_0 (RHO_0_0 _) ?_
    refine r_get_r kX5_44 dX5_counted_56 KD_1 (RHO_1_0 _) ?_
    refine r_callV0 ct_X2_size fX2_size qX5_273 dX5_counted_59 KD_2 (by decide) ⟨Nat.zero_le _, Nat.zero_le _⟩ (Nat.le_of_ble_eq_true rfl) ?_
    exact r_ret_i dX5_counted_62 rfl ⟨Nat.zero_le _, Nat.zero_le _⟩ (by unfold ctP; first | (rw [if_pos (show w = 0 by omega)]; done) | (rw [if_neg (show ¬ w = 0 by omega), if_pos (show w = 1 by omega)]; done) | (rw [if_neg (show ¬ w = 0 by omega), if_neg (show ¬ w = 1 by omega), if_pos (show w = 2 by omega)]; done) | (rw [if_neg (show ¬ w = 0 by omega), if_neg (show ¬ w = 1 by omega), if_neg (show ¬ w = 2 by omega), if_pos (show w = 3 by omega)]; done) | (rw [if_neg (show ¬ w = 0 by omega), if_neg (show ¬ w = 1 by omega), if_neg (show ¬ w = 2 by omega), if_neg (show ¬ w = 3 by omega), if_pos (show w = 4 by omega)]; done) | (rw [if_neg (show ¬ w = 0 by omega), if_neg (show ¬ w = 1 by omega), if_neg (show ¬ w = 2 by omega), if_neg (show ¬ w = 3 by omega), if_neg (show ¬ w = 4 by omega), if_pos (show w = 5 by omega)]; done) | (rw [if_neg (show ¬ w = 0 by omega), if_neg (show ¬ w = 1 by omega), if_neg (show ¬ w = 2 by omega), if_neg (show ¬ w = 3 by omega), if_neg (show ¬ w = 4 by omega), if_neg (show ¬ w = 5 by omega), if_pos (show w = 6 by omega)]; done) | (rw [if_neg (show ¬ w = 0 by omega), if_neg (show ¬ w = 1 by omega), if_neg (show ¬ w = 2 by omega), if_neg (show ¬ w = 3 by omega), if_neg (show ¬ w = 4 by omega), if_neg (show ¬ w = 5 by omega), if_neg (show ¬ w = 6 by omega), if_pos (show w = 7 by omega)]; done) | (rw [if_neg (show ¬ w = 0 by omega), if_neg (show ¬ w = 1 by omega), if_neg (show ¬ w = 2 by omega), if_neg (show ¬ w = 3 by omega), if_neg (show ¬ w = 4 by omega), if_neg (show ¬ w = 5 by omega), if_neg (show ¬ w = 6 by omega), if_neg (show ¬ w = 7 by omega), if_pos (show w = 8 by omega)]; done) | (rw [if_neg (show ¬ w = 0 by omega), if_neg (show ¬ w = 1 by omega), if_neg (show ¬ w = 2 by omega), if_neg (show ¬ w = 3 by omega), if_neg (show ¬ w = 4 by omega), if_neg (show ¬ w = 5 by omega), if_neg (show ¬ w = 6 by omega), if_neg (show ¬ w = 7 by omega), if_neg (show ¬ w = 8 by omega)]; done)) ⟨rfl, rfl, (by first | rfl | omega), rfl, rfl⟩
  · refine r_tsw (tgt := 63) (a := w) dX5_counted_1 (by unfold inR; omega) (by omega) (by omega) (by rw [t_1]; rfl) (by decide) ?_
    refine r_aload_n dX5_counted_63 rfl (by rfl) ?_
    refine r_get_r kX5_10 dX5_counted_64 KD_0 (RHO_0_0 _) ?_
    refine r_get_r kX5_44 dX5_counted_67 KD_1 (RHO_1_0 _) ?_
    refine r_callV0 ct_X2_mark fX2_mark qX5_274 dX5_counted_70 KD_2 (by decide) ⟨Nat.zero_le _, Nat.zero_le _⟩ (Nat.le_of_ble_eq_true rfl) ?_
    exact r_ret_i dX5_counted_73 rfl ⟨Nat.zero_le _, Nat.zero_le _⟩ (by unfold ctP; first | (rw [if_pos (show w = 0 by omega)]; done) | (rw [if_neg (show ¬ w = 0 by omega), if_pos (show w = 1 by omega)]; done) | (rw [if_neg (show ¬ w = 0 by omega), if_neg (show ¬ w = 1 by omega), if_pos (show w = 2 by omega)]; done) | (rw [if_neg (show ¬ w = 0 by omega), if_neg (show ¬ w = 1 by omega), if_neg (show ¬ w = 2 by omega), if_pos (show w = 3 by omega)]; done) | (rw [if_neg (show ¬ w = 0 by omega), if_neg (show ¬ w = 1 by omega), if_neg (show ¬ w = 2 by omega), if_neg (show ¬ w = 3 by omega), if_pos (show w = 4 by omega)]; done) | (rw [if_neg (show ¬ w = 0 by omega), if_neg (show ¬ w = 1 by omega), if_neg (show ¬ w = 2 by omega), if_neg (show ¬ w = 3 by omega), if_neg (show ¬ w = 4 by omega), if_pos (show w = 5 by omega)]; done) | (rw [if_neg (show ¬ w = 0 by omega), if_neg (show ¬ w = 1 by omega), if_neg (show ¬ w = 2 by omega), if_neg (show ¬ w = 3 by omega), if_neg (show ¬ w = 4 by omega), if_neg (show ¬ w = 5 by omega), if_pos (show w = 6 by omega)]; done) | (rw [if_neg (show ¬ w = 0 by omega), if_neg (show ¬ w = 1 by omega), if_neg (show ¬ w = 2 by omega), if_neg (show ¬ w = 3 by omega), if_neg (show ¬ w = 4 by omega), if_neg (show ¬ w = 5 by omega), if_neg (show ¬ w = 6 by omega), if_pos (show w = 7 by omega)]; done) | (rw [if_neg (show ¬ w = 0 by omega), if_neg (show ¬ w = 1 by omega), if_neg (show ¬ w = 2 by omega), if_neg (show ¬ w = 3 by omega), if_neg (show ¬ w = 4 by omega), if_neg (show ¬ w = 5 by omega), if_neg (show ¬ w = 6 by omega), if_neg (show ¬ w = 7 by omega), if_pos (show w = 8 by omega)]; done) | (rw [if_neg (show ¬ w = 0 by omega), if_neg (show ¬ w = 1 by omega), if_neg (show ¬ w = 2 by omega), if_neg (show ¬ w = 3 by omega), if_neg (show ¬ w = 4 by omega), if_neg (show ¬ w = 5 by omega), if_neg (show ¬ w = 6 by omega), if_neg (show ¬ w = 7 by omega), if_neg (show ¬ w = 8 by omega)]; done)) ⟨rfl, rfl, (by first | rfl | omega), rfl, rfl⟩
  · refine r_tsw (tgt := 74) (a := w) dX5_counted_1 (by unfold inR; omega) (by omega) (by omega) (by rw [t_1]; rfl) (by decide) ?_
    refine r_aload_n dX5_counted_74 rfl (by rfl) ?_
    refine r_get_r kX5_10 dX5_counted_75 KD_0 (RHO_0_0 _) ?_
    refine r_get_r kX5_96 dX5_counted_78 KD_1 (RHO_1_1 _) ?_
    refine r_callV0 ct_X1_size fX1_size qX5_244 dX5_counted_81 KD_10 (by decide) ⟨Nat.zero_le _, Nat.zero_le _⟩ (Nat.le_of_ble_eq_true rfl) ?_
    exact r_ret_i dX5_counted_84 rfl ⟨Nat.zero_le _, Nat.zero_le _⟩ (by unfold ctP; first | (rw [if_pos (show w = 0 by omega)]; done) | (rw [if_neg (show ¬ w = 0 by omega), if_pos (show w = 1 by omega)]; done) | (rw [if_neg (show ¬ w = 0 by omega), if_neg (show ¬ w = 1 by omega), if_pos (show w = 2 by omega)]; done) | (rw [if_neg (show ¬ w = 0 by omega), if_neg (show ¬ w = 1 by omega), if_neg (show ¬ w = 2 by omega), if_pos (show w = 3 by omega)]; done) | (rw [if_neg (show ¬ w = 0 by omega), if_neg (show ¬ w = 1 by omega), if_neg (show ¬ w = 2 by omega), if_neg (show ¬ w = 3 by omega), if_pos (show w = 4 by omega)]; done) | (rw [if_neg (show ¬ w = 0 by omega), if_neg (show ¬ w = 1 by omega), if_neg (show ¬ w = 2 by omega), if_neg (show ¬ w = 3 by omega), if_neg (show ¬ w = 4 by omega), if_pos (show w = 5 by omega)]; done) | (rw [if_neg (show ¬ w = 0 by omega), if_neg (show ¬ w = 1 by omega), if_neg (show ¬ w = 2 by omega), if_neg (show ¬ w = 3 by omega), if_neg (show ¬ w = 4 by omega), if_neg (show ¬ w = 5 by omega), if_pos (show w = 6 by omega)]; done) | (rw [if_neg (show ¬ w = 0 by omega), if_neg (show ¬ w = 1 by omega), if_neg (show ¬ w = 2 by omega), if_neg (show ¬ w = 3 by omega), if_neg (show ¬ w = 4 by omega), if_neg (show ¬ w = 5 by omega), if_neg (show ¬ w = 6 by omega), if_pos (show w = 7 by omega)]; done) | (rw [if_neg (show ¬ w = 0 by omega), if_neg (show ¬ w = 1 by omega), if_neg (show ¬ w = 2 by omega), if_neg (show ¬ w = 3 by omega), if_neg (show ¬ w = 4 by omega), if_neg (show ¬ w = 5 by omega), if_neg (show ¬ w = 6 by omega), if_neg (show ¬ w = 7 by omega), if_pos (show w = 8 by omega)]; done) | (rw [if_neg (show ¬ w = 0 by omega), if_neg (show ¬ w = 1 by omega), if_neg (show ¬ w = 2 by omega), if_neg (show ¬ w = 3 by omega), if_neg (show ¬ w = 4 by omega), if_neg (show ¬ w = 5 by omega), if_neg (show ¬ w = 6 by omega), if_neg (show ¬ w = 7 by omega), if_neg (show ¬ w = 8 by omega)]; done)) ⟨rfl, rfl, (by first | rfl | omega), rfl, rfl⟩
  · refine r_tsw (tgt := 85) (a := w) dX5_counted_1 (by unfold inR; omega) (by omega) (by omega) (by rw [t_1]; rfl) (by decide) ?_
    refine r_aload_n dX5_counted_85 rfl (by rfl) ?_
    refine r_get_r kX5_10 dX5_counted_86 KD_0 (RHO_0_0 _) ?_
    refine r_callV0 (ct_X3_rowsBehind hI) fX3_rowsBehind qX5_245 dX5_counted_89 KD_1 (by decide) ⟨Nat.zero_le _, Nat.zero_le _⟩ (Nat.le_of_ble_eq_true rfl) ?_
    exact r_ret_i dX5_counted_92 rfl ⟨Nat.zero_le _, Nat.zero_le _⟩ (by unfold ctP; first | (rw [if_pos (show w = 0 by omega)]; done) | (rw [if_neg (show ¬ w = 0 by omega), if_pos (show w = 1 by omega)]; done) | (rw [if_neg (show ¬ w = 0 by omega), if_neg (show ¬ w = 1 by omega), if_pos (show w = 2 by omega)]; done) | (rw [if_neg (show ¬ w = 0 by omega), if_neg (show ¬ w = 1 by omega), if_neg (show ¬ w = 2 by omega), if_pos (show w = 3 by omega)]; done) | (rw [if_neg (show ¬ w = 0 by omega), if_neg (show ¬ w = 1 by omega), if_neg (show ¬ w = 2 by omega), if_neg (show ¬ w = 3 by omega), if_pos (show w = 4 by omega)]; done) | (rw [if_neg (show ¬ w = 0 by omega), if_neg (show ¬ w = 1 by omega), if_neg (show ¬ w = 2 by omega), if_neg (show ¬ w = 3 by omega), if_neg (show ¬ w = 4 by omega), if_pos (show w = 5 by omega)]; done) | (rw [if_neg (show ¬ w = 0 by omega), if_neg (show ¬ w = 1 by omega), if_neg (show ¬ w = 2 by omega), if_neg (show ¬ w = 3 by omega), if_neg (show ¬ w = 4 by omega), if_neg (show ¬ w = 5 by omega), if_pos (show w = 6 by omega)]; done) | (rw [if_neg (show ¬ w = 0 by omega), if_neg (show ¬ w = 1 by omega), if_neg (show ¬ w = 2 by omega), if_neg (show ¬ w = 3 by omega), if_neg (show ¬ w = 4 by omega), if_neg (show ¬ w = 5 by omega), if_neg (show ¬ w = 6 by omega), if_pos (show w = 7 by omega)]; done) | (rw [if_neg (show ¬ w = 0 by omega), if_neg (show ¬ w = 1 by omega), if_neg (show ¬ w = 2 by omega), if_neg (show ¬ w = 3 by omega), if_neg (show ¬ w = 4 by omega), if_neg (show ¬ w = 5 by omega), if_neg (show ¬ w = 6 by omega), if_neg (show ¬ w = 7 by omega), if_pos (show w = 8 by omega)]; done) | (rw [if_neg (show ¬ w = 0 by omega), if_neg (show ¬ w = 1 by omega), if_neg (show ¬ w = 2 by omega), if_neg (show ¬ w = 3 by omega), if_neg (show ¬ w = 4 by omega), if_neg (show ¬ w = 5 by omega), if_neg (show ¬ w = 6 by omega), if_neg (show ¬ w = 7 by omega), if_neg (show ¬ w = 8 by omega)]; done)) ⟨rfl, rfl, (by first | rfl | omega), rfl, rfl⟩
  · refine r_tsw (tgt := 93) (a := w) dX5_counted_1 (by unfold inR; omega) (by omega) (by omega) (by rw [t_1]; rfl) (by decide) ?_
    refine r_aload_n dX5_counted_93 rfl (by rfl) ?_
    refine r_get_r kX5_10 dX5_counted_94 KD_0 (RHO_0_0 _) ?_
    refine r_get_r kX5_96 dX5_counted_97 KD_1 (RHO_1_1 _) ?_
    refine r_callV0 ct_X1_cursor fX1_cursor qX5_277 dX5_counted_100 KD_10 (by decide) ⟨Nat.zero_le _, Nat.zero_le _⟩ (Nat.le_of_ble_eq_true rfl) ?_
    exact r_ret_i dX5_counted_103 rfl ⟨Nat.zero_le _, Nat.zero_le _⟩ (by unfold ctP; first | (rw [if_pos (show w = 0 by omega)]; done) | (rw [if_neg (show ¬ w = 0 by omega), if_pos (show w = 1 by omega)]; done) | (rw [if_neg (show ¬ w = 0 by omega), if_neg (show ¬ w = 1 by omega), if_pos (show w = 2 by omega)]; done) | (rw [if_neg (show ¬ w = 0 by omega), if_neg (show ¬ w = 1 by omega), if_neg (show ¬ w = 2 by omega), if_pos (show w = 3 by omega)]; done) | (rw [if_neg (show ¬ w = 0 by omega), if_neg (show ¬ w = 1 by omega), if_neg (show ¬ w = 2 by omega), if_neg (show ¬ w = 3 by omega), if_pos (show w = 4 by omega)]; done) | (rw [if_neg (show ¬ w = 0 by omega), if_neg (show ¬ w = 1 by omega), if_neg (show ¬ w = 2 by omega), if_neg (show ¬ w = 3 by omega), if_neg (show ¬ w = 4 by omega), if_pos (show w = 5 by omega)]; done) | (rw [if_neg (show ¬ w = 0 by omega), if_neg (show ¬ w = 1 by omega), if_neg (show ¬ w = 2 by omega), if_neg (show ¬ w = 3 by omega), if_neg (show ¬ w = 4 by omega), if_neg (show ¬ w = 5 by omega), if_pos (show w = 6 by omega)]; done) | (rw [if_neg (show ¬ w = 0 by omega), if_neg (show ¬ w = 1 by omega), if_neg (show ¬ w = 2 by omega), if_neg (show ¬ w = 3 by omega), if_neg (show ¬ w = 4 by omega), if_neg (show ¬ w = 5 by omega), if_neg (show ¬ w = 6 by omega), if_pos (show w = 7 by omega)]; done) | (rw [if_neg (show ¬ w = 0 by omega), if_neg (show ¬ w = 1 by omega), if_neg (show ¬ w = 2 by omega), if_neg (show ¬ w = 3 by omega), if_neg (show ¬ w = 4 by omega), if_neg (show ¬ w = 5 by omega), if_neg (show ¬ w = 6 by omega), if_neg (show ¬ w = 7 by omega), if_pos (show w = 8 by omega)]; done) | (rw [if_neg (show ¬ w = 0 by omega), if_neg (show ¬ w = 1 by omega), if_neg (show ¬ w = 2 by omega), if_neg (show ¬ w = 3 by omega), if_neg (show ¬ w = 4 by omega), if_neg (show ¬ w = 5 by omega), if_neg (show ¬ w = 6 by omega), if_neg (show ¬ w = 7 by omega), if_neg (show ¬ w = 8 by omega)]; done)) ⟨rfl, rfl, (by first | rfl | omega), rfl, rfl⟩
  · refine r_tsw (tgt := 104) (a := w) dX5_counted_1 (by unfold inR; omega) (by omega) (by omega) (by rw [t_1]; rfl) (by decide) ?_
    refine r_aload_n dX5_counted_104 rfl (by rfl) ?_
    refine r_get_r kX5_10 dX5_counted_105 KD_0 (RHO_0_0 _) ?_
    refine r_get_r kX5_96 dX5_counted_108 KD_1 (RHO_1_1 _) ?_
    refine r_callV0 ct_X1_rewritten fX1_rewritten qX5_280 dX5_counted_111 KD_10 (by decide) ⟨Nat.zero_le _, Nat.zero_le _⟩ (Nat.le_of_ble_eq_true rfl) ?_
    exact r_ret_i dX5_counted_114 rfl ⟨Nat.zero_le _, Nat.zero_le _⟩ (by unfold ctP; first | (rw [if_pos (show w = 0 by omega)]; done) | (rw [if_neg (show ¬ w = 0 by omega), if_pos (show w = 1 by omega)]; done) | (rw [if_neg (show ¬ w = 0 by omega), if_neg (show ¬ w = 1 by omega), if_pos (show w = 2 by omega)]; done) | (rw [if_neg (show ¬ w = 0 by omega), if_neg (show ¬ w = 1 by omega), if_neg (show ¬ w = 2 by omega), if_pos (show w = 3 by omega)]; done) | (rw [if_neg (show ¬ w = 0 by omega), if_neg (show ¬ w = 1 by omega), if_neg (show ¬ w = 2 by omega), if_neg (show ¬ w = 3 by omega), if_pos (show w = 4 by omega)]; done) | (rw [if_neg (show ¬ w = 0 by omega), if_neg (show ¬ w = 1 by omega), if_neg (show ¬ w = 2 by omega), if_neg (show ¬ w = 3 by omega), if_neg (show ¬ w = 4 by omega), if_pos (show w = 5 by omega)]; done) | (rw [if_neg (show ¬ w = 0 by omega), if_neg (show ¬ w = 1 by omega), if_neg (show ¬ w = 2 by omega), if_neg (show ¬ w = 3 by omega), if_neg (show ¬ w = 4 by omega), if_neg (show ¬ w = 5 by omega), if_pos (show w = 6 by omega)]; done) | (rw [if_neg (show ¬ w = 0 by omega), if_neg (show ¬ w = 1 by omega), if_neg (show ¬ w = 2 by omega), if_neg (show ¬ w = 3 by omega), if_neg (show ¬ w = 4 by omega), if_neg (show ¬ w = 5 by omega), if_neg (show ¬ w = 6 by omega), if_pos (show w = 7 by omega)]; done) | (rw [if_neg (show ¬ w = 0 by omega), if_neg (show ¬ w = 1 by omega), if_neg (show ¬ w = 2 by omega), if_neg (show ¬ w = 3 by omega), if_neg (show ¬ w = 4 by omega), if_neg (show ¬ w = 5 by omega), if_neg (show ¬ w = 6 by omega), if_neg (show ¬ w = 7 by omega), if_pos (show w = 8 by omega)]; done) | (rw [if_neg (show ¬ w = 0 by omega), if_neg (show ¬ w = 1 by omega), if_neg (show ¬ w = 2 by omega), if_neg (show ¬ w = 3 by omega), if_neg (show ¬ w = 4 by omega), if_neg (show ¬ w = 5 by omega), if_neg (show ¬ w = 6 by omega), if_neg (show ¬ w = 7 by omega), if_neg (show ¬ w = 8 by omega)]; done)) ⟨rfl, rfl, (by first | rfl | omega), rfl, rfl⟩
  · refine r_tsw (tgt := 115) (a := w) dX5_counted_1 (by unfold inR; omega) (by omega) (by omega) (by rw [t_1]; rfl) (by decide) ?_
    refine r_aload_n dX5_counted_115 rfl (by rfl) ?_
    refine r_get_r kX5_10 dX5_counted_116 KD_0 (RHO_0_0 _) ?_
    refine r_get_r kX5_96 dX5_counted_119 KD_1 (RHO_1_1 _) ?_
    refine r_callV0 ct_X1_writes fX1_writes qX5_283 dX5_counted_122 KD_10 (by decide) ⟨Nat.zero_le _, Nat.zero_le _⟩ (Nat.le_of_ble_eq_true rfl) ?_
    exact r_ret_i dX5_counted_125 rfl ⟨Nat.zero_le _, Nat.zero_le _⟩ (by unfold ctP; first | (rw [if_pos (show w = 0 by omega)]; done) | (rw [if_neg (show ¬ w = 0 by omega), if_pos (show w = 1 by omega)]; done) | (rw [if_neg (show ¬ w = 0 by omega), if_neg (show ¬ w = 1 by omega), if_pos (show w = 2 by omega)]; done) | (rw [if_neg (show ¬ w = 0 by omega), if_neg (show ¬ w = 1 by omega), if_neg (show ¬ w = 2 by omega), if_pos (show w = 3 by omega)]; done) | (rw [if_neg (show ¬ w = 0 by omega), if_neg (show ¬ w = 1 by omega), if_neg (show ¬ w = 2 by omega), if_neg (show ¬ w = 3 by omega), if_pos (show w = 4 by omega)]; done) | (rw [if_neg (show ¬ w = 0 by omega), if_neg (show ¬ w = 1 by omega), if_neg (show ¬ w = 2 by omega), if_neg (show ¬ w = 3 by omega), if_neg (show ¬ w = 4 by omega), if_pos (show w = 5 by omega)]; done) | (rw [if_neg (show ¬ w = 0 by omega), if_neg (show ¬ w = 1 by omega), if_neg (show ¬ w = 2 by omega), if_neg (show ¬ w = 3 by omega), if_neg (show ¬ w = 4 by omega), if_neg (show ¬ w = 5 by omega), if_pos (show w = 6 by omega)]; done) | (rw [if_neg (show ¬ w = 0 by omega), if_neg (show ¬ w = 1 by omega), if_neg (show ¬ w = 2 by omega), if_neg (show ¬ w = 3 by omega), if_neg (show ¬ w = 4 by omega), if_neg (show ¬ w = 5 by omega), if_neg (show ¬ w = 6 by omega), if_pos (show w = 7 by omega)]; done) | (rw [if_neg (show ¬ w = 0 by omega), if_neg (show ¬ w = 1 by omega), if_neg (show ¬ w = 2 by omega), if_neg (show ¬ w = 3 by omega), if_neg (show ¬ w = 4 by omega), if_neg (show ¬ w = 5 by omega), if_neg (show ¬ w = 6 by omega), if_neg (show ¬ w = 7 by omega), if_pos (show w = 8 by omega)]; done) | (rw [if_neg (show ¬ w = 0 by omega), if_neg (show ¬ w = 1 by omega), if_neg (show ¬ w = 2 by omega), if_neg (show ¬ w = 3 by omega), if_neg (show ¬ w = 4 by omega), if_neg (show ¬ w = 5 by omega), if_neg (show ¬ w = 6 by omega), if_neg (show ¬ w = 7 by omega), if_neg (show ¬ w = 8 by omega)]; done)) ⟨rfl, rfl, (by first | rfl | omega), rfl, rfl⟩
  · refine r_tsw (tgt := 126) (a := w) dX5_counted_1 (by unfold inR; omega) (by omega) (by omega) (by rw [t_1]; rfl) (by decide) ?_
    refine r_aload_n dX5_counted_126 rfl (by rfl) ?_
    refine r_get_r kX5_10 dX5_counted_127 KD_0 (RHO_0_0 _) ?_
    refine r_get_r kX5_44 dX5_counted_130 KD_1 (RHO_1_0 _) ?_
    refine r_aload_n dX5_counted_133 rfl (by rfl) ?_
    refine r_get_r kX5_10 dX5_counted_134 KD_0 (RHO_0_0 _) ?_
    refine r_get_r kX5_44 dX5_counted_137 KD_1 (RHO_1_0 _) ?_
    refine r_callV0 ct_X2_newest fX2_newest qX5_108 dX5_counted_140 KD_2 (by decide) ⟨Nat.zero_le _, Nat.zero_le _⟩ (Nat.le_of_ble_eq_true rfl) ?_
    refine r_callV1 (ct_X2_width _ (by omega) (by omega)) fX2_width qX5_286 dX5_counted_143 KD_2 (by decide) ⟨Nat.zero_le _, Nat.zero_le _⟩ (Nat.le_of_ble_eq_true rfl) ?_
    exact r_ret_i dX5_counted_146 rfl ⟨Nat.zero_le _, Nat.zero_le _⟩ (by unfold ctP; first | (rw [if_pos (show w = 0 by omega)]; done) | (rw [if_neg (show ¬ w = 0 by omega), if_pos (show w = 1 by omega)]; done) | (rw [if_neg (show ¬ w = 0 by omega), if_neg (show ¬ w = 1 by omega), if_pos (show w = 2 by omega)]; done) | (rw [if_neg (show ¬ w = 0 by omega), if_neg (show ¬ w = 1 by omega), if_neg (show ¬ w = 2 by omega), if_pos (show w = 3 by omega)]; done) | (rw [if_neg (show ¬ w = 0 by omega), if_neg (show ¬ w = 1 by omega), if_neg (show ¬ w = 2 by omega), if_neg (show ¬ w = 3 by omega), if_pos (show w = 4 by omega)]; done) | (rw [if_neg (show ¬ w = 0 by omega), if_neg (show ¬ w = 1 by omega), if_neg (show ¬ w = 2 by omega), if_neg (show ¬ w = 3 by omega), if_neg (show ¬ w = 4 by omega), if_pos (show w = 5 by omega)]; done) | (rw [if_neg (show ¬ w = 0 by omega), if_neg (show ¬ w = 1 by omega), if_neg (show ¬ w = 2 by omega), if_neg (show ¬ w = 3 by omega), if_neg (show ¬ w = 4 by omega), if_neg (show ¬ w = 5 by omega), if_pos (show w = 6 by omega)]; done) | (rw [if_neg (show ¬ w = 0 by omega), if_neg (show ¬ w = 1 by omega), if_neg (show ¬ w = 2 by omega), if_neg (show ¬ w = 3 by omega), if_neg (show ¬ w = 4 by omega), if_neg (show ¬ w = 5 by omega), if_neg (show ¬ w = 6 by omega), if_pos (show w = 7 by omega)]; done) | (rw [if_neg (show ¬ w = 0 by omega), if_neg (show ¬ w = 1 by omega), if_neg (show ¬ w = 2 by omega), if_neg (show ¬ w = 3 by omega), if_neg (show ¬ w = 4 by omega), if_neg (show ¬ w = 5 by omega), if_neg (show ¬ w = 6 by omega), if_neg (show ¬ w = 7 by omega), if_pos (show w = 8 by omega)]; done) | (rw [if_neg (show ¬ w = 0 by omega), if_neg (show ¬ w = 1 by omega), if_neg (show ¬ w = 2 by omega), if_neg (show ¬ w = 3 by omega), if_neg (show ¬ w = 4 by omega), if_neg (show ¬ w = 5 by omega), if_neg (show ¬ w = 6 by omega), if_neg (show ¬ w = 7 by omega), if_neg (show ¬ w = 8 by omega)]; done)) ⟨rfl, rfl, (by first | rfl | omega), rfl, rfl⟩
  · refine r_tsw (tgt := 147) (a := w) dX5_counted_1 (by unfold inR; omega) (by omega) (by omega) (by rw [t_1]; rfl) (by decide) ?_
    refine r_aload_n dX5_counted_147 rfl (by rfl) ?_
    refine r_get_r kX5_10 dX5_counted_148 KD_0 (RHO_0_0 _) ?_
    refine r_callV0 (ct_X3_oldestNeeded hI) fX3_oldestNeeded qX5_161 dX5_counted_151 KD_1 (by decide) ⟨Nat.zero_le _, Nat.zero_le _⟩ (Nat.le_of_ble_eq_true rfl) ?_
    exact r_ret_i dX5_counted_154 rfl ⟨Nat.zero_le _, Nat.zero_le _⟩ (by unfold ctP; first | (rw [if_pos (show w = 0 by omega)]; done) | (rw [if_neg (show ¬ w = 0 by omega), if_pos (show w = 1 by omega)]; done) | (rw [if_neg (show ¬ w = 0 by omega), if_neg (show ¬ w = 1 by omega), if_pos (show w = 2 by omega)]; done) | (rw [if_neg (show ¬ w = 0 by omega), if_neg (show ¬ w = 1 by omega), if_neg (show ¬ w = 2 by omega), if_pos (show w = 3 by omega)]; done) | (rw [if_neg (show ¬ w = 0 by omega), if_neg (show ¬ w = 1 by omega), if_neg (show ¬ w = 2 by omega), if_neg (show ¬ w = 3 by omega), if_pos (show w = 4 by omega)]; done) | (rw [if_neg (show ¬ w = 0 by omega), if_neg (show ¬ w = 1 by omega), if_neg (show ¬ w = 2 by omega), if_neg (show ¬ w = 3 by omega), if_neg (show ¬ w = 4 by omega), if_pos (show w = 5 by omega)]; done) | (rw [if_neg (show ¬ w = 0 by omega), if_neg (show ¬ w = 1 by omega), if_neg (show ¬ w = 2 by omega), if_neg (show ¬ w = 3 by omega), if_neg (show ¬ w = 4 by omega), if_neg (show ¬ w = 5 by omega), if_pos (show w = 6 by omega)]; done) | (rw [if_neg (show ¬ w = 0 by omega), if_neg (show ¬ w = 1 by omega), if_neg (show ¬ w = 2 by omega), if_neg (show ¬ w = 3 by omega), if_neg (show ¬ w = 4 by omega), if_neg (show ¬ w = 5 by omega), if_neg (show ¬ w = 6 by omega), if_pos (show w = 7 by omega)]; done) | (rw [if_neg (show ¬ w = 0 by omega), if_neg (show ¬ w = 1 by omega), if_neg (show ¬ w = 2 by omega), if_neg (show ¬ w = 3 by omega), if_neg (show ¬ w = 4 by omega), if_neg (show ¬ w = 5 by omega), if_neg (show ¬ w = 6 by omega), if_neg (show ¬ w = 7 by omega), if_pos (show w = 8 by omega)]; done) | (rw [if_neg (show ¬ w = 0 by omega), if_neg (show ¬ w = 1 by omega), if_neg (show ¬ w = 2 by omega), if_neg (show ¬ w = 3 by omega), if_neg (show ¬ w = 4 by omega), if_neg (show ¬ w = 5 by omega), if_neg (show ¬ w = 6 by omega), if_neg (show ¬ w = 7 by omega), if_neg (show ¬ w = 8 by omega)]; done)) ⟨rfl, rfl, (by first | rfl | omega), rfl, rfl⟩
  · refine r_tsd (tgt := 155) (a := w) dX5_counted_1 (by unfold inR; omega) t_1 (by decide) ?_
    refine r_aload_n dX5_counted_155 rfl (by rfl) ?_
    refine r_get_r kX5_19 dX5_counted_156 KD_0 (RHO_0_1 _) ?_
    refine r_callV0 ct_X0_size fX0_size qX5_197 dX5_counted_159 KD_16 (by decide) ⟨Nat.zero_le _, Nat.zero_le _⟩ (Nat.le_of_ble_eq_true rfl) ?_
    exact r_ret_i dX5_counted_162 rfl ⟨Nat.zero_le _, Nat.zero_le _⟩ (by unfold ctP; first | (rw [if_pos (show w = 0 by omega)]; done) | (rw [if_neg (show ¬ w = 0 by omega), if_pos (show w = 1 by omega)]; done) | (rw [if_neg (show ¬ w = 0 by omega), if_neg (show ¬ w = 1 by omega), if_pos (show w = 2 by omega)]; done) | (rw [if_neg (show ¬ w = 0 by omega), if_neg (show ¬ w = 1 by omega), if_neg (show ¬ w = 2 by omega), if_pos (show w = 3 by omega)]; done) | (rw [if_neg (show ¬ w = 0 by omega), if_neg (show ¬ w = 1 by omega), if_neg (show ¬ w = 2 by omega), if_neg (show ¬ w = 3 by omega), if_pos (show w = 4 by omega)]; done) | (rw [if_neg (show ¬ w = 0 by omega), if_neg (show ¬ w = 1 by omega), if_neg (show ¬ w = 2 by omega), if_neg (show ¬ w = 3 by omega), if_neg (show ¬ w = 4 by omega), if_pos (show w = 5 by omega)]; done) | (rw [if_neg (show ¬ w = 0 by omega), if_neg (show ¬ w = 1 by omega), if_neg (show ¬ w = 2 by omega), if_neg (show ¬ w = 3 by omega), if_neg (show ¬ w = 4 by omega), if_neg (show ¬ w = 5 by omega), if_pos (show w = 6 by omega)]; done) | (rw [if_neg (show ¬ w = 0 by omega), if_neg (show ¬ w = 1 by omega), if_neg (show ¬ w = 2 by omega), if_neg (show ¬ w = 3 by omega), if_neg (show ¬ w = 4 by omega), if_neg (show ¬ w = 5 by omega), if_neg (show ¬ w = 6 by omega), if_pos (show w = 7 by omega)]; done) | (rw [if_neg (show ¬ w = 0 by omega), if_neg (show ¬ w = 1 by omega), if_neg (show ¬ w = 2 by omega), if_neg (show ¬ w = 3 by omega), if_neg (show ¬ w = 4 by omega), if_neg (show ¬ w = 5 by omega), if_neg (show ¬ w = 6 by omega), if_neg (show ¬ w = 7 by omega), if_pos (show w = 8 by omega)]; done) | (rw [if_neg (show ¬ w = 0 by omega), if_neg (show ¬ w = 1 by omega), if_neg (show ¬ w = 2 by omega), if_neg (show ¬ w = 3 by omega), if_neg (show ¬ w = 4 by omega), if_neg (show ¬ w = 5 by omega), if_neg (show ¬ w = 6 by omega), if_neg (show ¬ w = 7 by omega), if_neg (show ¬ w = 8 by omega)]; done)) ⟨rfl, rfl, (by first | rfl | omega), rfl, rfl⟩

set_option maxRecDepth 100000 in
set_option maxHeartbeats 4000000 in
theorem ct_X5_freshShare {l : Launch} {G : GG} {π : Nat → Option Nat} {σ τ : ST} (hI : CI σ)  : Ct l G mX5_freshShare (4, 0, 0) [.ref 0] 117 KD σ τ (RHO π) (KQ (some (.double (frS σ))) 117 KD σ τ (RHO π)) := by
  have hr := hI.ro
  have hcn := cntR_rng σ (σ 2 0 - 1) (σ 10 0).toNat
  refine ct_intro (own := "ShapedRows") rfl (by decide +kernel) (Nat.le_of_ble_eq_true rfl) (L := _) rfl ?_
  refine r_aload_n dX5_freshShare_0 rfl (by rfl) ?_
  refine r_get_r kX5_10 dX5_freshShare_1 KD_0 (RHO_0_0 _) ?_
  refine r_get_r kX5_96 dX5_freshShare_4 KD_1 (RHO_1_1 _) ?_
  refine r_callV0 ct_X1_size fX1_size qX5_244 dX5_freshShare_7 KD_10 (by decide) ⟨Nat.zero_le _, Nat.zero_le _⟩ (Nat.le_of_ble_eq_true rfl) ?_
  refine r_istore_n dX5_freshShare_10 rfl (Nat.le_of_ble_eq_true rfl) (L' := [_, _]) (by rfl) ?_
  refine r_iload_n dX5_freshShare_11 rfl (by rfl) ?_
  refine r_if_ne (tgt := 17) dX5_freshShare_12 (by decide) (by unfold inR; omega) (fun h0 => ?_) (fun h0 => ?_)
  · refine r_iload_n dX5_freshShare_17 rfl (by rfl) ?_
    refine r_aload_n dX5_freshShare_18 rfl (by rfl) ?_
    refine r_get_r kX5_10 dX5_freshShare_19 KD_0 (RHO_0_0 _) ?_
    refine r_callV0 (ct_X3_rowsBehind hI) fX3_rowsBehind qX5_245 dX5_freshShare_22 KD_1 (by decide) ⟨Nat.zero_le _, Nat.zero_le _⟩ (Nat.le_of_ble_eq_true rfl) ?_
    refine r_isub dX5_freshShare_25 ?_
    refine r_i2d dX5_freshShare_26 ?_
    refine r_iload_n dX5_freshShare_27 rfl (by rfl) ?_
    refine r_i2d dX5_freshShare_28 ?_
    refine r_ddiv dX5_freshShare_29 (frQ_ok (by omega) (by omega) (by omega) (by omega)) ?_
    exact r_ret_d dX5_freshShare_30 rfl ⟨Nat.zero_le _, Nat.zero_le _⟩ (by unfold frS; rw [if_neg h0]; rfl) ⟨rfl, rfl, rfl, rfl, rfl⟩
  · refine r_dconst1 dX5_freshShare_15 ?_
    exact r_ret_d dX5_freshShare_16 rfl ⟨Nat.zero_le _, Nat.zero_le _⟩ (by unfold frS; rw [if_pos h0]) ⟨rfl, rfl, rfl, rfl, rfl⟩

set_option maxRecDepth 100000 in
set_option maxHeartbeats 4000000 in
theorem ct_X5_mixed {l : Launch} {G : GG} {π : Nat → Option Nat} {σ τ : ST} (a b : Int) : Ct l G mX5_mixed (0, 0, 0) [.long (jJ a), .long (jJ b)] 117 KD σ τ (RHO π) (KQ (some (.long (jJ (31 * a + b)))) 117 KD σ τ (RHO π)) := by
  refine ct_intro (own := "ShapedRows") rfl (by decide +kernel) (Nat.le_of_ble_eq_true rfl) (L := _) rfl ?_
  refine r_ldc2 (a := 31) ql_X5_324 (by decide) dX5_mixed_0 ?_
  refine r_lload_n dX5_mixed_3 rfl (by rfl) ?_
  refine r_lmul dX5_mixed_4 ?_
  refine r_lload_n dX5_mixed_5 rfl (by rfl) ?_
  refine r_ladd dX5_mixed_6 ?_
  exact r_ret_l dX5_mixed_7 rfl ⟨Nat.zero_le _, Nat.zero_le _⟩ (by rfl) ⟨rfl, rfl, (by first | rfl | omega), rfl, rfl⟩

def letF (σ : ST) (i : Int) : Int := cdF σ i - 97
def WI (σ : ST) : Prop := ∀ a, 0 ≤ a → a < 8 → plc σ (σ 2 0 - 1).toNat a = -1 → σ 7 (σ 2 0 - 1).toNat < 8
def anQ (σ : ST) (f : Int) : Prop := σ 2 0 < 12 ∧ plc σ (σ 2 0 - 1).toNat (letF σ (f + 1)) = -1
def afW (σ : ST) (f e : Int) : Int := if f + 4 < e then letF σ (f + 5) else -1
def afQ (σ : ST) (f e : Int) : Prop := σ 2 0 < 12 ∧ plc σ (σ 2 0 - 1).toNat (letF σ (f + 1)) = -1 ∧ plc σ (σ 2 0 - 1).toNat (letF σ (f + 3)) ≠ -1 ∧ (afW σ f e = -1 ∨ plc σ (σ 2 0 - 1).toNat (afW σ f e) ≠ -1)
theorem letF_rng {σ : ST} (hT : TI σ) (i : Int) : -98 ≤ letF σ i ∧ letF σ i ≤ 29 := by
  have h := hT.2 i.toNat
  unfold letF cdF
  split <;> omega

set_option maxRecDepth 100000 in
set_option maxHeartbeats 4000000 in
theorem ct_X5_addsNumber {l : Launch} {G : GG} {π : Nat → Option Nat} {σ τ : ST} (hI : CI σ) (hT : TI σ) (hW : WI σ) (f e : Int) (h0 : 0 ≤ f) (h1 : f + 1 ≤ e) (h2 : e ≤ 1000) (h3 : f + 3 ≤ e) (hl1 : 0 ≤ letF σ (f + 1) ∧ letF σ (f + 1) < 8) : Ct l G mX5_addsNumber (4, 0, 0) [.ref 0, .int (iI f), .int (iI e)] 117 KD σ τ (RHO π) (KQ (some (.int (iI (if σ 2 0 < 12 ∧ plc σ (σ 2 0 - 1).toNat (letF σ (f + 1)) = -1 then 1 else 0)))) 117 KD (if σ 2 0 < 12 ∧ plc σ (σ 2 0 - 1).toNat (letF σ (f + 1)) = -1 then exN σ (letF σ (f + 1)) (nbF σ (f + 3) (e - (f + 3)).toNat) else σ) τ (RHO π)) := by
  have hle := letF_rng hT
  have hle1 := hle (f + 1)
  have hle2 := hle (f + 2)
  have hle3 := hle (f + 3)
  have hle5 := hle (f + 5)
  refine ct_intro (own := "ShapedRows") rfl (by decide +kernel) (Nat.le_of_ble_eq_true rfl) (L := _) rfl ?_
  refine r_aload_n dX5_addsNumber_0 rfl (by rfl) ?_
  refine r_get_r kX5_26 dX5_addsNumber_1 KD_0 (RHO_0_2 _) ?_
  refine r_iload_n dX5_addsNumber_4 rfl (by rfl) ?_
  refine r_iconst dX5_addsNumber_5 ?_
  refine r_iadd dX5_addsNumber_6 ?_
  refine r_callV1 (ct_X4_letter (by first | exact hT | omega | (unfold inR; omega) | exact hW _ hl1.1 hl1.2 hc.2) _ (by first | exact hT | omega | (unfold inR; omega) | exact hW _ hl1.1 hl1.2 hc.2) (by first | exact hT | omega | (unfold inR; omega) | exact hW _ hl1.1 hl1.2 hc.2)) fX4_letter qX5_310 dX5_addsNumber_7 KD_108 (by decide) ⟨Nat.zero_le _, Nat.zero_le _⟩ (Nat.le_of_ble_eq_true rfl) ?_
  rw [show cdF σ (f + 1) - 97 = letF σ (f + 1) from rfl]
  refine r_istore_n dX5_addsNumber_10 rfl (Nat.le_of_ble_eq_true rfl) (L' := [_, _, _, _]) (by rfl) ?_
  refine r_aload_n dX5_addsNumber_11 rfl (by rfl) ?_
  refine r_get_r kX5_10 dX5_addsNumber_12 KD_0 (RHO_0_0 _) ?_
  refine r_get_r kX5_44 dX5_addsNumber_15 KD_1 (RHO_1_0 _) ?_
  refine r_iload_n dX5_addsNumber_18 rfl (by rfl) ?_
  refine r_callV1 (ct_X2_canAdd hI _ (by first | exact hT | omega | (unfold inR; omega) | exact hW _ hl1.1 hl1.2 hc.2)) fX2_canAdd qX5_48 dX5_addsNumber_19 KD_2 (by decide) ⟨Nat.zero_le _, Nat.zero_le _⟩ (Nat.le_of_ble_eq_true rfl) ?_
  refine r_ifne_b (tgt := 27) dX5_addsNumber_22 (by decide) (fun hc => ?_) (fun hc => ?_)
  · refine r_aload_n dX5_addsNumber_27 rfl (by rfl) ?_
    refine r_get_r kX5_10 dX5_addsNumber_28 KD_0 (RHO_0_0 _) ?_
    refine r_get_r kX5_44 dX5_addsNumber_31 KD_1 (RHO_1_0 _) ?_
    refine r_iload_n dX5_addsNumber_34 rfl (by rfl) ?_
    refine r_aload_n dX5_addsNumber_35 rfl (by rfl) ?_
    refine r_get_r kX5_26 dX5_addsNumber_36 KD_0 (RHO_0_2 _) ?_
    refine r_iload_n dX5_addsNumber_39 rfl (by rfl) ?_
    refine r_iconst dX5_addsNumber_40 ?_
    refine r_iadd dX5_addsNumber_41 ?_
    refine r_iload_n dX5_addsNumber_42 rfl (by rfl) ?_
    refine r_callV2 (ct_X4_number (by first | exact hT | omega | (unfold inR; omega) | exact hW _ hl1.1 hl1.2 hc.2) _ _ (by first | exact hT | omega | (unfold inR; omega) | exact hW _ hl1.1 hl1.2 hc.2) (by first | exact hT | omega | (unfold inR; omega) | exact hW _ hl1.1 hl1.2 hc.2) (by first | exact hT | omega | (unfold inR; omega) | exact hW _ hl1.1 hl1.2 hc.2)) fX4_number qX5_307 dX5_addsNumber_43 KD_108 (by decide) ⟨Nat.zero_le _, Nat.zero_le _⟩ (Nat.le_of_ble_eq_true rfl) ?_
    refine r_callV2 (ct_X2_extendByNumber hI (by first | exact hT | omega | (unfold inR; omega) | exact hW _ hl1.1 hl1.2 hc.2) (by first | exact hT | omega | (unfold inR; omega) | exact hW _ hl1.1 hl1.2 hc.2) _ _) fX2_extendByNumber qX5_62 dX5_addsNumber_46 KD_2 (by decide) ⟨Nat.zero_le _, Nat.zero_le _⟩ (Nat.le_of_ble_eq_true rfl) ?_
    refine r_pop dX5_addsNumber_49 rfl ?_
    refine r_iconst dX5_addsNumber_50 ?_
    exact r_ret_z dX5_addsNumber_51 rfl ⟨Nat.zero_le _, Nat.zero_le _⟩ (by first | exact Or.inl rfl | exact Or.inr rfl | (split <;> omega)) (by rw [if_pos hc]) ⟨rfl, rfl, (by rw [if_pos hc]), rfl, rfl⟩
  · refine r_iconst dX5_addsNumber_25 ?_
    exact r_ret_z dX5_addsNumber_26 rfl ⟨Nat.zero_le _, Nat.zero_le _⟩ (by first | exact Or.inl rfl | exact Or.inr rfl | (split <;> omega)) (by rw [if_neg hc]) ⟨rfl, rfl, (by rw [if_neg hc]), rfl, rfl⟩

set_option maxRecDepth 100000 in
set_option maxHeartbeats 4000000 in
theorem ct_X5_addsFrom {l : Launch} {G : GG} {π : Nat → Option Nat} {σ τ : ST} (hI : CI σ) (hT : TI σ) (hW : WI σ) (f e : Int) (h0 : 0 ≤ f) (h1 : f + 1 ≤ e) (h2 : e ≤ 1000) (hl1 : 0 ≤ letF σ (f + 1) ∧ letF σ (f + 1) < 8) : Ct l G mX5_addsFrom (4, 0, 0) [.ref 0, .int (iI f), .int (iI e)] 117 KD σ τ (RHO π) (KQ (some (.int (iI (if σ 2 0 < 12 ∧ plc σ (σ 2 0 - 1).toNat (letF σ (f + 1)) = -1 ∧ plc σ (σ 2 0 - 1).toNat (letF σ (f + 3)) ≠ -1 ∧ (afW σ f e = -1 ∨ plc σ (σ 2 0 - 1).toNat (afW σ f e) ≠ -1) then 1 else 0)))) 117 KD (if σ 2 0 < 12 ∧ plc σ (σ 2 0 - 1).toNat (letF σ (f + 1)) = -1 ∧ plc σ (σ 2 0 - 1).toNat (letF σ (f + 3)) ≠ -1 ∧ (afW σ f e = -1 ∨ plc σ (σ 2 0 - 1).toNat (afW σ f e) ≠ -1) then exC σ (letF σ (f + 1)) (letF σ (f + 3)) (afW σ f e) else σ) τ (RHO π)) := by
  have hle := letF_rng hT
  have hle1 := hle (f + 1)
  have hle2 := hle (f + 2)
  have hle3 := hle (f + 3)
  have hle5 := hle (f + 5)
  have haw : -98 ≤ afW σ f e ∧ afW σ f e ≤ 29 := by unfold afW; split <;> omega
  refine ct_intro (own := "ShapedRows") rfl (by decide +kernel) (Nat.le_of_ble_eq_true rfl) (L := _) rfl ?_
  have cut_44 : ∀ (w : Int), (w = afW σ f e) → WP l G "ShapedRows" mX5_addsFrom (4, 0, 0) (KQ (some (.int (iI (if σ 2 0 < 12 ∧ plc σ (σ 2 0 - 1).toNat (letF σ (f + 1)) = -1 ∧ plc σ (σ 2 0 - 1).toNat (letF σ (f + 3)) ≠ -1 ∧ (afW σ f e = -1 ∨ plc σ (σ 2 0 - 1).toNat (afW σ f e) ≠ -1) then 1 else 0)))) 117 KD (if σ 2 0 < 12 ∧ plc σ (σ 2 0 - 1).toNat (letF σ (f + 1)) = -1 ∧ plc σ (σ 2 0 - 1).toNat (letF σ (f + 3)) ≠ -1 ∧ (afW σ f e = -1 ∨ plc σ (σ 2 0 - 1).toNat (afW σ f e) ≠ -1) then exC σ (letF σ (f + 1)) (letF σ (f + 3)) (afW σ f e) else σ) τ (RHO π)) noX 117 44 [some (.ref 0), some (.int (iI f)), some (.int (iI e)), some (.int (iI (letF σ (f + 1)))), some (.int (iI (letF σ (f + 3)))), none] [.int (iI w)] 117 KD σ τ (RHO π) 0 0 := by
    intro w hw
    subst hw
    refine r_istore dX5_addsFrom_44 (Nat.le_of_ble_eq_true rfl) (L' := [_, _, _, _, _, _]) (by rfl) ?_
    refine r_aload_n dX5_addsFrom_46 rfl (by rfl) ?_
    refine r_get_r kX5_10 dX5_addsFrom_47 KD_0 (RHO_0_0 _) ?_
    refine r_get_r kX5_44 dX5_addsFrom_50 KD_1 (RHO_1_0 _) ?_
    refine r_iload_n dX5_addsFrom_53 rfl (by rfl) ?_
    refine r_iload dX5_addsFrom_54 (by rfl) ?_
    refine r_iload dX5_addsFrom_56 (by rfl) ?_
    refine r_callV3 (ct_X2_canAddFrom hI _ (by first | exact hT | omega | (unfold inR; omega) | exact hW _ hl1.1 hl1.2 hc.2.1) _ (by first | exact hT | omega | (unfold inR; omega) | exact hW _ hl1.1 hl1.2 hc.2.1) _ (by first | exact hT | omega | (unfold inR; omega) | exact hW _ hl1.1 hl1.2 hc.2.1)) fX2_canAddFrom qX5_71 dX5_addsFrom_58 KD_2 (by decide) ⟨Nat.zero_le _, Nat.zero_le _⟩ (Nat.le_of_ble_eq_true rfl) ?_
    refine r_ifne_b (tgt := 66) dX5_addsFrom_61 (by decide) (fun hc => ?_) (fun hc => ?_)
    · refine r_aload_n dX5_addsFrom_66 rfl (by rfl) ?_
      refine r_get_r kX5_10 dX5_addsFrom_67 KD_0 (RHO_0_0 _) ?_
      refine r_get_r kX5_44 dX5_addsFrom_70 KD_1 (RHO_1_0 _) ?_
      refine r_iload_n dX5_addsFrom_73 rfl (by rfl) ?_
      refine r_iload dX5_addsFrom_74 (by rfl) ?_
      refine r_iload dX5_addsFrom_76 (by rfl) ?_
      refine r_callV3 (ct_X2_extendFrom hI (by first | exact hT | omega | (unfold inR; omega) | exact hW _ hl1.1 hl1.2 hc.2.1) (by first | exact hT | omega | (unfold inR; omega) | exact hW _ hl1.1 hl1.2 hc.2.1) _ _ _ (by first | exact hT | omega | (unfold inR; omega) | exact hW _ hl1.1 hl1.2 hc.2.1) (by first | exact hT | omega | (unfold inR; omega) | exact hW _ hl1.1 hl1.2 hc.2.1)) fX2_extendFrom qX5_77 dX5_addsFrom_78 KD_2 (by decide) ⟨Nat.zero_le _, Nat.zero_le _⟩ (Nat.le_of_ble_eq_true rfl) ?_
      refine r_pop dX5_addsFrom_81 rfl ?_
      refine r_iconst dX5_addsFrom_82 ?_
      exact r_ret_z dX5_addsFrom_83 rfl ⟨Nat.zero_le _, Nat.zero_le _⟩ (by first | exact Or.inl rfl | exact Or.inr rfl | (split <;> omega)) (by rw [if_pos hc]) ⟨rfl, rfl, (by rw [if_pos hc]), rfl, rfl⟩
    · refine r_iconst dX5_addsFrom_64 ?_
      exact r_ret_z dX5_addsFrom_65 rfl ⟨Nat.zero_le _, Nat.zero_le _⟩ (by first | exact Or.inl rfl | exact Or.inr rfl | (split <;> omega)) (by rw [if_neg hc]) ⟨rfl, rfl, (by rw [if_neg hc]), rfl, rfl⟩
  refine r_aload_n dX5_addsFrom_0 rfl (by rfl) ?_
  refine r_get_r kX5_26 dX5_addsFrom_1 KD_0 (RHO_0_2 _) ?_
  refine r_iload_n dX5_addsFrom_4 rfl (by rfl) ?_
  refine r_iconst dX5_addsFrom_5 ?_
  refine r_iadd dX5_addsFrom_6 ?_
  refine r_callV1 (ct_X4_letter (by first | exact hT | omega | (unfold inR; omega) | exact hW _ hl1.1 hl1.2 hc.2.1) _ (by first | exact hT | omega | (unfold inR; omega) | exact hW _ hl1.1 hl1.2 hc.2.1) (by first | exact hT | omega | (unfold inR; omega) | exact hW _ hl1.1 hl1.2 hc.2.1)) fX4_letter qX5_310 dX5_addsFrom_7 KD_108 (by decide) ⟨Nat.zero_le _, Nat.zero_le _⟩ (Nat.le_of_ble_eq_true rfl) ?_
  rw [show cdF σ (f + 1) - 97 = letF σ (f + 1) from rfl]
  refine r_istore_n dX5_addsFrom_10 rfl (Nat.le_of_ble_eq_true rfl) (L' := [_, _, _, _, _, _]) (by rfl) ?_
  refine r_aload_n dX5_addsFrom_11 rfl (by rfl) ?_
  refine r_get_r kX5_26 dX5_addsFrom_12 KD_0 (RHO_0_2 _) ?_
  refine r_iload_n dX5_addsFrom_15 rfl (by rfl) ?_
  refine r_iconst dX5_addsFrom_16 ?_
  refine r_iadd dX5_addsFrom_17 ?_
  refine r_callV1 (ct_X4_letter (by first | exact hT | omega | (unfold inR; omega) | exact hW _ hl1.1 hl1.2 hc.2.1) _ (by first | exact hT | omega | (unfold inR; omega) | exact hW _ hl1.1 hl1.2 hc.2.1) (by first | exact hT | omega | (unfold inR; omega) | exact hW _ hl1.1 hl1.2 hc.2.1)) fX4_letter qX5_310 dX5_addsFrom_18 KD_108 (by decide) ⟨Nat.zero_le _, Nat.zero_le _⟩ (Nat.le_of_ble_eq_true rfl) ?_
  rw [show cdF σ (f + 3) - 97 = letF σ (f + 3) from rfl]
  refine r_istore dX5_addsFrom_21 (Nat.le_of_ble_eq_true rfl) (L' := [_, _, _, _, _, _]) (by rfl) ?_
  refine r_iload_n dX5_addsFrom_23 rfl (by rfl) ?_
  refine r_iload_n dX5_addsFrom_24 rfl (by rfl) ?_
  refine r_iconst dX5_addsFrom_25 ?_
  refine r_iadd dX5_addsFrom_26 ?_
  refine r_icmp_le (tgt := 43) dX5_addsFrom_27 (by decide) (by unfold inR; omega) (by unfold inR; omega) (fun c_1 => ?_) (fun c_1 => ?_)
  · refine r_iconst dX5_addsFrom_43 ?_
    exact cut_44 _ (by unfold afW; first | (rw [if_pos (by omega)]; done) | (rw [if_neg (by omega)]; done))
  · refine r_aload_n dX5_addsFrom_30 rfl (by rfl) ?_
    refine r_get_r kX5_26 dX5_addsFrom_31 KD_0 (RHO_0_2 _) ?_
    refine r_iload_n dX5_addsFrom_34 rfl (by rfl) ?_
    refine r_iconst dX5_addsFrom_35 ?_
    refine r_iadd dX5_addsFrom_36 ?_
    refine r_callV1 (ct_X4_letter (by first | exact hT | omega | (unfold inR; omega) | exact hW _ hl1.1 hl1.2 hc.2.1) _ (by first | exact hT | omega | (unfold inR; omega) | exact hW _ hl1.1 hl1.2 hc.2.1) (by first | exact hT | omega | (unfold inR; omega) | exact hW _ hl1.1 hl1.2 hc.2.1)) fX4_letter qX5_310 dX5_addsFrom_37 KD_108 (by decide) ⟨Nat.zero_le _, Nat.zero_le _⟩ (Nat.le_of_ble_eq_true rfl) ?_
    rw [show cdF σ (f + 5) - 97 = letF σ (f + 5) from rfl]
    refine r_goto (tgt := 44) dX5_addsFrom_40 (by decide) ?_
    exact cut_44 _ (by unfold afW; first | (rw [if_pos (by omega)]; done) | (rw [if_neg (by omega)]; done))

set_option maxRecDepth 100000 in
set_option maxHeartbeats 4000000 in
theorem ct_X5_drops {l : Launch} {G : GG} {π : Nat → Option Nat} {σ τ : ST} (hI : CI σ) (hT : TI σ) (f e : Int) (h0 : 0 ≤ f) (h1 : f + 1 ≤ e) (h2 : e ≤ 1000) (h3 : f + 3 ≤ e)  : Ct l G mX5_drops (4, 0, 0) [.ref 0, .int (iI f), .int (iI e)] 117 KD σ τ (RHO π) (KQ (some (.int (iI (if σ 2 0 < 12 ∧ plc σ (σ 2 0 - 1).toNat (letF σ (f + 1)) ≠ -1 then 1 else 0)))) 117 KD (if σ 2 0 < 12 ∧ plc σ (σ 2 0 - 1).toNat (letF σ (f + 1)) ≠ -1 then lvO σ (letF σ (f + 1)) (nbF σ (f + 3) (e - (f + 3)).toNat) else σ) τ (RHO π)) := by
  have hle := letF_rng hT
  have hle1 := hle (f + 1)
  have hle2 := hle (f + 2)
  have hle3 := hle (f + 3)
  have hle5 := hle (f + 5)
  refine ct_intro (own := "ShapedRows") rfl (by decide +kernel) (Nat.le_of_ble_eq_true rfl) (L := _) rfl ?_
  refine r_aload_n dX5_drops_0 rfl (by rfl) ?_
  refine r_get_r kX5_26 dX5_drops_1 KD_0 (RHO_0_2 _) ?_
  refine r_iload_n dX5_drops_4 rfl (by rfl) ?_
  refine r_iconst dX5_drops_5 ?_
  refine r_iadd dX5_drops_6 ?_
  refine r_callV1 (ct_X4_letter (by first | exact hT | omega | (unfold inR; omega)) _ (by first | exact hT | omega | (unfold inR; omega)) (by first | exact hT | omega | (unfold inR; omega))) fX4_letter qX5_310 dX5_drops_7 KD_108 (by decide) ⟨Nat.zero_le _, Nat.zero_le _⟩ (Nat.le_of_ble_eq_true rfl) ?_
  rw [show cdF σ (f + 1) - 97 = letF σ (f + 1) from rfl]
  refine r_istore_n dX5_drops_10 rfl (Nat.le_of_ble_eq_true rfl) (L' := [_, _, _, _]) (by rfl) ?_
  refine r_aload_n dX5_drops_11 rfl (by rfl) ?_
  refine r_get_r kX5_10 dX5_drops_12 KD_0 (RHO_0_0 _) ?_
  refine r_get_r kX5_44 dX5_drops_15 KD_1 (RHO_1_0 _) ?_
  refine r_iload_n dX5_drops_18 rfl (by rfl) ?_
  refine r_callV1 (ct_X2_canDrop hI _ (by first | exact hT | omega | (unfold inR; omega))) fX2_canDrop qX5_81 dX5_drops_19 KD_2 (by decide) ⟨Nat.zero_le _, Nat.zero_le _⟩ (Nat.le_of_ble_eq_true rfl) ?_
  refine r_ifne_b (tgt := 27) dX5_drops_22 (by decide) (fun hc => ?_) (fun hc => ?_)
  · refine r_aload_n dX5_drops_27 rfl (by rfl) ?_
    refine r_get_r kX5_10 dX5_drops_28 KD_0 (RHO_0_0 _) ?_
    refine r_get_r kX5_44 dX5_drops_31 KD_1 (RHO_1_0 _) ?_
    refine r_iload_n dX5_drops_34 rfl (by rfl) ?_
    refine r_aload_n dX5_drops_35 rfl (by rfl) ?_
    refine r_get_r kX5_26 dX5_drops_36 KD_0 (RHO_0_2 _) ?_
    refine r_iload_n dX5_drops_39 rfl (by rfl) ?_
    refine r_iconst dX5_drops_40 ?_
    refine r_iadd dX5_drops_41 ?_
    refine r_iload_n dX5_drops_42 rfl (by rfl) ?_
    refine r_callV2 (ct_X4_number (by first | exact hT | omega | (unfold inR; omega)) _ _ (by first | exact hT | omega | (unfold inR; omega)) (by first | exact hT | omega | (unfold inR; omega)) (by first | exact hT | omega | (unfold inR; omega))) fX4_number qX5_307 dX5_drops_43 KD_108 (by decide) ⟨Nat.zero_le _, Nat.zero_le _⟩ (Nat.le_of_ble_eq_true rfl) ?_
    refine r_callV2 (ct_X2_leaveOut hI (by first | exact hT | omega | (unfold inR; omega)) _ _ (by first | exact hT | omega | (unfold inR; omega)) (by first | exact hT | omega | (unfold inR; omega))) fX2_leaveOut qX5_86 dX5_drops_46 KD_2 (by decide) ⟨Nat.zero_le _, Nat.zero_le _⟩ (Nat.le_of_ble_eq_true rfl) ?_
    refine r_pop dX5_drops_49 rfl ?_
    refine r_iconst dX5_drops_50 ?_
    exact r_ret_z dX5_drops_51 rfl ⟨Nat.zero_le _, Nat.zero_le _⟩ (by first | exact Or.inl rfl | exact Or.inr rfl | (split <;> omega)) (by rw [if_pos hc]) ⟨rfl, rfl, (by rw [if_pos hc]), rfl, rfl⟩
  · refine r_iconst dX5_drops_25 ?_
    exact r_ret_z dX5_drops_26 rfl ⟨Nat.zero_le _, Nat.zero_le _⟩ (by first | exact Or.inl rfl | exact Or.inr rfl | (split <;> omega)) (by rw [if_neg hc]) ⟨rfl, rfl, (by rw [if_neg hc]), rfl, rfl⟩

set_option maxRecDepth 100000 in
set_option maxHeartbeats 4000000 in
theorem ct_X5_renames {l : Launch} {G : GG} {π : Nat → Option Nat} {σ τ : ST} (hI : CI σ) (hT : TI σ) (f : Int) (h0 : 0 ≤ f) (h1 : f ≤ 1000) : Ct l G mX5_renames (4, 0, 0) [.ref 0, .int (iI f)] 117 KD σ τ (RHO π) (KQ (some (.int (iI (if σ 2 0 < 12 ∧ plc σ (σ 2 0 - 1).toNat (letF σ (f + 1)) ≠ -1 ∧ plc σ (σ 2 0 - 1).toNat (letF σ (f + 2)) = -1 then 1 else 0)))) 117 KD (if σ 2 0 < 12 ∧ plc σ (σ 2 0 - 1).toNat (letF σ (f + 1)) ≠ -1 ∧ plc σ (σ 2 0 - 1).toNat (letF σ (f + 2)) = -1 then xcL σ (letF σ (f + 1)) (letF σ (f + 2)) else σ) τ (RHO π)) := by
  have hle := letF_rng hT
  have hle1 := hle (f + 1)
  have hle2 := hle (f + 2)
  have hle3 := hle (f + 3)
  have hle5 := hle (f + 5)
  refine ct_intro (own := "ShapedRows") rfl (by decide +kernel) (Nat.le_of_ble_eq_true rfl) (L := _) rfl ?_
  refine r_aload_n dX5_renames_0 rfl (by rfl) ?_
  refine r_get_r kX5_26 dX5_renames_1 KD_0 (RHO_0_2 _) ?_
  refine r_iload_n dX5_renames_4 rfl (by rfl) ?_
  refine r_iconst dX5_renames_5 ?_
  refine r_iadd dX5_renames_6 ?_
  refine r_callV1 (ct_X4_letter (by first | exact hT | omega | (unfold inR; omega)) _ (by first | exact hT | omega | (unfold inR; omega)) (by first | exact hT | omega | (unfold inR; omega))) fX4_letter qX5_310 dX5_renames_7 KD_108 (by decide) ⟨Nat.zero_le _, Nat.zero_le _⟩ (Nat.le_of_ble_eq_true rfl) ?_
  rw [show cdF σ (f + 1) - 97 = letF σ (f + 1) from rfl]
  refine r_istore_n dX5_renames_10 rfl (Nat.le_of_ble_eq_true rfl) (L' := [_, _, _, _]) (by rfl) ?_
  refine r_aload_n dX5_renames_11 rfl (by rfl) ?_
  refine r_get_r kX5_26 dX5_renames_12 KD_0 (RHO_0_2 _) ?_
  refine r_iload_n dX5_renames_15 rfl (by rfl) ?_
  refine r_iconst dX5_renames_16 ?_
  refine r_iadd dX5_renames_17 ?_
  refine r_callV1 (ct_X4_letter (by first | exact hT | omega | (unfold inR; omega)) _ (by first | exact hT | omega | (unfold inR; omega)) (by first | exact hT | omega | (unfold inR; omega))) fX4_letter qX5_310 dX5_renames_18 KD_108 (by decide) ⟨Nat.zero_le _, Nat.zero_le _⟩ (Nat.le_of_ble_eq_true rfl) ?_
  rw [show cdF σ (f + 2) - 97 = letF σ (f + 2) from rfl]
  refine r_istore_n dX5_renames_21 rfl (Nat.le_of_ble_eq_true rfl) (L' := [_, _, _, _]) (by rfl) ?_
  refine r_aload_n dX5_renames_22 rfl (by rfl) ?_
  refine r_get_r kX5_10 dX5_renames_23 KD_0 (RHO_0_0 _) ?_
  refine r_get_r kX5_44 dX5_renames_26 KD_1 (RHO_1_0 _) ?_
  refine r_iload_n dX5_renames_29 rfl (by rfl) ?_
  refine r_iload_n dX5_renames_30 rfl (by rfl) ?_
  refine r_callV2 (ct_X2_canRename hI _ (by first | exact hT | omega | (unfold inR; omega)) _ (by first | exact hT | omega | (unfold inR; omega))) fX2_canRename qX5_89 dX5_renames_31 KD_2 (by decide) ⟨Nat.zero_le _, Nat.zero_le _⟩ (Nat.le_of_ble_eq_true rfl) ?_
  refine r_ifne_b (tgt := 39) dX5_renames_34 (by decide) (fun hc => ?_) (fun hc => ?_)
  · refine r_aload_n dX5_renames_39 rfl (by rfl) ?_
    refine r_get_r kX5_10 dX5_renames_40 KD_0 (RHO_0_0 _) ?_
    refine r_get_r kX5_44 dX5_renames_43 KD_1 (RHO_1_0 _) ?_
    refine r_iload_n dX5_renames_46 rfl (by rfl) ?_
    refine r_iload_n dX5_renames_47 rfl (by rfl) ?_
    refine r_callV2 (ct_X2_exchangeLetter hI (by first | exact hT | omega | (unfold inR; omega)) _ _ (by first | exact hT | omega | (unfold inR; omega)) (by first | exact hT | omega | (unfold inR; omega))) fX2_exchangeLetter qX5_93 dX5_renames_48 KD_2 (by decide) ⟨Nat.zero_le _, Nat.zero_le _⟩ (Nat.le_of_ble_eq_true rfl) ?_
    refine r_pop dX5_renames_51 rfl ?_
    refine r_iconst dX5_renames_52 ?_
    exact r_ret_z dX5_renames_53 rfl ⟨Nat.zero_le _, Nat.zero_le _⟩ (by first | exact Or.inl rfl | exact Or.inr rfl | (split <;> omega)) (by rw [if_pos hc]) ⟨rfl, rfl, (by rw [if_pos hc]), rfl, rfl⟩
  · refine r_iconst dX5_renames_37 ?_
    exact r_ret_z dX5_renames_38 rfl ⟨Nat.zero_le _, Nat.zero_le _⟩ (by first | exact Or.inl rfl | exact Or.inr rfl | (split <;> omega)) (by rw [if_neg hc]) ⟨rfl, rfl, (by rw [if_neg hc]), rfl, rfl⟩

set_option maxRecDepth 100000 in
set_option maxHeartbeats 4000000 in
theorem ct_X5_inserts {l : Launch} {G : GG} {π : Nat → Option Nat} {σ τ : ST} (hI : CI σ)  : Ct l G mX5_inserts (2, 0, 0) [.ref 0] 117 KD σ τ (RHO π) (KQ (some (.int (iI (if σ 10 0 < 12 then 1 else 0)))) 117 KD (if σ 10 0 < 12 then adR σ (σ 2 0 - 1) else σ) τ (RHO π)) := by
  refine ct_intro (own := "ShapedRows") rfl (by decide +kernel) (Nat.le_of_ble_eq_true rfl) (L := _) rfl ?_
  refine r_aload_n dX5_inserts_0 rfl (by rfl) ?_
  refine r_get_r kX5_10 dX5_inserts_1 KD_0 (RHO_0_0 _) ?_
  refine r_get_r kX5_96 dX5_inserts_4 KD_1 (RHO_1_1 _) ?_
  refine r_callV0 (ct_X1_isFull hI) fX1_isFull qX5_100 dX5_inserts_7 KD_10 (by decide) ⟨Nat.zero_le _, Nat.zero_le _⟩ (Nat.le_of_ble_eq_true rfl) ?_
  refine r_ifeq_b (tgt := 15) dX5_inserts_10 (by decide) (fun hc => ?_) (fun hc => ?_)
  · refine r_aload_n dX5_inserts_15 rfl (by rfl) ?_
    refine r_get_r kX5_10 dX5_inserts_16 KD_0 (RHO_0_0 _) ?_
    refine r_get_r kX5_96 dX5_inserts_19 KD_1 (RHO_1_1 _) ?_
    refine r_aload_n dX5_inserts_22 rfl (by rfl) ?_
    refine r_get_r kX5_10 dX5_inserts_23 KD_0 (RHO_0_0 _) ?_
    refine r_get_r kX5_44 dX5_inserts_26 KD_1 (RHO_1_0 _) ?_
    refine r_callV0 ct_X2_newest fX2_newest qX5_108 dX5_inserts_29 KD_2 (by decide) ⟨Nat.zero_le _, Nat.zero_le _⟩ (Nat.le_of_ble_eq_true rfl) ?_
    refine r_callV1 (ct_X1_addRow hI (by omega) _) fX1_addRow qX5_112 dX5_inserts_32 KD_10 (by decide) ⟨Nat.zero_le _, Nat.zero_le _⟩ (Nat.le_of_ble_eq_true rfl) ?_
    refine r_pop dX5_inserts_35 rfl ?_
    refine r_iconst dX5_inserts_36 ?_
    exact r_ret_z dX5_inserts_37 rfl ⟨Nat.zero_le _, Nat.zero_le _⟩ (by first | exact Or.inl rfl | exact Or.inr rfl | (split <;> omega)) (by rw [if_pos (by omega)]) ⟨rfl, rfl, (by rw [if_pos (by omega)]), rfl, rfl⟩
  · refine r_iconst dX5_inserts_13 ?_
    exact r_ret_z dX5_inserts_14 rfl ⟨Nat.zero_le _, Nat.zero_le _⟩ (by first | exact Or.inl rfl | exact Or.inr rfl | (split <;> omega)) (by rw [if_neg (by omega)]) ⟨rfl, rfl, (by rw [if_neg (by omega)]), rfl, rfl⟩
