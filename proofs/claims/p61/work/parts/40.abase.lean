/-! the law -/
def imA (k : Int32) : Int32 := if 0 ≤ k.toInt ∧ k.toInt ≤ 2 then 0 else -2
theorem imA_out {k : Int32} (h : k.toInt < 0 ∨ 2 < k.toInt) : (-2 : Int32) = imA k := by unfold imA; rw [if_neg (by omega)]
theorem imA_in {k : Int32} (h : rg 0 2 k) : (0 : Int32) = imA k := by unfold imA; rw [if_pos h]
theorem inW_0 {v lo hi : Int64} {r : Int32} (o : r = inW v lo hi) (h : r.toInt = (0 : Int32).toInt) : ¬ (lo.toInt ≤ v.toInt ∧ v.toInt ≤ hi.toInt) := fun z => by
  rw [o, inW, if_pos z] at h
  exact absurd h (by decide)
theorem imA_outL {k r : Int32} (o : r = inW k.toInt64 0 2) (h : r.toInt = (0 : Int32).toInt) : (-2 : Int32) = imA k := by
  have q := inW_0 o h
  rw [Int32.toInt_toInt64] at q
  have z0 : (0 : Int64).toInt = 0 := by decide
  have z2 : (2 : Int64).toInt = 2 := by decide
  exact imA_out (by omega)
theorem nI_p (i k : Nat) : nI i + nI k = nI (i + k) := (Int32.ofNat_add i k).symm
theorem nI_p1 (i : Nat) : nI i + 1 = nI (i + 1) := nI_p i 1
theorem nI_p2 (i : Nat) : nI i + 2 = nI (i + 2) := nI_p i 2
theorem nI_p3 (i : Nat) : nI i + 3 = nI (i + 3) := nI_p i 3
theorem nI_p4 (i : Nat) : nI i + 4 = nI (i + 4) := nI_p i 4
theorem nI_p5 (i : Nat) : nI i + 5 = nI (i + 5) := nI_p i 5
theorem nI_p6 (i : Nat) : nI i + 6 = nI (i + 6) := nI_p i 6
theorem lw_lt {L i : Nat} (hL : L ≤ 3072) (hi : i ≤ 3078) (h : ¬ (Int32.ofNat L - 6 : Int32) < nI i) : i + 6 ≤ L := by
  have h1 := t_nlt h
  have e1 : (Int32.ofNat L).toInt = (L : Int) := nI_toInt (n := L) (by omega)
  have e6 : (6 : Int32).toInt = 6 := by decide
  rw [nI_toInt (by omega), sub_t (by omega) (by omega), e1, e6] at h1
  omega
theorem wR_0 : wR (fun _ => (0 : Int32)) := by
  have h : ∀ j, j < 841 → rg (wb j).1 (wb j).2 (0 : Int32) := by decide +kernel
  exact h
theorem iR_0 : iR (fun _ => (0 : Int32)) := by
  have h : ∀ j, j < 2523 → rg (ib3 j).1 (ib3 j).2 (0 : Int32) := by decide +kernel
  exact h
theorem mny_rg : ∀ j, j < 4 → rg (-1) 60 (mny j) := by decide +kernel
