/-! speeches of the reference -/
def sp8 (g : Nat → Int64) (s : Int32) (m : Int) : Prop := ∀ k : Nat, 2 * (k : Int) < m → rl 0 7 (g (60 * s.toInt.toNat + 2 * k)) ∧ rl 0 9 (g (60 * s.toInt.toNat + (2 * k + 1)))
theorem nx8 {s k : Int32} (hs : rg 0 3 s) (hk : rg 0 59 k) : (60 * s + k).toNatClampNeg = 60 * s.toInt.toNat + k.toInt.toNat := by
  have e1 : ((60 : Int32) * s).toInt = 60 * s.toInt := mul_tr (k := 60) (by decide) hs (by decide)
  have s1 := hs.1
  have s2 := hs.2
  have k1 := hk.1
  have k2 := hk.2
  have h1 : rg 0 180 ((60 : Int32) * s) := ⟨by omega, by omega⟩
  have e2 := add_tr h1 hk (by decide) (by decide)
  show (60 * s + k).toInt.toNat = _
  rw [e2, e1]; omega
theorem sp8_0 {g : Nat → Int64} {s : Int32} : sp8 g s (0 : Int32).toInt := fun k hk => by rw [zt0] at hk; omega
theorem sp8_m {g : Nat → Int64} {s : Int32} {m n : Int} (h : sp8 g s n) (hm : m ≤ n) : sp8 g s m := fun k hk => h k (by omega)
theorem sp8_s {g : Nat → Int64} {s l l' x : Int32} {r1 r2 : Int64} (h : sp8 g s l.toInt) (hev : l.toInt % 2 = 0) (hs : rg 0 3 s) (hl : rg 0 59 l) (hx : rg 0 59 x) (e : l'.toInt = l.toInt + 2) (el : x.toInt = l.toInt + 1) (e1 : r1 = g (60 * s + l).toNatClampNeg) (h1 : rl 0 7 r1) (e2 : r2 = g (60 * s + x).toNatClampNeg) (h2 : rl 0 9 r2) : sp8 g s l'.toInt := by
  intro k hk
  have l1 := hl.1
  by_cases z : 2 * (k : Int) < l.toInt
  · exact h k z
  · have a1 : l.toInt.toNat = 2 * k := by omega
    have a2 : x.toInt.toNat = 2 * k + 1 := by omega
    rw [nx8 hs hl, a1] at e1
    rw [nx8 hs hx, a2] at e2
    rw [← e1, ← e2]
    exact ⟨h1, h2⟩
theorem sp8_a {g : Nat → Int64} {s k : Int32} {m i : Int} {r : Int64} (h : sp8 g s m) (hs : rg 0 3 s) (hk : rg 0 59 k) (hi : 0 ≤ i) (ek : k.toInt = 2 * i) (hm : 2 * i < m) (e : r = g (60 * s + k).toNatClampNeg) : rl 0 7 r := by
  have a := (h i.toNat (by omega)).1
  have a1 : k.toInt.toNat = 2 * i.toNat := by omega
  rw [nx8 hs hk, a1] at e
  rw [e]; exact a
theorem sp8_b {g : Nat → Int64} {s k : Int32} {m i : Int} {r : Int64} (h : sp8 g s m) (hs : rg 0 3 s) (hk : rg 0 59 k) (hi : 0 ≤ i) (ek : k.toInt = 2 * i + 1) (hm : 2 * i < m) (e : r = g (60 * s + k).toNatClampNeg) : rl 0 9 r := by
  have a := (h i.toNat (by omega)).2
  have a1 : k.toInt.toNat = 2 * i.toNat + 1 := by omega
  rw [nx8 hs hk, a1] at e
  rw [e]; exact a
theorem sp_nine {v : Int64} {x : Int32} (e : x = lg_cmp v 9) (h : x = 0) : rl 0 9 v := by
  have a := in_path (v := v) (lo := 9) (hi := 9) (by rw [← e, h]; decide) (by rw [← e, h]; decide)
  have z9 : (9 : Int64).toInt = 9 := by decide
  exact ⟨by omega, by omega⟩
theorem rl_w9 {v : Int64} (h : rl 0 8 v) : rl 0 9 v := ⟨h.1, by have := h.2; omega⟩
theorem l2i_rg {r : Int64} {x : Int32} {a b : Int} (e : x = r.toInt32) (h : rl a b r) (ha : -2147483648 ≤ a) (hb : b ≤ 2147483647) : rg a b x := by
  have h1 := h.1
  have h2 := h.2
  have e2 : x.toInt = r.toInt := by
    rw [e, Int64.toInt_toInt32]
    simp only [Int.bmod]
    split <;> omega
  exact ⟨by omega, by omega⟩
theorem rem2k : ∀ j, j < 61 → (nI j - nI j / 2 * 2).toInt = 0 → j % 2 = 0 := by decide +kernel
theorem rem2 {x y : Int32} (e : y = x - x / 2 * 2) (h : rg 0 60 x) (hy : y.toInt = 0) : x.toInt % 2 = 0 := by
  obtain ⟨j, hj, rfl, hjb⟩ := rg_nat h
  rw [e] at hy
  have h2 := rem2k j (by omega) hy
  rw [nI_toInt hj]; omega
