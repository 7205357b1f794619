/-! bits, relations -/
theorem sub_tr {x y : Int32} {a b c d : Int} (h : rg a b x) (k : rg c d y) (h1 : -2147483648 ≤ a - d) (h2 : b - c ≤ 2147483647) : (x - y).toInt = x.toInt - y.toInt := by
  have := h.1; have := h.2; have := k.1; have := k.2
  exact sub_t (by omega) (by omega)
theorem mul_tr {x y : Int32} {k b : Int} (e : y.toInt = k) (h : rg 0 b x) (h2 : 0 ≤ k ∧ k * b ≤ 2147483647) : (y * x).toInt = k * x.toInt := by
  have h3 : k * x.toInt ≤ k * b := Int.mul_le_mul_of_nonneg_left h.2 h2.1
  have h4 : 0 ≤ k * x.toInt := Int.mul_nonneg h2.1 h.1
  rw [mul_t (by rw [e]; omega) (by rw [e]; omega), e]
/-- the bit k of x -/
def bt (x k : Int32) : Int32 := (x >>> (k &&& 31)) &&& 1
theorem bt_rg (x k : Int32) : rg 0 1 (bt x k) := rg_and (rg_w (rg_c (x := 1) (k := 1) (by decide)) (by decide) (by decide))
def pcn (x : Int32) : Int := (bt x 0).toInt + (bt x 1).toInt + (bt x 2).toInt + (bt x 3).toInt + (bt x 4).toInt + (bt x 5).toInt + (bt x 6).toInt + (bt x 7).toInt + (bt x 8).toInt
theorem pcn_rg (x : Int32) : 0 ≤ pcn x ∧ pcn x ≤ 9 := by
  have h0 := bt_rg x 0; have h1 := bt_rg x 1; have h2 := bt_rg x 2; have h3 := bt_rg x 3; have h4 := bt_rg x 4; have h5 := bt_rg x 5; have h6 := bt_rg x 6; have h7 := bt_rg x 7; have h8 := bt_rg x 8
  unfold pcn
  exact ⟨by omega, by omega⟩
/-- no bit at n or above -/
abbrev lo9 (n x : Int32) : Prop := 0 ≤ x.toInt ∧ x.toInt < (2 : Int) ^ n.toInt.toNat
theorem lo9_512 {n x : Int32} (hn : rg 0 9 n) (h : lo9 n x) : x.toInt ≤ 511 := by
  have h1 : (2 : Int) ^ n.toInt.toNat ≤ 2 ^ 9 := by
    have h2 : 2 ^ n.toInt.toNat ≤ 2 ^ 9 := Nat.pow_le_pow_right (by decide) (by have := hn.2; omega)
    exact_mod_cast h2
  have := h.2
  omega
theorem bt_top : ∀ j, j < 512 → 0 < j → ∃ k, k < 9 ∧ 2 ^ k ≤ j ∧ bt (nI j) (nI k) = 1 := by decide +kernel
theorem nz_of {n x : Int32} (hn : rg 0 9 n) (h : lo9 n x) (h0 : ¬ x = 0) : ∃ k : Nat, k < 9 ∧ (k : Int) < n.toInt ∧ bt x (nI k) = 1 := by
  have hb := lo9_512 hn h
  obtain ⟨j, hj, rfl, hjb⟩ := rg_nat (x := x) (b := 511) ⟨h.1, hb⟩
  have hj0 : 0 < j := by
    rcases Nat.eq_zero_or_pos j with e | e
    · subst e; exact absurd rfl h0
    · exact e
  obtain ⟨k, hk, hp, hbt⟩ := bt_top j (by omega) hj0
  refine ⟨k, hk, ?_, hbt⟩
  have h2 := h.2
  rw [nI_toInt hj] at h2
  have h3 : j < 2 ^ n.toInt.toNat := by exact_mod_cast h2
  have h4 : k < n.toInt.toNat := (Nat.pow_lt_pow_iff_right (by decide : 1 < 2)).mp (Nat.lt_of_le_of_lt hp h3)
  omega
theorem pcn_pos : ∀ j, j < 512 → 0 < j → 1 ≤ pcn (nI j) := by decide +kernel
theorem pcn_1 {n x : Int32} (hn : rg 0 9 n) (h : lo9 n x) (h0 : ¬ x = 0) : 1 ≤ pcn x := by
  have hb := lo9_512 hn h
  obtain ⟨j, hj, rfl, hjb⟩ := rg_nat (x := x) (b := 511) ⟨h.1, hb⟩
  refine pcn_pos j (by omega) ?_
  rcases Nat.eq_zero_or_pos j with e | e
  · subst e; exact absurd rfl h0
  · exact e
theorem pcn_nz {x : Int32} (h : 1 ≤ pcn x) : ¬ x = 0 := fun e => by subst e; exact absurd h (by decide +kernel)
theorem strike_k : ∀ j, j < 512 → ∀ k, k < 9 → bt (nI j) (nI k) = 1 → pcn (nI j &&& (((1 : Int32) <<< (nI k &&& 31)) ^^^ (-1))) + 1 = pcn (nI j) ∧ 0 ≤ (nI j &&& (((1 : Int32) <<< (nI k &&& 31)) ^^^ (-1))).toInt ∧ (nI j &&& (((1 : Int32) <<< (nI k &&& 31)) ^^^ (-1))).toInt ≤ (j : Int) := by decide +kernel
theorem strike_l {n x k y z v : Int32} (hn : rg 0 9 n) (h : lo9 n x) (hk : rg 0 8 k) (hb : bt x k = 1) (e1 : y = (1 : Int32) <<< (k &&& 31)) (e2 : z = y ^^^ (-1)) (e3 : v = x &&& z) : lo9 n v ∧ pcn v + 1 = pcn x := by
  have h5 := lo9_512 hn h
  obtain ⟨j, hj, rfl, hjb⟩ := rg_nat (x := x) (b := 511) ⟨h.1, h5⟩
  obtain ⟨i, hi, rfl, hib⟩ := rg_nat hk
  have q := strike_k j (by omega) i (by omega) hb
  rw [← e1, ← e2, ← e3] at q
  refine ⟨⟨q.2.1, ?_⟩, q.1⟩
  have h2 := h.2
  rw [nI_toInt hj] at h2
  have := q.2.2
  omega
theorem or_k : ∀ k, k < 9 → ∀ j, j < 512 → bt (((1 : Int32) <<< (nI k &&& 31)) ||| nI j) (nI k) = 1 := by decide +kernel
theorem nz_or {n k y z v : Int32} (hk : rg 0 8 k) (hn : k.toInt < n.toInt) (e1 : y = (1 : Int32) <<< (k &&& 31)) (hz : rg 0 511 z) (e : v = y ||| z) : ∃ i : Nat, i < 9 ∧ (i : Int) < n.toInt ∧ bt v (nI i) = 1 := by
  obtain ⟨i, hi, rfl, hib⟩ := rg_nat hk
  obtain ⟨j, hj, rfl, hjb⟩ := rg_nat hz
  rw [nI_toInt hi] at hn
  refine ⟨i, by omega, hn, ?_⟩
  rw [e, e1]; exact or_k i (by omega) j (by omega)
theorem lo_z : lo9 0 0 := ⟨by decide, by decide⟩
theorem lo_or {w w2 x v y : Int32} (hw : rg 0 8 w) (h : lo9 w x) (e2 : w2.toInt = w.toInt + 1) (hv : 0 ≤ v.toInt ∧ v.toInt < (2 : Int) ^ (w.toInt.toNat + 1)) (e : y = x ||| v) : lo9 w2 y := by
  obtain ⟨i, hi, rfl, hib⟩ := rg_nat hw
  rw [nI_toInt hi] at e2 hv
  have h2 := h.2
  rw [nI_toInt hi] at h2
  have hx := nn_t h.1
  have hv1 := nn_t hv.1
  have g1 : x.toBitVec.toNat < 2 ^ (i + 1) := by
    have : x.toBitVec.toNat < 2 ^ i := by
      have h3 : (x.toBitVec.toNat : Int) < (2 : Int) ^ i := by rw [← hx]; simpa using h2
      exact_mod_cast h3
    have h4 : 2 ^ i ≤ 2 ^ (i + 1) := Nat.pow_le_pow_right (by decide) (by omega)
    omega
  have g2 : v.toBitVec.toNat < 2 ^ (i + 1) := by
    have h3 : (v.toBitVec.toNat : Int) < (2 : Int) ^ (i + 1) := by rw [← hv1]; simpa using hv.2
    exact_mod_cast h3
  have g3 : (x ||| v).toBitVec.toNat < 2 ^ (i + 1) := by
    rw [Int32.toBitVec_or, BitVec.toNat_or]; exact Nat.or_lt_two_pow g1 g2
  have g4 : 2 ^ (i + 1) ≤ 2 ^ 9 := Nat.pow_le_pow_right (by decide) (by omega)
  have e3 := bt_t (x := x ||| v) (by omega)
  rw [e]
  refine ⟨by omega, ?_⟩
  rw [e3, e2, show ((i : Int) + 1).toNat = i + 1 by omega]
  exact_mod_cast g3
theorem lo_or1 {w w2 x v y : Int32} (hw : rg 0 8 w) (h : lo9 w x) (e2 : w2.toInt = w.toInt + 1) (ev : v = (1 : Int32) <<< (w &&& 31)) (e : y = x ||| v) : lo9 w2 y := by
  refine lo_or hw h e2 ?_ e
  obtain ⟨i, hi, rfl, hib⟩ := rg_nat hw
  rw [ev, shl_k i (by omega), nI_toInt hi]
  have h1 : 2 ^ i < 2 ^ (i + 1) := Nat.pow_lt_pow_right (by decide) (by omega)
  refine ⟨by omega, ?_⟩
  have : (((2 ^ i : Nat)) : Int) < ((2 ^ (i + 1) : Nat) : Int) := by omega
  simpa using this
theorem lo_or0 {w w2 x y : Int32} (hw : rg 0 8 w) (h : lo9 w x) (e2 : w2.toInt = w.toInt + 1) (e : y = x ||| 0) : lo9 w2 y := by
  refine lo_or hw h e2 ⟨by decide, ?_⟩ e
  have : (0 : Int) < 2 ^ (w.toInt.toNat + 1) := Int.pow_pos (by decide)
  simpa using this
theorem nzk {x w r : Int32} {k : Nat} (hk : k < 9) (o : r = bt x w) (r0 : r.toInt = (0 : Int32).toInt) (h1 : bt x (nI k) = 1) : ¬ w.toInt = (k : Int) := fun z => by
  have e : w = nI k := Int32.toInt_inj.mp (by rw [z, nI_toInt (by omega)])
  rw [e, h1] at o
  rw [o] at r0
  exact absurd r0 (by decide)
theorem bt1 {x w r : Int32} (o : r = bt x w) (r0 : ¬ r.toInt = (0 : Int32).toInt) : bt x w = 1 := by
  have h := bt_rg x w
  rw [← o] at h ⊢
  have e1 : (1 : Int32).toInt = 1 := by decide
  have e0 : (0 : Int32).toInt = 0 := rfl
  exact Int32.toInt_inj.mp (by omega)
section XE
variable {p : Program} {l : Launch} {e : Env} {R : Room} {s : State} {m : MethodId} {args : Array Value} {below : List Frame} {meth : Method} {c : Code} {H : Heap} {locs : List Loc} {cells slots : Nat} {Q : State → Prop}
variable {cc : ByteArray} {pc : Nat} {ls : Array Slot} {rest : List Value} {D : va_G} {A : Nat → Prop} {a : Nat} {tys : List (ClassId × FieldType)} {ws : va_W} {H0 : Heap}
theorem y_iastE (hexec : p.tables.exec = Jvm.exec) (hb : c.code = cc) (hK : va_K D classes tys s) (hP : va_P D classes ws H) (hD : va_D A ws) (hS : va_S A H0 H locs) (q0 t0 : Nat) {cA : ClassId} {n : Nat} {f : Nat → Int32} (ha : ws[q0]? = some (a, .inl (cA, n, .inl f))) (ht : tys[t0]? = some (cA, .int)) {i : Int32} {x : Int32} (hin : vp_in i n) (hdg : decode cc pc = .ok (.iastore, 1))
    {lo hi : Int} (hq : ∀ j, j < n → rg lo hi (f j)) (hv : rg lo hi x)
    (kk : ∀ (g : Nat → Int32) (H1 : Heap) (locs1 : List Loc), g = upd f i.toNatClampNeg x → (∀ j, j < n → rg lo hi (g j)) → va_P D classes (ws.set q0 (a, .inl (cA, n, .inl g))) H1 → va_D A (ws.set q0 (a, .inl (cA, n, .inl g))) → va_S A H0 H1 locs1 → W p l e R s m args below meth c H1 locs1 cells slots Q (F0 m (pc + 1) ls rest)) : W p l e R s m args below meth c H locs cells slots Q (F0 m pc ls (.int x :: .int i :: .ref a :: rest)) :=
  va_iast hexec hb hK hP hD hS q0 t0 ha ht hin hdg (fun H1 l1 h1 h2 h3 => kk _ H1 l1 rfl (q_upd hq hv) h1 h2 h3)
end XE
theorem lo_eq {n w x : Int32} (h : lo9 w x) (e : w.toInt = n.toInt) : lo9 n x := by rw [lo9, ← e]; exact h
theorem pcn_0 {x : Int32} (h : pcn x < ((0 : Nat) : Int)) : False := by have := (pcn_rg x).1; omega
def br (f g : Nat → Int32) (p : Int32) : Int32 := g (f (88 + 3 * p + 1).toNatClampNeg).toNatClampNeg + g (f (88 + 3 * p + 2).toNatClampNeg).toNatClampNeg + 1
def S8 (g : Nat → Int32) : Int := (g 0).toInt + (g 1).toInt + (g 2).toInt + (g 3).toInt + (g 4).toInt + (g 5).toInt + (g 6).toInt + (g 7).toInt
theorem S8_rg {g : Nat → Int32} (h : ∀ j, j < 8 → rg 0 100000 (g j)) : 0 ≤ S8 g ∧ S8 g ≤ 800000 := by
  have h0 := h 0 (by decide); have h1 := h 1 (by decide); have h2 := h 2 (by decide); have h3 := h 3 (by decide); have h4 := h 4 (by decide); have h5 := h 5 (by decide); have h6 := h 6 (by decide); have h7 := h 7 (by decide)
  unfold S8
  exact ⟨by omega, by omega⟩
theorem S8_upd {g : Nat → Int32} {m x : Int32} (hm : rg 0 7 m) (hx : x.toInt < (g m.toNatClampNeg).toInt) : S8 (upd g m.toNatClampNeg x) < S8 g := by
  obtain ⟨j, hj, rfl, hjb⟩ := rg_nat hm
  rw [nI_clamp hj] at hx ⊢
  have hj8 : j < 8 := by omega
  unfold S8
  rcases (by omega : j = 0 ∨ j = 1 ∨ j = 2 ∨ j = 3 ∨ j = 4 ∨ j = 5 ∨ j = 6 ∨ j = 7) with rfl | rfl | rfl | rfl | rfl | rfl | rfl | rfl <;> simp only [upd] <;> simp <;> omega
theorem S8_step {g g0 g1 : Nat → Int32} {m x mo : Int32} (h : S8 g ≤ S8 g0 ∧ (mo.toInt = 0 ∨ S8 g < S8 g0)) (e : g1 = upd g m.toNatClampNeg x) (hm : rg 0 7 m) (hx : x.toInt < (g m.toNatClampNeg).toInt) : S8 g1 ≤ S8 g0 ∧ ((1 : Int32).toInt = 0 ∨ S8 g1 < S8 g0) := by
  have h1 := S8_upd hm hx
  rw [← e] at h1
  have h2 := h.1
  exact ⟨by omega, Or.inr (by omega)⟩
theorem rem_lt {x y r : Int32} (e : r = x - x / y * y) (h : ¬ y = 0) : r.toInt.natAbs < y.toInt.natAbs := by
  have hy : ¬ y.toInt = 0 := fun z => h (Int32.toInt_inj.mp z)
  have h1 : (x.toInt.tmod y.toInt).natAbs < y.toInt.natAbs := by
    rw [Int.natAbs_tmod]; exact Nat.mod_lt _ (by omega)
  have h2 : r.toInt = x.toInt.tmod y.toInt := by
    rw [e, Int32.toInt_sub, Int32.toInt_mul, Int32.toInt_div, Int.sub_bmod_bmod, ← Int.sub_bmod_bmod, Int.bmod_mul_bmod, Int.sub_bmod_bmod]
    have h3 : x.toInt - x.toInt.tdiv y.toInt * y.toInt = x.toInt.tmod y.toInt := by
      have := Int.tdiv_mul_add_tmod x.toInt y.toInt; omega
    rw [h3]
    have := i_min y; have := i_max y
    exact i_wrap (by omega) (by omega)
  rw [h2]; exact h1
theorem t_gtn {r : Int32} (h : r ≤ 0) : ¬ (0 : Int32) < r := fun z => by have := t_le h; have := t_lt z; omega
theorem lc_le {i n m r : Int32} {s : Int64} (es : s = i.toInt64 + n.toInt64) (er : r = lg_cmp s m.toInt64) (c : ¬ (0 : Int32) < r) : i.toInt + n.toInt ≤ m.toInt := by
  have h1 : r ≤ 0 := by
    rw [Int32.le_iff_toInt_le]; rw [Int32.lt_iff_toInt_lt] at c; omega
  rw [er, lg_cmp_le, Int64.le_iff_toInt_le, es, Int64.toInt_add, Int32.toInt_toInt64, Int32.toInt_toInt64, Int32.toInt_toInt64] at h1
  have := i_min i; have := i_max i; have := i_min n; have := i_max n
  have h2 : (i.toInt + n.toInt).bmod (2 ^ 64) = i.toInt + n.toInt := by
    unfold Int.bmod
    simp only []
    split <;> omega
  rw [h2] at h1
  exact h1
