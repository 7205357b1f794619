/-! longs by ranges; rows with ranges by place -/
abbrev rl (lo hi : Int) (x : Int64) : Prop := lo ≤ x.toInt ∧ x.toInt ≤ hi
theorem rl_c {x : Int64} {k : Int} (e : x.toInt = k) : rl k k x := ⟨by omega, by omega⟩
theorem rl_w {a b c d : Int} {x : Int64} (h : rl a b x) (h1 : c ≤ a) (h2 : b ≤ d) : rl c d x := ⟨Int.le_trans h1 h.1, Int.le_trans h.2 h2⟩
theorem rl_i2l {a b : Int} {x : Int32} (h : rg a b x) : rl a b x.toInt64 := by
  rw [rl, Int32.toInt_toInt64]; exact h
theorem rl_any (x : Int64) : rl (-9223372036854775808) 9223372036854775807 x := ⟨Int64.le_toInt x, by have := Int64.toInt_lt x; omega⟩
theorem in_cvl {x lo hi : Int64} {a b c d p q : Int} (o : lo.toInt ≤ x.toInt ∧ x.toInt ≤ hi.toInt) (hl : rl a b lo) (hh : rl c d hi) (e1 : p ≤ a) (e2 : d ≤ q) : rl p q x := by
  have := hl.1; have := hh.2; exact ⟨by omega, by omega⟩
theorem in_cvi {x : Int32} {lo hi : Int64} {a b c d p q : Int} (o : lo.toInt ≤ x.toInt64.toInt ∧ x.toInt64.toInt ≤ hi.toInt) (hl : rl a b lo) (hh : rl c d hi) (e1 : p ≤ a) (e2 : d ≤ q) : rg p q x := by
  rw [Int32.toInt_toInt64] at o
  have := hl.1; have := hh.2; exact ⟨by omega, by omega⟩
theorem rl_i {x : Int32} {a b : Int} (h : rl a b x.toInt64) : rg a b x := by rw [rl, Int32.toInt_toInt64] at h; exact h
/-- the model's world, by its places -/
def wb (j : Nat) : Int × Int :=
  if j = 0 then (0, 8) else if j = 4 then (0, 4) else if j = 5 ∨ j = 6 then (0, 9) else if j = 7 then (0, 8) else if j = 8 then (0, 60)
  else if 16 ≤ j ∧ j < 52 ∧ (j % 4 = 1 ∨ j % 4 = 2) then (0, 3) else if 16 ≤ j ∧ j < 52 ∧ j % 4 = 0 then (0, 12) else if 88 ≤ j ∧ j < 112 then (0, 7) else (-2147483648, 2147483647)
abbrev wR (f : Nat → Int32) : Prop := ∀ j, j < 841 → rg (wb j).1 (wb j).2 (f j)
def vb (j : Nat) : Int × Int := if j = 8 then (0, 59) else wb j
abbrev vR (f : Nat → Int32) : Prop := ∀ j, j < 841 → rg (vb j).1 (vb j).2 (f j)
theorem vR_w {f : Nat → Int32} (h : vR f) : wR f := fun j hj => by
  have h1 := h j hj
  by_cases e : j = 8
  · subst e; exact rg_w h1 (by decide) (by decide)
  · rw [vb, if_neg e] at h1; exact h1
theorem vR_of {f : Nat → Int32} {a b : Int} (h : wR f) (h8 : rg a b (f 8)) (h0 : 0 ≤ a) (h1 : b ≤ 59) : vR f := fun j hj => by
  by_cases e : j = 8
  · subst e; exact rg_w h8 h0 h1
  · rw [vb, if_neg e]; exact h j hj
def ib3 (j : Nat) : Int × Int := wb (j % 841)
abbrev iR (f : Nat → Int32) : Prop := ∀ j, j < 2523 → rg (ib3 j).1 (ib3 j).2 (f j)
theorem p_get {B : Nat → Int × Int} {N m r : Nat} {f : Nat → Int32} {x : Int32} {a b lo hi : Int} (hq : ∀ j, j < N → rg (B j).1 (B j).2 (f j)) (h : rg a b x) (h0 : 0 ≤ a) (h1 : b < N) (hc : x.toInt % (m : Int) = (r : Int))
    (hb : ∀ j, j < N → (decide (a ≤ (j : Int)) && decide ((j : Int) ≤ b) && decide (j % m = r)) = true → lo ≤ (B j).1 ∧ (B j).2 ≤ hi) : rg lo hi (f x.toNatClampNeg) := by
  obtain ⟨j, hj, rfl, hjb⟩ := rg_nat (x := x) (b := b) ⟨Int.le_trans h0 h.1, h.2⟩
  have ha := h.1
  rw [nI_toInt hj] at ha hc
  rw [nI_clamp hj]
  have hm : j % m = r := by exact_mod_cast hc
  have hz := hb j (by omega) (by simp only [Bool.and_eq_true, decide_eq_true_eq]; exact ⟨⟨ha, hjb⟩, hm⟩)
  exact rg_w (hq j (by omega)) hz.1 hz.2
theorem p_upd {B : Nat → Int × Int} {N m r : Nat} {f : Nat → Int32} {x v : Int32} {a b lo hi : Int} (hq : ∀ j, j < N → rg (B j).1 (B j).2 (f j)) (h : rg a b x) (h0 : 0 ≤ a) (hc : x.toInt % (m : Int) = (r : Int)) (hv : rg lo hi v)
    (hb : ∀ j, j < N → (decide (a ≤ (j : Int)) && decide ((j : Int) ≤ b) && decide (j % m = r)) = true → (B j).1 ≤ lo ∧ hi ≤ (B j).2) : ∀ j, j < N → rg (B j).1 (B j).2 (upd f x.toNatClampNeg v j) := by
  obtain ⟨i, hi, rfl, hib⟩ := rg_nat (x := x) (b := b) ⟨Int.le_trans h0 h.1, h.2⟩
  have ha := h.1
  rw [nI_toInt hi] at ha hc
  rw [nI_clamp hi]
  have hm : i % m = r := by exact_mod_cast hc
  intro j hj
  by_cases e : j = i
  · subst e
    rw [pk_us]
    have hz := hb j hj (by simp only [Bool.and_eq_true, decide_eq_true_eq]; exact ⟨⟨ha, hib⟩, hm⟩)
    exact rg_w hv hz.1 hz.2
  · rw [pk_un e]; exact hq j hj
theorem p_upd8 {f : Nat → Int32} {x v : Int32} (hq : wR f) (hv : rg 0 60 v) (e : x.toNatClampNeg = 8) : ∀ j, j < 841 → rg (wb j).1 (wb j).2 (upd f x.toNatClampNeg v j) := by
  rw [e]; intro j hj
  by_cases e : j = 8
  · subst e; rw [pk_us]; exact hv
  · rw [pk_un e]; exact hq j hj
theorem p_upd8v {f : Nat → Int32} {x v : Int32} (hq : wR f) (hv : rg 0 59 v) (e : x.toNatClampNeg = 8) : ∀ j, j < 841 → rg (vb j).1 (vb j).2 (upd f x.toNatClampNeg v j) := by
  rw [e]; intro j hj
  by_cases e : j = 8
  · subst e; rw [pk_us]; exact hv
  · rw [pk_un e, vb, if_neg e]; exact hq j hj
theorem cg_1 (x : Int32) : x.toInt % ((1 : Nat) : Int) = ((0 : Nat) : Int) := by simp
theorem cg_mul {x y : Int32} {b : Int} {k : Nat} (e : y.toInt = (k : Int)) (h : rg 0 b x) (h2 : b * (k : Int) ≤ 2147483647) : (y * x).toInt % (k : Int) = ((0 : Nat) : Int) := by
  have h3 : x.toInt * (k : Int) ≤ b * (k : Int) := Int.mul_le_mul_of_nonneg_right h.2 (by omega)
  have h4 : 0 ≤ x.toInt * (k : Int) := Int.mul_nonneg h.1 (by omega)
  have e2 : (y * x).toInt = (k : Int) * x.toInt := by
    rw [mul_t (by rw [e, Int.mul_comm]; omega) (by rw [e, Int.mul_comm]; omega), e]
  rw [e2]; simp
theorem add_tr {x y : Int32} {a b c d : Int} (h : rg a b x) (k : rg c d y) (h1 : -2147483648 ≤ a + c) (h2 : b + d ≤ 2147483647) : (x + y).toInt = x.toInt + y.toInt := by
  have := h.1; have := h.2; have := k.1; have := k.2
  exact add_t (by omega) (by omega)
theorem cg_add {x y : Int32} {m r r2 : Nat} {a b k : Int} (hc : x.toInt % (m : Int) = (r : Int)) (h : rg a b x) (e : y.toInt = k) (h1 : -2147483648 ≤ a + k) (h3 : b + k ≤ 2147483647) (h2 : ((r : Int) + k) % (m : Int) = (r2 : Int)) : (x + y).toInt % (m : Int) = (r2 : Int) := by
  rw [add_tr h (rg_c e) h1 h3, e, ← Int.emod_add_emod, hc, h2]
theorem cg_addL {x y : Int32} {m r r2 : Nat} {a b k : Int} (hc : x.toInt % (m : Int) = (r : Int)) (h : rg a b x) (e : y.toInt = k) (h1 : -2147483648 ≤ a + k) (h3 : b + k ≤ 2147483647) (h2 : ((r : Int) + k) % (m : Int) = (r2 : Int)) : (y + x).toInt % (m : Int) = (r2 : Int) := by
  rw [Int32.add_comm]; exact cg_add hc h e h1 h3 h2
theorem rg_un {x b y : Int32} {a c lo hi p q k : Int} (e : x = b + y) (hb : rg a c b) (hx : rg lo hi x) (ey : y.toInt = k) (h1 : -2147483648 ≤ a + k) (h2 : c + k ≤ 2147483647) (e1 : p ≤ a ∨ p ≤ lo - k) (e2 : c ≤ q ∨ hi - k ≤ q) : rg p q b := by
  have z := hb.1; have z2 := hb.2; have z3 := hx.1; have z4 := hx.2
  have e3 : x.toInt = b.toInt + k := by rw [e, add_t (by omega) (by omega), ey]
  exact ⟨by omega, by omega⟩
theorem gp_use {Q : Prop} {r : Int32} {lo hi : Int} (h : r.toInt < 0 ∨ Q) (hn : rg lo hi r) (h0 : 0 ≤ lo) : Q := h.resolve_left (by have := hn.1; omega)
theorem rg_divc {x y : Int32} {b q : Int} {k : Nat} (h : rg 0 b x) (ey : y.toInt = (k : Int)) (hk : 0 < k) (hq : b / (k : Int) ≤ q) : rg 0 q (x / y) := by
  obtain ⟨i, hi, rfl, hib⟩ := rg_nat h
  obtain ⟨j, hj, rfl, hjb⟩ := rg_nat (x := y) (b := (k : Int)) ⟨by omega, by omega⟩
  rw [nI_toInt hj] at ey
  have ejk : j = k := by exact_mod_cast ey
  subst ejk
  rw [pk_div hi (by omega) hj]
  have h3 := Nat.div_le_self i j
  have h4 : ((i / j : Nat) : Int) ≤ b / (j : Int) := by show (i : Int) / (j : Int) ≤ b / (j : Int); exact Int.ediv_le_ediv (by omega) hib
  generalize i / j = w at h3 h4 ⊢
  rw [rg, nI_toInt (by omega)]
  exact ⟨by omega, by omega⟩
theorem cs_c {x y : Int32} {k : Int} (h : rg k k x) (e : y.toInt = k) : x = y := by
  have h1 := h.1
  have h2 := h.2
  exact Int32.toInt_inj.mp (by omega)
theorem cs_4_4 {x : Int32} (h : rg 4 4 x) : x = 4 := by
  have e : (4 : Int32).toInt = 4 := by decide
  have h1 := h.1
  have h2 := h.2
  exact Int32.toInt_inj.mp (by omega)
theorem p_cpS {f g : Nat → Int32} {i v : Int32} (hf : wR f) (hg : wR g) (hi : rg 0 840 i) (ev : v = g i.toNatClampNeg) : ∀ j, j < 841 → rg (wb j).1 (wb j).2 (upd f i.toNatClampNeg v j) := by
  obtain ⟨n, hn, rfl, hnb⟩ := rg_nat hi
  rw [nI_clamp hn] at ev ⊢
  intro j hj
  by_cases e : j = n
  · subst e; rw [pk_us, ev]; exact hg j hj
  · rw [pk_un e]; exact hf j hj
theorem cp_ix {i k t x c : Int32} (hi : rg 0 840 i) (hk : rg 0 2 k) (ec : c.toInt = 841) (e1 : t = c * k) (e2 : x = t + i) : ∃ n m : Nat, n ≤ 840 ∧ m ≤ 2 ∧ i.toNatClampNeg = n ∧ x.toNatClampNeg = 841 * m + n := by
  obtain ⟨n, hn, rfl, hnb⟩ := rg_nat hi
  obtain ⟨m, hm, rfl, hmb⟩ := rg_nat hk
  refine ⟨n, m, by omega, by omega, nI_clamp hn, ?_⟩
  have h1 : t.toInt = 841 * (m : Int) := by rw [e1, mul_t (by rw [ec, nI_toInt hm]; omega) (by rw [ec, nI_toInt hm]; omega), ec, nI_toInt hm]
  have h2 : x.toInt = 841 * (m : Int) + n := by rw [e2, add_t (by rw [h1, nI_toInt hn]; omega) (by rw [h1, nI_toInt hn]; omega), h1, nI_toInt hn]
  have h3 : x = nI (841 * m + n) := Int32.toInt_inj.mp (by rw [h2, nI_toInt (by omega)]; omega)
  rw [h3, nI_clamp (by omega)]
theorem p_cpI {f g : Nat → Int32} {i k t x v : Int32} (hf : iR f) (hg : wR g) (hi : rg 0 840 i) (hk : rg 0 2 k) (e1 : t = 841 * k) (e2 : x = t + i) (ev : v = g i.toNatClampNeg) : ∀ j, j < 2523 → rg (ib3 j).1 (ib3 j).2 (upd f x.toNatClampNeg v j) := by
  obtain ⟨n, m, hn, hm, h1, h2⟩ := cp_ix hi hk (by decide) e1 e2
  rw [h1] at ev; rw [h2]
  intro j hj
  by_cases e : j = 841 * m + n
  · subst e; rw [pk_us, ev, ib3, show (841 * m + n) % 841 = n by omega]; exact hg n (by omega)
  · rw [pk_un e]; exact hf j hj
theorem p_cpW {f g : Nat → Int32} {i k t x v : Int32} (hf : wR f) (hg : iR g) (hi : rg 0 840 i) (hk : rg 0 2 k) (e1 : t = 841 * k) (e2 : x = t + i) (ev : v = g x.toNatClampNeg) : ∀ j, j < 841 → rg (wb j).1 (wb j).2 (upd f i.toNatClampNeg v j) := by
  obtain ⟨n, m, hn, hm, h1, h2⟩ := cp_ix hi hk (by decide) e1 e2
  rw [h2] at ev; rw [h1]
  intro j hj
  by_cases e : j = n
  · subst e; rw [pk_us, ev]; have h9 := hg (841 * m + j) (by omega); rw [ib3, show (841 * m + j) % 841 = j by omega] at h9; exact h9
  · rw [pk_un e]; exact hf j hj
section XP
variable {p : Program} {l : Launch} {e : Env} {R : Room} {s : State} {m : MethodId} {args : Array Value} {below : List Frame} {meth : Method} {c : Code} {H : Heap} {locs : List Loc} {cells slots : Nat} {Q : State → Prop}
variable {cc : ByteArray} {pc : Nat} {ls : Array Slot} {rest : List Value} {D : va_G} {A : Nat → Prop} {a : Nat} {tys : List (ClassId × FieldType)} {ws : va_W} {H0 : Heap}
theorem y_iastP {B : Nat → Int × Int} (hexec : p.tables.exec = Jvm.exec) (hb : c.code = cc) (hK : va_K D classes tys s) (hP : va_P D classes ws H) (hD : va_D A ws) (hS : va_S A H0 H locs) (q0 t0 : Nat) {cA : ClassId} {n : Nat} {f : Nat → Int32} (ha : ws[q0]? = some (a, .inl (cA, n, .inl f))) (ht : tys[t0]? = some (cA, .int)) {i : Int32} {x : Int32} (hin : vp_in i n) (hdg : decode cc pc = .ok (.iastore, 1))
    (hq : ∀ j, j < n → rg (B j).1 (B j).2 (upd f i.toNatClampNeg x j))
    (kk : ∀ (g : Nat → Int32) (H1 : Heap) (locs1 : List Loc), (∀ j, j < n → rg (B j).1 (B j).2 (g j)) → va_P D classes (ws.set q0 (a, .inl (cA, n, .inl g))) H1 → va_D A (ws.set q0 (a, .inl (cA, n, .inl g))) → va_S A H0 H1 locs1 → W p l e R s m args below meth c H1 locs1 cells slots Q (F0 m (pc + 1) ls rest)) : W p l e R s m args below meth c H locs cells slots Q (F0 m pc ls (.int x :: .int i :: .ref a :: rest)) :=
  va_iast hexec hb hK hP hD hS q0 t0 ha ht hin hdg (fun H1 l1 h1 h2 h3 => kk _ H1 l1 hq h1 h2 h3)
end XP
