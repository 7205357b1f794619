/-! the class's relations -/
theorem hold_1 {p0 p1 x y : Int32} (e1 : x = p0 >>> (p1 &&& 31)) (e2 : y = x &&& 1) (h : y = 1) : (1 : Int32) = bt p0 p1 := by rw [← h, e2, e1]; rfl
theorem hold_0 {p0 p1 x y : Int32} (e1 : x = p0 >>> (p1 &&& 31)) (e2 : y = x &&& 1) (h : ¬ y = 1) : (0 : Int32) = bt p0 p1 := by
  have e : y = bt p0 p1 := by rw [e2, e1]; rfl
  have h1 := bt_rg p0 p1
  rw [← e] at h1 ⊢
  have h2 : ¬ y.toInt = 1 := fun z => h (Int32.toInt_inj.mp (by rw [z]; decide))
  exact Int32.toInt_inj.mp (by have z0 : (0 : Int32).toInt = 0 := rfl; have := h1.1; have := h1.2; omega)
def us32 (x y : Int32) : Int32 := (x.toUInt32 >>> (y.toUInt32 &&& Int32.toUInt32 31)).toInt32
def bc1 (i : Int32) : Int32 := i - (us32 i 1 &&& 1431655765)
def bc2 (i : Int32) : Int32 := (i &&& 858993459) + (us32 i 2 &&& 858993459)
def bc3 (i : Int32) : Int32 := (i + us32 i 4) &&& 252645135
def bc4 (i : Int32) : Int32 := i + us32 i 8
def bc5 (i : Int32) : Int32 := i + us32 i 16
def bcq (x : Int32) : Int32 := bc5 (bc4 (bc3 (bc2 (bc1 x)))) &&& 63
theorem bcq_0 : bcq 0 = 0 := by decide +kernel
theorem bcq_nz {x r : Int32} (o : r = bcq x) (h : ¬ r.toInt = 0) : ¬ x = 0 := fun z => by
  rw [z, bcq_0] at o
  exact h (by rw [o]; rfl)
theorem bcq_16 : ∀ j, j < 16 → ∀ k, k < 4 → bt (nI j) (nI k) = 0 → rg 0 3 (bcq (nI j)) := by decide +kernel
theorem bcq_3 {x p r h : Int32} (hx : rg 0 15 x) (hp : rg 0 3 p) (oh : h = bt x p) (ch : h.toInt = (0 : Int32).toInt) (ob : r = bcq x) : rg 0 3 r := by
  obtain ⟨j, hj, rfl, hjb⟩ := rg_nat hx
  obtain ⟨i, hi, rfl, hib⟩ := rg_nat hp
  have h0 : h = 0 := Int32.toInt_inj.mp ch
  rw [ob]; exact bcq_16 j (by omega) i (by omega) (by rw [← oh, h0])
abbrev nob (x : Int32) (m : Int) : Prop := ∀ k : Nat, k < 9 → (k : Int) < m → ¬ bt x (nI k) = 1
theorem nob_0 {x : Int32} : nob x (0 : Int32).toInt := fun k _ h => by have z0 : (0 : Int32).toInt = 0 := rfl; omega
theorem nob_s {x w w2 r : Int32} (h : nob x w.toInt) (e : w2.toInt = w.toInt + 1) (o : r = bt x w) (hr : r.toInt = (0 : Int32).toInt) : nob x w2.toInt := fun k hk hlt hb => by
  by_cases z : (k : Int) < w.toInt
  · exact h k hk z hb
  · exact nzk hk o hr hb (by omega)
theorem nob_nz {n x : Int32} (hn : rg 0 9 n) (h : lo9 n x) (h0 : ¬ x = 0) (hb : nob x n.toInt) : False := by
  obtain ⟨k, a, b, c⟩ := nz_of hn h h0
  exact hb k a b c
theorem lo_mono {w w2 x : Int32} (hw : rg 0 8 w) (h : lo9 w x) (e : w2.toInt = w.toInt + 1) : lo9 w2 x := lo_or0 hw h e (by simp)
theorem lo_and {n x y v : Int32} (h : lo9 n x) (e : v = x &&& y) : lo9 n v := by
  have a := rg_andL (x := x) (y := y) (d := x.toInt) ⟨h.1, Int.le_refl _⟩
  rw [← e] at a
  exact ⟨a.1, Int.lt_of_le_of_lt a.2 h.2⟩
theorem OB_rg (j : Nat) : rg 0 6 (OB j) := by
  match j with
  | 0 => decide
  | 1 => decide
  | 2 => decide
  | 3 => decide
  | (n + 4) => show rg 0 6 0; decide
def spC (g : Nat → Int64) (m : Int) : Prop := ∀ k : Nat, 2 * (k : Int) < m → rl 0 7 (g (2 * k)) ∧ rl 0 9 (g (2 * k + 1))
theorem spC_0 {g : Nat → Int64} : spC g (0 : Int32).toInt := fun k hk => by rw [zt0] at hk; omega
theorem spC_m {g : Nat → Int64} {m n : Int} (h : spC g n) (hm : m ≤ n) : spC g m := fun k hk => h k (by omega)
theorem spC_s {g : Nat → Int64} {l l' x : Int32} {r1 r2 : Int64} (h : spC g l.toInt) (hev : l.toInt % 2 = 0) (hl : 0 ≤ l.toInt) (e : l'.toInt = l.toInt + 2) (el : x.toInt = l.toInt + 1) (e1 : r1 = g l.toNatClampNeg) (h1 : rl 0 7 r1) (e2 : r2 = g x.toNatClampNeg) (h2 : rl 0 9 r2) : spC g l'.toInt := by
  intro k hk
  by_cases z : 2 * (k : Int) < l.toInt
  · exact h k z
  · have a1 : l.toNatClampNeg = 2 * k := by show l.toInt.toNat = _; omega
    have a2 : x.toNatClampNeg = 2 * k + 1 := by show x.toInt.toNat = _; omega
    rw [a1] at e1
    rw [a2] at e2
    rw [← e1, ← e2]
    exact ⟨h1, h2⟩
theorem spC_a {g : Nat → Int64} {l : Int32} {m : Int} {r : Int64} (h : spC g m) (hev : l.toInt % 2 = 0) (hl : 0 ≤ l.toInt) (hm : l.toInt < m) (e : r = g l.toNatClampNeg) : rl 0 7 r := by
  have a := (h (l.toInt.toNat / 2) (by omega)).1
  have a1 : l.toNatClampNeg = 2 * (l.toInt.toNat / 2) := by show l.toInt.toNat = _; omega
  rw [a1] at e
  rw [e]; exact a
theorem spC_b {g : Nat → Int64} {l x : Int32} {m : Int} {r : Int64} (h : spC g m) (hev : l.toInt % 2 = 0) (hl : 0 ≤ l.toInt) (hm : l.toInt < m) (el : x.toInt = l.toInt + 1) (e : r = g x.toNatClampNeg) : rl 0 9 r := by
  have a := (h (l.toInt.toNat / 2) (by omega)).2
  have a1 : x.toNatClampNeg = 2 * (l.toInt.toNat / 2) + 1 := by show x.toInt.toNat = _; omega
  rw [a1] at e
  rw [e]; exact a
theorem mg_l {v : Int64} {w y1 y2 : Int32} {a b q : Int} (e1 : y1 = lg_cmp v 0) (c1 : ¬ y1 < 0) (e2 : y2 = lg_cmp v w.toInt64) (c2 : ¬ 0 ≤ y2) (hw : rg a b w) (hq : b - 1 ≤ q) : rl 0 q v := by
  rw [e1, lg_cmp_lt, Int64.lt_iff_toInt_lt] at c1
  rw [e2, lg_cmp_ge, Int64.le_iff_toInt_le, Int32.toInt_toInt64] at c2
  have z0 : (0 : Int64).toInt = 0 := by decide
  have := hw.2
  exact ⟨by omega, by omega⟩
theorem iw_l {v : Int64} {w y1 y2 : Int32} {a b q : Int} (e1 : y1 = lg_cmp v 0) (c1 : ¬ y1 < 0) (e2 : y2 = lg_cmp v w.toInt64) (c2 : y2 < 0) (hw : rg a b w) (hq : b - 1 ≤ q) : rl 0 q v := by
  rw [e1, lg_cmp_lt, Int64.lt_iff_toInt_lt] at c1
  rw [e2, lg_cmp_lt, Int64.lt_iff_toInt_lt, Int32.toInt_toInt64] at c2
  have z0 : (0 : Int64).toInt = 0 := by decide
  have := hw.2
  exact ⟨by omega, by omega⟩
abbrev spS (p0 : Int32) (g10 g11 g12 g13 : Nat → Int64) (m6 m7 m8 m9 : Int32) : Prop := rg 0 3 p0 ∧ (p0 = nI 0 → spC g10 m6.toInt) ∧ (p0 = nI 1 → spC g11 m7.toInt) ∧ (p0 = nI 2 → spC g12 m8.toInt) ∧ (p0 = nI 3 → spC g13 m9.toInt)
section XC
variable {p : Program} {l : Launch} {e : Env} {R : Room} {s : State} {m : MethodId} {args : Array Value} {below : List Frame} {meth : Method} {c : Code} {H : Heap} {locs : List Loc} {cells slots : Nat} {Q : State → Prop}
variable {cc : ByteArray} {pc : Nat} {ls : Array Slot} {rest : List Value} {D : va_G} {A : Nat → Prop} {a : Nat} {tys : List (ClassId × FieldType)} {ws : va_W} {H0 : Heap}
theorem y_copyl (hexec : p.tables.exec = Jvm.exec) (hb : c.code = cc) (hml : c.maxLocals = ls.size) {own : String} {index : Nat} (hown : s.vm.findClass own = some m.cls) (hlink : (Cond.methodLink own index arraycopyName).before args s = true) (hnat : (Cond.native arraycopyName).before args s = true) (hstat : (Cond.static arraycopyName).before args s = true) (hini : (Cond.initialized "java/lang/System").before args s = true)
    (hK : va_K D classes tys s) (hP : va_P D classes ws H) (hD : va_D A ws) (hS : va_S A H0 H locs) (q0 q1 t0 t1 : Nat) {a0 : Nat} {c0 c1 : ClassId} {n0 n1 : Nat} {f g : Nat → Int64} (ha0 : ws[q0]? = some (a0, .inl (c0, n0, .inr (.inl f)))) (ha1 : ws[q1]? = some (a, .inl (c1, n1, .inr (.inl g)))) (ht0 : tys[t0]? = some (c0, .long)) (ht1 : tys[t1]? = some (c1, .long))
    {sp dp n : Int32} (h1 : 0 ≤ sp.toInt) (h2 : 0 ≤ dp.toInt) (h3 : 0 ≤ n.toInt) (h4 : sp.toInt + n.toInt ≤ n0) (h5 : dp.toInt + n.toInt ≤ n1)
    (hframes : 1 ≤ R.frames) (hlocals : (rest.map fun v => v.category).sum + (nativeFrameWords "java/lang/System" "arraycopy" 5 + 11) ≤ R.locals) (hdg : decode cc pc = .ok (.invokestatic index, 3))
    (kk : ∀ (h : Nat → Int64) (H1 : Heap) (locs1 : List Loc), va_P D classes (ws.set q1 (a, .inl (c1, n1, .inr (.inl h)))) H1 → va_D A (ws.set q1 (a, .inl (c1, n1, .inr (.inl h)))) → va_S A H0 H1 locs1 → W p l e R s m args below meth c H1 locs1 cells slots Q (F0 m (pc + 3) ls rest)) : W p l e R s m args below meth c H locs cells slots Q (F0 m pc ls (.int n :: .int dp :: .ref a :: .int sp :: .ref a0 :: rest)) := by
  have nn : ∀ z : Int32, 0 ≤ z.toInt → ¬ z < 0 := fun z hz q => by rw [Int32.lt_iff_toInt_lt, Int32.toInt_zero] at q; omega
  refine va_copyl hexec hb hml hown hlink hnat hstat hini hK hP hD hS q0 q1 t0 t1 ha0 ha1 ht0 ht1 rfl (nn _ h1) (nn _ h2) (nn _ h3) (by show sp.toInt.toNat + n.toInt.toNat ≤ n0; omega) (by show dp.toInt.toNat + n.toInt.toNat ≤ n1; omega) (fun _ _ => rfl) hframes hlocals hdg (fun H1 l1 w1 w2 w3 => ?_)
  exact kk _ H1 l1 w1 w2 w3
end XC
