/-! the law -/
def imA (k : Int32) : Int32 := if 0 ≤ k.toInt ∧ k.toInt ≤ 2 then 0 else -2
theorem imA_out {k : Int32} (h : k.toInt < 0 ∨ 2 < k.toInt) : (-2 : Int32) = imA k := by unfold imA; rw [if_neg (by omega)]
theorem imA_in {k : Int32} (h : rg 0 2 k) : (0 : Int32) = imA k := by unfold imA; rw [if_pos h]
theorem inW_0 {v lo hi : Int64} {r : Int32} (o : r = inW v lo hi) (h : r.toInt = (0 : Int32).toInt) : ¬ (lo.toInt ≤ v.toInt ∧ v.toInt ≤ hi.toInt) := fun z => by
  rw [o, inW, if_pos z] at h
  exact absurd h (by decide)
theorem imA_outL {k r : Int32} (o : r = inW k.toInt64 0 2) (h : r.toInt = (0 : Int32).toInt) : (-2 : Int32) = imA k := by
  have q := inW_0 o h
  rw [Int32.toInt_toInt64] at q
  have z0 : (0 : Int64).toInt = 0 := by decide
  have z2 : (2 : Int64).toInt = 2 := by decide
  exact imA_out (by omega)
theorem nI_p (i k : Nat) : nI i + nI k = nI (i + k) := (Int32.ofNat_add i k).symm
theorem nI_p1 (i : Nat) : nI i + 1 = nI (i + 1) := nI_p i 1
theorem nI_p2 (i : Nat) : nI i + 2 = nI (i + 2) := nI_p i 2
theorem nI_p3 (i : Nat) : nI i + 3 = nI (i + 3) := nI_p i 3
theorem nI_p4 (i : Nat) : nI i + 4 = nI (i + 4) := nI_p i 4
theorem nI_p5 (i : Nat) : nI i + 5 = nI (i + 5) := nI_p i 5
theorem nI_p6 (i : Nat) : nI i + 6 = nI (i + 6) := nI_p i 6
theorem lw_lt {L i : Nat} (hL : L ≤ 3072) (hi : i ≤ 3078) (h : ¬ (Int32.ofNat L - 6 : Int32) < nI i) : i + 6 ≤ L := by
  have h1 := t_nlt h
  have e1 : (Int32.ofNat L).toInt = (L : Int) := nI_toInt (n := L) (by omega)
  have e6 : (6 : Int32).toInt = 6 := by decide
  rw [nI_toInt (by omega), sub_t (by omega) (by omega), e1, e6] at h1
  omega
theorem wR_0 : wR (fun _ => (0 : Int32)) := by
  have h : ∀ j, j < 841 → rg (wb j).1 (wb j).2 (0 : Int32) := by decide +kernel
  exact h
theorem iR_0 : iR (fun _ => (0 : Int32)) := by
  have h : ∀ j, j < 2523 → rg (ib3 j).1 (ib3 j).2 (0 : Int32) := by decide +kernel
  exact h
theorem mny_rg : ∀ j, j < 4 → rg (-1) 60 (mny j) := by decide +kernel
/-! small tests of both sides -/
def nthV (w : Int32) : Int32 := if w = -1 then 1 else 0
theorem nth_1 {w : Int32} (h : w = -1) : (1 : Int32) = nthV w := by rw [nthV, if_pos h]
theorem nth_0 {w : Int32} (h : ¬ w = -1) : (0 : Int32) = nthV w := by rw [nthV, if_neg h]
theorem nth_y {w r : Int32} (o : r = nthV w) (h : ¬ r.toInt = (0 : Int32).toInt) : w = -1 := by
  by_cases z : w = -1
  · exact z
  · rw [o, nthV, if_neg z] at h; exact absurd rfl h
theorem nth_n {w r : Int32} (o : r = nthV w) (h : r.toInt = (0 : Int32).toInt) : ¬ w = -1 := fun z => by
  rw [o, nthV, if_pos z] at h; exact absurd h (by decide)
def rcV (i n l : Int32) : Int32 := if 0 ≤ i.toInt ∧ 0 ≤ n.toInt ∧ i.toInt + n.toInt ≤ l.toInt then 1 else 0
theorem rc_1 {i n l : Int32} (h : 0 ≤ i.toInt ∧ 0 ≤ n.toInt ∧ i.toInt + n.toInt ≤ l.toInt) : (1 : Int32) = rcV i n l := by rw [rcV, if_pos h]
theorem rc_0 {i n l : Int32} (h : ¬ (0 ≤ i.toInt ∧ 0 ≤ n.toInt ∧ i.toInt + n.toInt ≤ l.toInt)) : (0 : Int32) = rcV i n l := by rw [rcV, if_neg h]
theorem rc_y {i n l r : Int32} (o : r = rcV i n l) (h : ¬ r.toInt = (0 : Int32).toInt) : 0 ≤ i.toInt ∧ 0 ≤ n.toInt ∧ i.toInt + n.toInt ≤ l.toInt := by
  by_cases z : 0 ≤ i.toInt ∧ 0 ≤ n.toInt ∧ i.toInt + n.toInt ≤ l.toInt
  · exact z
  · rw [o, rcV, if_neg z] at h; exact absurd rfl h
theorem rc_n {i n l r : Int32} (o : r = rcV i n l) (h : r.toInt = (0 : Int32).toInt) : ¬ (0 ≤ i.toInt ∧ 0 ≤ n.toInt ∧ i.toInt + n.toInt ≤ l.toInt) := fun z => by
  rw [o, rcV, if_pos z] at h; exact absurd h (by decide)
theorem t_gtp {r : Int32} (h : ¬ r ≤ 0) : (0 : Int32) < r := by
  rw [Int32.le_iff_toInt_le] at h; rw [Int32.lt_iff_toInt_lt]; omega
theorem lc_gt {i n m r : Int32} {s : Int64} (es : s = i.toInt64 + n.toInt64) (er : r = lg_cmp s m.toInt64) (c : (0 : Int32) < r) : m.toInt < i.toInt + n.toInt := by
  have h1 := c
  rw [er, lg_cmp_gt, Int64.lt_iff_toInt_lt, es, Int64.toInt_add, Int32.toInt_toInt64, Int32.toInt_toInt64, Int32.toInt_toInt64] at h1
  have := i_min i; have := i_max i; have := i_min n; have := i_max n
  have h2 : (i.toInt + n.toInt).bmod (2 ^ 64) = i.toInt + n.toInt := by
    unfold Int.bmod
    simp only []
    split <;> omega
  rw [h2] at h1
  exact h1
theorem bt_n1 {x k r : Int32} (o : r = bt x k) (h : r.toInt = (0 : Int32).toInt) : ¬ bt x k = 1 := fun z => by
  rw [o, z] at h; exact absurd h (by decide)
theorem inW_1 {v lo hi : Int64} {r : Int32} (o : r = inW v lo hi) (h : ¬ r.toInt = (0 : Int32).toInt) : lo.toInt ≤ v.toInt ∧ v.toInt ≤ hi.toInt := by
  by_cases z : lo.toInt ≤ v.toInt ∧ v.toInt ≤ hi.toInt
  · exact z
  · rw [o, inW, if_neg z] at h; exact absurd rfl h
theorem inW_0i {k r : Int32} {a b : Int64} {lo hi : Int} (o : r = inW k.toInt64 a b) (h : r.toInt = (0 : Int32).toInt) (ea : a.toInt = lo) (eb : b.toInt = hi) : ¬ (lo ≤ k.toInt ∧ k.toInt ≤ hi) := by
  have q := inW_0 o h
  rw [Int32.toInt_toInt64, ea, eb] at q; exact q
theorem inW_1i {k r : Int32} {a b : Int64} {lo hi : Int} (o : r = inW k.toInt64 a b) (h : ¬ r.toInt = (0 : Int32).toInt) (ea : a.toInt = lo) (eb : b.toInt = hi) : lo ≤ k.toInt ∧ k.toInt ≤ hi := by
  have q := inW_1 o h
  rw [Int32.toInt_toInt64, ea, eb] at q; exact q
theorem inW_0j {k x r : Int32} (o : r = inW k.toInt64 0 x.toInt64) (h : r.toInt = (0 : Int32).toInt) : ¬ (0 ≤ k.toInt ∧ k.toInt ≤ x.toInt) := inW_0i o h (by decide) (Int32.toInt_toInt64 x)
theorem inW_1j {k x r : Int32} (o : r = inW k.toInt64 0 x.toInt64) (h : ¬ r.toInt = (0 : Int32).toInt) : 0 ≤ k.toInt ∧ k.toInt ≤ x.toInt := inW_1i o h (by decide) (Int32.toInt_toInt64 x)
section XZE
variable {p : Program} {l : Launch} {e : Env} {R : Room} {s : State} {m : MethodId} {args : Array Value} {below : List Frame} {meth : Method} {c : Code} {H : Heap} {locs : List Loc} {cells slots : Nat} {Q : State → Prop}
variable {cc : ByteArray} {pc : Nat} {ls : Array Slot} {rest : List Value} {D : va_G} {A : Nat → Prop} {a : Nat} {tys : List (ClassId × FieldType)} {ws : va_W} {H0 : Heap}
theorem y_zastE (hexec : p.tables.exec = Jvm.exec) (hb : c.code = cc) (hK : va_K D classes tys s) (hP : va_P D classes ws H) (hD : va_D A ws) (hS : va_S A H0 H locs) (q0 t0 : Nat) {cA : ClassId} {n : Nat} {f : Nat → Int32} (ha : ws[q0]? = some (a, .inl (cA, n, .inl f))) (ht : tys[t0]? = some (cA, .boolean)) {i : Int32} {x : Int32} (hin : vp_in i n) (hdg : decode cc pc = .ok (.bastore, 1))
    (kk : ∀ (g : Nat → Int32) (H1 : Heap) (locs1 : List Loc), g = upd f i.toNatClampNeg (vp_nar .boolean x) → va_P D classes (ws.set q0 (a, .inl (cA, n, .inl g))) H1 → va_D A (ws.set q0 (a, .inl (cA, n, .inl g))) → va_S A H0 H1 locs1 → W p l e R s m args below meth c H1 locs1 cells slots Q (F0 m (pc + 1) ls rest)) : W p l e R s m args below meth c H locs cells slots Q (F0 m pc ls (.int x :: .int i :: .ref a :: rest)) :=
  va_zast hexec hb hK hP hD hS q0 t0 ha ht hin hdg (fun H1 l1 h1 h2 h3 => kk _ H1 l1 rfl h1 h2 h3)
end XZE
def isV (lo hi : Int) (k : Int32) : Int32 := if lo ≤ k.toInt ∧ k.toInt ≤ hi then 1 else 0
theorem isV_0 {lo hi : Int} {k r : Int32} (o : r = isV lo hi k) (h : r.toInt = (0 : Int32).toInt) : ¬ (lo ≤ k.toInt ∧ k.toInt ≤ hi) := fun z => by
  rw [o, isV, if_pos z] at h
  exact absurd h (by decide)
theorem isV_1 {lo hi : Int} {k r : Int32} (o : r = isV lo hi k) (h : ¬ r.toInt = (0 : Int32).toInt) : lo ≤ k.toInt ∧ k.toInt ≤ hi := by
  by_cases z : lo ≤ k.toInt ∧ k.toInt ≤ hi
  · exact z
  · rw [o, isV, if_neg z] at h
    exact absurd rfl h
theorem isV_a {lo hi : Int} {k : Int32} (h : lo ≤ k.toInt ∧ k.toInt ≤ hi) : (1 : Int32) = isV lo hi k := by rw [isV, if_pos h]
theorem isV_b {lo hi : Int} {k : Int32} (h : ¬ (lo ≤ k.toInt ∧ k.toInt ≤ hi)) : (0 : Int32) = isV lo hi k := by rw [isV, if_neg h]
theorem inW_is {k r : Int32} {b : Int64} {hi : Int} (o : r = inW k.toInt64 0 b) (eb : b.toInt = hi) : r = isV 0 hi k := by
  have z0 : (0 : Int64).toInt = 0 := by decide
  rw [o, inW, isV, Int32.toInt_toInt64, z0, eb]
/-- row -/
def rwA (p0 p1 p2 : Int32) : Int32 := if (0 ≤ p0.toInt ∧ p0.toInt ≤ 3) ∧ (0 ≤ p1.toInt ∧ p1.toInt ≤ 3) ∧ p2.toInt ≤ 60 then (if p2.toInt < 0 then -3 else 0) else -2
theorem rwA_2 {p0 p1 p2 : Int32} (h : ¬ ((0 ≤ p0.toInt ∧ p0.toInt ≤ 3) ∧ (0 ≤ p1.toInt ∧ p1.toInt ≤ 3) ∧ p2.toInt ≤ 60)) : (-2 : Int32) = rwA p0 p1 p2 := by rw [rwA, if_neg h]
theorem rwA_3 {p0 p1 p2 : Int32} (h : (0 ≤ p0.toInt ∧ p0.toInt ≤ 3) ∧ (0 ≤ p1.toInt ∧ p1.toInt ≤ 3) ∧ p2.toInt ≤ 60) (h2 : p2.toInt < 0) : (-3 : Int32) = rwA p0 p1 p2 := by rw [rwA, if_pos h, if_pos h2]
theorem rwA_0 {p0 p1 p2 : Int32} (h : (0 ≤ p0.toInt ∧ p0.toInt ≤ 3) ∧ (0 ≤ p1.toInt ∧ p1.toInt ≤ 3) ∧ p2.toInt ≤ 60) (h2 : ¬ p2.toInt < 0) : (0 : Int32) = rwA p0 p1 p2 := by rw [rwA, if_pos h, if_neg h2]
theorem rwA_ok {p0 p1 p2 : Int32} (h : rwA p0 p1 p2 = 0) : ((0 ≤ p0.toInt ∧ p0.toInt ≤ 3) ∧ (0 ≤ p1.toInt ∧ p1.toInt ≤ 3) ∧ p2.toInt ≤ 60) ∧ ¬ p2.toInt < 0 := by
  by_cases z : (0 ≤ p0.toInt ∧ p0.toInt ≤ 3) ∧ (0 ≤ p1.toInt ∧ p1.toInt ≤ 3) ∧ p2.toInt ≤ 60
  · by_cases z2 : p2.toInt < 0
    · rw [rwA, if_pos z, if_pos z2] at h; exact absurd h (by decide)
    · exact ⟨z, z2⟩
  · rw [rwA, if_neg z] at h; exact absurd h (by decide)
def rwS (p0 p1 p2 k w l w' l' : Int32) : Prop := (rwA p0 p1 p2 = 0 → p0 = k → w' = p1 ∧ l' = p2) ∧ (¬ (rwA p0 p1 p2 = 0 ∧ p0 = k) → w' = w ∧ l' = l)
theorem rwS_n {p0 p1 p2 k w l r : Int32} (o : r = rwA p0 p1 p2) (h : ¬ r = 0) : rwS p0 p1 p2 k w l w l := ⟨fun z => absurd (o.trans z) h, fun _ => ⟨rfl, rfl⟩⟩
theorem rwS_o {p0 p1 p2 k w l : Int32} (h : ¬ p0 = k) : rwS p0 p1 p2 k w l w l := ⟨fun _ z => absurd z h, fun _ => ⟨rfl, rfl⟩⟩
theorem rwS_k {p0 p1 p2 w l w' l' : Int32} (o : (0 : Int32) = rwA p0 p1 p2) (h : w' = p1 ∧ l' = p2) : rwS p0 p1 p2 p0 w l w' l' := ⟨fun _ _ => h, fun z => absurd ⟨o.symm, rfl⟩ z⟩
def rwM (p0 p1 p2 : Int32) (f g f' g' : Nat → Int32) : Prop := (rwA p0 p1 p2 = 0 → f' = upd f p0.toNatClampNeg p2 ∧ g' = upd g p0.toNatClampNeg p1) ∧ (¬ rwA p0 p1 p2 = 0 → f' = f ∧ g' = g)
theorem rwM_n {p0 p1 p2 r : Int32} {f g : Nat → Int32} (o : r = rwA p0 p1 p2) (h : ¬ r = 0) : rwM p0 p1 p2 f g f g := ⟨fun z => absurd (o.trans z) h, fun _ => ⟨rfl, rfl⟩⟩
theorem rwM_k {p0 p1 p2 : Int32} {f g f' g' : Nat → Int32} (o : (0 : Int32) = rwA p0 p1 p2) (h1 : f' = upd f p0.toNatClampNeg p2) (h2 : g' = upd g p0.toNatClampNeg p1) : rwM p0 p1 p2 f g f' g' := ⟨fun _ => ⟨h1, h2⟩, fun z => absurd o.symm z⟩
/-- a SLOT of both sides: class width and length, model many and width -/
def SR (w l mk wk : Int32) : Prop := (w = -1 ∧ mk = -1) ∨ (¬ w = -1 ∧ ¬ mk = -1 ∧ mk = l ∧ wk = w)
theorem SR_row {p0 p1 p2 w l w' l' : Int32} {f g f' g' : Nat → Int32} {k : Nat} (hk : k < 4) (h : SR w l (f k) (g k)) (hc : rwS p0 p1 p2 (nI k) w l w' l') (hm : rwM p0 p1 p2 f g f' g') : SR w' l' (f' k) (g' k) := by
  by_cases z : rwA p0 p1 p2 = 0
  · obtain ⟨e1, e2⟩ := hm.1 z
    obtain ⟨⟨⟨b0, b1⟩, ⟨b2, b3⟩, b4⟩, b5⟩ := rwA_ok z
    by_cases e : p0 = nI k
    · obtain ⟨a1, a2⟩ := hc.1 z e
      have ek : p0.toNatClampNeg = k := by rw [e]; exact nI_clamp (by omega)
      rw [e1, e2, ek, pk_us, pk_us, a1, a2]
      refine Or.inr ⟨fun q => ?_, fun q => ?_, rfl, rfl⟩
      · rw [q] at b2
        exact absurd b2 (by decide)
      · rw [q] at b5
        exact absurd (by decide) b5
    · obtain ⟨a1, a2⟩ := hc.2 (fun q => e q.2)
      have ek : ¬ k = p0.toNatClampNeg := fun q => e (Int32.toInt_inj.mp (by rw [nI_toInt (by omega), q]; show p0.toInt = (p0.toInt.toNat : Int); omega))
      rw [e1, e2, pk_un ek, pk_un ek, a1, a2]; exact h
  · obtain ⟨e1, e2⟩ := hm.2 z
    obtain ⟨a1, a2⟩ := hc.2 (fun q => z q.1)
    rw [e1, e2, a1, a2]; exact h
def sel4 (p a b c d : Int32) : Int32 := if p = nI 0 then a else if p = nI 1 then b else if p = nI 2 then c else d
theorem sel4_0 (a b c d : Int32) : sel4 (nI 0) a b c d = a := by rw [sel4, if_pos rfl]
theorem sel4_1 (a b c d : Int32) : sel4 (nI 1) a b c d = b := by rw [sel4, if_neg (by decide), if_pos rfl]
theorem sel4_2 (a b c d : Int32) : sel4 (nI 2) a b c d = c := by rw [sel4, if_neg (by decide), if_neg (by decide), if_pos rfl]
theorem sel4_3 (a b c d : Int32) : sel4 (nI 3) a b c d = d := by rw [sel4, if_neg (by decide), if_neg (by decide), if_neg (by decide)]
/-- write: of the SLOT's 'nothing' and length -/
def wrA (p0 i w l : Int32) : Int32 := if 0 ≤ p0.toInt ∧ p0.toInt ≤ 3 then (if w = -1 then -6 else if 0 ≤ i.toInt ∧ i.toInt < l.toInt then 0 else -7) else -2
theorem wrA_2 {p0 i w l : Int32} (h : ¬ (0 ≤ p0.toInt ∧ p0.toInt ≤ 3)) : (-2 : Int32) = wrA p0 i w l := by rw [wrA, if_neg h]
theorem wrA_6 {p0 i w l : Int32} (h : 0 ≤ p0.toInt ∧ p0.toInt ≤ 3) (h1 : w = -1) : (-6 : Int32) = wrA p0 i w l := by rw [wrA, if_pos h, if_pos h1]
theorem wrA_7 {p0 i w l : Int32} (h : 0 ≤ p0.toInt ∧ p0.toInt ≤ 3) (h1 : ¬ w = -1) (h2 : ¬ (0 ≤ i.toInt ∧ i.toInt < l.toInt)) : (-7 : Int32) = wrA p0 i w l := by rw [wrA, if_pos h, if_neg h1, if_neg h2]
theorem wrA_0 {p0 i w l : Int32} (h : 0 ≤ p0.toInt ∧ p0.toInt ≤ 3) (h1 : ¬ w = -1) (h2 : 0 ≤ i.toInt ∧ i.toInt < l.toInt) : (0 : Int32) = wrA p0 i w l := by rw [wrA, if_pos h, if_neg h1, if_pos h2]
theorem wrA_SR {p0 i w l mk wk : Int32} (z : 0 ≤ p0.toInt ∧ p0.toInt ≤ 3) (h : SR w l mk wk) : wrA p0 i w l = wrA p0 i mk mk := by
  rcases h with ⟨a, b⟩ | ⟨a, q, b, c⟩
  · rw [← wrA_6 z a, ← wrA_6 z b]
  · rw [b] at q ⊢
    by_cases r : 0 ≤ i.toInt ∧ i.toInt < l.toInt
    · rw [← wrA_0 z a r, ← wrA_0 z q r]
    · rw [← wrA_7 z a r, ← wrA_7 z q r]
theorem wrA_eq {p0 i w0 w1 w2 w3 l0 l1 l2 l3 : Int32} {f g : Nat → Int32} (h0 : SR w0 l0 (f 0) (g 0)) (h1 : SR w1 l1 (f 1) (g 1)) (h2 : SR w2 l2 (f 2) (g 2)) (h3 : SR w3 l3 (f 3) (g 3)) : wrA p0 i (sel4 p0 w0 w1 w2 w3) (sel4 p0 l0 l1 l2 l3) = wrA p0 i (f p0.toNatClampNeg) (f p0.toNatClampNeg) := by
  by_cases z : 0 ≤ p0.toInt ∧ p0.toInt ≤ 3
  · have z' : rg 0 3 p0 := z
    obtain ⟨j, hj, rfl, hjb⟩ := rg_nat z'
    rw [nI_clamp hj]
    rcases (by omega : j = 0 ∨ j = 1 ∨ j = 2 ∨ j = 3) with rfl | rfl | rfl | rfl
    · rw [sel4_0, sel4_0]; exact wrA_SR z h0
    · rw [sel4_1, sel4_1]; exact wrA_SR z h1
    · rw [sel4_2, sel4_2]; exact wrA_SR z h2
    · rw [sel4_3, sel4_3]; exact wrA_SR z h3
  · rw [← wrA_2 z, ← wrA_2 z]
/-- paste: of each SLOT its 'nothing', its width and length -/
def psA (p0 i p2 k n n1 w1 l1 n2 w2 l2 : Int32) : Int32 := if (0 ≤ p0.toInt ∧ p0.toInt ≤ 3) ∧ (0 ≤ p2.toInt ∧ p2.toInt ≤ 3) then (if n1 = -1 ∨ n2 = -1 then -6 else if w1 = w2 then (if (0 ≤ i.toInt ∧ 0 ≤ n.toInt ∧ i.toInt + n.toInt ≤ l1.toInt) ∧ (0 ≤ k.toInt ∧ k.toInt + n.toInt ≤ l2.toInt) then 0 else -7) else -8) else -2
theorem psA_2 {p0 i p2 k n n1 w1 l1 n2 w2 l2 : Int32} (h : ¬ ((0 ≤ p0.toInt ∧ p0.toInt ≤ 3) ∧ (0 ≤ p2.toInt ∧ p2.toInt ≤ 3))) : (-2 : Int32) = psA p0 i p2 k n n1 w1 l1 n2 w2 l2 := by rw [psA, if_neg h]
theorem psA_6 {p0 i p2 k n n1 w1 l1 n2 w2 l2 : Int32} (h : (0 ≤ p0.toInt ∧ p0.toInt ≤ 3) ∧ (0 ≤ p2.toInt ∧ p2.toInt ≤ 3)) (h1 : n1 = -1 ∨ n2 = -1) : (-6 : Int32) = psA p0 i p2 k n n1 w1 l1 n2 w2 l2 := by rw [psA, if_pos h, if_pos h1]
theorem psA_8 {p0 i p2 k n n1 w1 l1 n2 w2 l2 : Int32} (h : (0 ≤ p0.toInt ∧ p0.toInt ≤ 3) ∧ (0 ≤ p2.toInt ∧ p2.toInt ≤ 3)) (h1 : ¬ (n1 = -1 ∨ n2 = -1)) (h2 : ¬ w1 = w2) : (-8 : Int32) = psA p0 i p2 k n n1 w1 l1 n2 w2 l2 := by rw [psA, if_pos h, if_neg h1, if_neg h2]
theorem psA_7 {p0 i p2 k n n1 w1 l1 n2 w2 l2 : Int32} (h : (0 ≤ p0.toInt ∧ p0.toInt ≤ 3) ∧ (0 ≤ p2.toInt ∧ p2.toInt ≤ 3)) (h1 : ¬ (n1 = -1 ∨ n2 = -1)) (h2 : w1 = w2) (h3 : ¬ ((0 ≤ i.toInt ∧ 0 ≤ n.toInt ∧ i.toInt + n.toInt ≤ l1.toInt) ∧ (0 ≤ k.toInt ∧ k.toInt + n.toInt ≤ l2.toInt))) : (-7 : Int32) = psA p0 i p2 k n n1 w1 l1 n2 w2 l2 := by rw [psA, if_pos h, if_neg h1, if_pos h2, if_neg h3]
theorem psA_0 {p0 i p2 k n n1 w1 l1 n2 w2 l2 : Int32} (h : (0 ≤ p0.toInt ∧ p0.toInt ≤ 3) ∧ (0 ≤ p2.toInt ∧ p2.toInt ≤ 3)) (h1 : ¬ (n1 = -1 ∨ n2 = -1)) (h2 : w1 = w2) (h3 : (0 ≤ i.toInt ∧ 0 ≤ n.toInt ∧ i.toInt + n.toInt ≤ l1.toInt) ∧ (0 ≤ k.toInt ∧ k.toInt + n.toInt ≤ l2.toInt)) : (0 : Int32) = psA p0 i p2 k n n1 w1 l1 n2 w2 l2 := by rw [psA, if_pos h, if_neg h1, if_pos h2, if_pos h3]
theorem psA_SR {p0 i p2 k n w l mk wk w' l' mk' wk' : Int32} (z : (0 ≤ p0.toInt ∧ p0.toInt ≤ 3) ∧ (0 ≤ p2.toInt ∧ p2.toInt ≤ 3)) (h : SR w l mk wk) (h' : SR w' l' mk' wk') : psA p0 i p2 k n w w l w' w' l' = psA p0 i p2 k n mk wk mk mk' wk' mk' := by
  rcases h with ⟨a, b⟩ | ⟨a, q, b, c⟩
  · rw [← psA_6 z (Or.inl a), ← psA_6 z (Or.inl b)]
  · rcases h' with ⟨a', b'⟩ | ⟨a', q', b', c'⟩
    · rw [← psA_6 z (Or.inr a'), ← psA_6 z (Or.inr b')]
    · have e1 : ¬ (w = -1 ∨ w' = -1) := fun x => x.elim a a'
      have e2 : ¬ (mk = -1 ∨ mk' = -1) := fun x => x.elim q q'
      rw [c, c']
      by_cases e : w = w'
      · rw [b, b'] at e2 ⊢
        by_cases r : (0 ≤ i.toInt ∧ 0 ≤ n.toInt ∧ i.toInt + n.toInt ≤ l.toInt) ∧ (0 ≤ k.toInt ∧ k.toInt + n.toInt ≤ l'.toInt)
        · rw [← psA_0 z e1 e r, ← psA_0 z e2 e r]
        · rw [← psA_7 z e1 e r, ← psA_7 z e2 e r]
      · rw [← psA_8 z e1 e, ← psA_8 z e2 e]
theorem sel4_SR {p0 w0 w1 w2 w3 l0 l1 l2 l3 : Int32} {f g : Nat → Int32} (z : 0 ≤ p0.toInt ∧ p0.toInt ≤ 3) (h0 : SR w0 l0 (f 0) (g 0)) (h1 : SR w1 l1 (f 1) (g 1)) (h2 : SR w2 l2 (f 2) (g 2)) (h3 : SR w3 l3 (f 3) (g 3)) : SR (sel4 p0 w0 w1 w2 w3) (sel4 p0 l0 l1 l2 l3) (f p0.toNatClampNeg) (g p0.toNatClampNeg) := by
  have z' : rg 0 3 p0 := z
  obtain ⟨j, hj, rfl, hjb⟩ := rg_nat z'
  rw [nI_clamp hj]
  rcases (by omega : j = 0 ∨ j = 1 ∨ j = 2 ∨ j = 3) with rfl | rfl | rfl | rfl
  · rw [sel4_0, sel4_0]; exact h0
  · rw [sel4_1, sel4_1]; exact h1
  · rw [sel4_2, sel4_2]; exact h2
  · rw [sel4_3, sel4_3]; exact h3
theorem psA_eq {p0 i p2 k n w0 w1 w2 w3 l0 l1 l2 l3 : Int32} {f g : Nat → Int32} (h0 : SR w0 l0 (f 0) (g 0)) (h1 : SR w1 l1 (f 1) (g 1)) (h2 : SR w2 l2 (f 2) (g 2)) (h3 : SR w3 l3 (f 3) (g 3)) : psA p0 i p2 k n (sel4 p0 w0 w1 w2 w3) (sel4 p0 w0 w1 w2 w3) (sel4 p0 l0 l1 l2 l3) (sel4 p2 w0 w1 w2 w3) (sel4 p2 w0 w1 w2 w3) (sel4 p2 l0 l1 l2 l3) = psA p0 i p2 k n (f p0.toNatClampNeg) (g p0.toNatClampNeg) (f p0.toNatClampNeg) (f p2.toNatClampNeg) (g p2.toNatClampNeg) (f p2.toNatClampNeg) := by
  by_cases z : (0 ≤ p0.toInt ∧ p0.toInt ≤ 3) ∧ (0 ≤ p2.toInt ∧ p2.toInt ≤ 3)
  · exact psA_SR z (sel4_SR z.1 h0 h1 h2 h3) (sel4_SR z.2 h0 h1 h2 h3)
  · rw [← psA_2 z, ← psA_2 z]
/-- images -/
def imN (m k : Int32) : Int32 := if 0 ≤ k.toInt ∧ k.toInt ≤ 2 then m ||| ((1 : Int32) <<< (k &&& 31)) else m
theorem imN_n {m k : Int32} (h : ¬ (0 ≤ k.toInt ∧ k.toInt ≤ 2)) : m = imN m k := by rw [imN, if_neg h]
def imF (f f' : Nat → Int32) (k : Int32) : Prop := ((0 ≤ k.toInt ∧ k.toInt ≤ 2) → f' = upd f k.toNatClampNeg 1) ∧ (¬ (0 ≤ k.toInt ∧ k.toInt ≤ 2) → f' = f)
theorem imF_n {f : Nat → Int32} {k : Int32} (h : ¬ (0 ≤ k.toInt ∧ k.toInt ≤ 2)) : imF f f k := ⟨fun z => absurd z h, fun _ => rfl⟩
theorem imF_k {f f' : Nat → Int32} {k : Int32} (h : rg 0 2 k) (e : f' = upd f k.toNatClampNeg 1) : imF f f' k := ⟨fun _ => e, fun z => absurd h z⟩
def bkA (k : Int32) (b : Prop) [Decidable b] : Int32 := if 0 ≤ k.toInt ∧ k.toInt ≤ 2 then (if b then 0 else -6) else -2
theorem bkA_2 {k : Int32} {b : Prop} [Decidable b] (h : ¬ (0 ≤ k.toInt ∧ k.toInt ≤ 2)) : (-2 : Int32) = bkA k b := by rw [bkA, if_neg h]
theorem bkA_6 {k : Int32} {b : Prop} [Decidable b] (h : 0 ≤ k.toInt ∧ k.toInt ≤ 2) (h1 : ¬ b) : (-6 : Int32) = bkA k b := by rw [bkA, if_pos h, if_neg h1]
theorem bkA_0 {k : Int32} {b : Prop} [Decidable b] (h : 0 ≤ k.toInt ∧ k.toInt ≤ 2) (h1 : b) : (0 : Int32) = bkA k b := by rw [bkA, if_pos h, if_pos h1]
def HI (m x : Int32) (k : Nat) : Prop := bt m (nI k) = 1 ↔ ¬ x = 0
theorem bkA_eq {m p0 : Int32} {f : Nat → Int32} (h0 : HI m (f 0) 0) (h1 : HI m (f 1) 1) (h2 : HI m (f 2) 2) : bkA p0 (bt m p0 = 1) = bkA p0 (¬ f p0.toNatClampNeg = 0) := by
  by_cases z : 0 ≤ p0.toInt ∧ p0.toInt ≤ 2
  · have key : (bt m p0 = 1) ↔ (¬ f p0.toNatClampNeg = 0) := by
      have z' : rg 0 2 p0 := z
      obtain ⟨j, hj, rfl, hjb⟩ := rg_nat z'
      rw [nI_clamp hj]
      rcases (by omega : j = 0 ∨ j = 1 ∨ j = 2) with rfl | rfl | rfl
      · exact h0
      · exact h1
      · exact h2
    by_cases e : bt m p0 = 1
    · rw [← bkA_0 z e, ← bkA_0 z (key.mp e)]
    · rw [← bkA_6 z e, ← bkA_6 z (fun q => e (key.mpr q))]
  · rw [← bkA_2 z, ← bkA_2 z]
theorem im_k : ∀ m, m < 8 → ∀ j, j < 3 → ∀ k, k < 3 → (bt (nI m ||| ((1 : Int32) <<< (nI j &&& 31))) (nI k) = 1 ↔ (j = k ∨ bt (nI m) (nI k) = 1)) ∧ rg 0 7 (nI m ||| ((1 : Int32) <<< (nI j &&& 31))) := by decide +kernel
theorem im_rg {m p0 : Int32} (h : rg 0 7 m) : rg 0 7 (imN m p0) := by
  by_cases z : 0 ≤ p0.toInt ∧ p0.toInt ≤ 2
  · have z' : rg 0 2 p0 := z
    obtain ⟨j, hj, rfl, hjb⟩ := rg_nat z'
    obtain ⟨i, hi, rfl, hib⟩ := rg_nat h
    rw [imN, if_pos z]; exact (im_k i (by omega) j (by omega) 0 (by decide)).2
  · rw [imN, if_neg z]; exact h
theorem im_HI {m p0 : Int32} {f f' : Nat → Int32} {k : Nat} (hk : k < 3) (h : rg 0 7 m) (hh : HI m (f k) k) (hf : imF f f' p0) : HI (imN m p0) (f' k) k := by
  by_cases z : 0 ≤ p0.toInt ∧ p0.toInt ≤ 2
  · rw [hf.1 z]
    have z' : rg 0 2 p0 := z
    obtain ⟨j, hj, rfl, hjb⟩ := rg_nat z'
    obtain ⟨i, hi, rfl, hib⟩ := rg_nat h
    rw [imN, if_pos z, nI_clamp hj, HI, (im_k i (by omega) j (by omega) k hk).1]
    by_cases e : k = j
    · subst e; rw [pk_us]; exact ⟨fun _ => by decide, fun _ => Or.inl rfl⟩
    · rw [pk_un e]; exact ⟨fun q => hh.mp (q.resolve_left (fun x => e x.symm)), fun q => Or.inr (hh.mpr q)⟩
  · rw [hf.2 z, imN, if_neg z]; exact hh
