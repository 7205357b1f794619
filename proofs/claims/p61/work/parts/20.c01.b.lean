set_option maxHeartbeats 4000000 in
set_option maxRecDepth 100000 in
theorem s_fill_121 (l : Launch) (D : va_G) (t : Nat → ClassId) (a : Nat → Nat) (f121 : Nat → Int32) (p1 : Int32) (sz : Nat) : Met l yJ7_fill_53178 (wd yJ7_fill_53178 cJ7_fill_53178 4 none) (RM 0 0 0) (PreW D (TY t) [.ref (a 121), .int p1] [(a 121, .inl (t 0, 9, .inl f121))] sz) (va_Qv (fun (_ : US) => True) (fun (u : US) t9 => va_P D classes ((fun u : US => [(a 121, .inl (t 0, 9, .inl (u.2.1 0)))]) u) t9.heap ∧ va_D (va_A [(a 121, .inl (t 0, 9, .inl f121))] sz) ((fun u : US => [(a 121, .inl (t 0, 9, .inl (u.2.1 0)))]) u)) (va_A [(a 121, .inl (t 0, 9, .inl f121))] sz)) 0 0 (va_A [(a 121, .inl (t 0, 9, .inl f121))] sz) := by
  refine Met.ofW (cc := cJ7_fill_53178) (maxL := 4) (ret := none) (by decide) rfl ?_
  intro p e s m args below meth c s₁ B hml hv
  obtain ⟨rfl, hsz, hP, hK, hD0, hN⟩ := hv
  have hx := B.exec
  have hb := B.bytes
  have hr := B.returns
  have hts : ∀ w ∈ TB, w.before _ s = true := fun w h => atoms_spec (ws := wd yJ7_fill_53178 cJ7_fill_53178 4 none) B.pre w (List.mem_cons_of_mem _ h)
  have hown : s.vm.findClass RJ7 = some m.cls := findClass_of_methodNamed B.named
  have hlocks := B.notSynchronized
  have hF : CallFix p m c cJ7_fill_53178 4 s _ TB RJ7 := ⟨hx, hb, hml, hown, hts⟩
  have hl := lv_entry ([.ref (a 121), .int p1]) (n := 4) (Nat.le_of_ble_eq_true rfl)
  rw [lg_entry_eq]
  generalize (lg_sl ([.ref (a 121), .int p1]) ++ List.replicate (4 - (lg_sl ([.ref (a 121), .int p1])).length) Slot.unset).toArray = ls at hl ⊢
  have hl : lv_has ls 4 [(0, .ref (a 121)), (1, .int p1)] := hl
  subst hsz
  have hD := hD0.self (sz := s.heap.size)
  generalize hAe : va_A [(a 121, .inl (t 0, 9, .inl f121))] s.heap.size = A at hD ⊢
  have hA : ∀ q : Nat, s.heap.size ≤ q → A q := fun q h => by rw [← hAe]; exact Or.inr h
  have hS : va_S A s.heap s.heap [] := va_S.rf
  have hP : va_P D classes [(a 121, .inl (t 0, 9, .inl f121))] s.heap := hP
  refine lv_iconst (v := 0) hx hb dJ7_fill_53178_0 (by decide) ?_
  refine lv_istore_n (lv' := [(2, .int 0), (0, .ref (a 121)), (1, .int p1)]) hx hb dJ7_fill_53178_1 rfl hl (by decide) rfl (fun ls hl => ?_)
  refine lv_aload_n hx hb dJ7_fill_53178_2 rfl (lv_at hl 1 rfl) ?_
  refine va_alen (v := 9) hx hb hK hP 0 0 rfl rfl rfl dJ7_fill_53178_3 ?_
  refine lv_istore_n (lv' := [(3, .int 9), (2, .int 0), (0, .ref (a 121)), (1, .int p1)]) hx hb dJ7_fill_53178_4 rfl hl (by decide) rfl (fun ls hl => ?_)
  refine loopW (α := US) (fun n y_1 H locs ls => 9 < (y_1.1 0).toInt + (n : Int) ∧ rg 0 9 (y_1.1 0) ∧ va_P D classes [(a 121, .inl (t 0, 9, .inl (y_1.2.1 0)))] H ∧ va_D A [(a 121, .inl (t 0, 9, .inl (y_1.2.1 0)))] ∧ va_S A s.heap H locs ∧ lv_has ls 4 [(3, .int 9), (2, .int (y_1.1 0)), (0, .ref (a 121)), (1, .int p1)]) 5 (fun y_1 => []) (fun _ _ _ _ h9 => m_0 h9.1 h9.2.1) (fun n ih_3 y_1 H locs ls hI => ?_) 10 (fun k => [0].getD k 0, fun k => [f121].getD k (fun _ => 0), fun k => [].getD k (fun _ => 0), fun k => [].getD k 0) ⟨(m_i (rg_c (x := 0) (k := 0) (by decide)) (by decide)), (rg_w (c := 0) (d := 9) (rg_c (x := 0) (k := 0) (by decide)) (by decide) (by decide)), hP, hD, hS, (lv_sub hl [0, 1, 2, 3] rfl)⟩
  obtain ⟨me_4, h_2, hP, hD, hS, hl⟩ := hI
  refine lv_iload_n hx hb dJ7_fill_53178_5 rfl (lv_at hl 1 rfl) ?_
  refine lv_iload_n hx hb dJ7_fill_53178_6 rfl (lv_at hl 0 rfl) ?_
  refine lv_icmp_ge (tgt := 20) hx hb dJ7_fill_53178_7 (by decide) (fun c_5 => ?_) (fun c_5 => ?_)
  · skip
    have h_6 : rg 9 9 (y_1.1 0) := ⟨Int.le_trans (by decide) (c_leR c_5 (rg_c (x := 9) (k := 9) (by decide))), (h_2).2⟩
    have hP9 := hP.sub (ws' := [(a 121, .inl (t 0, 9, .inl (y_1.2.1 0)))]) [0] rfl
    have hD9 := hD.sub (ws' := [(a 121, .inl (t 0, 9, .inl (y_1.2.1 0)))]) [0] (by decide) rfl
    exact W.vret hx hb hr (fun t9 ht hW => ⟨⟨(fun k => [].getD k 0, fun k => [(y_1.2.1 0)].getD k (fun _ => 0), fun k => [].getD k (fun _ => 0), fun _ => 0), rfl, trivial, by rw [ht]; exact hP9, hD9⟩, hS.F ht⟩) hS.2.2 dJ7_fill_53178_20
  · skip
    have h_7 : rg 0 8 (y_1.1 0) := ⟨(h_2).1, Int.le_trans (c_nleR c_5 (rg_c (x := 9) (k := 9) (by decide))) (by decide)⟩
    refine lv_aload_n hx hb dJ7_fill_53178_10 rfl (lv_at hl 2 rfl) ?_
    refine lv_iload_n hx hb dJ7_fill_53178_11 rfl (lv_at hl 1 rfl) ?_
    refine lv_iload_n hx hb dJ7_fill_53178_12 rfl (lv_at hl 3 rfl) ?_
    refine x_iast hx hb hK hP hD hS 0 0 rfl rfl (in_rg h_7 (by decide) (by decide)) dJ7_fill_53178_13 (fun g_8 H locs hP hD hS => ?_)
    have hP : va_P D classes [(a 121, .inl (t 0, 9, .inl g_8))] H := hP
    have hD : va_D A [(a 121, .inl (t 0, 9, .inl g_8))] := hD
    obtain ⟨x_9, ex_9⟩ : ∃ y9 : Int32, y9 = (y_1.1 0) + 1 := ⟨_, rfl⟩
    have hx_9 : rg 1 9 x_9 := by rw [ex_9]; exact rg_add h_7 (rg_c (x := 1) (k := 1) (by decide)) (by decide) (by decide) (by decide) (by decide)
    have tx_9 : x_9.toInt = (y_1.1 0).toInt + 1 := by rw [ex_9]; exact inc_tk h_7 (by decide) (by decide) (by decide)
    refine lv_iinc (v := x_9) (lv' := [(2, .int x_9), (3, .int 9), (0, .ref (a 121)), (1, .int p1)]) hx hb dJ7_fill_53178_14 hl (k := 1) rfl (by rw [ex_9]; rfl) (by decide) rfl (fun ls hl => ?_)
    refine lv_goto (tgt := 5) hx hb dJ7_fill_53178_17 (by decide) ?_
    exact ih_3 (fun k => [x_9].getD k 0, fun k => [g_8].getD k (fun _ => 0), fun k => [].getD k (fun _ => 0), fun k => [].getD k 0) _ _ ls ⟨(m_upk me_4 tx_9 (by decide)), (rg_w (c := 0) (d := 9) hx_9 (by decide) (by decide)), hP, hD, hS, (lv_sub hl [1, 0, 2, 3] rfl)⟩

set_option maxHeartbeats 4000000 in
set_option maxRecDepth 100000 in
theorem s_fill_123 (l : Launch) (D : va_G) (t : Nat → ClassId) (a : Nat → Nat) (f123 : Nat → Int32) (p1 : Int32) (sz : Nat) : Met l yJ7_fill_53178 (wd yJ7_fill_53178 cJ7_fill_53178 4 none) (RM 0 0 0) (PreW D (TY t) [.ref (a 123), .int p1] [(a 123, .inl (t 0, 8, .inl f123))] sz) (va_Qv (fun (_ : US) => True) (fun (u : US) t9 => va_P D classes ((fun u : US => [(a 123, .inl (t 0, 8, .inl (u.2.1 0)))]) u) t9.heap ∧ va_D (va_A [(a 123, .inl (t 0, 8, .inl f123))] sz) ((fun u : US => [(a 123, .inl (t 0, 8, .inl (u.2.1 0)))]) u)) (va_A [(a 123, .inl (t 0, 8, .inl f123))] sz)) 0 0 (va_A [(a 123, .inl (t 0, 8, .inl f123))] sz) := by
  refine Met.ofW (cc := cJ7_fill_53178) (maxL := 4) (ret := none) (by decide) rfl ?_
  intro p e s m args below meth c s₁ B hml hv
  obtain ⟨rfl, hsz, hP, hK, hD0, hN⟩ := hv
  have hx := B.exec
  have hb := B.bytes
  have hr := B.returns
  have hts : ∀ w ∈ TB, w.before _ s = true := fun w h => atoms_spec (ws := wd yJ7_fill_53178 cJ7_fill_53178 4 none) B.pre w (List.mem_cons_of_mem _ h)
  have hown : s.vm.findClass RJ7 = some m.cls := findClass_of_methodNamed B.named
  have hlocks := B.notSynchronized
  have hF : CallFix p m c cJ7_fill_53178 4 s _ TB RJ7 := ⟨hx, hb, hml, hown, hts⟩
  have hl := lv_entry ([.ref (a 123), .int p1]) (n := 4) (Nat.le_of_ble_eq_true rfl)
  rw [lg_entry_eq]
  generalize (lg_sl ([.ref (a 123), .int p1]) ++ List.replicate (4 - (lg_sl ([.ref (a 123), .int p1])).length) Slot.unset).toArray = ls at hl ⊢
  have hl : lv_has ls 4 [(0, .ref (a 123)), (1, .int p1)] := hl
  subst hsz
  have hD := hD0.self (sz := s.heap.size)
  generalize hAe : va_A [(a 123, .inl (t 0, 8, .inl f123))] s.heap.size = A at hD ⊢
  have hA : ∀ q : Nat, s.heap.size ≤ q → A q := fun q h => by rw [← hAe]; exact Or.inr h
  have hS : va_S A s.heap s.heap [] := va_S.rf
  have hP : va_P D classes [(a 123, .inl (t 0, 8, .inl f123))] s.heap := hP
  refine lv_iconst (v := 0) hx hb dJ7_fill_53178_0 (by decide) ?_
  refine lv_istore_n (lv' := [(2, .int 0), (0, .ref (a 123)), (1, .int p1)]) hx hb dJ7_fill_53178_1 rfl hl (by decide) rfl (fun ls hl => ?_)
  refine lv_aload_n hx hb dJ7_fill_53178_2 rfl (lv_at hl 1 rfl) ?_
  refine va_alen (v := 8) hx hb hK hP 0 0 rfl rfl rfl dJ7_fill_53178_3 ?_
  refine lv_istore_n (lv' := [(3, .int 8), (2, .int 0), (0, .ref (a 123)), (1, .int p1)]) hx hb dJ7_fill_53178_4 rfl hl (by decide) rfl (fun ls hl => ?_)
  refine loopW (α := US) (fun n y_1 H locs ls => 8 < (y_1.1 0).toInt + (n : Int) ∧ rg 0 8 (y_1.1 0) ∧ va_P D classes [(a 123, .inl (t 0, 8, .inl (y_1.2.1 0)))] H ∧ va_D A [(a 123, .inl (t 0, 8, .inl (y_1.2.1 0)))] ∧ va_S A s.heap H locs ∧ lv_has ls 4 [(3, .int 8), (2, .int (y_1.1 0)), (0, .ref (a 123)), (1, .int p1)]) 5 (fun y_1 => []) (fun _ _ _ _ h9 => m_0 h9.1 h9.2.1) (fun n ih_3 y_1 H locs ls hI => ?_) 9 (fun k => [0].getD k 0, fun k => [f123].getD k (fun _ => 0), fun k => [].getD k (fun _ => 0), fun k => [].getD k 0) ⟨(m_i (rg_c (x := 0) (k := 0) (by decide)) (by decide)), (rg_w (c := 0) (d := 8) (rg_c (x := 0) (k := 0) (by decide)) (by decide) (by decide)), hP, hD, hS, (lv_sub hl [0, 1, 2, 3] rfl)⟩
  obtain ⟨me_4, h_2, hP, hD, hS, hl⟩ := hI
  refine lv_iload_n hx hb dJ7_fill_53178_5 rfl (lv_at hl 1 rfl) ?_
  refine lv_iload_n hx hb dJ7_fill_53178_6 rfl (lv_at hl 0 rfl) ?_
  refine lv_icmp_ge (tgt := 20) hx hb dJ7_fill_53178_7 (by decide) (fun c_5 => ?_) (fun c_5 => ?_)
  · skip
    have h_6 : rg 8 8 (y_1.1 0) := ⟨Int.le_trans (by decide) (c_leR c_5 (rg_c (x := 8) (k := 8) (by decide))), (h_2).2⟩
    have hP9 := hP.sub (ws' := [(a 123, .inl (t 0, 8, .inl (y_1.2.1 0)))]) [0] rfl
    have hD9 := hD.sub (ws' := [(a 123, .inl (t 0, 8, .inl (y_1.2.1 0)))]) [0] (by decide) rfl
    exact W.vret hx hb hr (fun t9 ht hW => ⟨⟨(fun k => [].getD k 0, fun k => [(y_1.2.1 0)].getD k (fun _ => 0), fun k => [].getD k (fun _ => 0), fun _ => 0), rfl, trivial, by rw [ht]; exact hP9, hD9⟩, hS.F ht⟩) hS.2.2 dJ7_fill_53178_20
  · skip
    have h_7 : rg 0 7 (y_1.1 0) := ⟨(h_2).1, Int.le_trans (c_nleR c_5 (rg_c (x := 8) (k := 8) (by decide))) (by decide)⟩
    refine lv_aload_n hx hb dJ7_fill_53178_10 rfl (lv_at hl 2 rfl) ?_
    refine lv_iload_n hx hb dJ7_fill_53178_11 rfl (lv_at hl 1 rfl) ?_
    refine lv_iload_n hx hb dJ7_fill_53178_12 rfl (lv_at hl 3 rfl) ?_
    refine x_iast hx hb hK hP hD hS 0 0 rfl rfl (in_rg h_7 (by decide) (by decide)) dJ7_fill_53178_13 (fun g_8 H locs hP hD hS => ?_)
    have hP : va_P D classes [(a 123, .inl (t 0, 8, .inl g_8))] H := hP
    have hD : va_D A [(a 123, .inl (t 0, 8, .inl g_8))] := hD
    obtain ⟨x_9, ex_9⟩ : ∃ y9 : Int32, y9 = (y_1.1 0) + 1 := ⟨_, rfl⟩
    have hx_9 : rg 1 8 x_9 := by rw [ex_9]; exact rg_add h_7 (rg_c (x := 1) (k := 1) (by decide)) (by decide) (by decide) (by decide) (by decide)
    have tx_9 : x_9.toInt = (y_1.1 0).toInt + 1 := by rw [ex_9]; exact inc_tk h_7 (by decide) (by decide) (by decide)
    refine lv_iinc (v := x_9) (lv' := [(2, .int x_9), (3, .int 8), (0, .ref (a 123)), (1, .int p1)]) hx hb dJ7_fill_53178_14 hl (k := 1) rfl (by rw [ex_9]; rfl) (by decide) rfl (fun ls hl => ?_)
    refine lv_goto (tgt := 5) hx hb dJ7_fill_53178_17 (by decide) ?_
    exact ih_3 (fun k => [x_9].getD k 0, fun k => [g_8].getD k (fun _ => 0), fun k => [].getD k (fun _ => 0), fun k => [].getD k 0) _ _ ls ⟨(m_upk me_4 tx_9 (by decide)), (rg_w (c := 0) (d := 8) hx_9 (by decide) (by decide)), hP, hD, hS, (lv_sub hl [1, 0, 2, 3] rfl)⟩

set_option maxHeartbeats 4000000 in
set_option maxRecDepth 100000 in
theorem s_fill_125 (l : Launch) (D : va_G) (t : Nat → ClassId) (a : Nat → Nat) (f125 : Nat → Int32) (p1 : Int32) (sz : Nat) : Met l yJ7_fill_53178 (wd yJ7_fill_53178 cJ7_fill_53178 4 none) (RM 0 0 0) (PreW D (TY t) [.ref (a 125), .int p1] [(a 125, .inl (t 0, 4, .inl f125))] sz) (va_Qv (fun (_ : US) => True) (fun (u : US) t9 => va_P D classes ((fun u : US => [(a 125, .inl (t 0, 4, .inl (u.2.1 0)))]) u) t9.heap ∧ va_D (va_A [(a 125, .inl (t 0, 4, .inl f125))] sz) ((fun u : US => [(a 125, .inl (t 0, 4, .inl (u.2.1 0)))]) u)) (va_A [(a 125, .inl (t 0, 4, .inl f125))] sz)) 0 0 (va_A [(a 125, .inl (t 0, 4, .inl f125))] sz) := by
  refine Met.ofW (cc := cJ7_fill_53178) (maxL := 4) (ret := none) (by decide) rfl ?_
  intro p e s m args below meth c s₁ B hml hv
  obtain ⟨rfl, hsz, hP, hK, hD0, hN⟩ := hv
  have hx := B.exec
  have hb := B.bytes
  have hr := B.returns
  have hts : ∀ w ∈ TB, w.before _ s = true := fun w h => atoms_spec (ws := wd yJ7_fill_53178 cJ7_fill_53178 4 none) B.pre w (List.mem_cons_of_mem _ h)
  have hown : s.vm.findClass RJ7 = some m.cls := findClass_of_methodNamed B.named
  have hlocks := B.notSynchronized
  have hF : CallFix p m c cJ7_fill_53178 4 s _ TB RJ7 := ⟨hx, hb, hml, hown, hts⟩
  have hl := lv_entry ([.ref (a 125), .int p1]) (n := 4) (Nat.le_of_ble_eq_true rfl)
  rw [lg_entry_eq]
  generalize (lg_sl ([.ref (a 125), .int p1]) ++ List.replicate (4 - (lg_sl ([.ref (a 125), .int p1])).length) Slot.unset).toArray = ls at hl ⊢
  have hl : lv_has ls 4 [(0, .ref (a 125)), (1, .int p1)] := hl
  subst hsz
  have hD := hD0.self (sz := s.heap.size)
  generalize hAe : va_A [(a 125, .inl (t 0, 4, .inl f125))] s.heap.size = A at hD ⊢
  have hA : ∀ q : Nat, s.heap.size ≤ q → A q := fun q h => by rw [← hAe]; exact Or.inr h
  have hS : va_S A s.heap s.heap [] := va_S.rf
  have hP : va_P D classes [(a 125, .inl (t 0, 4, .inl f125))] s.heap := hP
  refine lv_iconst (v := 0) hx hb dJ7_fill_53178_0 (by decide) ?_
  refine lv_istore_n (lv' := [(2, .int 0), (0, .ref (a 125)), (1, .int p1)]) hx hb dJ7_fill_53178_1 rfl hl (by decide) rfl (fun ls hl => ?_)
  refine lv_aload_n hx hb dJ7_fill_53178_2 rfl (lv_at hl 1 rfl) ?_
  refine va_alen (v := 4) hx hb hK hP 0 0 rfl rfl rfl dJ7_fill_53178_3 ?_
  refine lv_istore_n (lv' := [(3, .int 4), (2, .int 0), (0, .ref (a 125)), (1, .int p1)]) hx hb dJ7_fill_53178_4 rfl hl (by decide) rfl (fun ls hl => ?_)
  refine loopW (α := US) (fun n y_1 H locs ls => 4 < (y_1.1 0).toInt + (n : Int) ∧ rg 0 4 (y_1.1 0) ∧ va_P D classes [(a 125, .inl (t 0, 4, .inl (y_1.2.1 0)))] H ∧ va_D A [(a 125, .inl (t 0, 4, .inl (y_1.2.1 0)))] ∧ va_S A s.heap H locs ∧ lv_has ls 4 [(3, .int 4), (2, .int (y_1.1 0)), (0, .ref (a 125)), (1, .int p1)]) 5 (fun y_1 => []) (fun _ _ _ _ h9 => m_0 h9.1 h9.2.1) (fun n ih_3 y_1 H locs ls hI => ?_) 5 (fun k => [0].getD k 0, fun k => [f125].getD k (fun _ => 0), fun k => [].getD k (fun _ => 0), fun k => [].getD k 0) ⟨(m_i (rg_c (x := 0) (k := 0) (by decide)) (by decide)), (rg_w (c := 0) (d := 4) (rg_c (x := 0) (k := 0) (by decide)) (by decide) (by decide)), hP, hD, hS, (lv_sub hl [0, 1, 2, 3] rfl)⟩
  obtain ⟨me_4, h_2, hP, hD, hS, hl⟩ := hI
  refine lv_iload_n hx hb dJ7_fill_53178_5 rfl (lv_at hl 1 rfl) ?_
  refine lv_iload_n hx hb dJ7_fill_53178_6 rfl (lv_at hl 0 rfl) ?_
  refine lv_icmp_ge (tgt := 20) hx hb dJ7_fill_53178_7 (by decide) (fun c_5 => ?_) (fun c_5 => ?_)
  · skip
    have h_6 : rg 4 4 (y_1.1 0) := ⟨Int.le_trans (by decide) (c_leR c_5 (rg_c (x := 4) (k := 4) (by decide))), (h_2).2⟩
    have hP9 := hP.sub (ws' := [(a 125, .inl (t 0, 4, .inl (y_1.2.1 0)))]) [0] rfl
    have hD9 := hD.sub (ws' := [(a 125, .inl (t 0, 4, .inl (y_1.2.1 0)))]) [0] (by decide) rfl
    exact W.vret hx hb hr (fun t9 ht hW => ⟨⟨(fun k => [].getD k 0, fun k => [(y_1.2.1 0)].getD k (fun _ => 0), fun k => [].getD k (fun _ => 0), fun _ => 0), rfl, trivial, by rw [ht]; exact hP9, hD9⟩, hS.F ht⟩) hS.2.2 dJ7_fill_53178_20
  · skip
    have h_7 : rg 0 3 (y_1.1 0) := ⟨(h_2).1, Int.le_trans (c_nleR c_5 (rg_c (x := 4) (k := 4) (by decide))) (by decide)⟩
    refine lv_aload_n hx hb dJ7_fill_53178_10 rfl (lv_at hl 2 rfl) ?_
    refine lv_iload_n hx hb dJ7_fill_53178_11 rfl (lv_at hl 1 rfl) ?_
    refine lv_iload_n hx hb dJ7_fill_53178_12 rfl (lv_at hl 3 rfl) ?_
    refine x_iast hx hb hK hP hD hS 0 0 rfl rfl (in_rg h_7 (by decide) (by decide)) dJ7_fill_53178_13 (fun g_8 H locs hP hD hS => ?_)
    have hP : va_P D classes [(a 125, .inl (t 0, 4, .inl g_8))] H := hP
    have hD : va_D A [(a 125, .inl (t 0, 4, .inl g_8))] := hD
    obtain ⟨x_9, ex_9⟩ : ∃ y9 : Int32, y9 = (y_1.1 0) + 1 := ⟨_, rfl⟩
    have hx_9 : rg 1 4 x_9 := by rw [ex_9]; exact rg_add h_7 (rg_c (x := 1) (k := 1) (by decide)) (by decide) (by decide) (by decide) (by decide)
    have tx_9 : x_9.toInt = (y_1.1 0).toInt + 1 := by rw [ex_9]; exact inc_tk h_7 (by decide) (by decide) (by decide)
    refine lv_iinc (v := x_9) (lv' := [(2, .int x_9), (3, .int 4), (0, .ref (a 125)), (1, .int p1)]) hx hb dJ7_fill_53178_14 hl (k := 1) rfl (by rw [ex_9]; rfl) (by decide) rfl (fun ls hl => ?_)
    refine lv_goto (tgt := 5) hx hb dJ7_fill_53178_17 (by decide) ?_
    exact ih_3 (fun k => [x_9].getD k 0, fun k => [g_8].getD k (fun _ => 0), fun k => [].getD k (fun _ => 0), fun k => [].getD k 0) _ _ ls ⟨(m_upk me_4 tx_9 (by decide)), (rg_w (c := 0) (d := 4) hx_9 (by decide) (by decide)), hP, hD, hS, (lv_sub hl [1, 0, 2, 3] rfl)⟩

set_option maxHeartbeats 4000000 in
set_option maxRecDepth 100000 in
theorem s_fill_126 (l : Launch) (D : va_G) (t : Nat → ClassId) (a : Nat → Nat) (f126 : Nat → Int32) (p1 : Int32) (sz : Nat) : Met l yJ7_fill_53178 (wd yJ7_fill_53178 cJ7_fill_53178 4 none) (RM 0 0 0) (PreW D (TY t) [.ref (a 126), .int p1] [(a 126, .inl (t 0, 4, .inl f126))] sz) (va_Qv (fun (_ : US) => True) (fun (u : US) t9 => va_P D classes ((fun u : US => [(a 126, .inl (t 0, 4, .inl (u.2.1 0)))]) u) t9.heap ∧ va_D (va_A [(a 126, .inl (t 0, 4, .inl f126))] sz) ((fun u : US => [(a 126, .inl (t 0, 4, .inl (u.2.1 0)))]) u)) (va_A [(a 126, .inl (t 0, 4, .inl f126))] sz)) 0 0 (va_A [(a 126, .inl (t 0, 4, .inl f126))] sz) := by
  refine Met.ofW (cc := cJ7_fill_53178) (maxL := 4) (ret := none) (by decide) rfl ?_
  intro p e s m args below meth c s₁ B hml hv
  obtain ⟨rfl, hsz, hP, hK, hD0, hN⟩ := hv
  have hx := B.exec
  have hb := B.bytes
  have hr := B.returns
  have hts : ∀ w ∈ TB, w.before _ s = true := fun w h => atoms_spec (ws := wd yJ7_fill_53178 cJ7_fill_53178 4 none) B.pre w (List.mem_cons_of_mem _ h)
  have hown : s.vm.findClass RJ7 = some m.cls := findClass_of_methodNamed B.named
  have hlocks := B.notSynchronized
  have hF : CallFix p m c cJ7_fill_53178 4 s _ TB RJ7 := ⟨hx, hb, hml, hown, hts⟩
  have hl := lv_entry ([.ref (a 126), .int p1]) (n := 4) (Nat.le_of_ble_eq_true rfl)
  rw [lg_entry_eq]
  generalize (lg_sl ([.ref (a 126), .int p1]) ++ List.replicate (4 - (lg_sl ([.ref (a 126), .int p1])).length) Slot.unset).toArray = ls at hl ⊢
  have hl : lv_has ls 4 [(0, .ref (a 126)), (1, .int p1)] := hl
  subst hsz
  have hD := hD0.self (sz := s.heap.size)
  generalize hAe : va_A [(a 126, .inl (t 0, 4, .inl f126))] s.heap.size = A at hD ⊢
  have hA : ∀ q : Nat, s.heap.size ≤ q → A q := fun q h => by rw [← hAe]; exact Or.inr h
  have hS : va_S A s.heap s.heap [] := va_S.rf
  have hP : va_P D classes [(a 126, .inl (t 0, 4, .inl f126))] s.heap := hP
  refine lv_iconst (v := 0) hx hb dJ7_fill_53178_0 (by decide) ?_
  refine lv_istore_n (lv' := [(2, .int 0), (0, .ref (a 126)), (1, .int p1)]) hx hb dJ7_fill_53178_1 rfl hl (by decide) rfl (fun ls hl => ?_)
  refine lv_aload_n hx hb dJ7_fill_53178_2 rfl (lv_at hl 1 rfl) ?_
  refine va_alen (v := 4) hx hb hK hP 0 0 rfl rfl rfl dJ7_fill_53178_3 ?_
  refine lv_istore_n (lv' := [(3, .int 4), (2, .int 0), (0, .ref (a 126)), (1, .int p1)]) hx hb dJ7_fill_53178_4 rfl hl (by decide) rfl (fun ls hl => ?_)
  refine loopW (α := US) (fun n y_1 H locs ls => 4 < (y_1.1 0).toInt + (n : Int) ∧ rg 0 4 (y_1.1 0) ∧ va_P D classes [(a 126, .inl (t 0, 4, .inl (y_1.2.1 0)))] H ∧ va_D A [(a 126, .inl (t 0, 4, .inl (y_1.2.1 0)))] ∧ va_S A s.heap H locs ∧ lv_has ls 4 [(3, .int 4), (2, .int (y_1.1 0)), (0, .ref (a 126)), (1, .int p1)]) 5 (fun y_1 => []) (fun _ _ _ _ h9 => m_0 h9.1 h9.2.1) (fun n ih_3 y_1 H locs ls hI => ?_) 5 (fun k => [0].getD k 0, fun k => [f126].getD k (fun _ => 0), fun k => [].getD k (fun _ => 0), fun k => [].getD k 0) ⟨(m_i (rg_c (x := 0) (k := 0) (by decide)) (by decide)), (rg_w (c := 0) (d := 4) (rg_c (x := 0) (k := 0) (by decide)) (by decide) (by decide)), hP, hD, hS, (lv_sub hl [0, 1, 2, 3] rfl)⟩
  obtain ⟨me_4, h_2, hP, hD, hS, hl⟩ := hI
  refine lv_iload_n hx hb dJ7_fill_53178_5 rfl (lv_at hl 1 rfl) ?_
  refine lv_iload_n hx hb dJ7_fill_53178_6 rfl (lv_at hl 0 rfl) ?_
  refine lv_icmp_ge (tgt := 20) hx hb dJ7_fill_53178_7 (by decide) (fun c_5 => ?_) (fun c_5 => ?_)
  · skip
    have h_6 : rg 4 4 (y_1.1 0) := ⟨Int.le_trans (by decide) (c_leR c_5 (rg_c (x := 4) (k := 4) (by decide))), (h_2).2⟩
    have hP9 := hP.sub (ws' := [(a 126, .inl (t 0, 4, .inl (y_1.2.1 0)))]) [0] rfl
    have hD9 := hD.sub (ws' := [(a 126, .inl (t 0, 4, .inl (y_1.2.1 0)))]) [0] (by decide) rfl
    exact W.vret hx hb hr (fun t9 ht hW => ⟨⟨(fun k => [].getD k 0, fun k => [(y_1.2.1 0)].getD k (fun _ => 0), fun k => [].getD k (fun _ => 0), fun _ => 0), rfl, trivial, by rw [ht]; exact hP9, hD9⟩, hS.F ht⟩) hS.2.2 dJ7_fill_53178_20
  · skip
    have h_7 : rg 0 3 (y_1.1 0) := ⟨(h_2).1, Int.le_trans (c_nleR c_5 (rg_c (x := 4) (k := 4) (by decide))) (by decide)⟩
    refine lv_aload_n hx hb dJ7_fill_53178_10 rfl (lv_at hl 2 rfl) ?_
    refine lv_iload_n hx hb dJ7_fill_53178_11 rfl (lv_at hl 1 rfl) ?_
    refine lv_iload_n hx hb dJ7_fill_53178_12 rfl (lv_at hl 3 rfl) ?_
    refine x_iast hx hb hK hP hD hS 0 0 rfl rfl (in_rg h_7 (by decide) (by decide)) dJ7_fill_53178_13 (fun g_8 H locs hP hD hS => ?_)
    have hP : va_P D classes [(a 126, .inl (t 0, 4, .inl g_8))] H := hP
    have hD : va_D A [(a 126, .inl (t 0, 4, .inl g_8))] := hD
    obtain ⟨x_9, ex_9⟩ : ∃ y9 : Int32, y9 = (y_1.1 0) + 1 := ⟨_, rfl⟩
    have hx_9 : rg 1 4 x_9 := by rw [ex_9]; exact rg_add h_7 (rg_c (x := 1) (k := 1) (by decide)) (by decide) (by decide) (by decide) (by decide)
    have tx_9 : x_9.toInt = (y_1.1 0).toInt + 1 := by rw [ex_9]; exact inc_tk h_7 (by decide) (by decide) (by decide)
    refine lv_iinc (v := x_9) (lv' := [(2, .int x_9), (3, .int 4), (0, .ref (a 126)), (1, .int p1)]) hx hb dJ7_fill_53178_14 hl (k := 1) rfl (by rw [ex_9]; rfl) (by decide) rfl (fun ls hl => ?_)
    refine lv_goto (tgt := 5) hx hb dJ7_fill_53178_17 (by decide) ?_
    exact ih_3 (fun k => [x_9].getD k 0, fun k => [g_8].getD k (fun _ => 0), fun k => [].getD k (fun _ => 0), fun k => [].getD k 0) _ _ ls ⟨(m_upk me_4 tx_9 (by decide)), (rg_w (c := 0) (d := 4) hx_9 (by decide) (by decide)), hP, hD, hS, (lv_sub hl [1, 0, 2, 3] rfl)⟩

set_option maxHeartbeats 4000000 in
set_option maxRecDepth 100000 in
theorem s_fill_35 (l : Launch) (D : va_G) (t : Nat → ClassId) (a : Nat → Nat) (f35 : Nat → Int32) (p1 : Int32) (sz : Nat) : Met l yJ7_fill_53178 (wd yJ7_fill_53178 cJ7_fill_53178 4 none) (RM 0 0 0) (PreW D (TY t) [.ref (a 35), .int p1] [(a 35, .inl (t 0, 9, .inl f35))] sz) (va_Qv (fun (_ : US) => True) (fun (u : US) t9 => va_P D classes ((fun u : US => [(a 35, .inl (t 0, 9, .inl (u.2.1 0)))]) u) t9.heap ∧ va_D (va_A [(a 35, .inl (t 0, 9, .inl f35))] sz) ((fun u : US => [(a 35, .inl (t 0, 9, .inl (u.2.1 0)))]) u)) (va_A [(a 35, .inl (t 0, 9, .inl f35))] sz)) 0 0 (va_A [(a 35, .inl (t 0, 9, .inl f35))] sz) := by
  refine Met.ofW (cc := cJ7_fill_53178) (maxL := 4) (ret := none) (by decide) rfl ?_
  intro p e s m args below meth c s₁ B hml hv
  obtain ⟨rfl, hsz, hP, hK, hD0, hN⟩ := hv
  have hx := B.exec
  have hb := B.bytes
  have hr := B.returns
  have hts : ∀ w ∈ TB, w.before _ s = true := fun w h => atoms_spec (ws := wd yJ7_fill_53178 cJ7_fill_53178 4 none) B.pre w (List.mem_cons_of_mem _ h)
  have hown : s.vm.findClass RJ7 = some m.cls := findClass_of_methodNamed B.named
  have hlocks := B.notSynchronized
  have hF : CallFix p m c cJ7_fill_53178 4 s _ TB RJ7 := ⟨hx, hb, hml, hown, hts⟩
  have hl := lv_entry ([.ref (a 35), .int p1]) (n := 4) (Nat.le_of_ble_eq_true rfl)
  rw [lg_entry_eq]
  generalize (lg_sl ([.ref (a 35), .int p1]) ++ List.replicate (4 - (lg_sl ([.ref (a 35), .int p1])).length) Slot.unset).toArray = ls at hl ⊢
  have hl : lv_has ls 4 [(0, .ref (a 35)), (1, .int p1)] := hl
  subst hsz
  have hD := hD0.self (sz := s.heap.size)
  generalize hAe : va_A [(a 35, .inl (t 0, 9, .inl f35))] s.heap.size = A at hD ⊢
  have hA : ∀ q : Nat, s.heap.size ≤ q → A q := fun q h => by rw [← hAe]; exact Or.inr h
  have hS : va_S A s.heap s.heap [] := va_S.rf
  have hP : va_P D classes [(a 35, .inl (t 0, 9, .inl f35))] s.heap := hP
  refine lv_iconst (v := 0) hx hb dJ7_fill_53178_0 (by decide) ?_
  refine lv_istore_n (lv' := [(2, .int 0), (0, .ref (a 35)), (1, .int p1)]) hx hb dJ7_fill_53178_1 rfl hl (by decide) rfl (fun ls hl => ?_)
  refine lv_aload_n hx hb dJ7_fill_53178_2 rfl (lv_at hl 1 rfl) ?_
  refine va_alen (v := 9) hx hb hK hP 0 0 rfl rfl rfl dJ7_fill_53178_3 ?_
  refine lv_istore_n (lv' := [(3, .int 9), (2, .int 0), (0, .ref (a 35)), (1, .int p1)]) hx hb dJ7_fill_53178_4 rfl hl (by decide) rfl (fun ls hl => ?_)
  refine loopW (α := US) (fun n y_1 H locs ls => 9 < (y_1.1 0).toInt + (n : Int) ∧ rg 0 9 (y_1.1 0) ∧ va_P D classes [(a 35, .inl (t 0, 9, .inl (y_1.2.1 0)))] H ∧ va_D A [(a 35, .inl (t 0, 9, .inl (y_1.2.1 0)))] ∧ va_S A s.heap H locs ∧ lv_has ls 4 [(3, .int 9), (2, .int (y_1.1 0)), (0, .ref (a 35)), (1, .int p1)]) 5 (fun y_1 => []) (fun _ _ _ _ h9 => m_0 h9.1 h9.2.1) (fun n ih_3 y_1 H locs ls hI => ?_) 10 (fun k => [0].getD k 0, fun k => [f35].getD k (fun _ => 0), fun k => [].getD k (fun _ => 0), fun k => [].getD k 0) ⟨(m_i (rg_c (x := 0) (k := 0) (by decide)) (by decide)), (rg_w (c := 0) (d := 9) (rg_c (x := 0) (k := 0) (by decide)) (by decide) (by decide)), hP, hD, hS, (lv_sub hl [0, 1, 2, 3] rfl)⟩
  obtain ⟨me_4, h_2, hP, hD, hS, hl⟩ := hI
  refine lv_iload_n hx hb dJ7_fill_53178_5 rfl (lv_at hl 1 rfl) ?_
  refine lv_iload_n hx hb dJ7_fill_53178_6 rfl (lv_at hl 0 rfl) ?_
  refine lv_icmp_ge (tgt := 20) hx hb dJ7_fill_53178_7 (by decide) (fun c_5 => ?_) (fun c_5 => ?_)
  · skip
    have h_6 : rg 9 9 (y_1.1 0) := ⟨Int.le_trans (by decide) (c_leR c_5 (rg_c (x := 9) (k := 9) (by decide))), (h_2).2⟩
    have hP9 := hP.sub (ws' := [(a 35, .inl (t 0, 9, .inl (y_1.2.1 0)))]) [0] rfl
    have hD9 := hD.sub (ws' := [(a 35, .inl (t 0, 9, .inl (y_1.2.1 0)))]) [0] (by decide) rfl
    exact W.vret hx hb hr (fun t9 ht hW => ⟨⟨(fun k => [].getD k 0, fun k => [(y_1.2.1 0)].getD k (fun _ => 0), fun k => [].getD k (fun _ => 0), fun _ => 0), rfl, trivial, by rw [ht]; exact hP9, hD9⟩, hS.F ht⟩) hS.2.2 dJ7_fill_53178_20
  · skip
    have h_7 : rg 0 8 (y_1.1 0) := ⟨(h_2).1, Int.le_trans (c_nleR c_5 (rg_c (x := 9) (k := 9) (by decide))) (by decide)⟩
    refine lv_aload_n hx hb dJ7_fill_53178_10 rfl (lv_at hl 2 rfl) ?_
    refine lv_iload_n hx hb dJ7_fill_53178_11 rfl (lv_at hl 1 rfl) ?_
    refine lv_iload_n hx hb dJ7_fill_53178_12 rfl (lv_at hl 3 rfl) ?_
    refine x_iast hx hb hK hP hD hS 0 0 rfl rfl (in_rg h_7 (by decide) (by decide)) dJ7_fill_53178_13 (fun g_8 H locs hP hD hS => ?_)
    have hP : va_P D classes [(a 35, .inl (t 0, 9, .inl g_8))] H := hP
    have hD : va_D A [(a 35, .inl (t 0, 9, .inl g_8))] := hD
    obtain ⟨x_9, ex_9⟩ : ∃ y9 : Int32, y9 = (y_1.1 0) + 1 := ⟨_, rfl⟩
    have hx_9 : rg 1 9 x_9 := by rw [ex_9]; exact rg_add h_7 (rg_c (x := 1) (k := 1) (by decide)) (by decide) (by decide) (by decide) (by decide)
    have tx_9 : x_9.toInt = (y_1.1 0).toInt + 1 := by rw [ex_9]; exact inc_tk h_7 (by decide) (by decide) (by decide)
    refine lv_iinc (v := x_9) (lv' := [(2, .int x_9), (3, .int 9), (0, .ref (a 35)), (1, .int p1)]) hx hb dJ7_fill_53178_14 hl (k := 1) rfl (by rw [ex_9]; rfl) (by decide) rfl (fun ls hl => ?_)
    refine lv_goto (tgt := 5) hx hb dJ7_fill_53178_17 (by decide) ?_
    exact ih_3 (fun k => [x_9].getD k 0, fun k => [g_8].getD k (fun _ => 0), fun k => [].getD k (fun _ => 0), fun k => [].getD k 0) _ _ ls ⟨(m_upk me_4 tx_9 (by decide)), (rg_w (c := 0) (d := 9) hx_9 (by decide) (by decide)), hP, hD, hS, (lv_sub hl [1, 0, 2, 3] rfl)⟩

set_option maxHeartbeats 4000000 in
set_option maxRecDepth 100000 in
theorem s_fill_128 (l : Launch) (D : va_G) (t : Nat → ClassId) (a : Nat → Nat) (f128 : Nat → Int32) (p1 : Int32) (q128 : ∀ j, j < 4 → rg 0 63 (f128 j)) (rp1 : rg 0 63 p1) (sz : Nat) : Met l yJ7_fill_53178 (wd yJ7_fill_53178 cJ7_fill_53178 4 none) (RM 0 0 0) (PreW D (TY t) [.ref (a 128), .int p1] [(a 128, .inl (t 0, 4, .inl f128))] sz) (va_Qv (fun (u : US) => (∀ j, j < 4 → rg 0 63 (u.2.1 0 j))) (fun (u : US) t9 => va_P D classes ((fun u : US => [(a 128, .inl (t 0, 4, .inl (u.2.1 0)))]) u) t9.heap ∧ va_D (va_A [(a 128, .inl (t 0, 4, .inl f128))] sz) ((fun u : US => [(a 128, .inl (t 0, 4, .inl (u.2.1 0)))]) u)) (va_A [(a 128, .inl (t 0, 4, .inl f128))] sz)) 0 0 (va_A [(a 128, .inl (t 0, 4, .inl f128))] sz) := by
  refine Met.ofW (cc := cJ7_fill_53178) (maxL := 4) (ret := none) (by decide) rfl ?_
  intro p e s m args below meth c s₁ B hml hv
  obtain ⟨rfl, hsz, hP, hK, hD0, hN⟩ := hv
  have hx := B.exec
  have hb := B.bytes
  have hr := B.returns
  have hts : ∀ w ∈ TB, w.before _ s = true := fun w h => atoms_spec (ws := wd yJ7_fill_53178 cJ7_fill_53178 4 none) B.pre w (List.mem_cons_of_mem _ h)
  have hown : s.vm.findClass RJ7 = some m.cls := findClass_of_methodNamed B.named
  have hlocks := B.notSynchronized
  have hF : CallFix p m c cJ7_fill_53178 4 s _ TB RJ7 := ⟨hx, hb, hml, hown, hts⟩
  have hl := lv_entry ([.ref (a 128), .int p1]) (n := 4) (Nat.le_of_ble_eq_true rfl)
  rw [lg_entry_eq]
  generalize (lg_sl ([.ref (a 128), .int p1]) ++ List.replicate (4 - (lg_sl ([.ref (a 128), .int p1])).length) Slot.unset).toArray = ls at hl ⊢
  have hl : lv_has ls 4 [(0, .ref (a 128)), (1, .int p1)] := hl
  subst hsz
  have hD := hD0.self (sz := s.heap.size)
  generalize hAe : va_A [(a 128, .inl (t 0, 4, .inl f128))] s.heap.size = A at hD ⊢
  have hA : ∀ q : Nat, s.heap.size ≤ q → A q := fun q h => by rw [← hAe]; exact Or.inr h
  have hS : va_S A s.heap s.heap [] := va_S.rf
  have hP : va_P D classes [(a 128, .inl (t 0, 4, .inl f128))] s.heap := hP
  refine lv_iconst (v := 0) hx hb dJ7_fill_53178_0 (by decide) ?_
  refine lv_istore_n (lv' := [(2, .int 0), (0, .ref (a 128)), (1, .int p1)]) hx hb dJ7_fill_53178_1 rfl hl (by decide) rfl (fun ls hl => ?_)
  refine lv_aload_n hx hb dJ7_fill_53178_2 rfl (lv_at hl 1 rfl) ?_
  refine va_alen (v := 4) hx hb hK hP 0 0 rfl rfl rfl dJ7_fill_53178_3 ?_
  refine lv_istore_n (lv' := [(3, .int 4), (2, .int 0), (0, .ref (a 128)), (1, .int p1)]) hx hb dJ7_fill_53178_4 rfl hl (by decide) rfl (fun ls hl => ?_)
  refine loopW (α := US) (fun n y_1 H locs ls => 4 < (y_1.1 0).toInt + (n : Int) ∧ rg 0 4 (y_1.1 0) ∧ (∀ j, j < 4 → rg 0 63 ((y_1.2.1 0) j)) ∧ va_P D classes [(a 128, .inl (t 0, 4, .inl (y_1.2.1 0)))] H ∧ va_D A [(a 128, .inl (t 0, 4, .inl (y_1.2.1 0)))] ∧ va_S A s.heap H locs ∧ lv_has ls 4 [(3, .int 4), (2, .int (y_1.1 0)), (0, .ref (a 128)), (1, .int p1)]) 5 (fun y_1 => []) (fun _ _ _ _ h9 => m_0 h9.1 h9.2.1) (fun n ih_4 y_1 H locs ls hI => ?_) 5 (fun k => [0].getD k 0, fun k => [f128].getD k (fun _ => 0), fun k => [].getD k (fun _ => 0), fun k => [].getD k 0) ⟨(m_i (rg_c (x := 0) (k := 0) (by decide)) (by decide)), (rg_w (c := 0) (d := 4) (rg_c (x := 0) (k := 0) (by decide)) (by decide) (by decide)), q128, hP, hD, hS, (lv_sub hl [0, 1, 2, 3] rfl)⟩
  obtain ⟨me_5, h_2, h_3, hP, hD, hS, hl⟩ := hI
  refine lv_iload_n hx hb dJ7_fill_53178_5 rfl (lv_at hl 1 rfl) ?_
  refine lv_iload_n hx hb dJ7_fill_53178_6 rfl (lv_at hl 0 rfl) ?_
  refine lv_icmp_ge (tgt := 20) hx hb dJ7_fill_53178_7 (by decide) (fun c_6 => ?_) (fun c_6 => ?_)
  · skip
    have h_7 : rg 4 4 (y_1.1 0) := ⟨Int.le_trans (by decide) (c_leR c_6 (rg_c (x := 4) (k := 4) (by decide))), (h_2).2⟩
    have hP9 := hP.sub (ws' := [(a 128, .inl (t 0, 4, .inl (y_1.2.1 0)))]) [0] rfl
    have hD9 := hD.sub (ws' := [(a 128, .inl (t 0, 4, .inl (y_1.2.1 0)))]) [0] (by decide) rfl
    exact W.vret hx hb hr (fun t9 ht hW => ⟨⟨(fun k => [].getD k 0, fun k => [(y_1.2.1 0)].getD k (fun _ => 0), fun k => [].getD k (fun _ => 0), fun _ => 0), rfl, h_3, by rw [ht]; exact hP9, hD9⟩, hS.F ht⟩) hS.2.2 dJ7_fill_53178_20
  · skip
    have h_8 : rg 0 3 (y_1.1 0) := ⟨(h_2).1, Int.le_trans (c_nleR c_6 (rg_c (x := 4) (k := 4) (by decide))) (by decide)⟩
    refine lv_aload_n hx hb dJ7_fill_53178_10 rfl (lv_at hl 2 rfl) ?_
    refine lv_iload_n hx hb dJ7_fill_53178_11 rfl (lv_at hl 1 rfl) ?_
    refine lv_iload_n hx hb dJ7_fill_53178_12 rfl (lv_at hl 3 rfl) ?_
    refine y_iast hx hb hK hP hD hS 0 0 rfl rfl (in_rg h_8 (by decide) (by decide)) dJ7_fill_53178_13 (lo := 0) (hi := 63) h_3 rp1 (fun g_9 H locs hg_9 hP hD hS => ?_)
    have hP : va_P D classes [(a 128, .inl (t 0, 4, .inl g_9))] H := hP
    have hD : va_D A [(a 128, .inl (t 0, 4, .inl g_9))] := hD
    obtain ⟨x_10, ex_10⟩ : ∃ y9 : Int32, y9 = (y_1.1 0) + 1 := ⟨_, rfl⟩
    have hx_10 : rg 1 4 x_10 := by rw [ex_10]; exact rg_add h_8 (rg_c (x := 1) (k := 1) (by decide)) (by decide) (by decide) (by decide) (by decide)
    have tx_10 : x_10.toInt = (y_1.1 0).toInt + 1 := by rw [ex_10]; exact inc_tk h_8 (by decide) (by decide) (by decide)
    refine lv_iinc (v := x_10) (lv' := [(2, .int x_10), (3, .int 4), (0, .ref (a 128)), (1, .int p1)]) hx hb dJ7_fill_53178_14 hl (k := 1) rfl (by rw [ex_10]; rfl) (by decide) rfl (fun ls hl => ?_)
    refine lv_goto (tgt := 5) hx hb dJ7_fill_53178_17 (by decide) ?_
    exact ih_4 (fun k => [x_10].getD k 0, fun k => [g_9].getD k (fun _ => 0), fun k => [].getD k (fun _ => 0), fun k => [].getD k 0) _ _ ls ⟨(m_upk me_5 tx_10 (by decide)), (rg_w (c := 0) (d := 4) hx_10 (by decide) (by decide)), hg_9, hP, hD, hS, (lv_sub hl [1, 0, 2, 3] rfl)⟩

set_option maxHeartbeats 4000000 in
set_option maxRecDepth 100000 in
theorem s_fillJ_10 (l : Launch) (D : va_G) (t : Nat → ClassId) (a : Nat → Nat) (g10 : Nat → Int64) (p1 : Int64) (sz : Nat) : Met l yJ7_fill_d0a16 (wd yJ7_fill_d0a16 cJ7_fill_d0a16 5 none) (RM 0 0 0) (PreW D (TY t) [.ref (a 10), .long p1] [(a 10, .inl (t 2, 60, .inr (.inl g10)))] sz) (va_Qv (fun (_ : US) => True) (fun (u : US) t9 => va_P D classes ((fun u : US => [(a 10, .inl (t 2, 60, .inr (.inl (u.2.2.1 0))))]) u) t9.heap ∧ va_D (va_A [(a 10, .inl (t 2, 60, .inr (.inl g10)))] sz) ((fun u : US => [(a 10, .inl (t 2, 60, .inr (.inl (u.2.2.1 0))))]) u)) (va_A [(a 10, .inl (t 2, 60, .inr (.inl g10)))] sz)) 0 0 (va_A [(a 10, .inl (t 2, 60, .inr (.inl g10)))] sz) := by
  refine Met.ofW (cc := cJ7_fill_d0a16) (maxL := 5) (ret := none) (by decide) rfl ?_
  intro p e s m args below meth c s₁ B hml hv
  obtain ⟨rfl, hsz, hP, hK, hD0, hN⟩ := hv
  have hx := B.exec
  have hb := B.bytes
  have hr := B.returns
  have hts : ∀ w ∈ TB, w.before _ s = true := fun w h => atoms_spec (ws := wd yJ7_fill_d0a16 cJ7_fill_d0a16 5 none) B.pre w (List.mem_cons_of_mem _ h)
  have hown : s.vm.findClass RJ7 = some m.cls := findClass_of_methodNamed B.named
  have hlocks := B.notSynchronized
  have hF : CallFix p m c cJ7_fill_d0a16 5 s _ TB RJ7 := ⟨hx, hb, hml, hown, hts⟩
  have hl := lv_entry ([.ref (a 10), .long p1]) (n := 5) (Nat.le_of_ble_eq_true rfl)
  rw [lg_entry_eq]
  generalize (lg_sl ([.ref (a 10), .long p1]) ++ List.replicate (5 - (lg_sl ([.ref (a 10), .long p1])).length) Slot.unset).toArray = ls at hl ⊢
  have hl : lv_has ls 5 [(0, .ref (a 10)), (1, .long p1)] := hl
  subst hsz
  have hD := hD0.self (sz := s.heap.size)
  generalize hAe : va_A [(a 10, .inl (t 2, 60, .inr (.inl g10)))] s.heap.size = A at hD ⊢
  have hA : ∀ q : Nat, s.heap.size ≤ q → A q := fun q h => by rw [← hAe]; exact Or.inr h
  have hS : va_S A s.heap s.heap [] := va_S.rf
  have hP : va_P D classes [(a 10, .inl (t 2, 60, .inr (.inl g10)))] s.heap := hP
  refine lv_iconst (v := 0) hx hb dJ7_fill_d0a16_0 (by decide) ?_
  refine lv_istore_n (lv' := [(3, .int 0), (0, .ref (a 10)), (1, .long p1)]) hx hb dJ7_fill_d0a16_1 rfl hl (by decide) rfl (fun ls hl => ?_)
  refine lv_aload_n hx hb dJ7_fill_d0a16_2 rfl (lv_at hl 1 rfl) ?_
  refine va_alen (v := 60) hx hb hK hP 0 2 rfl rfl rfl dJ7_fill_d0a16_3 ?_
  refine lv_istore (lv' := [(4, .int 60), (3, .int 0), (0, .ref (a 10)), (1, .long p1)]) hx hb dJ7_fill_d0a16_4 hl (by decide) rfl (fun ls hl => ?_)
  refine loopW (α := US) (fun n y_1 H locs ls => 60 < (y_1.1 0).toInt + (n : Int) ∧ rg 0 60 (y_1.1 0) ∧ va_P D classes [(a 10, .inl (t 2, 60, .inr (.inl (y_1.2.2.1 0))))] H ∧ va_D A [(a 10, .inl (t 2, 60, .inr (.inl (y_1.2.2.1 0))))] ∧ va_S A s.heap H locs ∧ lv_has ls 5 [(4, .int 60), (3, .int (y_1.1 0)), (0, .ref (a 10)), (1, .long p1)]) 6 (fun y_1 => []) (fun _ _ _ _ h9 => m_0 h9.1 h9.2.1) (fun n ih_3 y_1 H locs ls hI => ?_) 61 (fun k => [0].getD k 0, fun k => [].getD k (fun _ => 0), fun k => [g10].getD k (fun _ => 0), fun k => [].getD k 0) ⟨(m_i (rg_c (x := 0) (k := 0) (by decide)) (by decide)), (rg_w (c := 0) (d := 60) (rg_c (x := 0) (k := 0) (by decide)) (by decide) (by decide)), hP, hD, hS, (lv_sub hl [0, 1, 2, 3] rfl)⟩
  obtain ⟨me_4, h_2, hP, hD, hS, hl⟩ := hI
  refine lv_iload_n hx hb dJ7_fill_d0a16_6 rfl (lv_at hl 1 rfl) ?_
  refine lv_iload hx hb dJ7_fill_d0a16_7 (lv_at hl 0 rfl) ?_
  refine lv_icmp_ge (tgt := 22) hx hb dJ7_fill_d0a16_9 (by decide) (fun c_5 => ?_) (fun c_5 => ?_)
  · skip
    have h_6 : rg 60 60 (y_1.1 0) := ⟨Int.le_trans (by decide) (c_leR c_5 (rg_c (x := 60) (k := 60) (by decide))), (h_2).2⟩
    have hP9 := hP.sub (ws' := [(a 10, .inl (t 2, 60, .inr (.inl (y_1.2.2.1 0))))]) [0] rfl
    have hD9 := hD.sub (ws' := [(a 10, .inl (t 2, 60, .inr (.inl (y_1.2.2.1 0))))]) [0] (by decide) rfl
    exact W.vret hx hb hr (fun t9 ht hW => ⟨⟨(fun k => [].getD k 0, fun k => [].getD k (fun _ => 0), fun k => [(y_1.2.2.1 0)].getD k (fun _ => 0), fun _ => 0), rfl, trivial, by rw [ht]; exact hP9, hD9⟩, hS.F ht⟩) hS.2.2 dJ7_fill_d0a16_22
  · skip
    have h_7 : rg 0 59 (y_1.1 0) := ⟨(h_2).1, Int.le_trans (c_nleR c_5 (rg_c (x := 60) (k := 60) (by decide))) (by decide)⟩
    refine lv_aload_n hx hb dJ7_fill_d0a16_12 rfl (lv_at hl 2 rfl) ?_
    refine lv_iload_n hx hb dJ7_fill_d0a16_13 rfl (lv_at hl 1 rfl) ?_
    refine lv_lload_n hx hb dJ7_fill_d0a16_14 rfl (lv_at hl 3 rfl) ?_
    refine x_last hx hb hK hP hD hS 0 2 rfl rfl (in_rg h_7 (by decide) (by decide)) dJ7_fill_d0a16_15 (fun g_8 H locs hP hD hS => ?_)
    have hP : va_P D classes [(a 10, .inl (t 2, 60, .inr (.inl g_8)))] H := hP
    have hD : va_D A [(a 10, .inl (t 2, 60, .inr (.inl g_8)))] := hD
    obtain ⟨x_9, ex_9⟩ : ∃ y9 : Int32, y9 = (y_1.1 0) + 1 := ⟨_, rfl⟩
    have hx_9 : rg 1 60 x_9 := by rw [ex_9]; exact rg_add h_7 (rg_c (x := 1) (k := 1) (by decide)) (by decide) (by decide) (by decide) (by decide)
    have tx_9 : x_9.toInt = (y_1.1 0).toInt + 1 := by rw [ex_9]; exact inc_tk h_7 (by decide) (by decide) (by decide)
    refine lv_iinc (v := x_9) (lv' := [(3, .int x_9), (4, .int 60), (0, .ref (a 10)), (1, .long p1)]) hx hb dJ7_fill_d0a16_16 hl (k := 1) rfl (by rw [ex_9]; rfl) (by decide) rfl (fun ls hl => ?_)
    refine lv_goto (tgt := 6) hx hb dJ7_fill_d0a16_19 (by decide) ?_
    exact ih_3 (fun k => [x_9].getD k 0, fun k => [].getD k (fun _ => 0), fun k => [g_8].getD k (fun _ => 0), fun k => [].getD k 0) _ _ ls ⟨(m_upk me_4 tx_9 (by decide)), (rg_w (c := 0) (d := 60) hx_9 (by decide) (by decide)), hP, hD, hS, (lv_sub hl [1, 0, 2, 3] rfl)⟩

set_option maxHeartbeats 4000000 in
set_option maxRecDepth 100000 in
theorem s_fillJ_11 (l : Launch) (D : va_G) (t : Nat → ClassId) (a : Nat → Nat) (g11 : Nat → Int64) (p1 : Int64) (sz : Nat) : Met l yJ7_fill_d0a16 (wd yJ7_fill_d0a16 cJ7_fill_d0a16 5 none) (RM 0 0 0) (PreW D (TY t) [.ref (a 11), .long p1] [(a 11, .inl (t 2, 60, .inr (.inl g11)))] sz) (va_Qv (fun (_ : US) => True) (fun (u : US) t9 => va_P D classes ((fun u : US => [(a 11, .inl (t 2, 60, .inr (.inl (u.2.2.1 0))))]) u) t9.heap ∧ va_D (va_A [(a 11, .inl (t 2, 60, .inr (.inl g11)))] sz) ((fun u : US => [(a 11, .inl (t 2, 60, .inr (.inl (u.2.2.1 0))))]) u)) (va_A [(a 11, .inl (t 2, 60, .inr (.inl g11)))] sz)) 0 0 (va_A [(a 11, .inl (t 2, 60, .inr (.inl g11)))] sz) := by
  refine Met.ofW (cc := cJ7_fill_d0a16) (maxL := 5) (ret := none) (by decide) rfl ?_
  intro p e s m args below meth c s₁ B hml hv
  obtain ⟨rfl, hsz, hP, hK, hD0, hN⟩ := hv
  have hx := B.exec
  have hb := B.bytes
  have hr := B.returns
  have hts : ∀ w ∈ TB, w.before _ s = true := fun w h => atoms_spec (ws := wd yJ7_fill_d0a16 cJ7_fill_d0a16 5 none) B.pre w (List.mem_cons_of_mem _ h)
  have hown : s.vm.findClass RJ7 = some m.cls := findClass_of_methodNamed B.named
  have hlocks := B.notSynchronized
  have hF : CallFix p m c cJ7_fill_d0a16 5 s _ TB RJ7 := ⟨hx, hb, hml, hown, hts⟩
  have hl := lv_entry ([.ref (a 11), .long p1]) (n := 5) (Nat.le_of_ble_eq_true rfl)
  rw [lg_entry_eq]
  generalize (lg_sl ([.ref (a 11), .long p1]) ++ List.replicate (5 - (lg_sl ([.ref (a 11), .long p1])).length) Slot.unset).toArray = ls at hl ⊢
  have hl : lv_has ls 5 [(0, .ref (a 11)), (1, .long p1)] := hl
  subst hsz
  have hD := hD0.self (sz := s.heap.size)
  generalize hAe : va_A [(a 11, .inl (t 2, 60, .inr (.inl g11)))] s.heap.size = A at hD ⊢
  have hA : ∀ q : Nat, s.heap.size ≤ q → A q := fun q h => by rw [← hAe]; exact Or.inr h
  have hS : va_S A s.heap s.heap [] := va_S.rf
  have hP : va_P D classes [(a 11, .inl (t 2, 60, .inr (.inl g11)))] s.heap := hP
  refine lv_iconst (v := 0) hx hb dJ7_fill_d0a16_0 (by decide) ?_
  refine lv_istore_n (lv' := [(3, .int 0), (0, .ref (a 11)), (1, .long p1)]) hx hb dJ7_fill_d0a16_1 rfl hl (by decide) rfl (fun ls hl => ?_)
  refine lv_aload_n hx hb dJ7_fill_d0a16_2 rfl (lv_at hl 1 rfl) ?_
  refine va_alen (v := 60) hx hb hK hP 0 2 rfl rfl rfl dJ7_fill_d0a16_3 ?_
  refine lv_istore (lv' := [(4, .int 60), (3, .int 0), (0, .ref (a 11)), (1, .long p1)]) hx hb dJ7_fill_d0a16_4 hl (by decide) rfl (fun ls hl => ?_)
  refine loopW (α := US) (fun n y_1 H locs ls => 60 < (y_1.1 0).toInt + (n : Int) ∧ rg 0 60 (y_1.1 0) ∧ va_P D classes [(a 11, .inl (t 2, 60, .inr (.inl (y_1.2.2.1 0))))] H ∧ va_D A [(a 11, .inl (t 2, 60, .inr (.inl (y_1.2.2.1 0))))] ∧ va_S A s.heap H locs ∧ lv_has ls 5 [(4, .int 60), (3, .int (y_1.1 0)), (0, .ref (a 11)), (1, .long p1)]) 6 (fun y_1 => []) (fun _ _ _ _ h9 => m_0 h9.1 h9.2.1) (fun n ih_3 y_1 H locs ls hI => ?_) 61 (fun k => [0].getD k 0, fun k => [].getD k (fun _ => 0), fun k => [g11].getD k (fun _ => 0), fun k => [].getD k 0) ⟨(m_i (rg_c (x := 0) (k := 0) (by decide)) (by decide)), (rg_w (c := 0) (d := 60) (rg_c (x := 0) (k := 0) (by decide)) (by decide) (by decide)), hP, hD, hS, (lv_sub hl [0, 1, 2, 3] rfl)⟩
  obtain ⟨me_4, h_2, hP, hD, hS, hl⟩ := hI
  refine lv_iload_n hx hb dJ7_fill_d0a16_6 rfl (lv_at hl 1 rfl) ?_
  refine lv_iload hx hb dJ7_fill_d0a16_7 (lv_at hl 0 rfl) ?_
  refine lv_icmp_ge (tgt := 22) hx hb dJ7_fill_d0a16_9 (by decide) (fun c_5 => ?_) (fun c_5 => ?_)
  · skip
    have h_6 : rg 60 60 (y_1.1 0) := ⟨Int.le_trans (by decide) (c_leR c_5 (rg_c (x := 60) (k := 60) (by decide))), (h_2).2⟩
    have hP9 := hP.sub (ws' := [(a 11, .inl (t 2, 60, .inr (.inl (y_1.2.2.1 0))))]) [0] rfl
    have hD9 := hD.sub (ws' := [(a 11, .inl (t 2, 60, .inr (.inl (y_1.2.2.1 0))))]) [0] (by decide) rfl
    exact W.vret hx hb hr (fun t9 ht hW => ⟨⟨(fun k => [].getD k 0, fun k => [].getD k (fun _ => 0), fun k => [(y_1.2.2.1 0)].getD k (fun _ => 0), fun _ => 0), rfl, trivial, by rw [ht]; exact hP9, hD9⟩, hS.F ht⟩) hS.2.2 dJ7_fill_d0a16_22
  · skip
    have h_7 : rg 0 59 (y_1.1 0) := ⟨(h_2).1, Int.le_trans (c_nleR c_5 (rg_c (x := 60) (k := 60) (by decide))) (by decide)⟩
    refine lv_aload_n hx hb dJ7_fill_d0a16_12 rfl (lv_at hl 2 rfl) ?_
    refine lv_iload_n hx hb dJ7_fill_d0a16_13 rfl (lv_at hl 1 rfl) ?_
    refine lv_lload_n hx hb dJ7_fill_d0a16_14 rfl (lv_at hl 3 rfl) ?_
    refine x_last hx hb hK hP hD hS 0 2 rfl rfl (in_rg h_7 (by decide) (by decide)) dJ7_fill_d0a16_15 (fun g_8 H locs hP hD hS => ?_)
    have hP : va_P D classes [(a 11, .inl (t 2, 60, .inr (.inl g_8)))] H := hP
    have hD : va_D A [(a 11, .inl (t 2, 60, .inr (.inl g_8)))] := hD
    obtain ⟨x_9, ex_9⟩ : ∃ y9 : Int32, y9 = (y_1.1 0) + 1 := ⟨_, rfl⟩
    have hx_9 : rg 1 60 x_9 := by rw [ex_9]; exact rg_add h_7 (rg_c (x := 1) (k := 1) (by decide)) (by decide) (by decide) (by decide) (by decide)
    have tx_9 : x_9.toInt = (y_1.1 0).toInt + 1 := by rw [ex_9]; exact inc_tk h_7 (by decide) (by decide) (by decide)
    refine lv_iinc (v := x_9) (lv' := [(3, .int x_9), (4, .int 60), (0, .ref (a 11)), (1, .long p1)]) hx hb dJ7_fill_d0a16_16 hl (k := 1) rfl (by rw [ex_9]; rfl) (by decide) rfl (fun ls hl => ?_)
    refine lv_goto (tgt := 6) hx hb dJ7_fill_d0a16_19 (by decide) ?_
    exact ih_3 (fun k => [x_9].getD k 0, fun k => [].getD k (fun _ => 0), fun k => [g_8].getD k (fun _ => 0), fun k => [].getD k 0) _ _ ls ⟨(m_upk me_4 tx_9 (by decide)), (rg_w (c := 0) (d := 60) hx_9 (by decide) (by decide)), hP, hD, hS, (lv_sub hl [1, 0, 2, 3] rfl)⟩

set_option maxHeartbeats 4000000 in
set_option maxRecDepth 100000 in
theorem s_fillJ_12 (l : Launch) (D : va_G) (t : Nat → ClassId) (a : Nat → Nat) (g12 : Nat → Int64) (p1 : Int64) (sz : Nat) : Met l yJ7_fill_d0a16 (wd yJ7_fill_d0a16 cJ7_fill_d0a16 5 none) (RM 0 0 0) (PreW D (TY t) [.ref (a 12), .long p1] [(a 12, .inl (t 2, 60, .inr (.inl g12)))] sz) (va_Qv (fun (_ : US) => True) (fun (u : US) t9 => va_P D classes ((fun u : US => [(a 12, .inl (t 2, 60, .inr (.inl (u.2.2.1 0))))]) u) t9.heap ∧ va_D (va_A [(a 12, .inl (t 2, 60, .inr (.inl g12)))] sz) ((fun u : US => [(a 12, .inl (t 2, 60, .inr (.inl (u.2.2.1 0))))]) u)) (va_A [(a 12, .inl (t 2, 60, .inr (.inl g12)))] sz)) 0 0 (va_A [(a 12, .inl (t 2, 60, .inr (.inl g12)))] sz) := by
  refine Met.ofW (cc := cJ7_fill_d0a16) (maxL := 5) (ret := none) (by decide) rfl ?_
  intro p e s m args below meth c s₁ B hml hv
  obtain ⟨rfl, hsz, hP, hK, hD0, hN⟩ := hv
  have hx := B.exec
  have hb := B.bytes
  have hr := B.returns
  have hts : ∀ w ∈ TB, w.before _ s = true := fun w h => atoms_spec (ws := wd yJ7_fill_d0a16 cJ7_fill_d0a16 5 none) B.pre w (List.mem_cons_of_mem _ h)
  have hown : s.vm.findClass RJ7 = some m.cls := findClass_of_methodNamed B.named
  have hlocks := B.notSynchronized
  have hF : CallFix p m c cJ7_fill_d0a16 5 s _ TB RJ7 := ⟨hx, hb, hml, hown, hts⟩
  have hl := lv_entry ([.ref (a 12), .long p1]) (n := 5) (Nat.le_of_ble_eq_true rfl)
  rw [lg_entry_eq]
  generalize (lg_sl ([.ref (a 12), .long p1]) ++ List.replicate (5 - (lg_sl ([.ref (a 12), .long p1])).length) Slot.unset).toArray = ls at hl ⊢
  have hl : lv_has ls 5 [(0, .ref (a 12)), (1, .long p1)] := hl
  subst hsz
  have hD := hD0.self (sz := s.heap.size)
  generalize hAe : va_A [(a 12, .inl (t 2, 60, .inr (.inl g12)))] s.heap.size = A at hD ⊢
  have hA : ∀ q : Nat, s.heap.size ≤ q → A q := fun q h => by rw [← hAe]; exact Or.inr h
  have hS : va_S A s.heap s.heap [] := va_S.rf
  have hP : va_P D classes [(a 12, .inl (t 2, 60, .inr (.inl g12)))] s.heap := hP
  refine lv_iconst (v := 0) hx hb dJ7_fill_d0a16_0 (by decide) ?_
  refine lv_istore_n (lv' := [(3, .int 0), (0, .ref (a 12)), (1, .long p1)]) hx hb dJ7_fill_d0a16_1 rfl hl (by decide) rfl (fun ls hl => ?_)
  refine lv_aload_n hx hb dJ7_fill_d0a16_2 rfl (lv_at hl 1 rfl) ?_
  refine va_alen (v := 60) hx hb hK hP 0 2 rfl rfl rfl dJ7_fill_d0a16_3 ?_
  refine lv_istore (lv' := [(4, .int 60), (3, .int 0), (0, .ref (a 12)), (1, .long p1)]) hx hb dJ7_fill_d0a16_4 hl (by decide) rfl (fun ls hl => ?_)
  refine loopW (α := US) (fun n y_1 H locs ls => 60 < (y_1.1 0).toInt + (n : Int) ∧ rg 0 60 (y_1.1 0) ∧ va_P D classes [(a 12, .inl (t 2, 60, .inr (.inl (y_1.2.2.1 0))))] H ∧ va_D A [(a 12, .inl (t 2, 60, .inr (.inl (y_1.2.2.1 0))))] ∧ va_S A s.heap H locs ∧ lv_has ls 5 [(4, .int 60), (3, .int (y_1.1 0)), (0, .ref (a 12)), (1, .long p1)]) 6 (fun y_1 => []) (fun _ _ _ _ h9 => m_0 h9.1 h9.2.1) (fun n ih_3 y_1 H locs ls hI => ?_) 61 (fun k => [0].getD k 0, fun k => [].getD k (fun _ => 0), fun k => [g12].getD k (fun _ => 0), fun k => [].getD k 0) ⟨(m_i (rg_c (x := 0) (k := 0) (by decide)) (by decide)), (rg_w (c := 0) (d := 60) (rg_c (x := 0) (k := 0) (by decide)) (by decide) (by decide)), hP, hD, hS, (lv_sub hl [0, 1, 2, 3] rfl)⟩
  obtain ⟨me_4, h_2, hP, hD, hS, hl⟩ := hI
  refine lv_iload_n hx hb dJ7_fill_d0a16_6 rfl (lv_at hl 1 rfl) ?_
  refine lv_iload hx hb dJ7_fill_d0a16_7 (lv_at hl 0 rfl) ?_
  refine lv_icmp_ge (tgt := 22) hx hb dJ7_fill_d0a16_9 (by decide) (fun c_5 => ?_) (fun c_5 => ?_)
  · skip
    have h_6 : rg 60 60 (y_1.1 0) := ⟨Int.le_trans (by decide) (c_leR c_5 (rg_c (x := 60) (k := 60) (by decide))), (h_2).2⟩
    have hP9 := hP.sub (ws' := [(a 12, .inl (t 2, 60, .inr (.inl (y_1.2.2.1 0))))]) [0] rfl
    have hD9 := hD.sub (ws' := [(a 12, .inl (t 2, 60, .inr (.inl (y_1.2.2.1 0))))]) [0] (by decide) rfl
    exact W.vret hx hb hr (fun t9 ht hW => ⟨⟨(fun k => [].getD k 0, fun k => [].getD k (fun _ => 0), fun k => [(y_1.2.2.1 0)].getD k (fun _ => 0), fun _ => 0), rfl, trivial, by rw [ht]; exact hP9, hD9⟩, hS.F ht⟩) hS.2.2 dJ7_fill_d0a16_22
  · skip
    have h_7 : rg 0 59 (y_1.1 0) := ⟨(h_2).1, Int.le_trans (c_nleR c_5 (rg_c (x := 60) (k := 60) (by decide))) (by decide)⟩
    refine lv_aload_n hx hb dJ7_fill_d0a16_12 rfl (lv_at hl 2 rfl) ?_
    refine lv_iload_n hx hb dJ7_fill_d0a16_13 rfl (lv_at hl 1 rfl) ?_
    refine lv_lload_n hx hb dJ7_fill_d0a16_14 rfl (lv_at hl 3 rfl) ?_
    refine x_last hx hb hK hP hD hS 0 2 rfl rfl (in_rg h_7 (by decide) (by decide)) dJ7_fill_d0a16_15 (fun g_8 H locs hP hD hS => ?_)
    have hP : va_P D classes [(a 12, .inl (t 2, 60, .inr (.inl g_8)))] H := hP
    have hD : va_D A [(a 12, .inl (t 2, 60, .inr (.inl g_8)))] := hD
    obtain ⟨x_9, ex_9⟩ : ∃ y9 : Int32, y9 = (y_1.1 0) + 1 := ⟨_, rfl⟩
    have hx_9 : rg 1 60 x_9 := by rw [ex_9]; exact rg_add h_7 (rg_c (x := 1) (k := 1) (by decide)) (by decide) (by decide) (by decide) (by decide)
    have tx_9 : x_9.toInt = (y_1.1 0).toInt + 1 := by rw [ex_9]; exact inc_tk h_7 (by decide) (by decide) (by decide)
    refine lv_iinc (v := x_9) (lv' := [(3, .int x_9), (4, .int 60), (0, .ref (a 12)), (1, .long p1)]) hx hb dJ7_fill_d0a16_16 hl (k := 1) rfl (by rw [ex_9]; rfl) (by decide) rfl (fun ls hl => ?_)
    refine lv_goto (tgt := 6) hx hb dJ7_fill_d0a16_19 (by decide) ?_
    exact ih_3 (fun k => [x_9].getD k 0, fun k => [].getD k (fun _ => 0), fun k => [g_8].getD k (fun _ => 0), fun k => [].getD k 0) _ _ ls ⟨(m_upk me_4 tx_9 (by decide)), (rg_w (c := 0) (d := 60) hx_9 (by decide) (by decide)), hP, hD, hS, (lv_sub hl [1, 0, 2, 3] rfl)⟩

set_option maxHeartbeats 4000000 in
set_option maxRecDepth 100000 in
theorem s_fillJ_13 (l : Launch) (D : va_G) (t : Nat → ClassId) (a : Nat → Nat) (g13 : Nat → Int64) (p1 : Int64) (sz : Nat) : Met l yJ7_fill_d0a16 (wd yJ7_fill_d0a16 cJ7_fill_d0a16 5 none) (RM 0 0 0) (PreW D (TY t) [.ref (a 13), .long p1] [(a 13, .inl (t 2, 60, .inr (.inl g13)))] sz) (va_Qv (fun (_ : US) => True) (fun (u : US) t9 => va_P D classes ((fun u : US => [(a 13, .inl (t 2, 60, .inr (.inl (u.2.2.1 0))))]) u) t9.heap ∧ va_D (va_A [(a 13, .inl (t 2, 60, .inr (.inl g13)))] sz) ((fun u : US => [(a 13, .inl (t 2, 60, .inr (.inl (u.2.2.1 0))))]) u)) (va_A [(a 13, .inl (t 2, 60, .inr (.inl g13)))] sz)) 0 0 (va_A [(a 13, .inl (t 2, 60, .inr (.inl g13)))] sz) := by
  refine Met.ofW (cc := cJ7_fill_d0a16) (maxL := 5) (ret := none) (by decide) rfl ?_
  intro p e s m args below meth c s₁ B hml hv
  obtain ⟨rfl, hsz, hP, hK, hD0, hN⟩ := hv
  have hx := B.exec
  have hb := B.bytes
  have hr := B.returns
  have hts : ∀ w ∈ TB, w.before _ s = true := fun w h => atoms_spec (ws := wd yJ7_fill_d0a16 cJ7_fill_d0a16 5 none) B.pre w (List.mem_cons_of_mem _ h)
  have hown : s.vm.findClass RJ7 = some m.cls := findClass_of_methodNamed B.named
  have hlocks := B.notSynchronized
  have hF : CallFix p m c cJ7_fill_d0a16 5 s _ TB RJ7 := ⟨hx, hb, hml, hown, hts⟩
  have hl := lv_entry ([.ref (a 13), .long p1]) (n := 5) (Nat.le_of_ble_eq_true rfl)
  rw [lg_entry_eq]
  generalize (lg_sl ([.ref (a 13), .long p1]) ++ List.replicate (5 - (lg_sl ([.ref (a 13), .long p1])).length) Slot.unset).toArray = ls at hl ⊢
  have hl : lv_has ls 5 [(0, .ref (a 13)), (1, .long p1)] := hl
  subst hsz
  have hD := hD0.self (sz := s.heap.size)
  generalize hAe : va_A [(a 13, .inl (t 2, 60, .inr (.inl g13)))] s.heap.size = A at hD ⊢
  have hA : ∀ q : Nat, s.heap.size ≤ q → A q := fun q h => by rw [← hAe]; exact Or.inr h
  have hS : va_S A s.heap s.heap [] := va_S.rf
  have hP : va_P D classes [(a 13, .inl (t 2, 60, .inr (.inl g13)))] s.heap := hP
  refine lv_iconst (v := 0) hx hb dJ7_fill_d0a16_0 (by decide) ?_
  refine lv_istore_n (lv' := [(3, .int 0), (0, .ref (a 13)), (1, .long p1)]) hx hb dJ7_fill_d0a16_1 rfl hl (by decide) rfl (fun ls hl => ?_)
  refine lv_aload_n hx hb dJ7_fill_d0a16_2 rfl (lv_at hl 1 rfl) ?_
  refine va_alen (v := 60) hx hb hK hP 0 2 rfl rfl rfl dJ7_fill_d0a16_3 ?_
  refine lv_istore (lv' := [(4, .int 60), (3, .int 0), (0, .ref (a 13)), (1, .long p1)]) hx hb dJ7_fill_d0a16_4 hl (by decide) rfl (fun ls hl => ?_)
  refine loopW (α := US) (fun n y_1 H locs ls => 60 < (y_1.1 0).toInt + (n : Int) ∧ rg 0 60 (y_1.1 0) ∧ va_P D classes [(a 13, .inl (t 2, 60, .inr (.inl (y_1.2.2.1 0))))] H ∧ va_D A [(a 13, .inl (t 2, 60, .inr (.inl (y_1.2.2.1 0))))] ∧ va_S A s.heap H locs ∧ lv_has ls 5 [(4, .int 60), (3, .int (y_1.1 0)), (0, .ref (a 13)), (1, .long p1)]) 6 (fun y_1 => []) (fun _ _ _ _ h9 => m_0 h9.1 h9.2.1) (fun n ih_3 y_1 H locs ls hI => ?_) 61 (fun k => [0].getD k 0, fun k => [].getD k (fun _ => 0), fun k => [g13].getD k (fun _ => 0), fun k => [].getD k 0) ⟨(m_i (rg_c (x := 0) (k := 0) (by decide)) (by decide)), (rg_w (c := 0) (d := 60) (rg_c (x := 0) (k := 0) (by decide)) (by decide) (by decide)), hP, hD, hS, (lv_sub hl [0, 1, 2, 3] rfl)⟩
  obtain ⟨me_4, h_2, hP, hD, hS, hl⟩ := hI
  refine lv_iload_n hx hb dJ7_fill_d0a16_6 rfl (lv_at hl 1 rfl) ?_
  refine lv_iload hx hb dJ7_fill_d0a16_7 (lv_at hl 0 rfl) ?_
  refine lv_icmp_ge (tgt := 22) hx hb dJ7_fill_d0a16_9 (by decide) (fun c_5 => ?_) (fun c_5 => ?_)
  · skip
    have h_6 : rg 60 60 (y_1.1 0) := ⟨Int.le_trans (by decide) (c_leR c_5 (rg_c (x := 60) (k := 60) (by decide))), (h_2).2⟩
    have hP9 := hP.sub (ws' := [(a 13, .inl (t 2, 60, .inr (.inl (y_1.2.2.1 0))))]) [0] rfl
    have hD9 := hD.sub (ws' := [(a 13, .inl (t 2, 60, .inr (.inl (y_1.2.2.1 0))))]) [0] (by decide) rfl
    exact W.vret hx hb hr (fun t9 ht hW => ⟨⟨(fun k => [].getD k 0, fun k => [].getD k (fun _ => 0), fun k => [(y_1.2.2.1 0)].getD k (fun _ => 0), fun _ => 0), rfl, trivial, by rw [ht]; exact hP9, hD9⟩, hS.F ht⟩) hS.2.2 dJ7_fill_d0a16_22
  · skip
    have h_7 : rg 0 59 (y_1.1 0) := ⟨(h_2).1, Int.le_trans (c_nleR c_5 (rg_c (x := 60) (k := 60) (by decide))) (by decide)⟩
    refine lv_aload_n hx hb dJ7_fill_d0a16_12 rfl (lv_at hl 2 rfl) ?_
    refine lv_iload_n hx hb dJ7_fill_d0a16_13 rfl (lv_at hl 1 rfl) ?_
    refine lv_lload_n hx hb dJ7_fill_d0a16_14 rfl (lv_at hl 3 rfl) ?_
    refine x_last hx hb hK hP hD hS 0 2 rfl rfl (in_rg h_7 (by decide) (by decide)) dJ7_fill_d0a16_15 (fun g_8 H locs hP hD hS => ?_)
    have hP : va_P D classes [(a 13, .inl (t 2, 60, .inr (.inl g_8)))] H := hP
    have hD : va_D A [(a 13, .inl (t 2, 60, .inr (.inl g_8)))] := hD
    obtain ⟨x_9, ex_9⟩ : ∃ y9 : Int32, y9 = (y_1.1 0) + 1 := ⟨_, rfl⟩
    have hx_9 : rg 1 60 x_9 := by rw [ex_9]; exact rg_add h_7 (rg_c (x := 1) (k := 1) (by decide)) (by decide) (by decide) (by decide) (by decide)
    have tx_9 : x_9.toInt = (y_1.1 0).toInt + 1 := by rw [ex_9]; exact inc_tk h_7 (by decide) (by decide) (by decide)
    refine lv_iinc (v := x_9) (lv' := [(3, .int x_9), (4, .int 60), (0, .ref (a 13)), (1, .long p1)]) hx hb dJ7_fill_d0a16_16 hl (k := 1) rfl (by rw [ex_9]; rfl) (by decide) rfl (fun ls hl => ?_)
    refine lv_goto (tgt := 6) hx hb dJ7_fill_d0a16_19 (by decide) ?_
    exact ih_3 (fun k => [x_9].getD k 0, fun k => [].getD k (fun _ => 0), fun k => [g_8].getD k (fun _ => 0), fun k => [].getD k 0) _ _ ls ⟨(m_upk me_4 tx_9 (by decide)), (rg_w (c := 0) (d := 60) hx_9 (by decide) (by decide)), hP, hD, hS, (lv_sub hl [1, 0, 2, 3] rfl)⟩

set_option maxHeartbeats 4000000 in
set_option maxRecDepth 100000 in
theorem s_X0_open_20 (l : Launch) (D : va_G) (t : Nat → ClassId) (a : Nat → Nat) (v20_0 : Int32) (v20_1 : Int32) (v20_2 : Int32) (v20_3 : Int32) (v20_4 : Int32) (v20_5 : Int32) (v20_6 : Int32) (v20_7 : Int32) (p0 : Int32) (p1 : Int32) (p2 : Int32) (p3 : Int32) (r20_1 : rg 0 8 v20_1) (r20_5 : rg 0 4 v20_5) (r20_6 : rg 0 9 v20_6) (r20_7 : rg 0 9 v20_7) (rp0 : rg 0 8 p0) (sz : Nat) : Met l yX0_open (wd yX0_open cX0_open 5 none) (RM 0 0 0) (PreW D (TY t) [.ref (a 20), .int p0, .int p1, .int p2, .int p3] [(a 20, .inr (0, [.int v20_0, .int v20_1, .int v20_2, .int v20_3, .int v20_4, .int v20_5, .int v20_6, .int v20_7, .ref (a 21), .ref (a 22), .ref (a 23), .ref (a 24), .ref (a 25), .ref (a 26), .ref (a 27), .ref (a 28), .ref (a 29), .ref (a 30), .ref (a 34)]))] sz) (va_Qv (fun (u : US) => rg 0 8 (u.1 0)) (fun (u : US) t9 => va_P D classes ((fun u : US => [(a 20, .inr (0, [.int v20_0, .int (u.1 0), .int (u.1 1), .int (u.1 2), .int (u.1 3), .int v20_5, .int v20_6, .int v20_7, .ref (a 21), .ref (a 22), .ref (a 23), .ref (a 24), .ref (a 25), .ref (a 26), .ref (a 27), .ref (a 28), .ref (a 29), .ref (a 30), .ref (a 34)]))]) u) t9.heap ∧ va_D (va_A [(a 20, .inr (0, [.int v20_0, .int v20_1, .int v20_2, .int v20_3, .int v20_4, .int v20_5, .int v20_6, .int v20_7, .ref (a 21), .ref (a 22), .ref (a 23), .ref (a 24), .ref (a 25), .ref (a 26), .ref (a 27), .ref (a 28), .ref (a 29), .ref (a 30), .ref (a 34)]))] sz) ((fun u : US => [(a 20, .inr (0, [.int v20_0, .int (u.1 0), .int (u.1 1), .int (u.1 2), .int (u.1 3), .int v20_5, .int v20_6, .int v20_7, .ref (a 21), .ref (a 22), .ref (a 23), .ref (a 24), .ref (a 25), .ref (a 26), .ref (a 27), .ref (a 28), .ref (a 29), .ref (a 30), .ref (a 34)]))]) u)) (va_A [(a 20, .inr (0, [.int v20_0, .int v20_1, .int v20_2, .int v20_3, .int v20_4, .int v20_5, .int v20_6, .int v20_7, .ref (a 21), .ref (a 22), .ref (a 23), .ref (a 24), .ref (a 25), .ref (a 26), .ref (a 27), .ref (a 28), .ref (a 29), .ref (a 30), .ref (a 34)]))] sz)) 0 0 (va_A [(a 20, .inr (0, [.int v20_0, .int v20_1, .int v20_2, .int v20_3, .int v20_4, .int v20_5, .int v20_6, .int v20_7, .ref (a 21), .ref (a 22), .ref (a 23), .ref (a 24), .ref (a 25), .ref (a 26), .ref (a 27), .ref (a 28), .ref (a 29), .ref (a 30), .ref (a 34)]))] sz) := by
  refine Met.ofW (cc := cX0_open) (maxL := 5) (ret := none) (by decide) rfl ?_
  intro p e s m args below meth c s₁ B hml hv
  obtain ⟨rfl, hsz, hP, hK, hD0, hN⟩ := hv
  have hx := B.exec
  have hb := B.bytes
  have hr := B.returns
  have hts : ∀ w ∈ TB, w.before _ s = true := fun w h => atoms_spec (ws := wd yX0_open cX0_open 5 none) B.pre w (List.mem_cons_of_mem _ h)
  have hown : s.vm.findClass RX0 = some m.cls := findClass_of_methodNamed B.named
  have hlocks := B.notSynchronized
  have hF : CallFix p m c cX0_open 5 s _ TB RX0 := ⟨hx, hb, hml, hown, hts⟩
  have hl := lv_entry ([.ref (a 20), .int p0, .int p1, .int p2, .int p3]) (n := 5) (Nat.le_of_ble_eq_true rfl)
  rw [lg_entry_eq]
  generalize (lg_sl ([.ref (a 20), .int p0, .int p1, .int p2, .int p3]) ++ List.replicate (5 - (lg_sl ([.ref (a 20), .int p0, .int p1, .int p2, .int p3])).length) Slot.unset).toArray = ls at hl ⊢
  have hl : lv_has ls 5 [(0, .ref (a 20)), (1, .int p0), (2, .int p1), (3, .int p2), (4, .int p3)] := hl
  subst hsz
  have hD := hD0.self (sz := s.heap.size)
  generalize hAe : va_A [(a 20, .inr (0, [.int v20_0, .int v20_1, .int v20_2, .int v20_3, .int v20_4, .int v20_5, .int v20_6, .int v20_7, .ref (a 21), .ref (a 22), .ref (a 23), .ref (a 24), .ref (a 25), .ref (a 26), .ref (a 27), .ref (a 28), .ref (a 29), .ref (a 30), .ref (a 34)]))] s.heap.size = A at hD ⊢
  have hA : ∀ q : Nat, s.heap.size ≤ q → A q := fun q h => by rw [← hAe]; exact Or.inr h
  have hS : va_S A s.heap s.heap [] := va_S.rf
  have hP : va_P D classes [(a 20, .inr (0, [.int v20_0, .int v20_1, .int v20_2, .int v20_3, .int v20_4, .int v20_5, .int v20_6, .int v20_7, .ref (a 21), .ref (a 22), .ref (a 23), .ref (a 24), .ref (a 25), .ref (a 26), .ref (a 27), .ref (a 28), .ref (a 29), .ref (a 30), .ref (a 34)]))] s.heap := hP
  refine lv_aload_n hx hb dX0_open_0 rfl (lv_at hl 0 rfl) ?_
  refine lv_iload_n hx hb dX0_open_1 rfl (lv_at hl 1 rfl) ?_
  refine va_put (D := D) (ci := 0) (v := .int p0) (ty := .int) (C := RX0) (T := TX0) (N := 19) hx hb hts iX0 tyX0 tyX0_ok nmX0 hown hK hP hD hS 0 rfl rfl 1 (by decide) (hts _ m_121) (fun _ h9 => h9) rfl (tyX0_ok 1 (by decide)) rfl rfl (Nat.le_of_ble_eq_true rfl) dX0_open_2 (fun H locs hP hD hS => ?_)
  have hP : va_P D classes [(a 20, .inr (0, [.int v20_0, .int p0, .int v20_2, .int v20_3, .int v20_4, .int v20_5, .int v20_6, .int v20_7, .ref (a 21), .ref (a 22), .ref (a 23), .ref (a 24), .ref (a 25), .ref (a 26), .ref (a 27), .ref (a 28), .ref (a 29), .ref (a 30), .ref (a 34)]))] H := hP
  have hD : va_D A [(a 20, .inr (0, [.int v20_0, .int p0, .int v20_2, .int v20_3, .int v20_4, .int v20_5, .int v20_6, .int v20_7, .ref (a 21), .ref (a 22), .ref (a 23), .ref (a 24), .ref (a 25), .ref (a 26), .ref (a 27), .ref (a 28), .ref (a 29), .ref (a 30), .ref (a 34)]))] := hD
  refine lv_aload_n hx hb dX0_open_5 rfl (lv_at hl 0 rfl) ?_
  refine lv_iload_n hx hb dX0_open_6 rfl (lv_at hl 2 rfl) ?_
  refine va_put (D := D) (ci := 0) (v := .int p1) (ty := .int) (C := RX0) (T := TX0) (N := 19) hx hb hts iX0 tyX0 tyX0_ok nmX0 hown hK hP hD hS 0 rfl rfl 2 (by decide) (hts _ m_125) (fun _ h9 => h9) rfl (tyX0_ok 2 (by decide)) rfl rfl (Nat.le_of_ble_eq_true rfl) dX0_open_7 (fun H locs hP hD hS => ?_)
  have hP : va_P D classes [(a 20, .inr (0, [.int v20_0, .int p0, .int p1, .int v20_3, .int v20_4, .int v20_5, .int v20_6, .int v20_7, .ref (a 21), .ref (a 22), .ref (a 23), .ref (a 24), .ref (a 25), .ref (a 26), .ref (a 27), .ref (a 28), .ref (a 29), .ref (a 30), .ref (a 34)]))] H := hP
  have hD : va_D A [(a 20, .inr (0, [.int v20_0, .int p0, .int p1, .int v20_3, .int v20_4, .int v20_5, .int v20_6, .int v20_7, .ref (a 21), .ref (a 22), .ref (a 23), .ref (a 24), .ref (a 25), .ref (a 26), .ref (a 27), .ref (a 28), .ref (a 29), .ref (a 30), .ref (a 34)]))] := hD
  refine lv_aload_n hx hb dX0_open_10 rfl (lv_at hl 0 rfl) ?_
  refine lv_iload_n hx hb dX0_open_11 rfl (lv_at hl 3 rfl) ?_
  refine va_put (D := D) (ci := 0) (v := .int p2) (ty := .int) (C := RX0) (T := TX0) (N := 19) hx hb hts iX0 tyX0 tyX0_ok nmX0 hown hK hP hD hS 0 rfl rfl 3 (by decide) (hts _ m_129) (fun _ h9 => h9) rfl (tyX0_ok 3 (by decide)) rfl rfl (Nat.le_of_ble_eq_true rfl) dX0_open_12 (fun H locs hP hD hS => ?_)
  have hP : va_P D classes [(a 20, .inr (0, [.int v20_0, .int p0, .int p1, .int p2, .int v20_4, .int v20_5, .int v20_6, .int v20_7, .ref (a 21), .ref (a 22), .ref (a 23), .ref (a 24), .ref (a 25), .ref (a 26), .ref (a 27), .ref (a 28), .ref (a 29), .ref (a 30), .ref (a 34)]))] H := hP
  have hD : va_D A [(a 20, .inr (0, [.int v20_0, .int p0, .int p1, .int p2, .int v20_4, .int v20_5, .int v20_6, .int v20_7, .ref (a 21), .ref (a 22), .ref (a 23), .ref (a 24), .ref (a 25), .ref (a 26), .ref (a 27), .ref (a 28), .ref (a 29), .ref (a 30), .ref (a 34)]))] := hD
  refine lv_aload_n hx hb dX0_open_15 rfl (lv_at hl 0 rfl) ?_
  refine lv_iload hx hb dX0_open_16 (lv_at hl 4 rfl) ?_
  refine va_put (D := D) (ci := 0) (v := .int p3) (ty := .int) (C := RX0) (T := TX0) (N := 19) hx hb hts iX0 tyX0 tyX0_ok nmX0 hown hK hP hD hS 0 rfl rfl 4 (by decide) (hts _ m_132) (fun _ h9 => h9) rfl (tyX0_ok 4 (by decide)) rfl rfl (Nat.le_of_ble_eq_true rfl) dX0_open_18 (fun H locs hP hD hS => ?_)
  have hP : va_P D classes [(a 20, .inr (0, [.int v20_0, .int p0, .int p1, .int p2, .int p3, .int v20_5, .int v20_6, .int v20_7, .ref (a 21), .ref (a 22), .ref (a 23), .ref (a 24), .ref (a 25), .ref (a 26), .ref (a 27), .ref (a 28), .ref (a 29), .ref (a 30), .ref (a 34)]))] H := hP
  have hD : va_D A [(a 20, .inr (0, [.int v20_0, .int p0, .int p1, .int p2, .int p3, .int v20_5, .int v20_6, .int v20_7, .ref (a 21), .ref (a 22), .ref (a 23), .ref (a 24), .ref (a 25), .ref (a 26), .ref (a 27), .ref (a 28), .ref (a 29), .ref (a 30), .ref (a 34)]))] := hD
  have hP9 := hP.sub (ws' := [(a 20, .inr (0, [.int v20_0, .int p0, .int p1, .int p2, .int p3, .int v20_5, .int v20_6, .int v20_7, .ref (a 21), .ref (a 22), .ref (a 23), .ref (a 24), .ref (a 25), .ref (a 26), .ref (a 27), .ref (a 28), .ref (a 29), .ref (a 30), .ref (a 34)]))]) [0] rfl
  have hD9 := hD.sub (ws' := [(a 20, .inr (0, [.int v20_0, .int p0, .int p1, .int p2, .int p3, .int v20_5, .int v20_6, .int v20_7, .ref (a 21), .ref (a 22), .ref (a 23), .ref (a 24), .ref (a 25), .ref (a 26), .ref (a 27), .ref (a 28), .ref (a 29), .ref (a 30), .ref (a 34)]))]) [0] (by decide) rfl
  exact W.vret hx hb hr (fun t9 ht hW => ⟨⟨(fun k => [p0, p1, p2, p3].getD k 0, fun k => [].getD k (fun _ => 0), fun k => [].getD k (fun _ => 0), fun _ => 0), rfl, rp0, by rw [ht]; exact hP9, hD9⟩, hS.F ht⟩) hS.2.2 dX0_open_21

set_option maxHeartbeats 4000000 in
set_option maxRecDepth 100000 in
theorem s_X0_open_40 (l : Launch) (D : va_G) (t : Nat → ClassId) (a : Nat → Nat) (v40_0 : Int32) (v40_1 : Int32) (v40_2 : Int32) (v40_3 : Int32) (v40_4 : Int32) (v40_5 : Int32) (v40_6 : Int32) (v40_7 : Int32) (p0 : Int32) (p1 : Int32) (p2 : Int32) (p3 : Int32) (r40_1 : rg 0 8 v40_1) (r40_5 : rg 0 4 v40_5) (r40_6 : rg 0 9 v40_6) (r40_7 : rg 0 9 v40_7) (rp0 : rg 0 8 p0) (sz : Nat) : Met l yX0_open (wd yX0_open cX0_open 5 none) (RM 0 0 0) (PreW D (TY t) [.ref (a 40), .int p0, .int p1, .int p2, .int p3] [(a 40, .inr (0, [.int v40_0, .int v40_1, .int v40_2, .int v40_3, .int v40_4, .int v40_5, .int v40_6, .int v40_7, .ref (a 41), .ref (a 42), .ref (a 43), .ref (a 44), .ref (a 45), .ref (a 46), .ref (a 47), .ref (a 48), .ref (a 49), .ref (a 50), .ref (a 54)]))] sz) (va_Qv (fun (u : US) => rg 0 8 (u.1 0)) (fun (u : US) t9 => va_P D classes ((fun u : US => [(a 40, .inr (0, [.int v40_0, .int (u.1 0), .int (u.1 1), .int (u.1 2), .int (u.1 3), .int v40_5, .int v40_6, .int v40_7, .ref (a 41), .ref (a 42), .ref (a 43), .ref (a 44), .ref (a 45), .ref (a 46), .ref (a 47), .ref (a 48), .ref (a 49), .ref (a 50), .ref (a 54)]))]) u) t9.heap ∧ va_D (va_A [(a 40, .inr (0, [.int v40_0, .int v40_1, .int v40_2, .int v40_3, .int v40_4, .int v40_5, .int v40_6, .int v40_7, .ref (a 41), .ref (a 42), .ref (a 43), .ref (a 44), .ref (a 45), .ref (a 46), .ref (a 47), .ref (a 48), .ref (a 49), .ref (a 50), .ref (a 54)]))] sz) ((fun u : US => [(a 40, .inr (0, [.int v40_0, .int (u.1 0), .int (u.1 1), .int (u.1 2), .int (u.1 3), .int v40_5, .int v40_6, .int v40_7, .ref (a 41), .ref (a 42), .ref (a 43), .ref (a 44), .ref (a 45), .ref (a 46), .ref (a 47), .ref (a 48), .ref (a 49), .ref (a 50), .ref (a 54)]))]) u)) (va_A [(a 40, .inr (0, [.int v40_0, .int v40_1, .int v40_2, .int v40_3, .int v40_4, .int v40_5, .int v40_6, .int v40_7, .ref (a 41), .ref (a 42), .ref (a 43), .ref (a 44), .ref (a 45), .ref (a 46), .ref (a 47), .ref (a 48), .ref (a 49), .ref (a 50), .ref (a 54)]))] sz)) 0 0 (va_A [(a 40, .inr (0, [.int v40_0, .int v40_1, .int v40_2, .int v40_3, .int v40_4, .int v40_5, .int v40_6, .int v40_7, .ref (a 41), .ref (a 42), .ref (a 43), .ref (a 44), .ref (a 45), .ref (a 46), .ref (a 47), .ref (a 48), .ref (a 49), .ref (a 50), .ref (a 54)]))] sz) := by
  refine Met.ofW (cc := cX0_open) (maxL := 5) (ret := none) (by decide) rfl ?_
  intro p e s m args below meth c s₁ B hml hv
  obtain ⟨rfl, hsz, hP, hK, hD0, hN⟩ := hv
  have hx := B.exec
  have hb := B.bytes
  have hr := B.returns
  have hts : ∀ w ∈ TB, w.before _ s = true := fun w h => atoms_spec (ws := wd yX0_open cX0_open 5 none) B.pre w (List.mem_cons_of_mem _ h)
  have hown : s.vm.findClass RX0 = some m.cls := findClass_of_methodNamed B.named
  have hlocks := B.notSynchronized
  have hF : CallFix p m c cX0_open 5 s _ TB RX0 := ⟨hx, hb, hml, hown, hts⟩
  have hl := lv_entry ([.ref (a 40), .int p0, .int p1, .int p2, .int p3]) (n := 5) (Nat.le_of_ble_eq_true rfl)
  rw [lg_entry_eq]
  generalize (lg_sl ([.ref (a 40), .int p0, .int p1, .int p2, .int p3]) ++ List.replicate (5 - (lg_sl ([.ref (a 40), .int p0, .int p1, .int p2, .int p3])).length) Slot.unset).toArray = ls at hl ⊢
  have hl : lv_has ls 5 [(0, .ref (a 40)), (1, .int p0), (2, .int p1), (3, .int p2), (4, .int p3)] := hl
  subst hsz
  have hD := hD0.self (sz := s.heap.size)
  generalize hAe : va_A [(a 40, .inr (0, [.int v40_0, .int v40_1, .int v40_2, .int v40_3, .int v40_4, .int v40_5, .int v40_6, .int v40_7, .ref (a 41), .ref (a 42), .ref (a 43), .ref (a 44), .ref (a 45), .ref (a 46), .ref (a 47), .ref (a 48), .ref (a 49), .ref (a 50), .ref (a 54)]))] s.heap.size = A at hD ⊢
  have hA : ∀ q : Nat, s.heap.size ≤ q → A q := fun q h => by rw [← hAe]; exact Or.inr h
  have hS : va_S A s.heap s.heap [] := va_S.rf
  have hP : va_P D classes [(a 40, .inr (0, [.int v40_0, .int v40_1, .int v40_2, .int v40_3, .int v40_4, .int v40_5, .int v40_6, .int v40_7, .ref (a 41), .ref (a 42), .ref (a 43), .ref (a 44), .ref (a 45), .ref (a 46), .ref (a 47), .ref (a 48), .ref (a 49), .ref (a 50), .ref (a 54)]))] s.heap := hP
  refine lv_aload_n hx hb dX0_open_0 rfl (lv_at hl 0 rfl) ?_
  refine lv_iload_n hx hb dX0_open_1 rfl (lv_at hl 1 rfl) ?_
  refine va_put (D := D) (ci := 0) (v := .int p0) (ty := .int) (C := RX0) (T := TX0) (N := 19) hx hb hts iX0 tyX0 tyX0_ok nmX0 hown hK hP hD hS 0 rfl rfl 1 (by decide) (hts _ m_121) (fun _ h9 => h9) rfl (tyX0_ok 1 (by decide)) rfl rfl (Nat.le_of_ble_eq_true rfl) dX0_open_2 (fun H locs hP hD hS => ?_)
  have hP : va_P D classes [(a 40, .inr (0, [.int v40_0, .int p0, .int v40_2, .int v40_3, .int v40_4, .int v40_5, .int v40_6, .int v40_7, .ref (a 41), .ref (a 42), .ref (a 43), .ref (a 44), .ref (a 45), .ref (a 46), .ref (a 47), .ref (a 48), .ref (a 49), .ref (a 50), .ref (a 54)]))] H := hP
  have hD : va_D A [(a 40, .inr (0, [.int v40_0, .int p0, .int v40_2, .int v40_3, .int v40_4, .int v40_5, .int v40_6, .int v40_7, .ref (a 41), .ref (a 42), .ref (a 43), .ref (a 44), .ref (a 45), .ref (a 46), .ref (a 47), .ref (a 48), .ref (a 49), .ref (a 50), .ref (a 54)]))] := hD
  refine lv_aload_n hx hb dX0_open_5 rfl (lv_at hl 0 rfl) ?_
  refine lv_iload_n hx hb dX0_open_6 rfl (lv_at hl 2 rfl) ?_
  refine va_put (D := D) (ci := 0) (v := .int p1) (ty := .int) (C := RX0) (T := TX0) (N := 19) hx hb hts iX0 tyX0 tyX0_ok nmX0 hown hK hP hD hS 0 rfl rfl 2 (by decide) (hts _ m_125) (fun _ h9 => h9) rfl (tyX0_ok 2 (by decide)) rfl rfl (Nat.le_of_ble_eq_true rfl) dX0_open_7 (fun H locs hP hD hS => ?_)
  have hP : va_P D classes [(a 40, .inr (0, [.int v40_0, .int p0, .int p1, .int v40_3, .int v40_4, .int v40_5, .int v40_6, .int v40_7, .ref (a 41), .ref (a 42), .ref (a 43), .ref (a 44), .ref (a 45), .ref (a 46), .ref (a 47), .ref (a 48), .ref (a 49), .ref (a 50), .ref (a 54)]))] H := hP
  have hD : va_D A [(a 40, .inr (0, [.int v40_0, .int p0, .int p1, .int v40_3, .int v40_4, .int v40_5, .int v40_6, .int v40_7, .ref (a 41), .ref (a 42), .ref (a 43), .ref (a 44), .ref (a 45), .ref (a 46), .ref (a 47), .ref (a 48), .ref (a 49), .ref (a 50), .ref (a 54)]))] := hD
  refine lv_aload_n hx hb dX0_open_10 rfl (lv_at hl 0 rfl) ?_
  refine lv_iload_n hx hb dX0_open_11 rfl (lv_at hl 3 rfl) ?_
  refine va_put (D := D) (ci := 0) (v := .int p2) (ty := .int) (C := RX0) (T := TX0) (N := 19) hx hb hts iX0 tyX0 tyX0_ok nmX0 hown hK hP hD hS 0 rfl rfl 3 (by decide) (hts _ m_129) (fun _ h9 => h9) rfl (tyX0_ok 3 (by decide)) rfl rfl (Nat.le_of_ble_eq_true rfl) dX0_open_12 (fun H locs hP hD hS => ?_)
  have hP : va_P D classes [(a 40, .inr (0, [.int v40_0, .int p0, .int p1, .int p2, .int v40_4, .int v40_5, .int v40_6, .int v40_7, .ref (a 41), .ref (a 42), .ref (a 43), .ref (a 44), .ref (a 45), .ref (a 46), .ref (a 47), .ref (a 48), .ref (a 49), .ref (a 50), .ref (a 54)]))] H := hP
  have hD : va_D A [(a 40, .inr (0, [.int v40_0, .int p0, .int p1, .int p2, .int v40_4, .int v40_5, .int v40_6, .int v40_7, .ref (a 41), .ref (a 42), .ref (a 43), .ref (a 44), .ref (a 45), .ref (a 46), .ref (a 47), .ref (a 48), .ref (a 49), .ref (a 50), .ref (a 54)]))] := hD
  refine lv_aload_n hx hb dX0_open_15 rfl (lv_at hl 0 rfl) ?_
  refine lv_iload hx hb dX0_open_16 (lv_at hl 4 rfl) ?_
  refine va_put (D := D) (ci := 0) (v := .int p3) (ty := .int) (C := RX0) (T := TX0) (N := 19) hx hb hts iX0 tyX0 tyX0_ok nmX0 hown hK hP hD hS 0 rfl rfl 4 (by decide) (hts _ m_132) (fun _ h9 => h9) rfl (tyX0_ok 4 (by decide)) rfl rfl (Nat.le_of_ble_eq_true rfl) dX0_open_18 (fun H locs hP hD hS => ?_)
  have hP : va_P D classes [(a 40, .inr (0, [.int v40_0, .int p0, .int p1, .int p2, .int p3, .int v40_5, .int v40_6, .int v40_7, .ref (a 41), .ref (a 42), .ref (a 43), .ref (a 44), .ref (a 45), .ref (a 46), .ref (a 47), .ref (a 48), .ref (a 49), .ref (a 50), .ref (a 54)]))] H := hP
  have hD : va_D A [(a 40, .inr (0, [.int v40_0, .int p0, .int p1, .int p2, .int p3, .int v40_5, .int v40_6, .int v40_7, .ref (a 41), .ref (a 42), .ref (a 43), .ref (a 44), .ref (a 45), .ref (a 46), .ref (a 47), .ref (a 48), .ref (a 49), .ref (a 50), .ref (a 54)]))] := hD
  have hP9 := hP.sub (ws' := [(a 40, .inr (0, [.int v40_0, .int p0, .int p1, .int p2, .int p3, .int v40_5, .int v40_6, .int v40_7, .ref (a 41), .ref (a 42), .ref (a 43), .ref (a 44), .ref (a 45), .ref (a 46), .ref (a 47), .ref (a 48), .ref (a 49), .ref (a 50), .ref (a 54)]))]) [0] rfl
  have hD9 := hD.sub (ws' := [(a 40, .inr (0, [.int v40_0, .int p0, .int p1, .int p2, .int p3, .int v40_5, .int v40_6, .int v40_7, .ref (a 41), .ref (a 42), .ref (a 43), .ref (a 44), .ref (a 45), .ref (a 46), .ref (a 47), .ref (a 48), .ref (a 49), .ref (a 50), .ref (a 54)]))]) [0] (by decide) rfl
  exact W.vret hx hb hr (fun t9 ht hW => ⟨⟨(fun k => [p0, p1, p2, p3].getD k 0, fun k => [].getD k (fun _ => 0), fun k => [].getD k (fun _ => 0), fun _ => 0), rfl, rp0, by rw [ht]; exact hP9, hD9⟩, hS.F ht⟩) hS.2.2 dX0_open_21

set_option maxHeartbeats 4000000 in
set_option maxRecDepth 100000 in
theorem s_X0_open_60 (l : Launch) (D : va_G) (t : Nat → ClassId) (a : Nat → Nat) (v60_0 : Int32) (v60_1 : Int32) (v60_2 : Int32) (v60_3 : Int32) (v60_4 : Int32) (v60_5 : Int32) (v60_6 : Int32) (v60_7 : Int32) (p0 : Int32) (p1 : Int32) (p2 : Int32) (p3 : Int32) (r60_1 : rg 0 8 v60_1) (r60_5 : rg 0 4 v60_5) (r60_6 : rg 0 9 v60_6) (r60_7 : rg 0 9 v60_7) (rp0 : rg 0 8 p0) (sz : Nat) : Met l yX0_open (wd yX0_open cX0_open 5 none) (RM 0 0 0) (PreW D (TY t) [.ref (a 60), .int p0, .int p1, .int p2, .int p3] [(a 60, .inr (0, [.int v60_0, .int v60_1, .int v60_2, .int v60_3, .int v60_4, .int v60_5, .int v60_6, .int v60_7, .ref (a 61), .ref (a 62), .ref (a 63), .ref (a 64), .ref (a 65), .ref (a 66), .ref (a 67), .ref (a 68), .ref (a 69), .ref (a 70), .ref (a 74)]))] sz) (va_Qv (fun (u : US) => rg 0 8 (u.1 0)) (fun (u : US) t9 => va_P D classes ((fun u : US => [(a 60, .inr (0, [.int v60_0, .int (u.1 0), .int (u.1 1), .int (u.1 2), .int (u.1 3), .int v60_5, .int v60_6, .int v60_7, .ref (a 61), .ref (a 62), .ref (a 63), .ref (a 64), .ref (a 65), .ref (a 66), .ref (a 67), .ref (a 68), .ref (a 69), .ref (a 70), .ref (a 74)]))]) u) t9.heap ∧ va_D (va_A [(a 60, .inr (0, [.int v60_0, .int v60_1, .int v60_2, .int v60_3, .int v60_4, .int v60_5, .int v60_6, .int v60_7, .ref (a 61), .ref (a 62), .ref (a 63), .ref (a 64), .ref (a 65), .ref (a 66), .ref (a 67), .ref (a 68), .ref (a 69), .ref (a 70), .ref (a 74)]))] sz) ((fun u : US => [(a 60, .inr (0, [.int v60_0, .int (u.1 0), .int (u.1 1), .int (u.1 2), .int (u.1 3), .int v60_5, .int v60_6, .int v60_7, .ref (a 61), .ref (a 62), .ref (a 63), .ref (a 64), .ref (a 65), .ref (a 66), .ref (a 67), .ref (a 68), .ref (a 69), .ref (a 70), .ref (a 74)]))]) u)) (va_A [(a 60, .inr (0, [.int v60_0, .int v60_1, .int v60_2, .int v60_3, .int v60_4, .int v60_5, .int v60_6, .int v60_7, .ref (a 61), .ref (a 62), .ref (a 63), .ref (a 64), .ref (a 65), .ref (a 66), .ref (a 67), .ref (a 68), .ref (a 69), .ref (a 70), .ref (a 74)]))] sz)) 0 0 (va_A [(a 60, .inr (0, [.int v60_0, .int v60_1, .int v60_2, .int v60_3, .int v60_4, .int v60_5, .int v60_6, .int v60_7, .ref (a 61), .ref (a 62), .ref (a 63), .ref (a 64), .ref (a 65), .ref (a 66), .ref (a 67), .ref (a 68), .ref (a 69), .ref (a 70), .ref (a 74)]))] sz) := by
  refine Met.ofW (cc := cX0_open) (maxL := 5) (ret := none) (by decide) rfl ?_
  intro p e s m args below meth c s₁ B hml hv
  obtain ⟨rfl, hsz, hP, hK, hD0, hN⟩ := hv
  have hx := B.exec
  have hb := B.bytes
  have hr := B.returns
  have hts : ∀ w ∈ TB, w.before _ s = true := fun w h => atoms_spec (ws := wd yX0_open cX0_open 5 none) B.pre w (List.mem_cons_of_mem _ h)
  have hown : s.vm.findClass RX0 = some m.cls := findClass_of_methodNamed B.named
  have hlocks := B.notSynchronized
  have hF : CallFix p m c cX0_open 5 s _ TB RX0 := ⟨hx, hb, hml, hown, hts⟩
  have hl := lv_entry ([.ref (a 60), .int p0, .int p1, .int p2, .int p3]) (n := 5) (Nat.le_of_ble_eq_true rfl)
  rw [lg_entry_eq]
  generalize (lg_sl ([.ref (a 60), .int p0, .int p1, .int p2, .int p3]) ++ List.replicate (5 - (lg_sl ([.ref (a 60), .int p0, .int p1, .int p2, .int p3])).length) Slot.unset).toArray = ls at hl ⊢
  have hl : lv_has ls 5 [(0, .ref (a 60)), (1, .int p0), (2, .int p1), (3, .int p2), (4, .int p3)] := hl
  subst hsz
  have hD := hD0.self (sz := s.heap.size)
  generalize hAe : va_A [(a 60, .inr (0, [.int v60_0, .int v60_1, .int v60_2, .int v60_3, .int v60_4, .int v60_5, .int v60_6, .int v60_7, .ref (a 61), .ref (a 62), .ref (a 63), .ref (a 64), .ref (a 65), .ref (a 66), .ref (a 67), .ref (a 68), .ref (a 69), .ref (a 70), .ref (a 74)]))] s.heap.size = A at hD ⊢
  have hA : ∀ q : Nat, s.heap.size ≤ q → A q := fun q h => by rw [← hAe]; exact Or.inr h
  have hS : va_S A s.heap s.heap [] := va_S.rf
  have hP : va_P D classes [(a 60, .inr (0, [.int v60_0, .int v60_1, .int v60_2, .int v60_3, .int v60_4, .int v60_5, .int v60_6, .int v60_7, .ref (a 61), .ref (a 62), .ref (a 63), .ref (a 64), .ref (a 65), .ref (a 66), .ref (a 67), .ref (a 68), .ref (a 69), .ref (a 70), .ref (a 74)]))] s.heap := hP
  refine lv_aload_n hx hb dX0_open_0 rfl (lv_at hl 0 rfl) ?_
  refine lv_iload_n hx hb dX0_open_1 rfl (lv_at hl 1 rfl) ?_
  refine va_put (D := D) (ci := 0) (v := .int p0) (ty := .int) (C := RX0) (T := TX0) (N := 19) hx hb hts iX0 tyX0 tyX0_ok nmX0 hown hK hP hD hS 0 rfl rfl 1 (by decide) (hts _ m_121) (fun _ h9 => h9) rfl (tyX0_ok 1 (by decide)) rfl rfl (Nat.le_of_ble_eq_true rfl) dX0_open_2 (fun H locs hP hD hS => ?_)
  have hP : va_P D classes [(a 60, .inr (0, [.int v60_0, .int p0, .int v60_2, .int v60_3, .int v60_4, .int v60_5, .int v60_6, .int v60_7, .ref (a 61), .ref (a 62), .ref (a 63), .ref (a 64), .ref (a 65), .ref (a 66), .ref (a 67), .ref (a 68), .ref (a 69), .ref (a 70), .ref (a 74)]))] H := hP
  have hD : va_D A [(a 60, .inr (0, [.int v60_0, .int p0, .int v60_2, .int v60_3, .int v60_4, .int v60_5, .int v60_6, .int v60_7, .ref (a 61), .ref (a 62), .ref (a 63), .ref (a 64), .ref (a 65), .ref (a 66), .ref (a 67), .ref (a 68), .ref (a 69), .ref (a 70), .ref (a 74)]))] := hD
  refine lv_aload_n hx hb dX0_open_5 rfl (lv_at hl 0 rfl) ?_
  refine lv_iload_n hx hb dX0_open_6 rfl (lv_at hl 2 rfl) ?_
  refine va_put (D := D) (ci := 0) (v := .int p1) (ty := .int) (C := RX0) (T := TX0) (N := 19) hx hb hts iX0 tyX0 tyX0_ok nmX0 hown hK hP hD hS 0 rfl rfl 2 (by decide) (hts _ m_125) (fun _ h9 => h9) rfl (tyX0_ok 2 (by decide)) rfl rfl (Nat.le_of_ble_eq_true rfl) dX0_open_7 (fun H locs hP hD hS => ?_)
  have hP : va_P D classes [(a 60, .inr (0, [.int v60_0, .int p0, .int p1, .int v60_3, .int v60_4, .int v60_5, .int v60_6, .int v60_7, .ref (a 61), .ref (a 62), .ref (a 63), .ref (a 64), .ref (a 65), .ref (a 66), .ref (a 67), .ref (a 68), .ref (a 69), .ref (a 70), .ref (a 74)]))] H := hP
  have hD : va_D A [(a 60, .inr (0, [.int v60_0, .int p0, .int p1, .int v60_3, .int v60_4, .int v60_5, .int v60_6, .int v60_7, .ref (a 61), .ref (a 62), .ref (a 63), .ref (a 64), .ref (a 65), .ref (a 66), .ref (a 67), .ref (a 68), .ref (a 69), .ref (a 70), .ref (a 74)]))] := hD
  refine lv_aload_n hx hb dX0_open_10 rfl (lv_at hl 0 rfl) ?_
  refine lv_iload_n hx hb dX0_open_11 rfl (lv_at hl 3 rfl) ?_
  refine va_put (D := D) (ci := 0) (v := .int p2) (ty := .int) (C := RX0) (T := TX0) (N := 19) hx hb hts iX0 tyX0 tyX0_ok nmX0 hown hK hP hD hS 0 rfl rfl 3 (by decide) (hts _ m_129) (fun _ h9 => h9) rfl (tyX0_ok 3 (by decide)) rfl rfl (Nat.le_of_ble_eq_true rfl) dX0_open_12 (fun H locs hP hD hS => ?_)
  have hP : va_P D classes [(a 60, .inr (0, [.int v60_0, .int p0, .int p1, .int p2, .int v60_4, .int v60_5, .int v60_6, .int v60_7, .ref (a 61), .ref (a 62), .ref (a 63), .ref (a 64), .ref (a 65), .ref (a 66), .ref (a 67), .ref (a 68), .ref (a 69), .ref (a 70), .ref (a 74)]))] H := hP
  have hD : va_D A [(a 60, .inr (0, [.int v60_0, .int p0, .int p1, .int p2, .int v60_4, .int v60_5, .int v60_6, .int v60_7, .ref (a 61), .ref (a 62), .ref (a 63), .ref (a 64), .ref (a 65), .ref (a 66), .ref (a 67), .ref (a 68), .ref (a 69), .ref (a 70), .ref (a 74)]))] := hD
  refine lv_aload_n hx hb dX0_open_15 rfl (lv_at hl 0 rfl) ?_
  refine lv_iload hx hb dX0_open_16 (lv_at hl 4 rfl) ?_
  refine va_put (D := D) (ci := 0) (v := .int p3) (ty := .int) (C := RX0) (T := TX0) (N := 19) hx hb hts iX0 tyX0 tyX0_ok nmX0 hown hK hP hD hS 0 rfl rfl 4 (by decide) (hts _ m_132) (fun _ h9 => h9) rfl (tyX0_ok 4 (by decide)) rfl rfl (Nat.le_of_ble_eq_true rfl) dX0_open_18 (fun H locs hP hD hS => ?_)
  have hP : va_P D classes [(a 60, .inr (0, [.int v60_0, .int p0, .int p1, .int p2, .int p3, .int v60_5, .int v60_6, .int v60_7, .ref (a 61), .ref (a 62), .ref (a 63), .ref (a 64), .ref (a 65), .ref (a 66), .ref (a 67), .ref (a 68), .ref (a 69), .ref (a 70), .ref (a 74)]))] H := hP
  have hD : va_D A [(a 60, .inr (0, [.int v60_0, .int p0, .int p1, .int p2, .int p3, .int v60_5, .int v60_6, .int v60_7, .ref (a 61), .ref (a 62), .ref (a 63), .ref (a 64), .ref (a 65), .ref (a 66), .ref (a 67), .ref (a 68), .ref (a 69), .ref (a 70), .ref (a 74)]))] := hD
  have hP9 := hP.sub (ws' := [(a 60, .inr (0, [.int v60_0, .int p0, .int p1, .int p2, .int p3, .int v60_5, .int v60_6, .int v60_7, .ref (a 61), .ref (a 62), .ref (a 63), .ref (a 64), .ref (a 65), .ref (a 66), .ref (a 67), .ref (a 68), .ref (a 69), .ref (a 70), .ref (a 74)]))]) [0] rfl
  have hD9 := hD.sub (ws' := [(a 60, .inr (0, [.int v60_0, .int p0, .int p1, .int p2, .int p3, .int v60_5, .int v60_6, .int v60_7, .ref (a 61), .ref (a 62), .ref (a 63), .ref (a 64), .ref (a 65), .ref (a 66), .ref (a 67), .ref (a 68), .ref (a 69), .ref (a 70), .ref (a 74)]))]) [0] (by decide) rfl
  exact W.vret hx hb hr (fun t9 ht hW => ⟨⟨(fun k => [p0, p1, p2, p3].getD k 0, fun k => [].getD k (fun _ => 0), fun k => [].getD k (fun _ => 0), fun _ => 0), rfl, rp0, by rw [ht]; exact hP9, hD9⟩, hS.F ht⟩) hS.2.2 dX0_open_21

set_option maxHeartbeats 4000000 in
set_option maxRecDepth 100000 in
theorem s_X0_open_80 (l : Launch) (D : va_G) (t : Nat → ClassId) (a : Nat → Nat) (v80_0 : Int32) (v80_1 : Int32) (v80_2 : Int32) (v80_3 : Int32) (v80_4 : Int32) (v80_5 : Int32) (v80_6 : Int32) (v80_7 : Int32) (p0 : Int32) (p1 : Int32) (p2 : Int32) (p3 : Int32) (r80_1 : rg 0 8 v80_1) (r80_5 : rg 0 4 v80_5) (r80_6 : rg 0 9 v80_6) (r80_7 : rg 0 9 v80_7) (rp0 : rg 0 8 p0) (sz : Nat) : Met l yX0_open (wd yX0_open cX0_open 5 none) (RM 0 0 0) (PreW D (TY t) [.ref (a 80), .int p0, .int p1, .int p2, .int p3] [(a 80, .inr (0, [.int v80_0, .int v80_1, .int v80_2, .int v80_3, .int v80_4, .int v80_5, .int v80_6, .int v80_7, .ref (a 81), .ref (a 82), .ref (a 83), .ref (a 84), .ref (a 85), .ref (a 86), .ref (a 87), .ref (a 88), .ref (a 89), .ref (a 90), .ref (a 94)]))] sz) (va_Qv (fun (u : US) => rg 0 8 (u.1 0)) (fun (u : US) t9 => va_P D classes ((fun u : US => [(a 80, .inr (0, [.int v80_0, .int (u.1 0), .int (u.1 1), .int (u.1 2), .int (u.1 3), .int v80_5, .int v80_6, .int v80_7, .ref (a 81), .ref (a 82), .ref (a 83), .ref (a 84), .ref (a 85), .ref (a 86), .ref (a 87), .ref (a 88), .ref (a 89), .ref (a 90), .ref (a 94)]))]) u) t9.heap ∧ va_D (va_A [(a 80, .inr (0, [.int v80_0, .int v80_1, .int v80_2, .int v80_3, .int v80_4, .int v80_5, .int v80_6, .int v80_7, .ref (a 81), .ref (a 82), .ref (a 83), .ref (a 84), .ref (a 85), .ref (a 86), .ref (a 87), .ref (a 88), .ref (a 89), .ref (a 90), .ref (a 94)]))] sz) ((fun u : US => [(a 80, .inr (0, [.int v80_0, .int (u.1 0), .int (u.1 1), .int (u.1 2), .int (u.1 3), .int v80_5, .int v80_6, .int v80_7, .ref (a 81), .ref (a 82), .ref (a 83), .ref (a 84), .ref (a 85), .ref (a 86), .ref (a 87), .ref (a 88), .ref (a 89), .ref (a 90), .ref (a 94)]))]) u)) (va_A [(a 80, .inr (0, [.int v80_0, .int v80_1, .int v80_2, .int v80_3, .int v80_4, .int v80_5, .int v80_6, .int v80_7, .ref (a 81), .ref (a 82), .ref (a 83), .ref (a 84), .ref (a 85), .ref (a 86), .ref (a 87), .ref (a 88), .ref (a 89), .ref (a 90), .ref (a 94)]))] sz)) 0 0 (va_A [(a 80, .inr (0, [.int v80_0, .int v80_1, .int v80_2, .int v80_3, .int v80_4, .int v80_5, .int v80_6, .int v80_7, .ref (a 81), .ref (a 82), .ref (a 83), .ref (a 84), .ref (a 85), .ref (a 86), .ref (a 87), .ref (a 88), .ref (a 89), .ref (a 90), .ref (a 94)]))] sz) := by
  refine Met.ofW (cc := cX0_open) (maxL := 5) (ret := none) (by decide) rfl ?_
  intro p e s m args below meth c s₁ B hml hv
  obtain ⟨rfl, hsz, hP, hK, hD0, hN⟩ := hv
  have hx := B.exec
  have hb := B.bytes
  have hr := B.returns
  have hts : ∀ w ∈ TB, w.before _ s = true := fun w h => atoms_spec (ws := wd yX0_open cX0_open 5 none) B.pre w (List.mem_cons_of_mem _ h)
  have hown : s.vm.findClass RX0 = some m.cls := findClass_of_methodNamed B.named
  have hlocks := B.notSynchronized
  have hF : CallFix p m c cX0_open 5 s _ TB RX0 := ⟨hx, hb, hml, hown, hts⟩
  have hl := lv_entry ([.ref (a 80), .int p0, .int p1, .int p2, .int p3]) (n := 5) (Nat.le_of_ble_eq_true rfl)
  rw [lg_entry_eq]
  generalize (lg_sl ([.ref (a 80), .int p0, .int p1, .int p2, .int p3]) ++ List.replicate (5 - (lg_sl ([.ref (a 80), .int p0, .int p1, .int p2, .int p3])).length) Slot.unset).toArray = ls at hl ⊢
  have hl : lv_has ls 5 [(0, .ref (a 80)), (1, .int p0), (2, .int p1), (3, .int p2), (4, .int p3)] := hl
  subst hsz
  have hD := hD0.self (sz := s.heap.size)
  generalize hAe : va_A [(a 80, .inr (0, [.int v80_0, .int v80_1, .int v80_2, .int v80_3, .int v80_4, .int v80_5, .int v80_6, .int v80_7, .ref (a 81), .ref (a 82), .ref (a 83), .ref (a 84), .ref (a 85), .ref (a 86), .ref (a 87), .ref (a 88), .ref (a 89), .ref (a 90), .ref (a 94)]))] s.heap.size = A at hD ⊢
  have hA : ∀ q : Nat, s.heap.size ≤ q → A q := fun q h => by rw [← hAe]; exact Or.inr h
  have hS : va_S A s.heap s.heap [] := va_S.rf
  have hP : va_P D classes [(a 80, .inr (0, [.int v80_0, .int v80_1, .int v80_2, .int v80_3, .int v80_4, .int v80_5, .int v80_6, .int v80_7, .ref (a 81), .ref (a 82), .ref (a 83), .ref (a 84), .ref (a 85), .ref (a 86), .ref (a 87), .ref (a 88), .ref (a 89), .ref (a 90), .ref (a 94)]))] s.heap := hP
  refine lv_aload_n hx hb dX0_open_0 rfl (lv_at hl 0 rfl) ?_
  refine lv_iload_n hx hb dX0_open_1 rfl (lv_at hl 1 rfl) ?_
  refine va_put (D := D) (ci := 0) (v := .int p0) (ty := .int) (C := RX0) (T := TX0) (N := 19) hx hb hts iX0 tyX0 tyX0_ok nmX0 hown hK hP hD hS 0 rfl rfl 1 (by decide) (hts _ m_121) (fun _ h9 => h9) rfl (tyX0_ok 1 (by decide)) rfl rfl (Nat.le_of_ble_eq_true rfl) dX0_open_2 (fun H locs hP hD hS => ?_)
  have hP : va_P D classes [(a 80, .inr (0, [.int v80_0, .int p0, .int v80_2, .int v80_3, .int v80_4, .int v80_5, .int v80_6, .int v80_7, .ref (a 81), .ref (a 82), .ref (a 83), .ref (a 84), .ref (a 85), .ref (a 86), .ref (a 87), .ref (a 88), .ref (a 89), .ref (a 90), .ref (a 94)]))] H := hP
  have hD : va_D A [(a 80, .inr (0, [.int v80_0, .int p0, .int v80_2, .int v80_3, .int v80_4, .int v80_5, .int v80_6, .int v80_7, .ref (a 81), .ref (a 82), .ref (a 83), .ref (a 84), .ref (a 85), .ref (a 86), .ref (a 87), .ref (a 88), .ref (a 89), .ref (a 90), .ref (a 94)]))] := hD
  refine lv_aload_n hx hb dX0_open_5 rfl (lv_at hl 0 rfl) ?_
  refine lv_iload_n hx hb dX0_open_6 rfl (lv_at hl 2 rfl) ?_
  refine va_put (D := D) (ci := 0) (v := .int p1) (ty := .int) (C := RX0) (T := TX0) (N := 19) hx hb hts iX0 tyX0 tyX0_ok nmX0 hown hK hP hD hS 0 rfl rfl 2 (by decide) (hts _ m_125) (fun _ h9 => h9) rfl (tyX0_ok 2 (by decide)) rfl rfl (Nat.le_of_ble_eq_true rfl) dX0_open_7 (fun H locs hP hD hS => ?_)
  have hP : va_P D classes [(a 80, .inr (0, [.int v80_0, .int p0, .int p1, .int v80_3, .int v80_4, .int v80_5, .int v80_6, .int v80_7, .ref (a 81), .ref (a 82), .ref (a 83), .ref (a 84), .ref (a 85), .ref (a 86), .ref (a 87), .ref (a 88), .ref (a 89), .ref (a 90), .ref (a 94)]))] H := hP
  have hD : va_D A [(a 80, .inr (0, [.int v80_0, .int p0, .int p1, .int v80_3, .int v80_4, .int v80_5, .int v80_6, .int v80_7, .ref (a 81), .ref (a 82), .ref (a 83), .ref (a 84), .ref (a 85), .ref (a 86), .ref (a 87), .ref (a 88), .ref (a 89), .ref (a 90), .ref (a 94)]))] := hD
  refine lv_aload_n hx hb dX0_open_10 rfl (lv_at hl 0 rfl) ?_
  refine lv_iload_n hx hb dX0_open_11 rfl (lv_at hl 3 rfl) ?_
  refine va_put (D := D) (ci := 0) (v := .int p2) (ty := .int) (C := RX0) (T := TX0) (N := 19) hx hb hts iX0 tyX0 tyX0_ok nmX0 hown hK hP hD hS 0 rfl rfl 3 (by decide) (hts _ m_129) (fun _ h9 => h9) rfl (tyX0_ok 3 (by decide)) rfl rfl (Nat.le_of_ble_eq_true rfl) dX0_open_12 (fun H locs hP hD hS => ?_)
  have hP : va_P D classes [(a 80, .inr (0, [.int v80_0, .int p0, .int p1, .int p2, .int v80_4, .int v80_5, .int v80_6, .int v80_7, .ref (a 81), .ref (a 82), .ref (a 83), .ref (a 84), .ref (a 85), .ref (a 86), .ref (a 87), .ref (a 88), .ref (a 89), .ref (a 90), .ref (a 94)]))] H := hP
  have hD : va_D A [(a 80, .inr (0, [.int v80_0, .int p0, .int p1, .int p2, .int v80_4, .int v80_5, .int v80_6, .int v80_7, .ref (a 81), .ref (a 82), .ref (a 83), .ref (a 84), .ref (a 85), .ref (a 86), .ref (a 87), .ref (a 88), .ref (a 89), .ref (a 90), .ref (a 94)]))] := hD
  refine lv_aload_n hx hb dX0_open_15 rfl (lv_at hl 0 rfl) ?_
  refine lv_iload hx hb dX0_open_16 (lv_at hl 4 rfl) ?_
  refine va_put (D := D) (ci := 0) (v := .int p3) (ty := .int) (C := RX0) (T := TX0) (N := 19) hx hb hts iX0 tyX0 tyX0_ok nmX0 hown hK hP hD hS 0 rfl rfl 4 (by decide) (hts _ m_132) (fun _ h9 => h9) rfl (tyX0_ok 4 (by decide)) rfl rfl (Nat.le_of_ble_eq_true rfl) dX0_open_18 (fun H locs hP hD hS => ?_)
  have hP : va_P D classes [(a 80, .inr (0, [.int v80_0, .int p0, .int p1, .int p2, .int p3, .int v80_5, .int v80_6, .int v80_7, .ref (a 81), .ref (a 82), .ref (a 83), .ref (a 84), .ref (a 85), .ref (a 86), .ref (a 87), .ref (a 88), .ref (a 89), .ref (a 90), .ref (a 94)]))] H := hP
  have hD : va_D A [(a 80, .inr (0, [.int v80_0, .int p0, .int p1, .int p2, .int p3, .int v80_5, .int v80_6, .int v80_7, .ref (a 81), .ref (a 82), .ref (a 83), .ref (a 84), .ref (a 85), .ref (a 86), .ref (a 87), .ref (a 88), .ref (a 89), .ref (a 90), .ref (a 94)]))] := hD
  have hP9 := hP.sub (ws' := [(a 80, .inr (0, [.int v80_0, .int p0, .int p1, .int p2, .int p3, .int v80_5, .int v80_6, .int v80_7, .ref (a 81), .ref (a 82), .ref (a 83), .ref (a 84), .ref (a 85), .ref (a 86), .ref (a 87), .ref (a 88), .ref (a 89), .ref (a 90), .ref (a 94)]))]) [0] rfl
  have hD9 := hD.sub (ws' := [(a 80, .inr (0, [.int v80_0, .int p0, .int p1, .int p2, .int p3, .int v80_5, .int v80_6, .int v80_7, .ref (a 81), .ref (a 82), .ref (a 83), .ref (a 84), .ref (a 85), .ref (a 86), .ref (a 87), .ref (a 88), .ref (a 89), .ref (a 90), .ref (a 94)]))]) [0] (by decide) rfl
  exact W.vret hx hb hr (fun t9 ht hW => ⟨⟨(fun k => [p0, p1, p2, p3].getD k 0, fun k => [].getD k (fun _ => 0), fun k => [].getD k (fun _ => 0), fun _ => 0), rfl, rp0, by rw [ht]; exact hP9, hD9⟩, hS.F ht⟩) hS.2.2 dX0_open_21

set_option maxHeartbeats 4000000 in
set_option maxRecDepth 100000 in
theorem s_X0_open_100 (l : Launch) (D : va_G) (t : Nat → ClassId) (a : Nat → Nat) (v100_0 : Int32) (v100_1 : Int32) (v100_2 : Int32) (v100_3 : Int32) (v100_4 : Int32) (v100_5 : Int32) (v100_6 : Int32) (v100_7 : Int32) (p0 : Int32) (p1 : Int32) (p2 : Int32) (p3 : Int32) (r100_1 : rg 0 8 v100_1) (r100_5 : rg 0 4 v100_5) (r100_6 : rg 0 9 v100_6) (r100_7 : rg 0 9 v100_7) (rp0 : rg 0 8 p0) (sz : Nat) : Met l yX0_open (wd yX0_open cX0_open 5 none) (RM 0 0 0) (PreW D (TY t) [.ref (a 100), .int p0, .int p1, .int p2, .int p3] [(a 100, .inr (0, [.int v100_0, .int v100_1, .int v100_2, .int v100_3, .int v100_4, .int v100_5, .int v100_6, .int v100_7, .ref (a 101), .ref (a 102), .ref (a 103), .ref (a 104), .ref (a 105), .ref (a 106), .ref (a 107), .ref (a 108), .ref (a 109), .ref (a 110), .ref (a 114)]))] sz) (va_Qv (fun (u : US) => rg 0 8 (u.1 0)) (fun (u : US) t9 => va_P D classes ((fun u : US => [(a 100, .inr (0, [.int v100_0, .int (u.1 0), .int (u.1 1), .int (u.1 2), .int (u.1 3), .int v100_5, .int v100_6, .int v100_7, .ref (a 101), .ref (a 102), .ref (a 103), .ref (a 104), .ref (a 105), .ref (a 106), .ref (a 107), .ref (a 108), .ref (a 109), .ref (a 110), .ref (a 114)]))]) u) t9.heap ∧ va_D (va_A [(a 100, .inr (0, [.int v100_0, .int v100_1, .int v100_2, .int v100_3, .int v100_4, .int v100_5, .int v100_6, .int v100_7, .ref (a 101), .ref (a 102), .ref (a 103), .ref (a 104), .ref (a 105), .ref (a 106), .ref (a 107), .ref (a 108), .ref (a 109), .ref (a 110), .ref (a 114)]))] sz) ((fun u : US => [(a 100, .inr (0, [.int v100_0, .int (u.1 0), .int (u.1 1), .int (u.1 2), .int (u.1 3), .int v100_5, .int v100_6, .int v100_7, .ref (a 101), .ref (a 102), .ref (a 103), .ref (a 104), .ref (a 105), .ref (a 106), .ref (a 107), .ref (a 108), .ref (a 109), .ref (a 110), .ref (a 114)]))]) u)) (va_A [(a 100, .inr (0, [.int v100_0, .int v100_1, .int v100_2, .int v100_3, .int v100_4, .int v100_5, .int v100_6, .int v100_7, .ref (a 101), .ref (a 102), .ref (a 103), .ref (a 104), .ref (a 105), .ref (a 106), .ref (a 107), .ref (a 108), .ref (a 109), .ref (a 110), .ref (a 114)]))] sz)) 0 0 (va_A [(a 100, .inr (0, [.int v100_0, .int v100_1, .int v100_2, .int v100_3, .int v100_4, .int v100_5, .int v100_6, .int v100_7, .ref (a 101), .ref (a 102), .ref (a 103), .ref (a 104), .ref (a 105), .ref (a 106), .ref (a 107), .ref (a 108), .ref (a 109), .ref (a 110), .ref (a 114)]))] sz) := by
  refine Met.ofW (cc := cX0_open) (maxL := 5) (ret := none) (by decide) rfl ?_
  intro p e s m args below meth c s₁ B hml hv
  obtain ⟨rfl, hsz, hP, hK, hD0, hN⟩ := hv
  have hx := B.exec
  have hb := B.bytes
  have hr := B.returns
  have hts : ∀ w ∈ TB, w.before _ s = true := fun w h => atoms_spec (ws := wd yX0_open cX0_open 5 none) B.pre w (List.mem_cons_of_mem _ h)
  have hown : s.vm.findClass RX0 = some m.cls := findClass_of_methodNamed B.named
  have hlocks := B.notSynchronized
  have hF : CallFix p m c cX0_open 5 s _ TB RX0 := ⟨hx, hb, hml, hown, hts⟩
  have hl := lv_entry ([.ref (a 100), .int p0, .int p1, .int p2, .int p3]) (n := 5) (Nat.le_of_ble_eq_true rfl)
  rw [lg_entry_eq]
  generalize (lg_sl ([.ref (a 100), .int p0, .int p1, .int p2, .int p3]) ++ List.replicate (5 - (lg_sl ([.ref (a 100), .int p0, .int p1, .int p2, .int p3])).length) Slot.unset).toArray = ls at hl ⊢
  have hl : lv_has ls 5 [(0, .ref (a 100)), (1, .int p0), (2, .int p1), (3, .int p2), (4, .int p3)] := hl
  subst hsz
  have hD := hD0.self (sz := s.heap.size)
  generalize hAe : va_A [(a 100, .inr (0, [.int v100_0, .int v100_1, .int v100_2, .int v100_3, .int v100_4, .int v100_5, .int v100_6, .int v100_7, .ref (a 101), .ref (a 102), .ref (a 103), .ref (a 104), .ref (a 105), .ref (a 106), .ref (a 107), .ref (a 108), .ref (a 109), .ref (a 110), .ref (a 114)]))] s.heap.size = A at hD ⊢
  have hA : ∀ q : Nat, s.heap.size ≤ q → A q := fun q h => by rw [← hAe]; exact Or.inr h
  have hS : va_S A s.heap s.heap [] := va_S.rf
  have hP : va_P D classes [(a 100, .inr (0, [.int v100_0, .int v100_1, .int v100_2, .int v100_3, .int v100_4, .int v100_5, .int v100_6, .int v100_7, .ref (a 101), .ref (a 102), .ref (a 103), .ref (a 104), .ref (a 105), .ref (a 106), .ref (a 107), .ref (a 108), .ref (a 109), .ref (a 110), .ref (a 114)]))] s.heap := hP
  refine lv_aload_n hx hb dX0_open_0 rfl (lv_at hl 0 rfl) ?_
  refine lv_iload_n hx hb dX0_open_1 rfl (lv_at hl 1 rfl) ?_
  refine va_put (D := D) (ci := 0) (v := .int p0) (ty := .int) (C := RX0) (T := TX0) (N := 19) hx hb hts iX0 tyX0 tyX0_ok nmX0 hown hK hP hD hS 0 rfl rfl 1 (by decide) (hts _ m_121) (fun _ h9 => h9) rfl (tyX0_ok 1 (by decide)) rfl rfl (Nat.le_of_ble_eq_true rfl) dX0_open_2 (fun H locs hP hD hS => ?_)
  have hP : va_P D classes [(a 100, .inr (0, [.int v100_0, .int p0, .int v100_2, .int v100_3, .int v100_4, .int v100_5, .int v100_6, .int v100_7, .ref (a 101), .ref (a 102), .ref (a 103), .ref (a 104), .ref (a 105), .ref (a 106), .ref (a 107), .ref (a 108), .ref (a 109), .ref (a 110), .ref (a 114)]))] H := hP
  have hD : va_D A [(a 100, .inr (0, [.int v100_0, .int p0, .int v100_2, .int v100_3, .int v100_4, .int v100_5, .int v100_6, .int v100_7, .ref (a 101), .ref (a 102), .ref (a 103), .ref (a 104), .ref (a 105), .ref (a 106), .ref (a 107), .ref (a 108), .ref (a 109), .ref (a 110), .ref (a 114)]))] := hD
  refine lv_aload_n hx hb dX0_open_5 rfl (lv_at hl 0 rfl) ?_
  refine lv_iload_n hx hb dX0_open_6 rfl (lv_at hl 2 rfl) ?_
  refine va_put (D := D) (ci := 0) (v := .int p1) (ty := .int) (C := RX0) (T := TX0) (N := 19) hx hb hts iX0 tyX0 tyX0_ok nmX0 hown hK hP hD hS 0 rfl rfl 2 (by decide) (hts _ m_125) (fun _ h9 => h9) rfl (tyX0_ok 2 (by decide)) rfl rfl (Nat.le_of_ble_eq_true rfl) dX0_open_7 (fun H locs hP hD hS => ?_)
  have hP : va_P D classes [(a 100, .inr (0, [.int v100_0, .int p0, .int p1, .int v100_3, .int v100_4, .int v100_5, .int v100_6, .int v100_7, .ref (a 101), .ref (a 102), .ref (a 103), .ref (a 104), .ref (a 105), .ref (a 106), .ref (a 107), .ref (a 108), .ref (a 109), .ref (a 110), .ref (a 114)]))] H := hP
  have hD : va_D A [(a 100, .inr (0, [.int v100_0, .int p0, .int p1, .int v100_3, .int v100_4, .int v100_5, .int v100_6, .int v100_7, .ref (a 101), .ref (a 102), .ref (a 103), .ref (a 104), .ref (a 105), .ref (a 106), .ref (a 107), .ref (a 108), .ref (a 109), .ref (a 110), .ref (a 114)]))] := hD
  refine lv_aload_n hx hb dX0_open_10 rfl (lv_at hl 0 rfl) ?_
  refine lv_iload_n hx hb dX0_open_11 rfl (lv_at hl 3 rfl) ?_
  refine va_put (D := D) (ci := 0) (v := .int p2) (ty := .int) (C := RX0) (T := TX0) (N := 19) hx hb hts iX0 tyX0 tyX0_ok nmX0 hown hK hP hD hS 0 rfl rfl 3 (by decide) (hts _ m_129) (fun _ h9 => h9) rfl (tyX0_ok 3 (by decide)) rfl rfl (Nat.le_of_ble_eq_true rfl) dX0_open_12 (fun H locs hP hD hS => ?_)
  have hP : va_P D classes [(a 100, .inr (0, [.int v100_0, .int p0, .int p1, .int p2, .int v100_4, .int v100_5, .int v100_6, .int v100_7, .ref (a 101), .ref (a 102), .ref (a 103), .ref (a 104), .ref (a 105), .ref (a 106), .ref (a 107), .ref (a 108), .ref (a 109), .ref (a 110), .ref (a 114)]))] H := hP
  have hD : va_D A [(a 100, .inr (0, [.int v100_0, .int p0, .int p1, .int p2, .int v100_4, .int v100_5, .int v100_6, .int v100_7, .ref (a 101), .ref (a 102), .ref (a 103), .ref (a 104), .ref (a 105), .ref (a 106), .ref (a 107), .ref (a 108), .ref (a 109), .ref (a 110), .ref (a 114)]))] := hD
  refine lv_aload_n hx hb dX0_open_15 rfl (lv_at hl 0 rfl) ?_
  refine lv_iload hx hb dX0_open_16 (lv_at hl 4 rfl) ?_
  refine va_put (D := D) (ci := 0) (v := .int p3) (ty := .int) (C := RX0) (T := TX0) (N := 19) hx hb hts iX0 tyX0 tyX0_ok nmX0 hown hK hP hD hS 0 rfl rfl 4 (by decide) (hts _ m_132) (fun _ h9 => h9) rfl (tyX0_ok 4 (by decide)) rfl rfl (Nat.le_of_ble_eq_true rfl) dX0_open_18 (fun H locs hP hD hS => ?_)
  have hP : va_P D classes [(a 100, .inr (0, [.int v100_0, .int p0, .int p1, .int p2, .int p3, .int v100_5, .int v100_6, .int v100_7, .ref (a 101), .ref (a 102), .ref (a 103), .ref (a 104), .ref (a 105), .ref (a 106), .ref (a 107), .ref (a 108), .ref (a 109), .ref (a 110), .ref (a 114)]))] H := hP
  have hD : va_D A [(a 100, .inr (0, [.int v100_0, .int p0, .int p1, .int p2, .int p3, .int v100_5, .int v100_6, .int v100_7, .ref (a 101), .ref (a 102), .ref (a 103), .ref (a 104), .ref (a 105), .ref (a 106), .ref (a 107), .ref (a 108), .ref (a 109), .ref (a 110), .ref (a 114)]))] := hD
  have hP9 := hP.sub (ws' := [(a 100, .inr (0, [.int v100_0, .int p0, .int p1, .int p2, .int p3, .int v100_5, .int v100_6, .int v100_7, .ref (a 101), .ref (a 102), .ref (a 103), .ref (a 104), .ref (a 105), .ref (a 106), .ref (a 107), .ref (a 108), .ref (a 109), .ref (a 110), .ref (a 114)]))]) [0] rfl
  have hD9 := hD.sub (ws' := [(a 100, .inr (0, [.int v100_0, .int p0, .int p1, .int p2, .int p3, .int v100_5, .int v100_6, .int v100_7, .ref (a 101), .ref (a 102), .ref (a 103), .ref (a 104), .ref (a 105), .ref (a 106), .ref (a 107), .ref (a 108), .ref (a 109), .ref (a 110), .ref (a 114)]))]) [0] (by decide) rfl
  exact W.vret hx hb hr (fun t9 ht hW => ⟨⟨(fun k => [p0, p1, p2, p3].getD k 0, fun k => [].getD k (fun _ => 0), fun k => [].getD k (fun _ => 0), fun _ => 0), rfl, rp0, by rw [ht]; exact hP9, hD9⟩, hS.F ht⟩) hS.2.2 dX0_open_21

set_option maxHeartbeats 4000000 in
set_option maxRecDepth 100000 in
theorem s_X9_clear_34 (l : Launch) (D : va_G) (t : Nat → ClassId) (a : Nat → Nat) (v34_0 : Int32) (v34_1 : Int32) (v34_2 : Int32) (f35 : Nat → Int32) (r34_0 : rg 0 60 v34_0) (sz : Nat) : Met l yX9_clear (wd yX9_clear cX9_clear 1 none) (RM 1 0 0) (PreW D (TY t) [.ref (a 34)] [(a 34, .inr (9, [.int v34_0, .int v34_1, .int v34_2, .ref (a 35), .ref (a 36), .ref (a 37), .ref (a 38)])), (a 35, .inl (t 0, 9, .inl f35))] sz) (va_Qv (fun (u : US) => rg 0 60 (u.1 0)) (fun (u : US) t9 => va_P D classes ((fun u : US => [(a 34, .inr (9, [.int (u.1 0), .int (u.1 1), .int (u.1 2), .ref (a 35), .ref (a 36), .ref (a 37), .ref (a 38)])), (a 35, .inl (t 0, 9, .inl (u.2.1 0)))]) u) t9.heap ∧ va_D (va_A [(a 34, .inr (9, [.int v34_0, .int v34_1, .int v34_2, .ref (a 35), .ref (a 36), .ref (a 37), .ref (a 38)])), (a 35, .inl (t 0, 9, .inl f35))] sz) ((fun u : US => [(a 34, .inr (9, [.int (u.1 0), .int (u.1 1), .int (u.1 2), .ref (a 35), .ref (a 36), .ref (a 37), .ref (a 38)])), (a 35, .inl (t 0, 9, .inl (u.2.1 0)))]) u)) (va_A [(a 34, .inr (9, [.int v34_0, .int v34_1, .int v34_2, .ref (a 35), .ref (a 36), .ref (a 37), .ref (a 38)])), (a 35, .inl (t 0, 9, .inl f35))] sz)) 0 0 (va_A [(a 34, .inr (9, [.int v34_0, .int v34_1, .int v34_2, .ref (a 35), .ref (a 36), .ref (a 37), .ref (a 38)])), (a 35, .inl (t 0, 9, .inl f35))] sz) := by
  refine Met.ofW (cc := cX9_clear) (maxL := 1) (ret := none) (by decide) rfl ?_
  intro p e s m args below meth c s₁ B hml hv
  obtain ⟨rfl, hsz, hP, hK, hD0, hN⟩ := hv
  have hx := B.exec
  have hb := B.bytes
  have hr := B.returns
  have hts : ∀ w ∈ TB, w.before _ s = true := fun w h => atoms_spec (ws := wd yX9_clear cX9_clear 1 none) B.pre w (List.mem_cons_of_mem _ h)
  have hown : s.vm.findClass RX9 = some m.cls := findClass_of_methodNamed B.named
  have hlocks := B.notSynchronized
  have hF : CallFix p m c cX9_clear 1 s _ TB RX9 := ⟨hx, hb, hml, hown, hts⟩
  have hl := lv_entry ([.ref (a 34)]) (n := 1) (Nat.le_of_ble_eq_true rfl)
  rw [lg_entry_eq]
  generalize (lg_sl ([.ref (a 34)]) ++ List.replicate (1 - (lg_sl ([.ref (a 34)])).length) Slot.unset).toArray = ls at hl ⊢
  have hl : lv_has ls 1 [(0, .ref (a 34))] := hl
  subst hsz
  have hD := hD0.self (sz := s.heap.size)
  generalize hAe : va_A [(a 34, .inr (9, [.int v34_0, .int v34_1, .int v34_2, .ref (a 35), .ref (a 36), .ref (a 37), .ref (a 38)])), (a 35, .inl (t 0, 9, .inl f35))] s.heap.size = A at hD ⊢
  have hA : ∀ q : Nat, s.heap.size ≤ q → A q := fun q h => by rw [← hAe]; exact Or.inr h
  have hS : va_S A s.heap s.heap [] := va_S.rf
  have hP : va_P D classes [(a 34, .inr (9, [.int v34_0, .int v34_1, .int v34_2, .ref (a 35), .ref (a 36), .ref (a 37), .ref (a 38)])), (a 35, .inl (t 0, 9, .inl f35))] s.heap := hP
  refine lv_aload_n hx hb dX9_clear_0 rfl (lv_at hl 0 rfl) ?_
  refine lv_iconst (v := 0) hx hb dX9_clear_1 (by decide) ?_
  refine va_put (D := D) (ci := 9) (v := .int 0) (ty := .int) (C := RX9) (T := TX9) (N := 7) hx hb hts iX9 tyX9 tyX9_ok nmX9 hown hK hP hD hS 0 rfl rfl 0 (by decide) (hts _ m_85) (fun _ h9 => h9) rfl (tyX9_ok 0 (by decide)) rfl rfl (Nat.le_of_ble_eq_true rfl) dX9_clear_2 (fun H locs hP hD hS => ?_)
  have hP : va_P D classes [(a 34, .inr (9, [.int 0, .int v34_1, .int v34_2, .ref (a 35), .ref (a 36), .ref (a 37), .ref (a 38)])), (a 35, .inl (t 0, 9, .inl f35))] H := hP
  have hD : va_D A [(a 34, .inr (9, [.int 0, .int v34_1, .int v34_2, .ref (a 35), .ref (a 36), .ref (a 37), .ref (a 38)])), (a 35, .inl (t 0, 9, .inl f35))] := hD
  refine lv_aload_n hx hb dX9_clear_5 rfl (lv_at hl 0 rfl) ?_
  refine lv_iconst (v := 0) hx hb dX9_clear_6 (by decide) ?_
  refine va_put (D := D) (ci := 9) (v := .int 0) (ty := .int) (C := RX9) (T := TX9) (N := 7) hx hb hts iX9 tyX9 tyX9_ok nmX9 hown hK hP hD hS 0 rfl rfl 1 (by decide) (hts _ m_87) (fun _ h9 => h9) rfl (tyX9_ok 1 (by decide)) rfl rfl (Nat.le_of_ble_eq_true rfl) dX9_clear_7 (fun H locs hP hD hS => ?_)
  have hP : va_P D classes [(a 34, .inr (9, [.int 0, .int 0, .int v34_2, .ref (a 35), .ref (a 36), .ref (a 37), .ref (a 38)])), (a 35, .inl (t 0, 9, .inl f35))] H := hP
  have hD : va_D A [(a 34, .inr (9, [.int 0, .int 0, .int v34_2, .ref (a 35), .ref (a 36), .ref (a 37), .ref (a 38)])), (a 35, .inl (t 0, 9, .inl f35))] := hD
  refine lv_aload_n hx hb dX9_clear_10 rfl (lv_at hl 0 rfl) ?_
  refine lv_iconst (v := 0) hx hb dX9_clear_11 (by decide) ?_
  refine va_put (D := D) (ci := 9) (v := .int 0) (ty := .int) (C := RX9) (T := TX9) (N := 7) hx hb hts iX9 tyX9 tyX9_ok nmX9 hown hK hP hD hS 0 rfl rfl 2 (by decide) (hts _ m_91) (fun _ h9 => h9) rfl (tyX9_ok 2 (by decide)) rfl rfl (Nat.le_of_ble_eq_true rfl) dX9_clear_12 (fun H locs hP hD hS => ?_)
  have hP : va_P D classes [(a 34, .inr (9, [.int 0, .int 0, .int 0, .ref (a 35), .ref (a 36), .ref (a 37), .ref (a 38)])), (a 35, .inl (t 0, 9, .inl f35))] H := hP
  have hD : va_D A [(a 34, .inr (9, [.int 0, .int 0, .int 0, .ref (a 35), .ref (a 36), .ref (a 37), .ref (a 38)])), (a 35, .inl (t 0, 9, .inl f35))] := hD
  refine lv_aload_n hx hb dX9_clear_15 rfl (lv_at hl 0 rfl) ?_
  refine va_get (D := D) (ci := 9) (v := .ref (a 35)) (C := RX9) (T := TX9) (N := 7) hx hb hts iX9 hown hK hP 0 rfl rfl 3 (by decide) (hts _ m_96) (fun _ h9 => h9) rfl dX9_clear_16 ?_
  refine lv_iconst (v := 0) hx hb dX9_clear_19 (by decide) ?_
  refine y_wS (wr := [(a 34, .inr (9, [.int 0, .int 0, .int 0, .ref (a 35), .ref (a 36), .ref (a 37), .ref (a 38)]))]) hF (s_fill_35 l D t a f35 0 H.size) m_506 m_507 m_14 m_508 hd_J7_fill_53178 ⟨Nat.le_of_ble_eq_true rfl, Nat.le_of_ble_eq_true rfl⟩ hK hN hP hD hS hA [1] [0] rfl rfl (by decide) (by decide) (by decide) hl.1 rfl (Nat.le_of_ble_eq_true rfl) dX9_clear_20 ⟨Nat.zero_le _, Nat.zero_le _⟩ (fun u_1 H locs hu_1 hP hD hS => ?_)
  have hP : va_P D classes [(a 34, .inr (9, [.int 0, .int 0, .int 0, .ref (a 35), .ref (a 36), .ref (a 37), .ref (a 38)])), (a 35, .inl (t 0, 9, .inl (u_1.2.1 0)))] H := hP
  have hD : va_D A [(a 34, .inr (9, [.int 0, .int 0, .int 0, .ref (a 35), .ref (a 36), .ref (a 37), .ref (a 38)])), (a 35, .inl (t 0, 9, .inl (u_1.2.1 0)))] := hD
  have hP9 := hP.sub (ws' := [(a 34, .inr (9, [.int 0, .int 0, .int 0, .ref (a 35), .ref (a 36), .ref (a 37), .ref (a 38)])), (a 35, .inl (t 0, 9, .inl (u_1.2.1 0)))]) [0, 1] rfl
  have hD9 := hD.sub (ws' := [(a 34, .inr (9, [.int 0, .int 0, .int 0, .ref (a 35), .ref (a 36), .ref (a 37), .ref (a 38)])), (a 35, .inl (t 0, 9, .inl (u_1.2.1 0)))]) [0, 1] (by decide) rfl
  exact W.vret hx hb hr (fun t9 ht hW => ⟨⟨(fun k => [0, 0, 0].getD k 0, fun k => [(u_1.2.1 0)].getD k (fun _ => 0), fun k => [].getD k (fun _ => 0), fun _ => 0), rfl, (rg_w (c := 0) (d := 60) (rg_c (x := 0) (k := 0) (by decide)) (by decide) (by decide)), by rw [ht]; exact hP9, hD9⟩, hS.F ht⟩) hS.2.2 dX9_clear_23

set_option maxHeartbeats 4000000 in
set_option maxRecDepth 100000 in
theorem s_X0_clear_20 (l : Launch) (D : va_G) (t : Nat → ClassId) (a : Nat → Nat) (v20_0 : Int32) (v20_1 : Int32) (v20_2 : Int32) (v20_3 : Int32) (v20_4 : Int32) (v20_5 : Int32) (v20_6 : Int32) (v20_7 : Int32) (v30_0 : Int32) (v34_0 : Int32) (v34_1 : Int32) (v34_2 : Int32) (f35 : Nat → Int32) (r20_1 : rg 0 8 v20_1) (r20_5 : rg 0 4 v20_5) (r20_6 : rg 0 9 v20_6) (r20_7 : rg 0 9 v20_7) (r30_0 : rg 0 8 v30_0) (r34_0 : rg 0 60 v34_0) (sz : Nat) : Met l yX0_clear (wd yX0_clear cX0_clear 1 none) (RM 2 0 0) (PreW D (TY t) [.ref (a 20)] [(a 20, .inr (0, [.int v20_0, .int v20_1, .int v20_2, .int v20_3, .int v20_4, .int v20_5, .int v20_6, .int v20_7, .ref (a 21), .ref (a 22), .ref (a 23), .ref (a 24), .ref (a 25), .ref (a 26), .ref (a 27), .ref (a 28), .ref (a 29), .ref (a 30), .ref (a 34)])), (a 30, .inr (5, [.int v30_0, .ref (a 31), .ref (a 32), .ref (a 33)])), (a 34, .inr (9, [.int v34_0, .int v34_1, .int v34_2, .ref (a 35), .ref (a 36), .ref (a 37), .ref (a 38)])), (a 35, .inl (t 0, 9, .inl f35))] sz) (va_Qv (fun (u : US) => rg 0 8 (u.1 1) ∧ rg 0 4 (u.1 5) ∧ rg 0 9 (u.1 6) ∧ rg 0 9 (u.1 7) ∧ rg 0 8 (u.1 8) ∧ rg 0 60 (u.1 9)) (fun (u : US) t9 => va_P D classes ((fun u : US => [(a 20, .inr (0, [.int (u.1 0), .int (u.1 1), .int (u.1 2), .int (u.1 3), .int (u.1 4), .int (u.1 5), .int (u.1 6), .int (u.1 7), .ref (a 21), .ref (a 22), .ref (a 23), .ref (a 24), .ref (a 25), .ref (a 26), .ref (a 27), .ref (a 28), .ref (a 29), .ref (a 30), .ref (a 34)])), (a 30, .inr (5, [.int (u.1 8), .ref (a 31), .ref (a 32), .ref (a 33)])), (a 34, .inr (9, [.int (u.1 9), .int (u.1 10), .int (u.1 11), .ref (a 35), .ref (a 36), .ref (a 37), .ref (a 38)])), (a 35, .inl (t 0, 9, .inl (u.2.1 0)))]) u) t9.heap ∧ va_D (va_A [(a 20, .inr (0, [.int v20_0, .int v20_1, .int v20_2, .int v20_3, .int v20_4, .int v20_5, .int v20_6, .int v20_7, .ref (a 21), .ref (a 22), .ref (a 23), .ref (a 24), .ref (a 25), .ref (a 26), .ref (a 27), .ref (a 28), .ref (a 29), .ref (a 30), .ref (a 34)])), (a 30, .inr (5, [.int v30_0, .ref (a 31), .ref (a 32), .ref (a 33)])), (a 34, .inr (9, [.int v34_0, .int v34_1, .int v34_2, .ref (a 35), .ref (a 36), .ref (a 37), .ref (a 38)])), (a 35, .inl (t 0, 9, .inl f35))] sz) ((fun u : US => [(a 20, .inr (0, [.int (u.1 0), .int (u.1 1), .int (u.1 2), .int (u.1 3), .int (u.1 4), .int (u.1 5), .int (u.1 6), .int (u.1 7), .ref (a 21), .ref (a 22), .ref (a 23), .ref (a 24), .ref (a 25), .ref (a 26), .ref (a 27), .ref (a 28), .ref (a 29), .ref (a 30), .ref (a 34)])), (a 30, .inr (5, [.int (u.1 8), .ref (a 31), .ref (a 32), .ref (a 33)])), (a 34, .inr (9, [.int (u.1 9), .int (u.1 10), .int (u.1 11), .ref (a 35), .ref (a 36), .ref (a 37), .ref (a 38)])), (a 35, .inl (t 0, 9, .inl (u.2.1 0)))]) u)) (va_A [(a 20, .inr (0, [.int v20_0, .int v20_1, .int v20_2, .int v20_3, .int v20_4, .int v20_5, .int v20_6, .int v20_7, .ref (a 21), .ref (a 22), .ref (a 23), .ref (a 24), .ref (a 25), .ref (a 26), .ref (a 27), .ref (a 28), .ref (a 29), .ref (a 30), .ref (a 34)])), (a 30, .inr (5, [.int v30_0, .ref (a 31), .ref (a 32), .ref (a 33)])), (a 34, .inr (9, [.int v34_0, .int v34_1, .int v34_2, .ref (a 35), .ref (a 36), .ref (a 37), .ref (a 38)])), (a 35, .inl (t 0, 9, .inl f35))] sz)) 0 0 (va_A [(a 20, .inr (0, [.int v20_0, .int v20_1, .int v20_2, .int v20_3, .int v20_4, .int v20_5, .int v20_6, .int v20_7, .ref (a 21), .ref (a 22), .ref (a 23), .ref (a 24), .ref (a 25), .ref (a 26), .ref (a 27), .ref (a 28), .ref (a 29), .ref (a 30), .ref (a 34)])), (a 30, .inr (5, [.int v30_0, .ref (a 31), .ref (a 32), .ref (a 33)])), (a 34, .inr (9, [.int v34_0, .int v34_1, .int v34_2, .ref (a 35), .ref (a 36), .ref (a 37), .ref (a 38)])), (a 35, .inl (t 0, 9, .inl f35))] sz) := by
  refine Met.ofW (cc := cX0_clear) (maxL := 1) (ret := none) (by decide) rfl ?_
  intro p e s m args below meth c s₁ B hml hv
  obtain ⟨rfl, hsz, hP, hK, hD0, hN⟩ := hv
  have hx := B.exec
  have hb := B.bytes
  have hr := B.returns
  have hts : ∀ w ∈ TB, w.before _ s = true := fun w h => atoms_spec (ws := wd yX0_clear cX0_clear 1 none) B.pre w (List.mem_cons_of_mem _ h)
  have hown : s.vm.findClass RX0 = some m.cls := findClass_of_methodNamed B.named
  have hlocks := B.notSynchronized
  have hF : CallFix p m c cX0_clear 1 s _ TB RX0 := ⟨hx, hb, hml, hown, hts⟩
  have hl := lv_entry ([.ref (a 20)]) (n := 1) (Nat.le_of_ble_eq_true rfl)
  rw [lg_entry_eq]
  generalize (lg_sl ([.ref (a 20)]) ++ List.replicate (1 - (lg_sl ([.ref (a 20)])).length) Slot.unset).toArray = ls at hl ⊢
  have hl : lv_has ls 1 [(0, .ref (a 20))] := hl
  subst hsz
  have hD := hD0.self (sz := s.heap.size)
  generalize hAe : va_A [(a 20, .inr (0, [.int v20_0, .int v20_1, .int v20_2, .int v20_3, .int v20_4, .int v20_5, .int v20_6, .int v20_7, .ref (a 21), .ref (a 22), .ref (a 23), .ref (a 24), .ref (a 25), .ref (a 26), .ref (a 27), .ref (a 28), .ref (a 29), .ref (a 30), .ref (a 34)])), (a 30, .inr (5, [.int v30_0, .ref (a 31), .ref (a 32), .ref (a 33)])), (a 34, .inr (9, [.int v34_0, .int v34_1, .int v34_2, .ref (a 35), .ref (a 36), .ref (a 37), .ref (a 38)])), (a 35, .inl (t 0, 9, .inl f35))] s.heap.size = A at hD ⊢
  have hA : ∀ q : Nat, s.heap.size ≤ q → A q := fun q h => by rw [← hAe]; exact Or.inr h
  have hS : va_S A s.heap s.heap [] := va_S.rf
  have hP : va_P D classes [(a 20, .inr (0, [.int v20_0, .int v20_1, .int v20_2, .int v20_3, .int v20_4, .int v20_5, .int v20_6, .int v20_7, .ref (a 21), .ref (a 22), .ref (a 23), .ref (a 24), .ref (a 25), .ref (a 26), .ref (a 27), .ref (a 28), .ref (a 29), .ref (a 30), .ref (a 34)])), (a 30, .inr (5, [.int v30_0, .ref (a 31), .ref (a 32), .ref (a 33)])), (a 34, .inr (9, [.int v34_0, .int v34_1, .int v34_2, .ref (a 35), .ref (a 36), .ref (a 37), .ref (a 38)])), (a 35, .inl (t 0, 9, .inl f35))] s.heap := hP
  refine lv_aload_n hx hb dX0_clear_0 rfl (lv_at hl 0 rfl) ?_
  refine lv_iconst (v := 0) hx hb dX0_clear_1 (by decide) ?_
  refine va_put (D := D) (ci := 0) (v := .int 0) (ty := .int) (C := RX0) (T := TX0) (N := 19) hx hb hts iX0 tyX0 tyX0_ok nmX0 hown hK hP hD hS 0 rfl rfl 0 (by decide) (hts _ m_117) (fun _ h9 => h9) rfl (tyX0_ok 0 (by decide)) rfl rfl (Nat.le_of_ble_eq_true rfl) dX0_clear_2 (fun H locs hP hD hS => ?_)
  have hP : va_P D classes [(a 20, .inr (0, [.int 0, .int v20_1, .int v20_2, .int v20_3, .int v20_4, .int v20_5, .int v20_6, .int v20_7, .ref (a 21), .ref (a 22), .ref (a 23), .ref (a 24), .ref (a 25), .ref (a 26), .ref (a 27), .ref (a 28), .ref (a 29), .ref (a 30), .ref (a 34)])), (a 30, .inr (5, [.int v30_0, .ref (a 31), .ref (a 32), .ref (a 33)])), (a 34, .inr (9, [.int v34_0, .int v34_1, .int v34_2, .ref (a 35), .ref (a 36), .ref (a 37), .ref (a 38)])), (a 35, .inl (t 0, 9, .inl f35))] H := hP
  have hD : va_D A [(a 20, .inr (0, [.int 0, .int v20_1, .int v20_2, .int v20_3, .int v20_4, .int v20_5, .int v20_6, .int v20_7, .ref (a 21), .ref (a 22), .ref (a 23), .ref (a 24), .ref (a 25), .ref (a 26), .ref (a 27), .ref (a 28), .ref (a 29), .ref (a 30), .ref (a 34)])), (a 30, .inr (5, [.int v30_0, .ref (a 31), .ref (a 32), .ref (a 33)])), (a 34, .inr (9, [.int v34_0, .int v34_1, .int v34_2, .ref (a 35), .ref (a 36), .ref (a 37), .ref (a 38)])), (a 35, .inl (t 0, 9, .inl f35))] := hD
  refine lv_aload_n hx hb dX0_clear_5 rfl (lv_at hl 0 rfl) ?_
  refine lv_iconst (v := 0) hx hb dX0_clear_6 (by decide) ?_
  refine lv_iconst (v := 0) hx hb dX0_clear_7 (by decide) ?_
  refine lv_iconst (v := 0) hx hb dX0_clear_8 (by decide) ?_
  refine lv_iconst (v := 0) hx hb dX0_clear_9 (by decide) ?_
  refine y_wV (wr := [(a 30, .inr (5, [.int v30_0, .ref (a 31), .ref (a 32), .ref (a 33)])), (a 34, .inr (9, [.int v34_0, .int v34_1, .int v34_2, .ref (a 35), .ref (a 36), .ref (a 37), .ref (a 38)])), (a 35, .inl (t 0, 9, .inl f35))]) hF (s_X0_open_20 l D t a 0 v20_1 v20_2 v20_3 v20_4 v20_5 v20_6 v20_7 0 0 0 0 r20_1 r20_5 r20_6 r20_7 (rg_w (c := 0) (d := 8) (rg_c (x := 0) (k := 0) (by decide)) (by decide) (by decide)) H.size) m_498 m_499 m_500 m_3 m_501 hd_X0_open ⟨Nat.le_of_ble_eq_true rfl, Nat.le_of_ble_eq_true rfl⟩ hK hN hP hD hS hA 0 (ci := 0) rfl rfl rfl [0] [1, 2, 3] rfl rfl (by decide) (by decide) (by decide) hl.1 rfl (Nat.le_of_ble_eq_true rfl) dX0_clear_10 ⟨Nat.zero_le _, Nat.zero_le _⟩ (fun u_1 H locs hu_1 hP hD hS => ?_)
  have h_3 := hu_1
  have hP : va_P D classes [(a 30, .inr (5, [.int v30_0, .ref (a 31), .ref (a 32), .ref (a 33)])), (a 34, .inr (9, [.int v34_0, .int v34_1, .int v34_2, .ref (a 35), .ref (a 36), .ref (a 37), .ref (a 38)])), (a 35, .inl (t 0, 9, .inl f35)), (a 20, .inr (0, [.int 0, .int (u_1.1 0), .int (u_1.1 1), .int (u_1.1 2), .int (u_1.1 3), .int v20_5, .int v20_6, .int v20_7, .ref (a 21), .ref (a 22), .ref (a 23), .ref (a 24), .ref (a 25), .ref (a 26), .ref (a 27), .ref (a 28), .ref (a 29), .ref (a 30), .ref (a 34)]))] H := hP
  have hD : va_D A [(a 30, .inr (5, [.int v30_0, .ref (a 31), .ref (a 32), .ref (a 33)])), (a 34, .inr (9, [.int v34_0, .int v34_1, .int v34_2, .ref (a 35), .ref (a 36), .ref (a 37), .ref (a 38)])), (a 35, .inl (t 0, 9, .inl f35)), (a 20, .inr (0, [.int 0, .int (u_1.1 0), .int (u_1.1 1), .int (u_1.1 2), .int (u_1.1 3), .int v20_5, .int v20_6, .int v20_7, .ref (a 21), .ref (a 22), .ref (a 23), .ref (a 24), .ref (a 25), .ref (a 26), .ref (a 27), .ref (a 28), .ref (a 29), .ref (a 30), .ref (a 34)]))] := hD
  refine lv_aload_n hx hb dX0_clear_13 rfl (lv_at hl 0 rfl) ?_
  refine lv_iconst (v := 0) hx hb dX0_clear_14 (by decide) ?_
  refine va_put (D := D) (ci := 0) (v := .int 0) (ty := .int) (C := RX0) (T := TX0) (N := 19) hx hb hts iX0 tyX0 tyX0_ok nmX0 hown hK hP hD hS 3 rfl rfl 5 (by decide) (hts _ m_135) (fun _ h9 => h9) rfl (tyX0_ok 5 (by decide)) rfl rfl (Nat.le_of_ble_eq_true rfl) dX0_clear_15 (fun H locs hP hD hS => ?_)
  have hP : va_P D classes [(a 30, .inr (5, [.int v30_0, .ref (a 31), .ref (a 32), .ref (a 33)])), (a 34, .inr (9, [.int v34_0, .int v34_1, .int v34_2, .ref (a 35), .ref (a 36), .ref (a 37), .ref (a 38)])), (a 35, .inl (t 0, 9, .inl f35)), (a 20, .inr (0, [.int 0, .int (u_1.1 0), .int (u_1.1 1), .int (u_1.1 2), .int (u_1.1 3), .int 0, .int v20_6, .int v20_7, .ref (a 21), .ref (a 22), .ref (a 23), .ref (a 24), .ref (a 25), .ref (a 26), .ref (a 27), .ref (a 28), .ref (a 29), .ref (a 30), .ref (a 34)]))] H := hP
  have hD : va_D A [(a 30, .inr (5, [.int v30_0, .ref (a 31), .ref (a 32), .ref (a 33)])), (a 34, .inr (9, [.int v34_0, .int v34_1, .int v34_2, .ref (a 35), .ref (a 36), .ref (a 37), .ref (a 38)])), (a 35, .inl (t 0, 9, .inl f35)), (a 20, .inr (0, [.int 0, .int (u_1.1 0), .int (u_1.1 1), .int (u_1.1 2), .int (u_1.1 3), .int 0, .int v20_6, .int v20_7, .ref (a 21), .ref (a 22), .ref (a 23), .ref (a 24), .ref (a 25), .ref (a 26), .ref (a 27), .ref (a 28), .ref (a 29), .ref (a 30), .ref (a 34)]))] := hD
  refine lv_aload_n hx hb dX0_clear_18 rfl (lv_at hl 0 rfl) ?_
  refine lv_iconst (v := 0) hx hb dX0_clear_19 (by decide) ?_
  refine va_put (D := D) (ci := 0) (v := .int 0) (ty := .int) (C := RX0) (T := TX0) (N := 19) hx hb hts iX0 tyX0 tyX0_ok nmX0 hown hK hP hD hS 3 rfl rfl 6 (by decide) (hts _ m_142) (fun _ h9 => h9) rfl (tyX0_ok 6 (by decide)) rfl rfl (Nat.le_of_ble_eq_true rfl) dX0_clear_20 (fun H locs hP hD hS => ?_)
  have hP : va_P D classes [(a 30, .inr (5, [.int v30_0, .ref (a 31), .ref (a 32), .ref (a 33)])), (a 34, .inr (9, [.int v34_0, .int v34_1, .int v34_2, .ref (a 35), .ref (a 36), .ref (a 37), .ref (a 38)])), (a 35, .inl (t 0, 9, .inl f35)), (a 20, .inr (0, [.int 0, .int (u_1.1 0), .int (u_1.1 1), .int (u_1.1 2), .int (u_1.1 3), .int 0, .int 0, .int v20_7, .ref (a 21), .ref (a 22), .ref (a 23), .ref (a 24), .ref (a 25), .ref (a 26), .ref (a 27), .ref (a 28), .ref (a 29), .ref (a 30), .ref (a 34)]))] H := hP
  have hD : va_D A [(a 30, .inr (5, [.int v30_0, .ref (a 31), .ref (a 32), .ref (a 33)])), (a 34, .inr (9, [.int v34_0, .int v34_1, .int v34_2, .ref (a 35), .ref (a 36), .ref (a 37), .ref (a 38)])), (a 35, .inl (t 0, 9, .inl f35)), (a 20, .inr (0, [.int 0, .int (u_1.1 0), .int (u_1.1 1), .int (u_1.1 2), .int (u_1.1 3), .int 0, .int 0, .int v20_7, .ref (a 21), .ref (a 22), .ref (a 23), .ref (a 24), .ref (a 25), .ref (a 26), .ref (a 27), .ref (a 28), .ref (a 29), .ref (a 30), .ref (a 34)]))] := hD
  refine lv_aload_n hx hb dX0_clear_23 rfl (lv_at hl 0 rfl) ?_
  refine lv_iconst (v := 0) hx hb dX0_clear_24 (by decide) ?_
  refine va_put (D := D) (ci := 0) (v := .int 0) (ty := .int) (C := RX0) (T := TX0) (N := 19) hx hb hts iX0 tyX0 tyX0_ok nmX0 hown hK hP hD hS 3 rfl rfl 7 (by decide) (hts _ m_149) (fun _ h9 => h9) rfl (tyX0_ok 7 (by decide)) rfl rfl (Nat.le_of_ble_eq_true rfl) dX0_clear_25 (fun H locs hP hD hS => ?_)
  have hP : va_P D classes [(a 30, .inr (5, [.int v30_0, .ref (a 31), .ref (a 32), .ref (a 33)])), (a 34, .inr (9, [.int v34_0, .int v34_1, .int v34_2, .ref (a 35), .ref (a 36), .ref (a 37), .ref (a 38)])), (a 35, .inl (t 0, 9, .inl f35)), (a 20, .inr (0, [.int 0, .int (u_1.1 0), .int (u_1.1 1), .int (u_1.1 2), .int (u_1.1 3), .int 0, .int 0, .int 0, .ref (a 21), .ref (a 22), .ref (a 23), .ref (a 24), .ref (a 25), .ref (a 26), .ref (a 27), .ref (a 28), .ref (a 29), .ref (a 30), .ref (a 34)]))] H := hP
  have hD : va_D A [(a 30, .inr (5, [.int v30_0, .ref (a 31), .ref (a 32), .ref (a 33)])), (a 34, .inr (9, [.int v34_0, .int v34_1, .int v34_2, .ref (a 35), .ref (a 36), .ref (a 37), .ref (a 38)])), (a 35, .inl (t 0, 9, .inl f35)), (a 20, .inr (0, [.int 0, .int (u_1.1 0), .int (u_1.1 1), .int (u_1.1 2), .int (u_1.1 3), .int 0, .int 0, .int 0, .ref (a 21), .ref (a 22), .ref (a 23), .ref (a 24), .ref (a 25), .ref (a 26), .ref (a 27), .ref (a 28), .ref (a 29), .ref (a 30), .ref (a 34)]))] := hD
  refine lv_aload_n hx hb dX0_clear_28 rfl (lv_at hl 0 rfl) ?_
  refine va_get (D := D) (ci := 0) (v := .ref (a 30)) (C := RX0) (T := TX0) (N := 19) hx hb hts iX0 hown hK hP 3 rfl rfl 17 (by decide) (hts _ m_185) (fun _ h9 => h9) rfl dX0_clear_29 ?_
  refine lv_iconst (v := 0) hx hb dX0_clear_32 (by decide) ?_
  refine va_putN (D := D) (ci := 5) (v := .int 0) (ty := .int) (C := RX5) (T := TX5) (N := 4) (host := "WordSeats") hx hb hts iX5 tyX5 tyX5_ok nmX5 hown hK hP hD hS 0 rfl rfl 0 (by decide) (va_Nw.use rfl (hN _ n_59)) (fun _ h9 => h9) rfl (tyX5_ok 0 (by decide)) rfl rfl (Nat.le_of_ble_eq_true rfl) dX0_clear_33 (fun H locs hP hD hS => ?_)
  have hP : va_P D classes [(a 30, .inr (5, [.int 0, .ref (a 31), .ref (a 32), .ref (a 33)])), (a 34, .inr (9, [.int v34_0, .int v34_1, .int v34_2, .ref (a 35), .ref (a 36), .ref (a 37), .ref (a 38)])), (a 35, .inl (t 0, 9, .inl f35)), (a 20, .inr (0, [.int 0, .int (u_1.1 0), .int (u_1.1 1), .int (u_1.1 2), .int (u_1.1 3), .int 0, .int 0, .int 0, .ref (a 21), .ref (a 22), .ref (a 23), .ref (a 24), .ref (a 25), .ref (a 26), .ref (a 27), .ref (a 28), .ref (a 29), .ref (a 30), .ref (a 34)]))] H := hP
  have hD : va_D A [(a 30, .inr (5, [.int 0, .ref (a 31), .ref (a 32), .ref (a 33)])), (a 34, .inr (9, [.int v34_0, .int v34_1, .int v34_2, .ref (a 35), .ref (a 36), .ref (a 37), .ref (a 38)])), (a 35, .inl (t 0, 9, .inl f35)), (a 20, .inr (0, [.int 0, .int (u_1.1 0), .int (u_1.1 1), .int (u_1.1 2), .int (u_1.1 3), .int 0, .int 0, .int 0, .ref (a 21), .ref (a 22), .ref (a 23), .ref (a 24), .ref (a 25), .ref (a 26), .ref (a 27), .ref (a 28), .ref (a 29), .ref (a 30), .ref (a 34)]))] := hD
  refine lv_aload_n hx hb dX0_clear_36 rfl (lv_at hl 0 rfl) ?_
  refine va_get (D := D) (ci := 0) (v := .ref (a 34)) (C := RX0) (T := TX0) (N := 19) hx hb hts iX0 hown hK hP 3 rfl rfl 18 (by decide) (hts _ m_189) (fun _ h9 => h9) rfl dX0_clear_37 ?_
  refine y_wV (wr := [(a 30, .inr (5, [.int 0, .ref (a 31), .ref (a 32), .ref (a 33)])), (a 20, .inr (0, [.int 0, .int (u_1.1 0), .int (u_1.1 1), .int (u_1.1 2), .int (u_1.1 3), .int 0, .int 0, .int 0, .ref (a 21), .ref (a 22), .ref (a 23), .ref (a 24), .ref (a 25), .ref (a 26), .ref (a 27), .ref (a 28), .ref (a 29), .ref (a 30), .ref (a 34)]))]) hF (s_X9_clear_34 l D t a v34_0 v34_1 v34_2 f35 r34_0 H.size) m_502 m_503 m_504 m_5 m_505 hd_X9_clear ⟨Nat.le_of_ble_eq_true rfl, Nat.le_of_ble_eq_true rfl⟩ hK hN hP hD hS hA 0 (ci := 9) rfl rfl rfl [1, 2] [0, 3] rfl rfl (by decide) (by decide) (by decide) hl.1 rfl (Nat.le_of_ble_eq_true rfl) dX0_clear_40 ⟨Nat.zero_le _, Nat.zero_le _⟩ (fun u_4 H locs hu_4 hP hD hS => ?_)
  have h_6 := hu_4
  have hP : va_P D classes [(a 30, .inr (5, [.int 0, .ref (a 31), .ref (a 32), .ref (a 33)])), (a 20, .inr (0, [.int 0, .int (u_1.1 0), .int (u_1.1 1), .int (u_1.1 2), .int (u_1.1 3), .int 0, .int 0, .int 0, .ref (a 21), .ref (a 22), .ref (a 23), .ref (a 24), .ref (a 25), .ref (a 26), .ref (a 27), .ref (a 28), .ref (a 29), .ref (a 30), .ref (a 34)])), (a 34, .inr (9, [.int (u_4.1 0), .int (u_4.1 1), .int (u_4.1 2), .ref (a 35), .ref (a 36), .ref (a 37), .ref (a 38)])), (a 35, .inl (t 0, 9, .inl (u_4.2.1 0)))] H := hP
  have hD : va_D A [(a 30, .inr (5, [.int 0, .ref (a 31), .ref (a 32), .ref (a 33)])), (a 20, .inr (0, [.int 0, .int (u_1.1 0), .int (u_1.1 1), .int (u_1.1 2), .int (u_1.1 3), .int 0, .int 0, .int 0, .ref (a 21), .ref (a 22), .ref (a 23), .ref (a 24), .ref (a 25), .ref (a 26), .ref (a 27), .ref (a 28), .ref (a 29), .ref (a 30), .ref (a 34)])), (a 34, .inr (9, [.int (u_4.1 0), .int (u_4.1 1), .int (u_4.1 2), .ref (a 35), .ref (a 36), .ref (a 37), .ref (a 38)])), (a 35, .inl (t 0, 9, .inl (u_4.2.1 0)))] := hD
  have hP9 := hP.sub (ws' := [(a 20, .inr (0, [.int 0, .int (u_1.1 0), .int (u_1.1 1), .int (u_1.1 2), .int (u_1.1 3), .int 0, .int 0, .int 0, .ref (a 21), .ref (a 22), .ref (a 23), .ref (a 24), .ref (a 25), .ref (a 26), .ref (a 27), .ref (a 28), .ref (a 29), .ref (a 30), .ref (a 34)])), (a 30, .inr (5, [.int 0, .ref (a 31), .ref (a 32), .ref (a 33)])), (a 34, .inr (9, [.int (u_4.1 0), .int (u_4.1 1), .int (u_4.1 2), .ref (a 35), .ref (a 36), .ref (a 37), .ref (a 38)])), (a 35, .inl (t 0, 9, .inl (u_4.2.1 0)))]) [1, 0, 2, 3] rfl
  have hD9 := hD.sub (ws' := [(a 20, .inr (0, [.int 0, .int (u_1.1 0), .int (u_1.1 1), .int (u_1.1 2), .int (u_1.1 3), .int 0, .int 0, .int 0, .ref (a 21), .ref (a 22), .ref (a 23), .ref (a 24), .ref (a 25), .ref (a 26), .ref (a 27), .ref (a 28), .ref (a 29), .ref (a 30), .ref (a 34)])), (a 30, .inr (5, [.int 0, .ref (a 31), .ref (a 32), .ref (a 33)])), (a 34, .inr (9, [.int (u_4.1 0), .int (u_4.1 1), .int (u_4.1 2), .ref (a 35), .ref (a 36), .ref (a 37), .ref (a 38)])), (a 35, .inl (t 0, 9, .inl (u_4.2.1 0)))]) [1, 0, 2, 3] (by decide) rfl
  exact W.vret hx hb hr (fun t9 ht hW => ⟨⟨(fun k => [0, (u_1.1 0), (u_1.1 1), (u_1.1 2), (u_1.1 3), 0, 0, 0, 0, (u_4.1 0), (u_4.1 1), (u_4.1 2)].getD k 0, fun k => [(u_4.2.1 0)].getD k (fun _ => 0), fun k => [].getD k (fun _ => 0), fun _ => 0), rfl, ⟨h_3, (rg_w (c := 0) (d := 4) (rg_c (x := 0) (k := 0) (by decide)) (by decide) (by decide)), (rg_w (c := 0) (d := 9) (rg_c (x := 0) (k := 0) (by decide)) (by decide) (by decide)), (rg_w (c := 0) (d := 9) (rg_c (x := 0) (k := 0) (by decide)) (by decide) (by decide)), (rg_w (c := 0) (d := 8) (rg_c (x := 0) (k := 0) (by decide)) (by decide) (by decide)), h_6⟩, by rw [ht]; exact hP9, hD9⟩, hS.F ht⟩) hS.2.2 dX0_clear_43

set_option maxHeartbeats 4000000 in
set_option maxRecDepth 100000 in
theorem s_X0_addDistrict_20 (l : Launch) (D : va_G) (t : Nat → ClassId) (a : Nat → Nat) (v20_0 : Int32) (v20_1 : Int32) (v20_2 : Int32) (v20_3 : Int32) (v20_4 : Int32) (v20_5 : Int32) (v20_6 : Int32) (v20_7 : Int32) (f21 : Nat → Int32) (p0 : Int32) (r20_1 : rg 0 8 v20_1) (r20_5 : rg 0 4 v20_5) (r20_6 : rg 0 9 v20_6) (r20_7 : rg 0 9 v20_7) (sz : Nat) : Met l yX0_addDistrict (wd yX0_addDistrict cX0_addDistrict 2 none) (RM 0 0 0) (PreW D (TY t) [.ref (a 20), .int p0] [(a 20, .inr (0, [.int v20_0, .int v20_1, .int v20_2, .int v20_3, .int v20_4, .int v20_5, .int v20_6, .int v20_7, .ref (a 21), .ref (a 22), .ref (a 23), .ref (a 24), .ref (a 25), .ref (a 26), .ref (a 27), .ref (a 28), .ref (a 29), .ref (a 30), .ref (a 34)])), (a 21, .inl (t 0, 4, .inl f21))] sz) (va_Qv (fun (u : US) => rg 0 4 (u.1 0)) (fun (u : US) t9 => va_P D classes ((fun u : US => [(a 20, .inr (0, [.int v20_0, .int v20_1, .int v20_2, .int v20_3, .int v20_4, .int (u.1 0), .int v20_6, .int v20_7, .ref (a 21), .ref (a 22), .ref (a 23), .ref (a 24), .ref (a 25), .ref (a 26), .ref (a 27), .ref (a 28), .ref (a 29), .ref (a 30), .ref (a 34)])), (a 21, .inl (t 0, 4, .inl (u.2.1 0)))]) u) t9.heap ∧ va_D (va_A [(a 20, .inr (0, [.int v20_0, .int v20_1, .int v20_2, .int v20_3, .int v20_4, .int v20_5, .int v20_6, .int v20_7, .ref (a 21), .ref (a 22), .ref (a 23), .ref (a 24), .ref (a 25), .ref (a 26), .ref (a 27), .ref (a 28), .ref (a 29), .ref (a 30), .ref (a 34)])), (a 21, .inl (t 0, 4, .inl f21))] sz) ((fun u : US => [(a 20, .inr (0, [.int v20_0, .int v20_1, .int v20_2, .int v20_3, .int v20_4, .int (u.1 0), .int v20_6, .int v20_7, .ref (a 21), .ref (a 22), .ref (a 23), .ref (a 24), .ref (a 25), .ref (a 26), .ref (a 27), .ref (a 28), .ref (a 29), .ref (a 30), .ref (a 34)])), (a 21, .inl (t 0, 4, .inl (u.2.1 0)))]) u)) (va_A [(a 20, .inr (0, [.int v20_0, .int v20_1, .int v20_2, .int v20_3, .int v20_4, .int v20_5, .int v20_6, .int v20_7, .ref (a 21), .ref (a 22), .ref (a 23), .ref (a 24), .ref (a 25), .ref (a 26), .ref (a 27), .ref (a 28), .ref (a 29), .ref (a 30), .ref (a 34)])), (a 21, .inl (t 0, 4, .inl f21))] sz)) 0 0 (va_A [(a 20, .inr (0, [.int v20_0, .int v20_1, .int v20_2, .int v20_3, .int v20_4, .int v20_5, .int v20_6, .int v20_7, .ref (a 21), .ref (a 22), .ref (a 23), .ref (a 24), .ref (a 25), .ref (a 26), .ref (a 27), .ref (a 28), .ref (a 29), .ref (a 30), .ref (a 34)])), (a 21, .inl (t 0, 4, .inl f21))] sz) := by
  refine Met.ofW (cc := cX0_addDistrict) (maxL := 2) (ret := none) (by decide) rfl ?_
  intro p e s m args below meth c s₁ B hml hv
  obtain ⟨rfl, hsz, hP, hK, hD0, hN⟩ := hv
  have hx := B.exec
  have hb := B.bytes
  have hr := B.returns
  have hts : ∀ w ∈ TB, w.before _ s = true := fun w h => atoms_spec (ws := wd yX0_addDistrict cX0_addDistrict 2 none) B.pre w (List.mem_cons_of_mem _ h)
  have hown : s.vm.findClass RX0 = some m.cls := findClass_of_methodNamed B.named
  have hlocks := B.notSynchronized
  have hF : CallFix p m c cX0_addDistrict 2 s _ TB RX0 := ⟨hx, hb, hml, hown, hts⟩
  have hl := lv_entry ([.ref (a 20), .int p0]) (n := 2) (Nat.le_of_ble_eq_true rfl)
  rw [lg_entry_eq]
  generalize (lg_sl ([.ref (a 20), .int p0]) ++ List.replicate (2 - (lg_sl ([.ref (a 20), .int p0])).length) Slot.unset).toArray = ls at hl ⊢
  have hl : lv_has ls 2 [(0, .ref (a 20)), (1, .int p0)] := hl
  subst hsz
  have hD := hD0.self (sz := s.heap.size)
  generalize hAe : va_A [(a 20, .inr (0, [.int v20_0, .int v20_1, .int v20_2, .int v20_3, .int v20_4, .int v20_5, .int v20_6, .int v20_7, .ref (a 21), .ref (a 22), .ref (a 23), .ref (a 24), .ref (a 25), .ref (a 26), .ref (a 27), .ref (a 28), .ref (a 29), .ref (a 30), .ref (a 34)])), (a 21, .inl (t 0, 4, .inl f21))] s.heap.size = A at hD ⊢
  have hA : ∀ q : Nat, s.heap.size ≤ q → A q := fun q h => by rw [← hAe]; exact Or.inr h
  have hS : va_S A s.heap s.heap [] := va_S.rf
  have hP : va_P D classes [(a 20, .inr (0, [.int v20_0, .int v20_1, .int v20_2, .int v20_3, .int v20_4, .int v20_5, .int v20_6, .int v20_7, .ref (a 21), .ref (a 22), .ref (a 23), .ref (a 24), .ref (a 25), .ref (a 26), .ref (a 27), .ref (a 28), .ref (a 29), .ref (a 30), .ref (a 34)])), (a 21, .inl (t 0, 4, .inl f21))] s.heap := hP
  refine lv_aload_n hx hb dX0_addDistrict_0 rfl (lv_at hl 0 rfl) ?_
  refine va_get (D := D) (ci := 0) (v := .int v20_5) (C := RX0) (T := TX0) (N := 19) hx hb hts iX0 hown hK hP 0 rfl rfl 5 (by decide) (hts _ m_135) (fun _ h9 => h9) rfl dX0_addDistrict_1 ?_
  refine lv_iconst (v := 4) hx hb dX0_addDistrict_4 (by decide) ?_
  refine lv_icmp_ge (tgt := 28) hx hb dX0_addDistrict_5 (by decide) (fun c_1 => ?_) (fun c_1 => ?_)
  · skip
    have h_2 : rg 4 4 v20_5 := ⟨Int.le_trans (by decide) (c_leR c_1 (rg_c (x := 4) (k := 4) (by decide))), (r20_5).2⟩
    have hP9 := hP.sub (ws' := [(a 20, .inr (0, [.int v20_0, .int v20_1, .int v20_2, .int v20_3, .int v20_4, .int v20_5, .int v20_6, .int v20_7, .ref (a 21), .ref (a 22), .ref (a 23), .ref (a 24), .ref (a 25), .ref (a 26), .ref (a 27), .ref (a 28), .ref (a 29), .ref (a 30), .ref (a 34)])), (a 21, .inl (t 0, 4, .inl f21))]) [0, 1] rfl
    have hD9 := hD.sub (ws' := [(a 20, .inr (0, [.int v20_0, .int v20_1, .int v20_2, .int v20_3, .int v20_4, .int v20_5, .int v20_6, .int v20_7, .ref (a 21), .ref (a 22), .ref (a 23), .ref (a 24), .ref (a 25), .ref (a 26), .ref (a 27), .ref (a 28), .ref (a 29), .ref (a 30), .ref (a 34)])), (a 21, .inl (t 0, 4, .inl f21))]) [0, 1] (by decide) rfl
    exact W.vret hx hb hr (fun t9 ht hW => ⟨⟨(fun k => [v20_5].getD k 0, fun k => [f21].getD k (fun _ => 0), fun k => [].getD k (fun _ => 0), fun _ => 0), rfl, (rg_w (c := 0) (d := 4) h_2 (by decide) (by decide)), by rw [ht]; exact hP9, hD9⟩, hS.F ht⟩) hS.2.2 dX0_addDistrict_28
  · skip
    have h_3 : rg 0 3 v20_5 := ⟨(r20_5).1, Int.le_trans (c_nleR c_1 (rg_c (x := 4) (k := 4) (by decide))) (by decide)⟩
    refine lv_aload_n hx hb dX0_addDistrict_8 rfl (lv_at hl 0 rfl) ?_
    refine va_get (D := D) (ci := 0) (v := .ref (a 21)) (C := RX0) (T := TX0) (N := 19) hx hb hts iX0 hown hK hP 0 rfl rfl 8 (by decide) (hts _ m_153) (fun _ h9 => h9) rfl dX0_addDistrict_9 ?_
    refine lv_aload_n hx hb dX0_addDistrict_12 rfl (lv_at hl 0 rfl) ?_
    refine va_get (D := D) (ci := 0) (v := .int v20_5) (C := RX0) (T := TX0) (N := 19) hx hb hts iX0 hown hK hP 0 rfl rfl 5 (by decide) (hts _ m_135) (fun _ h9 => h9) rfl dX0_addDistrict_13 ?_
    refine lv_iload_n hx hb dX0_addDistrict_16 rfl (lv_at hl 1 rfl) ?_
    refine x_iast hx hb hK hP hD hS 1 0 rfl rfl (in_rg h_3 (by decide) (by decide)) dX0_addDistrict_17 (fun g_4 H locs hP hD hS => ?_)
    have hP : va_P D classes [(a 20, .inr (0, [.int v20_0, .int v20_1, .int v20_2, .int v20_3, .int v20_4, .int v20_5, .int v20_6, .int v20_7, .ref (a 21), .ref (a 22), .ref (a 23), .ref (a 24), .ref (a 25), .ref (a 26), .ref (a 27), .ref (a 28), .ref (a 29), .ref (a 30), .ref (a 34)])), (a 21, .inl (t 0, 4, .inl g_4))] H := hP
    have hD : va_D A [(a 20, .inr (0, [.int v20_0, .int v20_1, .int v20_2, .int v20_3, .int v20_4, .int v20_5, .int v20_6, .int v20_7, .ref (a 21), .ref (a 22), .ref (a 23), .ref (a 24), .ref (a 25), .ref (a 26), .ref (a 27), .ref (a 28), .ref (a 29), .ref (a 30), .ref (a 34)])), (a 21, .inl (t 0, 4, .inl g_4))] := hD
    refine lv_aload_n hx hb dX0_addDistrict_18 rfl (lv_at hl 0 rfl) ?_
    refine lv_dup hx hb dX0_addDistrict_19 rfl ?_
    refine va_get (D := D) (ci := 0) (v := .int v20_5) (C := RX0) (T := TX0) (N := 19) hx hb hts iX0 hown hK hP 0 rfl rfl 5 (by decide) (hts _ m_135) (fun _ h9 => h9) rfl dX0_addDistrict_20 ?_
    refine lv_iconst (v := 1) hx hb dX0_addDistrict_23 (by decide) ?_
    refine lv_iadd hx hb dX0_addDistrict_24 ?_
    refine lv_topi (fun x_5 ex_5 => ?_)
    have hx_5 : rg 1 4 x_5 := by rw [ex_5]; exact rg_add h_3 (rg_c (x := 1) (k := 1) (by decide)) (by decide) (by decide) (by decide) (by decide)
    refine va_put (D := D) (ci := 0) (v := .int x_5) (ty := .int) (C := RX0) (T := TX0) (N := 19) hx hb hts iX0 tyX0 tyX0_ok nmX0 hown hK hP hD hS 0 rfl rfl 5 (by decide) (hts _ m_135) (fun _ h9 => h9) rfl (tyX0_ok 5 (by decide)) rfl rfl (Nat.le_of_ble_eq_true rfl) dX0_addDistrict_25 (fun H locs hP hD hS => ?_)
    have hP : va_P D classes [(a 20, .inr (0, [.int v20_0, .int v20_1, .int v20_2, .int v20_3, .int v20_4, .int x_5, .int v20_6, .int v20_7, .ref (a 21), .ref (a 22), .ref (a 23), .ref (a 24), .ref (a 25), .ref (a 26), .ref (a 27), .ref (a 28), .ref (a 29), .ref (a 30), .ref (a 34)])), (a 21, .inl (t 0, 4, .inl g_4))] H := hP
    have hD : va_D A [(a 20, .inr (0, [.int v20_0, .int v20_1, .int v20_2, .int v20_3, .int v20_4, .int x_5, .int v20_6, .int v20_7, .ref (a 21), .ref (a 22), .ref (a 23), .ref (a 24), .ref (a 25), .ref (a 26), .ref (a 27), .ref (a 28), .ref (a 29), .ref (a 30), .ref (a 34)])), (a 21, .inl (t 0, 4, .inl g_4))] := hD
    have hP9 := hP.sub (ws' := [(a 20, .inr (0, [.int v20_0, .int v20_1, .int v20_2, .int v20_3, .int v20_4, .int x_5, .int v20_6, .int v20_7, .ref (a 21), .ref (a 22), .ref (a 23), .ref (a 24), .ref (a 25), .ref (a 26), .ref (a 27), .ref (a 28), .ref (a 29), .ref (a 30), .ref (a 34)])), (a 21, .inl (t 0, 4, .inl g_4))]) [0, 1] rfl
    have hD9 := hD.sub (ws' := [(a 20, .inr (0, [.int v20_0, .int v20_1, .int v20_2, .int v20_3, .int v20_4, .int x_5, .int v20_6, .int v20_7, .ref (a 21), .ref (a 22), .ref (a 23), .ref (a 24), .ref (a 25), .ref (a 26), .ref (a 27), .ref (a 28), .ref (a 29), .ref (a 30), .ref (a 34)])), (a 21, .inl (t 0, 4, .inl g_4))]) [0, 1] (by decide) rfl
    exact W.vret hx hb hr (fun t9 ht hW => ⟨⟨(fun k => [x_5].getD k 0, fun k => [g_4].getD k (fun _ => 0), fun k => [].getD k (fun _ => 0), fun _ => 0), rfl, (rg_w (c := 0) (d := 4) hx_5 (by decide) (by decide)), by rw [ht]; exact hP9, hD9⟩, hS.F ht⟩) hS.2.2 dX0_addDistrict_28

set_option maxHeartbeats 4000000 in
set_option maxRecDepth 100000 in
theorem s_X0_addWord_20 (l : Launch) (D : va_G) (t : Nat → ClassId) (a : Nat → Nat) (v20_0 : Int32) (v20_1 : Int32) (v20_2 : Int32) (v20_3 : Int32) (v20_4 : Int32) (v20_5 : Int32) (v20_6 : Int32) (v20_7 : Int32) (f22 : Nat → Int32) (f23 : Nat → Int32) (f24 : Nat → Int32) (f25 : Nat → Int32) (p0 : Int32) (p1 : Int32) (p2 : Int32) (p3 : Int32) (r20_1 : rg 0 8 v20_1) (r20_5 : rg 0 4 v20_5) (r20_6 : rg 0 9 v20_6) (r20_7 : rg 0 9 v20_7) (q23 : ∀ j, j < 9 → rg 0 3 (f23 j)) (q24 : ∀ j, j < 9 → rg 0 3 (f24 j)) (rp1 : rg 0 3 p1) (rp2 : rg 0 3 p2) (sz : Nat) : Met l yX0_addWord (wd yX0_addWord cX0_addWord 5 none) (RM 0 0 0) (PreW D (TY t) [.ref (a 20), .int p0, .int p1, .int p2, .int p3] [(a 20, .inr (0, [.int v20_0, .int v20_1, .int v20_2, .int v20_3, .int v20_4, .int v20_5, .int v20_6, .int v20_7, .ref (a 21), .ref (a 22), .ref (a 23), .ref (a 24), .ref (a 25), .ref (a 26), .ref (a 27), .ref (a 28), .ref (a 29), .ref (a 30), .ref (a 34)])), (a 22, .inl (t 0, 9, .inl f22)), (a 23, .inl (t 0, 9, .inl f23)), (a 24, .inl (t 0, 9, .inl f24)), (a 25, .inl (t 0, 9, .inl f25))] sz) (va_Qv (fun (u : US) => rg 0 9 (u.1 0) ∧ (∀ j, j < 9 → rg 0 3 (u.2.1 1 j)) ∧ (∀ j, j < 9 → rg 0 3 (u.2.1 2 j))) (fun (u : US) t9 => va_P D classes ((fun u : US => [(a 20, .inr (0, [.int v20_0, .int v20_1, .int v20_2, .int v20_3, .int v20_4, .int v20_5, .int (u.1 0), .int v20_7, .ref (a 21), .ref (a 22), .ref (a 23), .ref (a 24), .ref (a 25), .ref (a 26), .ref (a 27), .ref (a 28), .ref (a 29), .ref (a 30), .ref (a 34)])), (a 22, .inl (t 0, 9, .inl (u.2.1 0))), (a 23, .inl (t 0, 9, .inl (u.2.1 1))), (a 24, .inl (t 0, 9, .inl (u.2.1 2))), (a 25, .inl (t 0, 9, .inl (u.2.1 3)))]) u) t9.heap ∧ va_D (va_A [(a 20, .inr (0, [.int v20_0, .int v20_1, .int v20_2, .int v20_3, .int v20_4, .int v20_5, .int v20_6, .int v20_7, .ref (a 21), .ref (a 22), .ref (a 23), .ref (a 24), .ref (a 25), .ref (a 26), .ref (a 27), .ref (a 28), .ref (a 29), .ref (a 30), .ref (a 34)])), (a 22, .inl (t 0, 9, .inl f22)), (a 23, .inl (t 0, 9, .inl f23)), (a 24, .inl (t 0, 9, .inl f24)), (a 25, .inl (t 0, 9, .inl f25))] sz) ((fun u : US => [(a 20, .inr (0, [.int v20_0, .int v20_1, .int v20_2, .int v20_3, .int v20_4, .int v20_5, .int (u.1 0), .int v20_7, .ref (a 21), .ref (a 22), .ref (a 23), .ref (a 24), .ref (a 25), .ref (a 26), .ref (a 27), .ref (a 28), .ref (a 29), .ref (a 30), .ref (a 34)])), (a 22, .inl (t 0, 9, .inl (u.2.1 0))), (a 23, .inl (t 0, 9, .inl (u.2.1 1))), (a 24, .inl (t 0, 9, .inl (u.2.1 2))), (a 25, .inl (t 0, 9, .inl (u.2.1 3)))]) u)) (va_A [(a 20, .inr (0, [.int v20_0, .int v20_1, .int v20_2, .int v20_3, .int v20_4, .int v20_5, .int v20_6, .int v20_7, .ref (a 21), .ref (a 22), .ref (a 23), .ref (a 24), .ref (a 25), .ref (a 26), .ref (a 27), .ref (a 28), .ref (a 29), .ref (a 30), .ref (a 34)])), (a 22, .inl (t 0, 9, .inl f22)), (a 23, .inl (t 0, 9, .inl f23)), (a 24, .inl (t 0, 9, .inl f24)), (a 25, .inl (t 0, 9, .inl f25))] sz)) 0 0 (va_A [(a 20, .inr (0, [.int v20_0, .int v20_1, .int v20_2, .int v20_3, .int v20_4, .int v20_5, .int v20_6, .int v20_7, .ref (a 21), .ref (a 22), .ref (a 23), .ref (a 24), .ref (a 25), .ref (a 26), .ref (a 27), .ref (a 28), .ref (a 29), .ref (a 30), .ref (a 34)])), (a 22, .inl (t 0, 9, .inl f22)), (a 23, .inl (t 0, 9, .inl f23)), (a 24, .inl (t 0, 9, .inl f24)), (a 25, .inl (t 0, 9, .inl f25))] sz) := by
  refine Met.ofW (cc := cX0_addWord) (maxL := 5) (ret := none) (by decide) rfl ?_
  intro p e s m args below meth c s₁ B hml hv
  obtain ⟨rfl, hsz, hP, hK, hD0, hN⟩ := hv
  have hx := B.exec
  have hb := B.bytes
  have hr := B.returns
  have hts : ∀ w ∈ TB, w.before _ s = true := fun w h => atoms_spec (ws := wd yX0_addWord cX0_addWord 5 none) B.pre w (List.mem_cons_of_mem _ h)
  have hown : s.vm.findClass RX0 = some m.cls := findClass_of_methodNamed B.named
  have hlocks := B.notSynchronized
  have hF : CallFix p m c cX0_addWord 5 s _ TB RX0 := ⟨hx, hb, hml, hown, hts⟩
  have hl := lv_entry ([.ref (a 20), .int p0, .int p1, .int p2, .int p3]) (n := 5) (Nat.le_of_ble_eq_true rfl)
  rw [lg_entry_eq]
  generalize (lg_sl ([.ref (a 20), .int p0, .int p1, .int p2, .int p3]) ++ List.replicate (5 - (lg_sl ([.ref (a 20), .int p0, .int p1, .int p2, .int p3])).length) Slot.unset).toArray = ls at hl ⊢
  have hl : lv_has ls 5 [(0, .ref (a 20)), (1, .int p0), (2, .int p1), (3, .int p2), (4, .int p3)] := hl
  subst hsz
  have hD := hD0.self (sz := s.heap.size)
  generalize hAe : va_A [(a 20, .inr (0, [.int v20_0, .int v20_1, .int v20_2, .int v20_3, .int v20_4, .int v20_5, .int v20_6, .int v20_7, .ref (a 21), .ref (a 22), .ref (a 23), .ref (a 24), .ref (a 25), .ref (a 26), .ref (a 27), .ref (a 28), .ref (a 29), .ref (a 30), .ref (a 34)])), (a 22, .inl (t 0, 9, .inl f22)), (a 23, .inl (t 0, 9, .inl f23)), (a 24, .inl (t 0, 9, .inl f24)), (a 25, .inl (t 0, 9, .inl f25))] s.heap.size = A at hD ⊢
  have hA : ∀ q : Nat, s.heap.size ≤ q → A q := fun q h => by rw [← hAe]; exact Or.inr h
  have hS : va_S A s.heap s.heap [] := va_S.rf
  have hP : va_P D classes [(a 20, .inr (0, [.int v20_0, .int v20_1, .int v20_2, .int v20_3, .int v20_4, .int v20_5, .int v20_6, .int v20_7, .ref (a 21), .ref (a 22), .ref (a 23), .ref (a 24), .ref (a 25), .ref (a 26), .ref (a 27), .ref (a 28), .ref (a 29), .ref (a 30), .ref (a 34)])), (a 22, .inl (t 0, 9, .inl f22)), (a 23, .inl (t 0, 9, .inl f23)), (a 24, .inl (t 0, 9, .inl f24)), (a 25, .inl (t 0, 9, .inl f25))] s.heap := hP
  refine lv_aload_n hx hb dX0_addWord_0 rfl (lv_at hl 0 rfl) ?_
  refine va_get (D := D) (ci := 0) (v := .int v20_6) (C := RX0) (T := TX0) (N := 19) hx hb hts iX0 hown hK hP 0 rfl rfl 6 (by decide) (hts _ m_142) (fun _ h9 => h9) rfl dX0_addWord_1 ?_
  refine lv_bipush (v := 9) hx hb dX0_addWord_4 (by decide) ?_
  refine lv_icmp_ge (tgt := 60) hx hb dX0_addWord_6 (by decide) (fun c_1 => ?_) (fun c_1 => ?_)
  · skip
    have h_2 : rg 9 9 v20_6 := ⟨Int.le_trans (by decide) (c_leR c_1 (rg_c (x := 9) (k := 9) (by decide))), (r20_6).2⟩
    have hP9 := hP.sub (ws' := [(a 20, .inr (0, [.int v20_0, .int v20_1, .int v20_2, .int v20_3, .int v20_4, .int v20_5, .int v20_6, .int v20_7, .ref (a 21), .ref (a 22), .ref (a 23), .ref (a 24), .ref (a 25), .ref (a 26), .ref (a 27), .ref (a 28), .ref (a 29), .ref (a 30), .ref (a 34)])), (a 22, .inl (t 0, 9, .inl f22)), (a 23, .inl (t 0, 9, .inl f23)), (a 24, .inl (t 0, 9, .inl f24)), (a 25, .inl (t 0, 9, .inl f25))]) [0, 1, 2, 3, 4] rfl
    have hD9 := hD.sub (ws' := [(a 20, .inr (0, [.int v20_0, .int v20_1, .int v20_2, .int v20_3, .int v20_4, .int v20_5, .int v20_6, .int v20_7, .ref (a 21), .ref (a 22), .ref (a 23), .ref (a 24), .ref (a 25), .ref (a 26), .ref (a 27), .ref (a 28), .ref (a 29), .ref (a 30), .ref (a 34)])), (a 22, .inl (t 0, 9, .inl f22)), (a 23, .inl (t 0, 9, .inl f23)), (a 24, .inl (t 0, 9, .inl f24)), (a 25, .inl (t 0, 9, .inl f25))]) [0, 1, 2, 3, 4] (by decide) rfl
    exact W.vret hx hb hr (fun t9 ht hW => ⟨⟨(fun k => [v20_6].getD k 0, fun k => [f22, f23, f24, f25].getD k (fun _ => 0), fun k => [].getD k (fun _ => 0), fun _ => 0), rfl, ⟨(rg_w (c := 0) (d := 9) h_2 (by decide) (by decide)), q23, q24⟩, by rw [ht]; exact hP9, hD9⟩, hS.F ht⟩) hS.2.2 dX0_addWord_60
  · skip
    have h_3 : rg 0 8 v20_6 := ⟨(r20_6).1, Int.le_trans (c_nleR c_1 (rg_c (x := 9) (k := 9) (by decide))) (by decide)⟩
    refine lv_aload_n hx hb dX0_addWord_9 rfl (lv_at hl 0 rfl) ?_
    refine va_get (D := D) (ci := 0) (v := .ref (a 22)) (C := RX0) (T := TX0) (N := 19) hx hb hts iX0 hown hK hP 0 rfl rfl 9 (by decide) (hts _ m_156) (fun _ h9 => h9) rfl dX0_addWord_10 ?_
    refine lv_aload_n hx hb dX0_addWord_13 rfl (lv_at hl 0 rfl) ?_
    refine va_get (D := D) (ci := 0) (v := .int v20_6) (C := RX0) (T := TX0) (N := 19) hx hb hts iX0 hown hK hP 0 rfl rfl 6 (by decide) (hts _ m_142) (fun _ h9 => h9) rfl dX0_addWord_14 ?_
    refine lv_iload_n hx hb dX0_addWord_17 rfl (lv_at hl 1 rfl) ?_
    refine x_iast hx hb hK hP hD hS 1 0 rfl rfl (in_rg h_3 (by decide) (by decide)) dX0_addWord_18 (fun g_4 H locs hP hD hS => ?_)
    have hP : va_P D classes [(a 20, .inr (0, [.int v20_0, .int v20_1, .int v20_2, .int v20_3, .int v20_4, .int v20_5, .int v20_6, .int v20_7, .ref (a 21), .ref (a 22), .ref (a 23), .ref (a 24), .ref (a 25), .ref (a 26), .ref (a 27), .ref (a 28), .ref (a 29), .ref (a 30), .ref (a 34)])), (a 22, .inl (t 0, 9, .inl g_4)), (a 23, .inl (t 0, 9, .inl f23)), (a 24, .inl (t 0, 9, .inl f24)), (a 25, .inl (t 0, 9, .inl f25))] H := hP
    have hD : va_D A [(a 20, .inr (0, [.int v20_0, .int v20_1, .int v20_2, .int v20_3, .int v20_4, .int v20_5, .int v20_6, .int v20_7, .ref (a 21), .ref (a 22), .ref (a 23), .ref (a 24), .ref (a 25), .ref (a 26), .ref (a 27), .ref (a 28), .ref (a 29), .ref (a 30), .ref (a 34)])), (a 22, .inl (t 0, 9, .inl g_4)), (a 23, .inl (t 0, 9, .inl f23)), (a 24, .inl (t 0, 9, .inl f24)), (a 25, .inl (t 0, 9, .inl f25))] := hD
    refine lv_aload_n hx hb dX0_addWord_19 rfl (lv_at hl 0 rfl) ?_
    refine va_get (D := D) (ci := 0) (v := .ref (a 23)) (C := RX0) (T := TX0) (N := 19) hx hb hts iX0 hown hK hP 0 rfl rfl 10 (by decide) (hts _ m_160) (fun _ h9 => h9) rfl dX0_addWord_20 ?_
    refine lv_aload_n hx hb dX0_addWord_23 rfl (lv_at hl 0 rfl) ?_
    refine va_get (D := D) (ci := 0) (v := .int v20_6) (C := RX0) (T := TX0) (N := 19) hx hb hts iX0 hown hK hP 0 rfl rfl 6 (by decide) (hts _ m_142) (fun _ h9 => h9) rfl dX0_addWord_24 ?_
    refine lv_iload_n hx hb dX0_addWord_27 rfl (lv_at hl 2 rfl) ?_
    refine y_iast hx hb hK hP hD hS 2 0 rfl rfl (in_rg h_3 (by decide) (by decide)) dX0_addWord_28 (lo := 0) (hi := 3) q23 rp1 (fun g_5 H locs hg_5 hP hD hS => ?_)
    have hP : va_P D classes [(a 20, .inr (0, [.int v20_0, .int v20_1, .int v20_2, .int v20_3, .int v20_4, .int v20_5, .int v20_6, .int v20_7, .ref (a 21), .ref (a 22), .ref (a 23), .ref (a 24), .ref (a 25), .ref (a 26), .ref (a 27), .ref (a 28), .ref (a 29), .ref (a 30), .ref (a 34)])), (a 22, .inl (t 0, 9, .inl g_4)), (a 23, .inl (t 0, 9, .inl g_5)), (a 24, .inl (t 0, 9, .inl f24)), (a 25, .inl (t 0, 9, .inl f25))] H := hP
    have hD : va_D A [(a 20, .inr (0, [.int v20_0, .int v20_1, .int v20_2, .int v20_3, .int v20_4, .int v20_5, .int v20_6, .int v20_7, .ref (a 21), .ref (a 22), .ref (a 23), .ref (a 24), .ref (a 25), .ref (a 26), .ref (a 27), .ref (a 28), .ref (a 29), .ref (a 30), .ref (a 34)])), (a 22, .inl (t 0, 9, .inl g_4)), (a 23, .inl (t 0, 9, .inl g_5)), (a 24, .inl (t 0, 9, .inl f24)), (a 25, .inl (t 0, 9, .inl f25))] := hD
    refine lv_aload_n hx hb dX0_addWord_29 rfl (lv_at hl 0 rfl) ?_
    refine va_get (D := D) (ci := 0) (v := .ref (a 24)) (C := RX0) (T := TX0) (N := 19) hx hb hts iX0 hown hK hP 0 rfl rfl 11 (by decide) (hts _ m_164) (fun _ h9 => h9) rfl dX0_addWord_30 ?_
    refine lv_aload_n hx hb dX0_addWord_33 rfl (lv_at hl 0 rfl) ?_
    refine va_get (D := D) (ci := 0) (v := .int v20_6) (C := RX0) (T := TX0) (N := 19) hx hb hts iX0 hown hK hP 0 rfl rfl 6 (by decide) (hts _ m_142) (fun _ h9 => h9) rfl dX0_addWord_34 ?_
    refine lv_iload_n hx hb dX0_addWord_37 rfl (lv_at hl 3 rfl) ?_
    refine y_iast hx hb hK hP hD hS 3 0 rfl rfl (in_rg h_3 (by decide) (by decide)) dX0_addWord_38 (lo := 0) (hi := 3) q24 rp2 (fun g_6 H locs hg_6 hP hD hS => ?_)
    have hP : va_P D classes [(a 20, .inr (0, [.int v20_0, .int v20_1, .int v20_2, .int v20_3, .int v20_4, .int v20_5, .int v20_6, .int v20_7, .ref (a 21), .ref (a 22), .ref (a 23), .ref (a 24), .ref (a 25), .ref (a 26), .ref (a 27), .ref (a 28), .ref (a 29), .ref (a 30), .ref (a 34)])), (a 22, .inl (t 0, 9, .inl g_4)), (a 23, .inl (t 0, 9, .inl g_5)), (a 24, .inl (t 0, 9, .inl g_6)), (a 25, .inl (t 0, 9, .inl f25))] H := hP
    have hD : va_D A [(a 20, .inr (0, [.int v20_0, .int v20_1, .int v20_2, .int v20_3, .int v20_4, .int v20_5, .int v20_6, .int v20_7, .ref (a 21), .ref (a 22), .ref (a 23), .ref (a 24), .ref (a 25), .ref (a 26), .ref (a 27), .ref (a 28), .ref (a 29), .ref (a 30), .ref (a 34)])), (a 22, .inl (t 0, 9, .inl g_4)), (a 23, .inl (t 0, 9, .inl g_5)), (a 24, .inl (t 0, 9, .inl g_6)), (a 25, .inl (t 0, 9, .inl f25))] := hD
    refine lv_aload_n hx hb dX0_addWord_39 rfl (lv_at hl 0 rfl) ?_
    refine va_get (D := D) (ci := 0) (v := .ref (a 25)) (C := RX0) (T := TX0) (N := 19) hx hb hts iX0 hown hK hP 0 rfl rfl 12 (by decide) (hts _ m_168) (fun _ h9 => h9) rfl dX0_addWord_40 ?_
    refine lv_aload_n hx hb dX0_addWord_43 rfl (lv_at hl 0 rfl) ?_
    refine va_get (D := D) (ci := 0) (v := .int v20_6) (C := RX0) (T := TX0) (N := 19) hx hb hts iX0 hown hK hP 0 rfl rfl 6 (by decide) (hts _ m_142) (fun _ h9 => h9) rfl dX0_addWord_44 ?_
    refine lv_iload hx hb dX0_addWord_47 (lv_at hl 4 rfl) ?_
    refine x_iast hx hb hK hP hD hS 4 0 rfl rfl (in_rg h_3 (by decide) (by decide)) dX0_addWord_49 (fun g_7 H locs hP hD hS => ?_)
    have hP : va_P D classes [(a 20, .inr (0, [.int v20_0, .int v20_1, .int v20_2, .int v20_3, .int v20_4, .int v20_5, .int v20_6, .int v20_7, .ref (a 21), .ref (a 22), .ref (a 23), .ref (a 24), .ref (a 25), .ref (a 26), .ref (a 27), .ref (a 28), .ref (a 29), .ref (a 30), .ref (a 34)])), (a 22, .inl (t 0, 9, .inl g_4)), (a 23, .inl (t 0, 9, .inl g_5)), (a 24, .inl (t 0, 9, .inl g_6)), (a 25, .inl (t 0, 9, .inl g_7))] H := hP
    have hD : va_D A [(a 20, .inr (0, [.int v20_0, .int v20_1, .int v20_2, .int v20_3, .int v20_4, .int v20_5, .int v20_6, .int v20_7, .ref (a 21), .ref (a 22), .ref (a 23), .ref (a 24), .ref (a 25), .ref (a 26), .ref (a 27), .ref (a 28), .ref (a 29), .ref (a 30), .ref (a 34)])), (a 22, .inl (t 0, 9, .inl g_4)), (a 23, .inl (t 0, 9, .inl g_5)), (a 24, .inl (t 0, 9, .inl g_6)), (a 25, .inl (t 0, 9, .inl g_7))] := hD
    refine lv_aload_n hx hb dX0_addWord_50 rfl (lv_at hl 0 rfl) ?_
    refine lv_dup hx hb dX0_addWord_51 rfl ?_
    refine va_get (D := D) (ci := 0) (v := .int v20_6) (C := RX0) (T := TX0) (N := 19) hx hb hts iX0 hown hK hP 0 rfl rfl 6 (by decide) (hts _ m_142) (fun _ h9 => h9) rfl dX0_addWord_52 ?_
    refine lv_iconst (v := 1) hx hb dX0_addWord_55 (by decide) ?_
    refine lv_iadd hx hb dX0_addWord_56 ?_
    refine lv_topi (fun x_8 ex_8 => ?_)
    have hx_8 : rg 1 9 x_8 := by rw [ex_8]; exact rg_add h_3 (rg_c (x := 1) (k := 1) (by decide)) (by decide) (by decide) (by decide) (by decide)
    refine va_put (D := D) (ci := 0) (v := .int x_8) (ty := .int) (C := RX0) (T := TX0) (N := 19) hx hb hts iX0 tyX0 tyX0_ok nmX0 hown hK hP hD hS 0 rfl rfl 6 (by decide) (hts _ m_142) (fun _ h9 => h9) rfl (tyX0_ok 6 (by decide)) rfl rfl (Nat.le_of_ble_eq_true rfl) dX0_addWord_57 (fun H locs hP hD hS => ?_)
    have hP : va_P D classes [(a 20, .inr (0, [.int v20_0, .int v20_1, .int v20_2, .int v20_3, .int v20_4, .int v20_5, .int x_8, .int v20_7, .ref (a 21), .ref (a 22), .ref (a 23), .ref (a 24), .ref (a 25), .ref (a 26), .ref (a 27), .ref (a 28), .ref (a 29), .ref (a 30), .ref (a 34)])), (a 22, .inl (t 0, 9, .inl g_4)), (a 23, .inl (t 0, 9, .inl g_5)), (a 24, .inl (t 0, 9, .inl g_6)), (a 25, .inl (t 0, 9, .inl g_7))] H := hP
    have hD : va_D A [(a 20, .inr (0, [.int v20_0, .int v20_1, .int v20_2, .int v20_3, .int v20_4, .int v20_5, .int x_8, .int v20_7, .ref (a 21), .ref (a 22), .ref (a 23), .ref (a 24), .ref (a 25), .ref (a 26), .ref (a 27), .ref (a 28), .ref (a 29), .ref (a 30), .ref (a 34)])), (a 22, .inl (t 0, 9, .inl g_4)), (a 23, .inl (t 0, 9, .inl g_5)), (a 24, .inl (t 0, 9, .inl g_6)), (a 25, .inl (t 0, 9, .inl g_7))] := hD
    have hP9 := hP.sub (ws' := [(a 20, .inr (0, [.int v20_0, .int v20_1, .int v20_2, .int v20_3, .int v20_4, .int v20_5, .int x_8, .int v20_7, .ref (a 21), .ref (a 22), .ref (a 23), .ref (a 24), .ref (a 25), .ref (a 26), .ref (a 27), .ref (a 28), .ref (a 29), .ref (a 30), .ref (a 34)])), (a 22, .inl (t 0, 9, .inl g_4)), (a 23, .inl (t 0, 9, .inl g_5)), (a 24, .inl (t 0, 9, .inl g_6)), (a 25, .inl (t 0, 9, .inl g_7))]) [0, 1, 2, 3, 4] rfl
    have hD9 := hD.sub (ws' := [(a 20, .inr (0, [.int v20_0, .int v20_1, .int v20_2, .int v20_3, .int v20_4, .int v20_5, .int x_8, .int v20_7, .ref (a 21), .ref (a 22), .ref (a 23), .ref (a 24), .ref (a 25), .ref (a 26), .ref (a 27), .ref (a 28), .ref (a 29), .ref (a 30), .ref (a 34)])), (a 22, .inl (t 0, 9, .inl g_4)), (a 23, .inl (t 0, 9, .inl g_5)), (a 24, .inl (t 0, 9, .inl g_6)), (a 25, .inl (t 0, 9, .inl g_7))]) [0, 1, 2, 3, 4] (by decide) rfl
    exact W.vret hx hb hr (fun t9 ht hW => ⟨⟨(fun k => [x_8].getD k 0, fun k => [g_4, g_5, g_6, g_7].getD k (fun _ => 0), fun k => [].getD k (fun _ => 0), fun _ => 0), rfl, ⟨(rg_w (c := 0) (d := 9) hx_8 (by decide) (by decide)), hg_5, hg_6⟩, by rw [ht]; exact hP9, hD9⟩, hS.F ht⟩) hS.2.2 dX0_addWord_60

