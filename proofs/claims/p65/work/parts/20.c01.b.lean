set_option maxHeartbeats 4000000 in
set_option maxRecDepth 100000 in
theorem s_fill_121 (l : Launch) (D : va_G) (t : Nat → ClassId) (a : Nat → Nat) (f121 : Nat → Int32) (p1 : Int32) (sz : Nat) : Met l yJ7_fill_53178 (wd yJ7_fill_53178 cJ7_fill_53178 4 none) (RM 0 0 0) (PreW D (TY t) [.ref (a 121), .int p1] [(a 121, .inl (t 0, 9, .inl f121))] sz) (va_Qv (fun (_ : US) => True) (fun (u : US) t9 => va_P D classes ((fun u : US => [(a 121, .inl (t 0, 9, .inl (u.2.1 0)))]) u) t9.heap ∧ va_D (va_A [(a 121, .inl (t 0, 9, .inl f121))] sz) ((fun u : US => [(a 121, .inl (t 0, 9, .inl (u.2.1 0)))]) u)) (va_A [(a 121, .inl (t 0, 9, .inl f121))] sz)) 0 0 (va_A [(a 121, .inl (t 0, 9, .inl f121))] sz) := by
  refine Met.ofW (cc := cJ7_fill_53178) (maxL := 4) (ret := none) (by decide) rfl ?_
  intro p e s m args below meth c s₁ B hml hv
  obtain ⟨rfl, hsz, hP, hK, hD0, hN⟩ := hv
  have hx := B.exec
  have hb := B.bytes
  have hr := B.returns
  have hts : ∀ w ∈ TB, w.before _ s = true := fun w h => atoms_spec (ws := wd yJ7_fill_53178 cJ7_fill_53178 4 none) B.pre w (List.mem_cons_of_mem _ h)
  have hown : s.vm.findClass RJ7 = some m.cls := findClass_of_methodNamed B.named
  have hlocks := B.notSynchronized
  have hF : CallFix p m c cJ7_fill_53178 4 s _ TB RJ7 := ⟨hx, hb, hml, hown, hts⟩
  have hl := lv_entry ([.ref (a 121), .int p1]) (n := 4) (Nat.le_of_ble_eq_true rfl)
  rw [lg_entry_eq]
  generalize (lg_sl ([.ref (a 121), .int p1]) ++ List.replicate (4 - (lg_sl ([.ref (a 121), .int p1])).length) Slot.unset).toArray = ls at hl ⊢
  have hl : lv_has ls 4 [(0, .ref (a 121)), (1, .int p1)] := hl
  subst hsz
  have hD := hD0.self (sz := s.heap.size)
  generalize hAe : va_A [(a 121, .inl (t 0, 9, .inl f121))] s.heap.size = A at hD ⊢
  have hA : ∀ q : Nat, s.heap.size ≤ q → A q := fun q h => by rw [← hAe]; exact Or.inr h
  have hS : va_S A s.heap s.heap [] := va_S.rf
  have hP : va_P D classes [(a 121, .inl (t 0, 9, .inl f121))] s.heap := hP
  refine lv_iconst (v := 0) hx hb dJ7_fill_53178_0 (by decide) ?_
  refine lv_istore_n (lv' := [(2, .int 0), (0, .ref (a 121)), (1, .int p1)]) hx hb dJ7_fill_53178_1 rfl hl (by decide) rfl (fun ls hl => ?_)
  refine lv_aload_n hx hb dJ7_fill_53178_2 rfl (lv_at hl 1 rfl) ?_
  refine va_alen (v := 9) hx hb hK hP 0 0 rfl rfl rfl dJ7_fill_53178_3 ?_
  refine lv_istore_n (lv' := [(3, .int 9), (2, .int 0), (0, .ref (a 121)), (1, .int p1)]) hx hb dJ7_fill_53178_4 rfl hl (by decide) rfl (fun ls hl => ?_)
  refine loopW (α := US) (fun n y_1 H locs ls => 9 < (y_1.1 0).toInt + (n : Int) ∧ rg 0 9 (y_1.1 0) ∧ va_P D classes [(a 121, .inl (t 0, 9, .inl (y_1.2.1 0)))] H ∧ va_D A [(a 121, .inl (t 0, 9, .inl (y_1.2.1 0)))] ∧ va_S A s.heap H locs ∧ lv_has ls 4 [(3, .int 9), (2, .int (y_1.1 0)), (0, .ref (a 121)), (1, .int p1)]) 5 (fun y_1 => []) (fun _ _ _ _ h9 => m_0 h9.1 h9.2.1) (fun n ih_3 y_1 H locs ls hI => ?_) 10 (fun k => [0].getD k 0, fun k => [f121].getD k (fun _ => 0), fun k => [].getD k (fun _ => 0), fun k => [].getD k 0) ⟨(m_i (rg_c (x := 0) (k := 0) (by decide)) (by decide)), (rg_w (c := 0) (d := 9) (rg_c (x := 0) (k := 0) (by decide)) (by decide) (by decide)), hP, hD, hS, (lv_sub hl [0, 1, 2, 3] rfl)⟩
  obtain ⟨me_4, h_2, hP, hD, hS, hl⟩ := hI
  refine lv_iload_n hx hb dJ7_fill_53178_5 rfl (lv_at hl 1 rfl) ?_
  refine lv_iload_n hx hb dJ7_fill_53178_6 rfl (lv_at hl 0 rfl) ?_
  refine lv_icmp_ge (tgt := 20) hx hb dJ7_fill_53178_7 (by decide) (fun c_5 => ?_) (fun c_5 => ?_)
  · skip
    have h_6 : rg 9 9 (y_1.1 0) := ⟨Int.le_trans (by decide) (c_leR c_5 (rg_c (x := 9) (k := 9) (by decide))), (h_2).2⟩
    have hP9 := hP.sub (ws' := [(a 121, .inl (t 0, 9, .inl (y_1.2.1 0)))]) [0] rfl
    have hD9 := hD.sub (ws' := [(a 121, .inl (t 0, 9, .inl (y_1.2.1 0)))]) [0] (by decide) rfl
    exact W.vret hx hb hr (fun t9 ht hW => ⟨⟨(fun k => [].getD k 0, fun k => [(y_1.2.1 0)].getD k (fun _ => 0), fun k => [].getD k (fun _ => 0), fun _ => 0), rfl, trivial, by rw [ht]; exact hP9, hD9⟩, hS.F ht⟩) hS.2.2 dJ7_fill_53178_20
  · skip
    have h_7 : rg 0 8 (y_1.1 0) := ⟨(h_2).1, Int.le_trans (c_nleR c_5 (rg_c (x := 9) (k := 9) (by decide))) (by decide)⟩
    refine lv_aload_n hx hb dJ7_fill_53178_10 rfl (lv_at hl 2 rfl) ?_
    refine lv_iload_n hx hb dJ7_fill_53178_11 rfl (lv_at hl 1 rfl) ?_
    refine lv_iload_n hx hb dJ7_fill_53178_12 rfl (lv_at hl 3 rfl) ?_
    refine x_iast hx hb hK hP hD hS 0 0 rfl rfl (in_rg h_7 (by decide) (by decide)) dJ7_fill_53178_13 (fun g_8 H locs hP hD hS => ?_)
    have hP : va_P D classes [(a 121, .inl (t 0, 9, .inl g_8))] H := hP
    have hD : va_D A [(a 121, .inl (t 0, 9, .inl g_8))] := hD
    obtain ⟨x_9, ex_9⟩ : ∃ y9 : Int32, y9 = (y_1.1 0) + 1 := ⟨_, rfl⟩
    have hx_9 : rg 1 9 x_9 := by rw [ex_9]; exact rg_add h_7 (rg_c (x := 1) (k := 1) (by decide)) (by decide) (by decide) (by decide) (by decide)
    have tx_9 : x_9.toInt = (y_1.1 0).toInt + 1 := by rw [ex_9]; exact inc_tk h_7 (by decide) (by decide) (by decide)
    refine lv_iinc (v := x_9) (lv' := [(2, .int x_9), (3, .int 9), (0, .ref (a 121)), (1, .int p1)]) hx hb dJ7_fill_53178_14 hl (k := 1) rfl (by rw [ex_9]; rfl) (by decide) rfl (fun ls hl => ?_)
    refine lv_goto (tgt := 5) hx hb dJ7_fill_53178_17 (by decide) ?_
    exact ih_3 (fun k => [x_9].getD k 0, fun k => [g_8].getD k (fun _ => 0), fun k => [].getD k (fun _ => 0), fun k => [].getD k 0) _ _ ls ⟨(m_upk me_4 tx_9 (by decide)), (rg_w (c := 0) (d := 9) hx_9 (by decide) (by decide)), hP, hD, hS, (lv_sub hl [1, 0, 2, 3] rfl)⟩

set_option maxHeartbeats 4000000 in
set_option maxRecDepth 100000 in
theorem s_fill_123 (l : Launch) (D : va_G) (t : Nat → ClassId) (a : Nat → Nat) (f123 : Nat → Int32) (p1 : Int32) (sz : Nat) : Met l yJ7_fill_53178 (wd yJ7_fill_53178 cJ7_fill_53178 4 none) (RM 0 0 0) (PreW D (TY t) [.ref (a 123), .int p1] [(a 123, .inl (t 0, 8, .inl f123))] sz) (va_Qv (fun (_ : US) => True) (fun (u : US) t9 => va_P D classes ((fun u : US => [(a 123, .inl (t 0, 8, .inl (u.2.1 0)))]) u) t9.heap ∧ va_D (va_A [(a 123, .inl (t 0, 8, .inl f123))] sz) ((fun u : US => [(a 123, .inl (t 0, 8, .inl (u.2.1 0)))]) u)) (va_A [(a 123, .inl (t 0, 8, .inl f123))] sz)) 0 0 (va_A [(a 123, .inl (t 0, 8, .inl f123))] sz) := by
  refine Met.ofW (cc := cJ7_fill_53178) (maxL := 4) (ret := none) (by decide) rfl ?_
  intro p e s m args below meth c s₁ B hml hv
  obtain ⟨rfl, hsz, hP, hK, hD0, hN⟩ := hv
  have hx := B.exec
  have hb := B.bytes
  have hr := B.returns
  have hts : ∀ w ∈ TB, w.before _ s = true := fun w h => atoms_spec (ws := wd yJ7_fill_53178 cJ7_fill_53178 4 none) B.pre w (List.mem_cons_of_mem _ h)
  have hown : s.vm.findClass RJ7 = some m.cls := findClass_of_methodNamed B.named
  have hlocks := B.notSynchronized
  have hF : CallFix p m c cJ7_fill_53178 4 s _ TB RJ7 := ⟨hx, hb, hml, hown, hts⟩
  have hl := lv_entry ([.ref (a 123), .int p1]) (n := 4) (Nat.le_of_ble_eq_true rfl)
  rw [lg_entry_eq]
  generalize (lg_sl ([.ref (a 123), .int p1]) ++ List.replicate (4 - (lg_sl ([.ref (a 123), .int p1])).length) Slot.unset).toArray = ls at hl ⊢
  have hl : lv_has ls 4 [(0, .ref (a 123)), (1, .int p1)] := hl
  subst hsz
  have hD := hD0.self (sz := s.heap.size)
  generalize hAe : va_A [(a 123, .inl (t 0, 8, .inl f123))] s.heap.size = A at hD ⊢
  have hA : ∀ q : Nat, s.heap.size ≤ q → A q := fun q h => by rw [← hAe]; exact Or.inr h
  have hS : va_S A s.heap s.heap [] := va_S.rf
  have hP : va_P D classes [(a 123, .inl (t 0, 8, .inl f123))] s.heap := hP
  refine lv_iconst (v := 0) hx hb dJ7_fill_53178_0 (by decide) ?_
  refine lv_istore_n (lv' := [(2, .int 0), (0, .ref (a 123)), (1, .int p1)]) hx hb dJ7_fill_53178_1 rfl hl (by decide) rfl (fun ls hl => ?_)
  refine lv_aload_n hx hb dJ7_fill_53178_2 rfl (lv_at hl 1 rfl) ?_
  refine va_alen (v := 8) hx hb hK hP 0 0 rfl rfl rfl dJ7_fill_53178_3 ?_
  refine lv_istore_n (lv' := [(3, .int 8), (2, .int 0), (0, .ref (a 123)), (1, .int p1)]) hx hb dJ7_fill_53178_4 rfl hl (by decide) rfl (fun ls hl => ?_)
  refine loopW (α := US) (fun n y_1 H locs ls => 8 < (y_1.1 0).toInt + (n : Int) ∧ rg 0 8 (y_1.1 0) ∧ va_P D classes [(a 123, .inl (t 0, 8, .inl (y_1.2.1 0)))] H ∧ va_D A [(a 123, .inl (t 0, 8, .inl (y_1.2.1 0)))] ∧ va_S A s.heap H locs ∧ lv_has ls 4 [(3, .int 8), (2, .int (y_1.1 0)), (0, .ref (a 123)), (1, .int p1)]) 5 (fun y_1 => []) (fun _ _ _ _ h9 => m_0 h9.1 h9.2.1) (fun n ih_3 y_1 H locs ls hI => ?_) 9 (fun k => [0].getD k 0, fun k => [f123].getD k (fun _ => 0), fun k => [].getD k (fun _ => 0), fun k => [].getD k 0) ⟨(m_i (rg_c (x := 0) (k := 0) (by decide)) (by decide)), (rg_w (c := 0) (d := 8) (rg_c (x := 0) (k := 0) (by decide)) (by decide) (by decide)), hP, hD, hS, (lv_sub hl [0, 1, 2, 3] rfl)⟩
  obtain ⟨me_4, h_2, hP, hD, hS, hl⟩ := hI
  refine lv_iload_n hx hb dJ7_fill_53178_5 rfl (lv_at hl 1 rfl) ?_
  refine lv_iload_n hx hb dJ7_fill_53178_6 rfl (lv_at hl 0 rfl) ?_
  refine lv_icmp_ge (tgt := 20) hx hb dJ7_fill_53178_7 (by decide) (fun c_5 => ?_) (fun c_5 => ?_)
  · skip
    have h_6 : rg 8 8 (y_1.1 0) := ⟨Int.le_trans (by decide) (c_leR c_5 (rg_c (x := 8) (k := 8) (by decide))), (h_2).2⟩
    have hP9 := hP.sub (ws' := [(a 123, .inl (t 0, 8, .inl (y_1.2.1 0)))]) [0] rfl
    have hD9 := hD.sub (ws' := [(a 123, .inl (t 0, 8, .inl (y_1.2.1 0)))]) [0] (by decide) rfl
    exact W.vret hx hb hr (fun t9 ht hW => ⟨⟨(fun k => [].getD k 0, fun k => [(y_1.2.1 0)].getD k (fun _ => 0), fun k => [].getD k (fun _ => 0), fun _ => 0), rfl, trivial, by rw [ht]; exact hP9, hD9⟩, hS.F ht⟩) hS.2.2 dJ7_fill_53178_20
  · skip
    have h_7 : rg 0 7 (y_1.1 0) := ⟨(h_2).1, Int.le_trans (c_nleR c_5 (rg_c (x := 8) (k := 8) (by decide))) (by decide)⟩
    refine lv_aload_n hx hb dJ7_fill_53178_10 rfl (lv_at hl 2 rfl) ?_
    refine lv_iload_n hx hb dJ7_fill_53178_11 rfl (lv_at hl 1 rfl) ?_
    refine lv_iload_n hx hb dJ7_fill_53178_12 rfl (lv_at hl 3 rfl) ?_
    refine x_iast hx hb hK hP hD hS 0 0 rfl rfl (in_rg h_7 (by decide) (by decide)) dJ7_fill_53178_13 (fun g_8 H locs hP hD hS => ?_)
    have hP : va_P D classes [(a 123, .inl (t 0, 8, .inl g_8))] H := hP
    have hD : va_D A [(a 123, .inl (t 0, 8, .inl g_8))] := hD
    obtain ⟨x_9, ex_9⟩ : ∃ y9 : Int32, y9 = (y_1.1 0) + 1 := ⟨_, rfl⟩
    have hx_9 : rg 1 8 x_9 := by rw [ex_9]; exact rg_add h_7 (rg_c (x := 1) (k := 1) (by decide)) (by decide) (by decide) (by decide) (by decide)
    have tx_9 : x_9.toInt = (y_1.1 0).toInt + 1 := by rw [ex_9]; exact inc_tk h_7 (by decide) (by decide) (by decide)
    refine lv_iinc (v := x_9) (lv' := [(2, .int x_9), (3, .int 8), (0, .ref (a 123)), (1, .int p1)]) hx hb dJ7_fill_53178_14 hl (k := 1) rfl (by rw [ex_9]; rfl) (by decide) rfl (fun ls hl => ?_)
    refine lv_goto (tgt := 5) hx hb dJ7_fill_53178_17 (by decide) ?_
    exact ih_3 (fun k => [x_9].getD k 0, fun k => [g_8].getD k (fun _ => 0), fun k => [].getD k (fun _ => 0), fun k => [].getD k 0) _ _ ls ⟨(m_upk me_4 tx_9 (by decide)), (rg_w (c := 0) (d := 8) hx_9 (by decide) (by decide)), hP, hD, hS, (lv_sub hl [1, 0, 2, 3] rfl)⟩

set_option maxHeartbeats 4000000 in
set_option maxRecDepth 100000 in
theorem s_fill_125 (l : Launch) (D : va_G) (t : Nat → ClassId) (a : Nat → Nat) (f125 : Nat → Int32) (p1 : Int32) (sz : Nat) : Met l yJ7_fill_53178 (wd yJ7_fill_53178 cJ7_fill_53178 4 none) (RM 0 0 0) (PreW D (TY t) [.ref (a 125), .int p1] [(a 125, .inl (t 0, 4, .inl f125))] sz) (va_Qv (fun (_ : US) => True) (fun (u : US) t9 => va_P D classes ((fun u : US => [(a 125, .inl (t 0, 4, .inl (u.2.1 0)))]) u) t9.heap ∧ va_D (va_A [(a 125, .inl (t 0, 4, .inl f125))] sz) ((fun u : US => [(a 125, .inl (t 0, 4, .inl (u.2.1 0)))]) u)) (va_A [(a 125, .inl (t 0, 4, .inl f125))] sz)) 0 0 (va_A [(a 125, .inl (t 0, 4, .inl f125))] sz) := by
  refine Met.ofW (cc := cJ7_fill_53178) (maxL := 4) (ret := none) (by decide) rfl ?_
  intro p e s m args below meth c s₁ B hml hv
  obtain ⟨rfl, hsz, hP, hK, hD0, hN⟩ := hv
  have hx := B.exec
  have hb := B.bytes
  have hr := B.returns
  have hts : ∀ w ∈ TB, w.before _ s = true := fun w h => atoms_spec (ws := wd yJ7_fill_53178 cJ7_fill_53178 4 none) B.pre w (List.mem_cons_of_mem _ h)
  have hown : s.vm.findClass RJ7 = some m.cls := findClass_of_methodNamed B.named
  have hlocks := B.notSynchronized
  have hF : CallFix p m c cJ7_fill_53178 4 s _ TB RJ7 := ⟨hx, hb, hml, hown, hts⟩
  have hl := lv_entry ([.ref (a 125), .int p1]) (n := 4) (Nat.le_of_ble_eq_true rfl)
  rw [lg_entry_eq]
  generalize (lg_sl ([.ref (a 125), .int p1]) ++ List.replicate (4 - (lg_sl ([.ref (a 125), .int p1])).length) Slot.unset).toArray = ls at hl ⊢
  have hl : lv_has ls 4 [(0, .ref (a 125)), (1, .int p1)] := hl
  subst hsz
  have hD := hD0.self (sz := s.heap.size)
  generalize hAe : va_A [(a 125, .inl (t 0, 4, .inl f125))] s.heap.size = A at hD ⊢
  have hA : ∀ q : Nat, s.heap.size ≤ q → A q := fun q h => by rw [← hAe]; exact Or.inr h
  have hS : va_S A s.heap s.heap [] := va_S.rf
  have hP : va_P D classes [(a 125, .inl (t 0, 4, .inl f125))] s.heap := hP
  refine lv_iconst (v := 0) hx hb dJ7_fill_53178_0 (by decide) ?_
  refine lv_istore_n (lv' := [(2, .int 0), (0, .ref (a 125)), (1, .int p1)]) hx hb dJ7_fill_53178_1 rfl hl (by decide) rfl (fun ls hl => ?_)
  refine lv_aload_n hx hb dJ7_fill_53178_2 rfl (lv_at hl 1 rfl) ?_
  refine va_alen (v := 4) hx hb hK hP 0 0 rfl rfl rfl dJ7_fill_53178_3 ?_
  refine lv_istore_n (lv' := [(3, .int 4), (2, .int 0), (0, .ref (a 125)), (1, .int p1)]) hx hb dJ7_fill_53178_4 rfl hl (by decide) rfl (fun ls hl => ?_)
  refine loopW (α := US) (fun n y_1 H locs ls => 4 < (y_1.1 0).toInt + (n : Int) ∧ rg 0 4 (y_1.1 0) ∧ va_P D classes [(a 125, .inl (t 0, 4, .inl (y_1.2.1 0)))] H ∧ va_D A [(a 125, .inl (t 0, 4, .inl (y_1.2.1 0)))] ∧ va_S A s.heap H locs ∧ lv_has ls 4 [(3, .int 4), (2, .int (y_1.1 0)), (0, .ref (a 125)), (1, .int p1)]) 5 (fun y_1 => []) (fun _ _ _ _ h9 => m_0 h9.1 h9.2.1) (fun n ih_3 y_1 H locs ls hI => ?_) 5 (fun k => [0].getD k 0, fun k => [f125].getD k (fun _ => 0), fun k => [].getD k (fun _ => 0), fun k => [].getD k 0) ⟨(m_i (rg_c (x := 0) (k := 0) (by decide)) (by decide)), (rg_w (c := 0) (d := 4) (rg_c (x := 0) (k := 0) (by decide)) (by decide) (by decide)), hP, hD, hS, (lv_sub hl [0, 1, 2, 3] rfl)⟩
  obtain ⟨me_4, h_2, hP, hD, hS, hl⟩ := hI
  refine lv_iload_n hx hb dJ7_fill_53178_5 rfl (lv_at hl 1 rfl) ?_
  refine lv_iload_n hx hb dJ7_fill_53178_6 rfl (lv_at hl 0 rfl) ?_
  refine lv_icmp_ge (tgt := 20) hx hb dJ7_fill_53178_7 (by decide) (fun c_5 => ?_) (fun c_5 => ?_)
  · skip
    have h_6 : rg 4 4 (y_1.1 0) := ⟨Int.le_trans (by decide) (c_leR c_5 (rg_c (x := 4) (k := 4) (by decide))), (h_2).2⟩
    have hP9 := hP.sub (ws' := [(a 125, .inl (t 0, 4, .inl (y_1.2.1 0)))]) [0] rfl
    have hD9 := hD.sub (ws' := [(a 125, .inl (t 0, 4, .inl (y_1.2.1 0)))]) [0] (by decide) rfl
    exact W.vret hx hb hr (fun t9 ht hW => ⟨⟨(fun k => [].getD k 0, fun k => [(y_1.2.1 0)].getD k (fun _ => 0), fun k => [].getD k (fun _ => 0), fun _ => 0), rfl, trivial, by rw [ht]; exact hP9, hD9⟩, hS.F ht⟩) hS.2.2 dJ7_fill_53178_20
  · skip
    have h_7 : rg 0 3 (y_1.1 0) := ⟨(h_2).1, Int.le_trans (c_nleR c_5 (rg_c (x := 4) (k := 4) (by decide))) (by decide)⟩
    refine lv_aload_n hx hb dJ7_fill_53178_10 rfl (lv_at hl 2 rfl) ?_
    refine lv_iload_n hx hb dJ7_fill_53178_11 rfl (lv_at hl 1 rfl) ?_
    refine lv_iload_n hx hb dJ7_fill_53178_12 rfl (lv_at hl 3 rfl) ?_
    refine x_iast hx hb hK hP hD hS 0 0 rfl rfl (in_rg h_7 (by decide) (by decide)) dJ7_fill_53178_13 (fun g_8 H locs hP hD hS => ?_)
    have hP : va_P D classes [(a 125, .inl (t 0, 4, .inl g_8))] H := hP
    have hD : va_D A [(a 125, .inl (t 0, 4, .inl g_8))] := hD
    obtain ⟨x_9, ex_9⟩ : ∃ y9 : Int32, y9 = (y_1.1 0) + 1 := ⟨_, rfl⟩
    have hx_9 : rg 1 4 x_9 := by rw [ex_9]; exact rg_add h_7 (rg_c (x := 1) (k := 1) (by decide)) (by decide) (by decide) (by decide) (by decide)
    have tx_9 : x_9.toInt = (y_1.1 0).toInt + 1 := by rw [ex_9]; exact inc_tk h_7 (by decide) (by decide) (by decide)
    refine lv_iinc (v := x_9) (lv' := [(2, .int x_9), (3, .int 4), (0, .ref (a 125)), (1, .int p1)]) hx hb dJ7_fill_53178_14 hl (k := 1) rfl (by rw [ex_9]; rfl) (by decide) rfl (fun ls hl => ?_)
    refine lv_goto (tgt := 5) hx hb dJ7_fill_53178_17 (by decide) ?_
    exact ih_3 (fun k => [x_9].getD k 0, fun k => [g_8].getD k (fun _ => 0), fun k => [].getD k (fun _ => 0), fun k => [].getD k 0) _ _ ls ⟨(m_upk me_4 tx_9 (by decide)), (rg_w (c := 0) (d := 4) hx_9 (by decide) (by decide)), hP, hD, hS, (lv_sub hl [1, 0, 2, 3] rfl)⟩

set_option maxHeartbeats 4000000 in
set_option maxRecDepth 100000 in
theorem s_fill_126 (l : Launch) (D : va_G) (t : Nat → ClassId) (a : Nat → Nat) (f126 : Nat → Int32) (p1 : Int32) (sz : Nat) : Met l yJ7_fill_53178 (wd yJ7_fill_53178 cJ7_fill_53178 4 none) (RM 0 0 0) (PreW D (TY t) [.ref (a 126), .int p1] [(a 126, .inl (t 0, 4, .inl f126))] sz) (va_Qv (fun (_ : US) => True) (fun (u : US) t9 => va_P D classes ((fun u : US => [(a 126, .inl (t 0, 4, .inl (u.2.1 0)))]) u) t9.heap ∧ va_D (va_A [(a 126, .inl (t 0, 4, .inl f126))] sz) ((fun u : US => [(a 126, .inl (t 0, 4, .inl (u.2.1 0)))]) u)) (va_A [(a 126, .inl (t 0, 4, .inl f126))] sz)) 0 0 (va_A [(a 126, .inl (t 0, 4, .inl f126))] sz) := by
  refine Met.ofW (cc := cJ7_fill_53178) (maxL := 4) (ret := none) (by decide) rfl ?_
  intro p e s m args below meth c s₁ B hml hv
  obtain ⟨rfl, hsz, hP, hK, hD0, hN⟩ := hv
  have hx := B.exec
  have hb := B.bytes
  have hr := B.returns
  have hts : ∀ w ∈ TB, w.before _ s = true := fun w h => atoms_spec (ws := wd yJ7_fill_53178 cJ7_fill_53178 4 none) B.pre w (List.mem_cons_of_mem _ h)
  have hown : s.vm.findClass RJ7 = some m.cls := findClass_of_methodNamed B.named
  have hlocks := B.notSynchronized
  have hF : CallFix p m c cJ7_fill_53178 4 s _ TB RJ7 := ⟨hx, hb, hml, hown, hts⟩
  have hl := lv_entry ([.ref (a 126), .int p1]) (n := 4) (Nat.le_of_ble_eq_true rfl)
  rw [lg_entry_eq]
  generalize (lg_sl ([.ref (a 126), .int p1]) ++ List.replicate (4 - (lg_sl ([.ref (a 126), .int p1])).length) Slot.unset).toArray = ls at hl ⊢
  have hl : lv_has ls 4 [(0, .ref (a 126)), (1, .int p1)] := hl
  subst hsz
  have hD := hD0.self (sz := s.heap.size)
  generalize hAe : va_A [(a 126, .inl (t 0, 4, .inl f126))] s.heap.size = A at hD ⊢
  have hA : ∀ q : Nat, s.heap.size ≤ q → A q := fun q h => by rw [← hAe]; exact Or.inr h
  have hS : va_S A s.heap s.heap [] := va_S.rf
  have hP : va_P D classes [(a 126, .inl (t 0, 4, .inl f126))] s.heap := hP
  refine lv_iconst (v := 0) hx hb dJ7_fill_53178_0 (by decide) ?_
  refine lv_istore_n (lv' := [(2, .int 0), (0, .ref (a 126)), (1, .int p1)]) hx hb dJ7_fill_53178_1 rfl hl (by decide) rfl (fun ls hl => ?_)
  refine lv_aload_n hx hb dJ7_fill_53178_2 rfl (lv_at hl 1 rfl) ?_
  refine va_alen (v := 4) hx hb hK hP 0 0 rfl rfl rfl dJ7_fill_53178_3 ?_
  refine lv_istore_n (lv' := [(3, .int 4), (2, .int 0), (0, .ref (a 126)), (1, .int p1)]) hx hb dJ7_fill_53178_4 rfl hl (by decide) rfl (fun ls hl => ?_)
  refine loopW (α := US) (fun n y_1 H locs ls => 4 < (y_1.1 0).toInt + (n : Int) ∧ rg 0 4 (y_1.1 0) ∧ va_P D classes [(a 126, .inl (t 0, 4, .inl (y_1.2.1 0)))] H ∧ va_D A [(a 126, .inl (t 0, 4, .inl (y_1.2.1 0)))] ∧ va_S A s.heap H locs ∧ lv_has ls 4 [(3, .int 4), (2, .int (y_1.1 0)), (0, .ref (a 126)), (1, .int p1)]) 5 (fun y_1 => []) (fun _ _ _ _ h9 => m_0 h9.1 h9.2.1) (fun n ih_3 y_1 H locs ls hI => ?_) 5 (fun k => [0].getD k 0, fun k => [f126].getD k (fun _ => 0), fun k => [].getD k (fun _ => 0), fun k => [].getD k 0) ⟨(m_i (rg_c (x := 0) (k := 0) (by decide)) (by decide)), (rg_w (c := 0) (d := 4) (rg_c (x := 0) (k := 0) (by decide)) (by decide) (by decide)), hP, hD, hS, (lv_sub hl [0, 1, 2, 3] rfl)⟩
  obtain ⟨me_4, h_2, hP, hD, hS, hl⟩ := hI
  refine lv_iload_n hx hb dJ7_fill_53178_5 rfl (lv_at hl 1 rfl) ?_
  refine lv_iload_n hx hb dJ7_fill_53178_6 rfl (lv_at hl 0 rfl) ?_
  refine lv_icmp_ge (tgt := 20) hx hb dJ7_fill_53178_7 (by decide) (fun c_5 => ?_) (fun c_5 => ?_)
  · skip
    have h_6 : rg 4 4 (y_1.1 0) := ⟨Int.le_trans (by decide) (c_leR c_5 (rg_c (x := 4) (k := 4) (by decide))), (h_2).2⟩
    have hP9 := hP.sub (ws' := [(a 126, .inl (t 0, 4, .inl (y_1.2.1 0)))]) [0] rfl
    have hD9 := hD.sub (ws' := [(a 126, .inl (t 0, 4, .inl (y_1.2.1 0)))]) [0] (by decide) rfl
    exact W.vret hx hb hr (fun t9 ht hW => ⟨⟨(fun k => [].getD k 0, fun k => [(y_1.2.1 0)].getD k (fun _ => 0), fun k => [].getD k (fun _ => 0), fun _ => 0), rfl, trivial, by rw [ht]; exact hP9, hD9⟩, hS.F ht⟩) hS.2.2 dJ7_fill_53178_20
  · skip
    have h_7 : rg 0 3 (y_1.1 0) := ⟨(h_2).1, Int.le_trans (c_nleR c_5 (rg_c (x := 4) (k := 4) (by decide))) (by decide)⟩
    refine lv_aload_n hx hb dJ7_fill_53178_10 rfl (lv_at hl 2 rfl) ?_
    refine lv_iload_n hx hb dJ7_fill_53178_11 rfl (lv_at hl 1 rfl) ?_
    refine lv_iload_n hx hb dJ7_fill_53178_12 rfl (lv_at hl 3 rfl) ?_
    refine x_iast hx hb hK hP hD hS 0 0 rfl rfl (in_rg h_7 (by decide) (by decide)) dJ7_fill_53178_13 (fun g_8 H locs hP hD hS => ?_)
    have hP : va_P D classes [(a 126, .inl (t 0, 4, .inl g_8))] H := hP
    have hD : va_D A [(a 126, .inl (t 0, 4, .inl g_8))] := hD
    obtain ⟨x_9, ex_9⟩ : ∃ y9 : Int32, y9 = (y_1.1 0) + 1 := ⟨_, rfl⟩
    have hx_9 : rg 1 4 x_9 := by rw [ex_9]; exact rg_add h_7 (rg_c (x := 1) (k := 1) (by decide)) (by decide) (by decide) (by decide) (by decide)
    have tx_9 : x_9.toInt = (y_1.1 0).toInt + 1 := by rw [ex_9]; exact inc_tk h_7 (by decide) (by decide) (by decide)
    refine lv_iinc (v := x_9) (lv' := [(2, .int x_9), (3, .int 4), (0, .ref (a 126)), (1, .int p1)]) hx hb dJ7_fill_53178_14 hl (k := 1) rfl (by rw [ex_9]; rfl) (by decide) rfl (fun ls hl => ?_)
    refine lv_goto (tgt := 5) hx hb dJ7_fill_53178_17 (by decide) ?_
    exact ih_3 (fun k => [x_9].getD k 0, fun k => [g_8].getD k (fun _ => 0), fun k => [].getD k (fun _ => 0), fun k => [].getD k 0) _ _ ls ⟨(m_upk me_4 tx_9 (by decide)), (rg_w (c := 0) (d := 4) hx_9 (by decide) (by decide)), hP, hD, hS, (lv_sub hl [1, 0, 2, 3] rfl)⟩

set_option maxHeartbeats 4000000 in
set_option maxRecDepth 100000 in
theorem s_fill_35 (l : Launch) (D : va_G) (t : Nat → ClassId) (a : Nat → Nat) (f35 : Nat → Int32) (p1 : Int32) (sz : Nat) : Met l yJ7_fill_53178 (wd yJ7_fill_53178 cJ7_fill_53178 4 none) (RM 0 0 0) (PreW D (TY t) [.ref (a 35), .int p1] [(a 35, .inl (t 0, 9, .inl f35))] sz) (va_Qv (fun (_ : US) => True) (fun (u : US) t9 => va_P D classes ((fun u : US => [(a 35, .inl (t 0, 9, .inl (u.2.1 0)))]) u) t9.heap ∧ va_D (va_A [(a 35, .inl (t 0, 9, .inl f35))] sz) ((fun u : US => [(a 35, .inl (t 0, 9, .inl (u.2.1 0)))]) u)) (va_A [(a 35, .inl (t 0, 9, .inl f35))] sz)) 0 0 (va_A [(a 35, .inl (t 0, 9, .inl f35))] sz) := by
  refine Met.ofW (cc := cJ7_fill_53178) (maxL := 4) (ret := none) (by decide) rfl ?_
  intro p e s m args below meth c s₁ B hml hv
  obtain ⟨rfl, hsz, hP, hK, hD0, hN⟩ := hv
  have hx := B.exec
  have hb := B.bytes
  have hr := B.returns
  have hts : ∀ w ∈ TB, w.before _ s = true := fun w h => atoms_spec (ws := wd yJ7_fill_53178 cJ7_fill_53178 4 none) B.pre w (List.mem_cons_of_mem _ h)
  have hown : s.vm.findClass RJ7 = some m.cls := findClass_of_methodNamed B.named
  have hlocks := B.notSynchronized
  have hF : CallFix p m c cJ7_fill_53178 4 s _ TB RJ7 := ⟨hx, hb, hml, hown, hts⟩
  have hl := lv_entry ([.ref (a 35), .int p1]) (n := 4) (Nat.le_of_ble_eq_true rfl)
  rw [lg_entry_eq]
  generalize (lg_sl ([.ref (a 35), .int p1]) ++ List.replicate (4 - (lg_sl ([.ref (a 35), .int p1])).length) Slot.unset).toArray = ls at hl ⊢
  have hl : lv_has ls 4 [(0, .ref (a 35)), (1, .int p1)] := hl
  subst hsz
  have hD := hD0.self (sz := s.heap.size)
  generalize hAe : va_A [(a 35, .inl (t 0, 9, .inl f35))] s.heap.size = A at hD ⊢
  have hA : ∀ q : Nat, s.heap.size ≤ q → A q := fun q h => by rw [← hAe]; exact Or.inr h
  have hS : va_S A s.heap s.heap [] := va_S.rf
  have hP : va_P D classes [(a 35, .inl (t 0, 9, .inl f35))] s.heap := hP
  refine lv_iconst (v := 0) hx hb dJ7_fill_53178_0 (by decide) ?_
  refine lv_istore_n (lv' := [(2, .int 0), (0, .ref (a 35)), (1, .int p1)]) hx hb dJ7_fill_53178_1 rfl hl (by decide) rfl (fun ls hl => ?_)
  refine lv_aload_n hx hb dJ7_fill_53178_2 rfl (lv_at hl 1 rfl) ?_
  refine va_alen (v := 9) hx hb hK hP 0 0 rfl rfl rfl dJ7_fill_53178_3 ?_
  refine lv_istore_n (lv' := [(3, .int 9), (2, .int 0), (0, .ref (a 35)), (1, .int p1)]) hx hb dJ7_fill_53178_4 rfl hl (by decide) rfl (fun ls hl => ?_)
  refine loopW (α := US) (fun n y_1 H locs ls => 9 < (y_1.1 0).toInt + (n : Int) ∧ rg 0 9 (y_1.1 0) ∧ va_P D classes [(a 35, .inl (t 0, 9, .inl (y_1.2.1 0)))] H ∧ va_D A [(a 35, .inl (t 0, 9, .inl (y_1.2.1 0)))] ∧ va_S A s.heap H locs ∧ lv_has ls 4 [(3, .int 9), (2, .int (y_1.1 0)), (0, .ref (a 35)), (1, .int p1)]) 5 (fun y_1 => []) (fun _ _ _ _ h9 => m_0 h9.1 h9.2.1) (fun n ih_3 y_1 H locs ls hI => ?_) 10 (fun k => [0].getD k 0, fun k => [f35].getD k (fun _ => 0), fun k => [].getD k (fun _ => 0), fun k => [].getD k 0) ⟨(m_i (rg_c (x := 0) (k := 0) (by decide)) (by decide)), (rg_w (c := 0) (d := 9) (rg_c (x := 0) (k := 0) (by decide)) (by decide) (by decide)), hP, hD, hS, (lv_sub hl [0, 1, 2, 3] rfl)⟩
  obtain ⟨me_4, h_2, hP, hD, hS, hl⟩ := hI
  refine lv_iload_n hx hb dJ7_fill_53178_5 rfl (lv_at hl 1 rfl) ?_
  refine lv_iload_n hx hb dJ7_fill_53178_6 rfl (lv_at hl 0 rfl) ?_
  refine lv_icmp_ge (tgt := 20) hx hb dJ7_fill_53178_7 (by decide) (fun c_5 => ?_) (fun c_5 => ?_)
  · skip
    have h_6 : rg 9 9 (y_1.1 0) := ⟨Int.le_trans (by decide) (c_leR c_5 (rg_c (x := 9) (k := 9) (by decide))), (h_2).2⟩
    have hP9 := hP.sub (ws' := [(a 35, .inl (t 0, 9, .inl (y_1.2.1 0)))]) [0] rfl
    have hD9 := hD.sub (ws' := [(a 35, .inl (t 0, 9, .inl (y_1.2.1 0)))]) [0] (by decide) rfl
    exact W.vret hx hb hr (fun t9 ht hW => ⟨⟨(fun k => [].getD k 0, fun k => [(y_1.2.1 0)].getD k (fun _ => 0), fun k => [].getD k (fun _ => 0), fun _ => 0), rfl, trivial, by rw [ht]; exact hP9, hD9⟩, hS.F ht⟩) hS.2.2 dJ7_fill_53178_20
  · skip
    have h_7 : rg 0 8 (y_1.1 0) := ⟨(h_2).1, Int.le_trans (c_nleR c_5 (rg_c (x := 9) (k := 9) (by decide))) (by decide)⟩
    refine lv_aload_n hx hb dJ7_fill_53178_10 rfl (lv_at hl 2 rfl) ?_
    refine lv_iload_n hx hb dJ7_fill_53178_11 rfl (lv_at hl 1 rfl) ?_
    refine lv_iload_n hx hb dJ7_fill_53178_12 rfl (lv_at hl 3 rfl) ?_
    refine x_iast hx hb hK hP hD hS 0 0 rfl rfl (in_rg h_7 (by decide) (by decide)) dJ7_fill_53178_13 (fun g_8 H locs hP hD hS => ?_)
    have hP : va_P D classes [(a 35, .inl (t 0, 9, .inl g_8))] H := hP
    have hD : va_D A [(a 35, .inl (t 0, 9, .inl g_8))] := hD
    obtain ⟨x_9, ex_9⟩ : ∃ y9 : Int32, y9 = (y_1.1 0) + 1 := ⟨_, rfl⟩
    have hx_9 : rg 1 9 x_9 := by rw [ex_9]; exact rg_add h_7 (rg_c (x := 1) (k := 1) (by decide)) (by decide) (by decide) (by decide) (by decide)
    have tx_9 : x_9.toInt = (y_1.1 0).toInt + 1 := by rw [ex_9]; exact inc_tk h_7 (by decide) (by decide) (by decide)
    refine lv_iinc (v := x_9) (lv' := [(2, .int x_9), (3, .int 9), (0, .ref (a 35)), (1, .int p1)]) hx hb dJ7_fill_53178_14 hl (k := 1) rfl (by rw [ex_9]; rfl) (by decide) rfl (fun ls hl => ?_)
    refine lv_goto (tgt := 5) hx hb dJ7_fill_53178_17 (by decide) ?_
    exact ih_3 (fun k => [x_9].getD k 0, fun k => [g_8].getD k (fun _ => 0), fun k => [].getD k (fun _ => 0), fun k => [].getD k 0) _ _ ls ⟨(m_upk me_4 tx_9 (by decide)), (rg_w (c := 0) (d := 9) hx_9 (by decide) (by decide)), hP, hD, hS, (lv_sub hl [1, 0, 2, 3] rfl)⟩

set_option maxHeartbeats 4000000 in
set_option maxRecDepth 100000 in
theorem s_fill_128 (l : Launch) (D : va_G) (t : Nat → ClassId) (a : Nat → Nat) (f128 : Nat → Int32) (p1 : Int32) (q128 : ∀ j, j < 4 → rg 0 63 (f128 j)) (rp1 : rg 0 63 p1) (sz : Nat) : Met l yJ7_fill_53178 (wd yJ7_fill_53178 cJ7_fill_53178 4 none) (RM 0 0 0) (PreW D (TY t) [.ref (a 128), .int p1] [(a 128, .inl (t 0, 4, .inl f128))] sz) (va_Qv (fun (u : US) => (∀ j, j < 4 → rg 0 63 (u.2.1 0 j))) (fun (u : US) t9 => va_P D classes ((fun u : US => [(a 128, .inl (t 0, 4, .inl (u.2.1 0)))]) u) t9.heap ∧ va_D (va_A [(a 128, .inl (t 0, 4, .inl f128))] sz) ((fun u : US => [(a 128, .inl (t 0, 4, .inl (u.2.1 0)))]) u)) (va_A [(a 128, .inl (t 0, 4, .inl f128))] sz)) 0 0 (va_A [(a 128, .inl (t 0, 4, .inl f128))] sz) := by
  refine Met.ofW (cc := cJ7_fill_53178) (maxL := 4) (ret := none) (by decide) rfl ?_
  intro p e s m args below meth c s₁ B hml hv
  obtain ⟨rfl, hsz, hP, hK, hD0, hN⟩ := hv
  have hx := B.exec
  have hb := B.bytes
  have hr := B.returns
  have hts : ∀ w ∈ TB, w.before _ s = true := fun w h => atoms_spec (ws := wd yJ7_fill_53178 cJ7_fill_53178 4 none) B.pre w (List.mem_cons_of_mem _ h)
  have hown : s.vm.findClass RJ7 = some m.cls := findClass_of_methodNamed B.named
  have hlocks := B.notSynchronized
  have hF : CallFix p m c cJ7_fill_53178 4 s _ TB RJ7 := ⟨hx, hb, hml, hown, hts⟩
  have hl := lv_entry ([.ref (a 128), .int p1]) (n := 4) (Nat.le_of_ble_eq_true rfl)
  rw [lg_entry_eq]
  generalize (lg_sl ([.ref (a 128), .int p1]) ++ List.replicate (4 - (lg_sl ([.ref (a 128), .int p1])).length) Slot.unset).toArray = ls at hl ⊢
  have hl : lv_has ls 4 [(0, .ref (a 128)), (1, .int p1)] := hl
  subst hsz
  have hD := hD0.self (sz := s.heap.size)
  generalize hAe : va_A [(a 128, .inl (t 0, 4, .inl f128))] s.heap.size = A at hD ⊢
  have hA : ∀ q : Nat, s.heap.size ≤ q → A q := fun q h => by rw [← hAe]; exact Or.inr h
  have hS : va_S A s.heap s.heap [] := va_S.rf
  have hP : va_P D classes [(a 128, .inl (t 0, 4, .inl f128))] s.heap := hP
  refine lv_iconst (v := 0) hx hb dJ7_fill_53178_0 (by decide) ?_
  refine lv_istore_n (lv' := [(2, .int 0), (0, .ref (a 128)), (1, .int p1)]) hx hb dJ7_fill_53178_1 rfl hl (by decide) rfl (fun ls hl => ?_)
  refine lv_aload_n hx hb dJ7_fill_53178_2 rfl (lv_at hl 1 rfl) ?_
  refine va_alen (v := 4) hx hb hK hP 0 0 rfl rfl rfl dJ7_fill_53178_3 ?_
  refine lv_istore_n (lv' := [(3, .int 4), (2, .int 0), (0, .ref (a 128)), (1, .int p1)]) hx hb dJ7_fill_53178_4 rfl hl (by decide) rfl (fun ls hl => ?_)
  refine loopW (α := US) (fun n y_1 H locs ls => 4 < (y_1.1 0).toInt + (n : Int) ∧ rg 0 4 (y_1.1 0) ∧ (∀ j, j < 4 → rg 0 63 ((y_1.2.1 0) j)) ∧ va_P D classes [(a 128, .inl (t 0, 4, .inl (y_1.2.1 0)))] H ∧ va_D A [(a 128, .inl (t 0, 4, .inl (y_1.2.1 0)))] ∧ va_S A s.heap H locs ∧ lv_has ls 4 [(3, .int 4), (2, .int (y_1.1 0)), (0, .ref (a 128)), (1, .int p1)]) 5 (fun y_1 => []) (fun _ _ _ _ h9 => m_0 h9.1 h9.2.1) (fun n ih_4 y_1 H locs ls hI => ?_) 5 (fun k => [0].getD k 0, fun k => [f128].getD k (fun _ => 0), fun k => [].getD k (fun _ => 0), fun k => [].getD k 0) ⟨(m_i (rg_c (x := 0) (k := 0) (by decide)) (by decide)), (rg_w (c := 0) (d := 4) (rg_c (x := 0) (k := 0) (by decide)) (by decide) (by decide)), q128, hP, hD, hS, (lv_sub hl [0, 1, 2, 3] rfl)⟩
  obtain ⟨me_5, h_2, h_3, hP, hD, hS, hl⟩ := hI
  refine lv_iload_n hx hb dJ7_fill_53178_5 rfl (lv_at hl 1 rfl) ?_
  refine lv_iload_n hx hb dJ7_fill_53178_6 rfl (lv_at hl 0 rfl) ?_
  refine lv_icmp_ge (tgt := 20) hx hb dJ7_fill_53178_7 (by decide) (fun c_6 => ?_) (fun c_6 => ?_)
  · skip
    have h_7 : rg 4 4 (y_1.1 0) := ⟨Int.le_trans (by decide) (c_leR c_6 (rg_c (x := 4) (k := 4) (by decide))), (h_2).2⟩
    have hP9 := hP.sub (ws' := [(a 128, .inl (t 0, 4, .inl (y_1.2.1 0)))]) [0] rfl
    have hD9 := hD.sub (ws' := [(a 128, .inl (t 0, 4, .inl (y_1.2.1 0)))]) [0] (by decide) rfl
    exact W.vret hx hb hr (fun t9 ht hW => ⟨⟨(fun k => [].getD k 0, fun k => [(y_1.2.1 0)].getD k (fun _ => 0), fun k => [].getD k (fun _ => 0), fun _ => 0), rfl, h_3, by rw [ht]; exact hP9, hD9⟩, hS.F ht⟩) hS.2.2 dJ7_fill_53178_20
  · skip
    have h_8 : rg 0 3 (y_1.1 0) := ⟨(h_2).1, Int.le_trans (c_nleR c_6 (rg_c (x := 4) (k := 4) (by decide))) (by decide)⟩
    refine lv_aload_n hx hb dJ7_fill_53178_10 rfl (lv_at hl 2 rfl) ?_
    refine lv_iload_n hx hb dJ7_fill_53178_11 rfl (lv_at hl 1 rfl) ?_
    refine lv_iload_n hx hb dJ7_fill_53178_12 rfl (lv_at hl 3 rfl) ?_
    refine y_iast hx hb hK hP hD hS 0 0 rfl rfl (in_rg h_8 (by decide) (by decide)) dJ7_fill_53178_13 (lo := 0) (hi := 63) h_3 rp1 (fun g_9 H locs hg_9 hP hD hS => ?_)
    have hP : va_P D classes [(a 128, .inl (t 0, 4, .inl g_9))] H := hP
    have hD : va_D A [(a 128, .inl (t 0, 4, .inl g_9))] := hD
    obtain ⟨x_10, ex_10⟩ : ∃ y9 : Int32, y9 = (y_1.1 0) + 1 := ⟨_, rfl⟩
    have hx_10 : rg 1 4 x_10 := by rw [ex_10]; exact rg_add h_8 (rg_c (x := 1) (k := 1) (by decide)) (by decide) (by decide) (by decide) (by decide)
    have tx_10 : x_10.toInt = (y_1.1 0).toInt + 1 := by rw [ex_10]; exact inc_tk h_8 (by decide) (by decide) (by decide)
    refine lv_iinc (v := x_10) (lv' := [(2, .int x_10), (3, .int 4), (0, .ref (a 128)), (1, .int p1)]) hx hb dJ7_fill_53178_14 hl (k := 1) rfl (by rw [ex_10]; rfl) (by decide) rfl (fun ls hl => ?_)
    refine lv_goto (tgt := 5) hx hb dJ7_fill_53178_17 (by decide) ?_
    exact ih_4 (fun k => [x_10].getD k 0, fun k => [g_9].getD k (fun _ => 0), fun k => [].getD k (fun _ => 0), fun k => [].getD k 0) _ _ ls ⟨(m_upk me_5 tx_10 (by decide)), (rg_w (c := 0) (d := 4) hx_10 (by decide) (by decide)), hg_9, hP, hD, hS, (lv_sub hl [1, 0, 2, 3] rfl)⟩

set_option maxHeartbeats 4000000 in
set_option maxRecDepth 100000 in
theorem s_fillJ_10 (l : Launch) (D : va_G) (t : Nat → ClassId) (a : Nat → Nat) (g10 : Nat → Int64) (p1 : Int64) (sz : Nat) : Met l yJ7_fill_d0a16 (wd yJ7_fill_d0a16 cJ7_fill_d0a16 5 none) (RM 0 0 0) (PreW D (TY t) [.ref (a 10), .long p1] [(a 10, .inl (t 2, 60, .inr (.inl g10)))] sz) (va_Qv (fun (_ : US) => True) (fun (u : US) t9 => va_P D classes ((fun u : US => [(a 10, .inl (t 2, 60, .inr (.inl (u.2.2.1 0))))]) u) t9.heap ∧ va_D (va_A [(a 10, .inl (t 2, 60, .inr (.inl g10)))] sz) ((fun u : US => [(a 10, .inl (t 2, 60, .inr (.inl (u.2.2.1 0))))]) u)) (va_A [(a 10, .inl (t 2, 60, .inr (.inl g10)))] sz)) 0 0 (va_A [(a 10, .inl (t 2, 60, .inr (.inl g10)))] sz) := by
  refine Met.ofW (cc := cJ7_fill_d0a16) (maxL := 5) (ret := none) (by decide) rfl ?_
  intro p e s m args below meth c s₁ B hml hv
  obtain ⟨rfl, hsz, hP, hK, hD0, hN⟩ := hv
  have hx := B.exec
  have hb := B.bytes
  have hr := B.returns
  have hts : ∀ w ∈ TB, w.before _ s = true := fun w h => atoms_spec (ws := wd yJ7_fill_d0a16 cJ7_fill_d0a16 5 none) B.pre w (List.mem_cons_of_mem _ h)
  have hown : s.vm.findClass RJ7 = some m.cls := findClass_of_methodNamed B.named
  have hlocks := B.notSynchronized
  have hF : CallFix p m c cJ7_fill_d0a16 5 s _ TB RJ7 := ⟨hx, hb, hml, hown, hts⟩
  have hl := lv_entry ([.ref (a 10), .long p1]) (n := 5) (Nat.le_of_ble_eq_true rfl)
  rw [lg_entry_eq]
  generalize (lg_sl ([.ref (a 10), .long p1]) ++ List.replicate (5 - (lg_sl ([.ref (a 10), .long p1])).length) Slot.unset).toArray = ls at hl ⊢
  have hl : lv_has ls 5 [(0, .ref (a 10)), (1, .long p1)] := hl
  subst hsz
  have hD := hD0.self (sz := s.heap.size)
  generalize hAe : va_A [(a 10, .inl (t 2, 60, .inr (.inl g10)))] s.heap.size = A at hD ⊢
  have hA : ∀ q : Nat, s.heap.size ≤ q → A q := fun q h => by rw [← hAe]; exact Or.inr h
  have hS : va_S A s.heap s.heap [] := va_S.rf
  have hP : va_P D classes [(a 10, .inl (t 2, 60, .inr (.inl g10)))] s.heap := hP
  refine lv_iconst (v := 0) hx hb dJ7_fill_d0a16_0 (by decide) ?_
  refine lv_istore_n (lv' := [(3, .int 0), (0, .ref (a 10)), (1, .long p1)]) hx hb dJ7_fill_d0a16_1 rfl hl (by decide) rfl (fun ls hl => ?_)
  refine lv_aload_n hx hb dJ7_fill_d0a16_2 rfl (lv_at hl 1 rfl) ?_
  refine va_alen (v := 60) hx hb hK hP 0 2 rfl rfl rfl dJ7_fill_d0a16_3 ?_
  refine lv_istore (lv' := [(4, .int 60), (3, .int 0), (0, .ref (a 10)), (1, .long p1)]) hx hb dJ7_fill_d0a16_4 hl (by decide) rfl (fun ls hl => ?_)
  refine loopW (α := US) (fun n y_1 H locs ls => 60 < (y_1.1 0).toInt + (n : Int) ∧ rg 0 60 (y_1.1 0) ∧ va_P D classes [(a 10, .inl (t 2, 60, .inr (.inl (y_1.2.2.1 0))))] H ∧ va_D A [(a 10, .inl (t 2, 60, .inr (.inl (y_1.2.2.1 0))))] ∧ va_S A s.heap H locs ∧ lv_has ls 5 [(4, .int 60), (3, .int (y_1.1 0)), (0, .ref (a 10)), (1, .long p1)]) 6 (fun y_1 => []) (fun _ _ _ _ h9 => m_0 h9.1 h9.2.1) (fun n ih_3 y_1 H locs ls hI => ?_) 61 (fun k => [0].getD k 0, fun k => [].getD k (fun _ => 0), fun k => [g10].getD k (fun _ => 0), fun k => [].getD k 0) ⟨(m_i (rg_c (x := 0) (k := 0) (by decide)) (by decide)), (rg_w (c := 0) (d := 60) (rg_c (x := 0) (k := 0) (by decide)) (by decide) (by decide)), hP, hD, hS, (lv_sub hl [0, 1, 2, 3] rfl)⟩
  obtain ⟨me_4, h_2, hP, hD, hS, hl⟩ := hI
  refine lv_iload_n hx hb dJ7_fill_d0a16_6 rfl (lv_at hl 1 rfl) ?_
  refine lv_iload hx hb dJ7_fill_d0a16_7 (lv_at hl 0 rfl) ?_
  refine lv_icmp_ge (tgt := 22) hx hb dJ7_fill_d0a16_9 (by decide) (fun c_5 => ?_) (fun c_5 => ?_)
  · skip
    have h_6 : rg 60 60 (y_1.1 0) := ⟨Int.le_trans (by decide) (c_leR c_5 (rg_c (x := 60) (k := 60) (by decide))), (h_2).2⟩
    have hP9 := hP.sub (ws' := [(a 10, .inl (t 2, 60, .inr (.inl (y_1.2.2.1 0))))]) [0] rfl
    have hD9 := hD.sub (ws' := [(a 10, .inl (t 2, 60, .inr (.inl (y_1.2.2.1 0))))]) [0] (by decide) rfl
    exact W.vret hx hb hr (fun t9 ht hW => ⟨⟨(fun k => [].getD k 0, fun k => [].getD k (fun _ => 0), fun k => [(y_1.2.2.1 0)].getD k (fun _ => 0), fun _ => 0), rfl, trivial, by rw [ht]; exact hP9, hD9⟩, hS.F ht⟩) hS.2.2 dJ7_fill_d0a16_22
  · skip
    have h_7 : rg 0 59 (y_1.1 0) := ⟨(h_2).1, Int.le_trans (c_nleR c_5 (rg_c (x := 60) (k := 60) (by decide))) (by decide)⟩
    refine lv_aload_n hx hb dJ7_fill_d0a16_12 rfl (lv_at hl 2 rfl) ?_
    refine lv_iload_n hx hb dJ7_fill_d0a16_13 rfl (lv_at hl 1 rfl) ?_
    refine lv_lload_n hx hb dJ7_fill_d0a16_14 rfl (lv_at hl 3 rfl) ?_
    refine x_last hx hb hK hP hD hS 0 2 rfl rfl (in_rg h_7 (by decide) (by decide)) dJ7_fill_d0a16_15 (fun g_8 H locs hP hD hS => ?_)
    have hP : va_P D classes [(a 10, .inl (t 2, 60, .inr (.inl g_8)))] H := hP
    have hD : va_D A [(a 10, .inl (t 2, 60, .inr (.inl g_8)))] := hD
    obtain ⟨x_9, ex_9⟩ : ∃ y9 : Int32, y9 = (y_1.1 0) + 1 := ⟨_, rfl⟩
    have hx_9 : rg 1 60 x_9 := by rw [ex_9]; exact rg_add h_7 (rg_c (x := 1) (k := 1) (by decide)) (by decide) (by decide) (by decide) (by decide)
    have tx_9 : x_9.toInt = (y_1.1 0).toInt + 1 := by rw [ex_9]; exact inc_tk h_7 (by decide) (by decide) (by decide)
    refine lv_iinc (v := x_9) (lv' := [(3, .int x_9), (4, .int 60), (0, .ref (a 10)), (1, .long p1)]) hx hb dJ7_fill_d0a16_16 hl (k := 1) rfl (by rw [ex_9]; rfl) (by decide) rfl (fun ls hl => ?_)
    refine lv_goto (tgt := 6) hx hb dJ7_fill_d0a16_19 (by decide) ?_
    exact ih_3 (fun k => [x_9].getD k 0, fun k => [].getD k (fun _ => 0), fun k => [g_8].getD k (fun _ => 0), fun k => [].getD k 0) _ _ ls ⟨(m_upk me_4 tx_9 (by decide)), (rg_w (c := 0) (d := 60) hx_9 (by decide) (by decide)), hP, hD, hS, (lv_sub hl [1, 0, 2, 3] rfl)⟩

set_option maxHeartbeats 4000000 in
set_option maxRecDepth 100000 in
theorem s_fillJ_11 (l : Launch) (D : va_G) (t : Nat → ClassId) (a : Nat → Nat) (g11 : Nat → Int64) (p1 : Int64) (sz : Nat) : Met l yJ7_fill_d0a16 (wd yJ7_fill_d0a16 cJ7_fill_d0a16 5 none) (RM 0 0 0) (PreW D (TY t) [.ref (a 11), .long p1] [(a 11, .inl (t 2, 60, .inr (.inl g11)))] sz) (va_Qv (fun (_ : US) => True) (fun (u : US) t9 => va_P D classes ((fun u : US => [(a 11, .inl (t 2, 60, .inr (.inl (u.2.2.1 0))))]) u) t9.heap ∧ va_D (va_A [(a 11, .inl (t 2, 60, .inr (.inl g11)))] sz) ((fun u : US => [(a 11, .inl (t 2, 60, .inr (.inl (u.2.2.1 0))))]) u)) (va_A [(a 11, .inl (t 2, 60, .inr (.inl g11)))] sz)) 0 0 (va_A [(a 11, .inl (t 2, 60, .inr (.inl g11)))] sz) := by
  refine Met.ofW (cc := cJ7_fill_d0a16) (maxL := 5) (ret := none) (by decide) rfl ?_
  intro p e s m args below meth c s₁ B hml hv
  obtain ⟨rfl, hsz, hP, hK, hD0, hN⟩ := hv
  have hx := B.exec
  have hb := B.bytes
  have hr := B.returns
  have hts : ∀ w ∈ TB, w.before _ s = true := fun w h => atoms_spec (ws := wd yJ7_fill_d0a16 cJ7_fill_d0a16 5 none) B.pre w (List.mem_cons_of_mem _ h)
  have hown : s.vm.findClass RJ7 = some m.cls := findClass_of_methodNamed B.named
  have hlocks := B.notSynchronized
  have hF : CallFix p m c cJ7_fill_d0a16 5 s _ TB RJ7 := ⟨hx, hb, hml, hown, hts⟩
  have hl := lv_entry ([.ref (a 11), .long p1]) (n := 5) (Nat.le_of_ble_eq_true rfl)
  rw [lg_entry_eq]
  generalize (lg_sl ([.ref (a 11), .long p1]) ++ List.replicate (5 - (lg_sl ([.ref (a 11), .long p1])).length) Slot.unset).toArray = ls at hl ⊢
  have hl : lv_has ls 5 [(0, .ref (a 11)), (1, .long p1)] := hl
  subst hsz
  have hD := hD0.self (sz := s.heap.size)
  generalize hAe : va_A [(a 11, .inl (t 2, 60, .inr (.inl g11)))] s.heap.size = A at hD ⊢
  have hA : ∀ q : Nat, s.heap.size ≤ q → A q := fun q h => by rw [← hAe]; exact Or.inr h
  have hS : va_S A s.heap s.heap [] := va_S.rf
  have hP : va_P D classes [(a 11, .inl (t 2, 60, .inr (.inl g11)))] s.heap := hP
  refine lv_iconst (v := 0) hx hb dJ7_fill_d0a16_0 (by decide) ?_
  refine lv_istore_n (lv' := [(3, .int 0), (0, .ref (a 11)), (1, .long p1)]) hx hb dJ7_fill_d0a16_1 rfl hl (by decide) rfl (fun ls hl => ?_)
  refine lv_aload_n hx hb dJ7_fill_d0a16_2 rfl (lv_at hl 1 rfl) ?_
  refine va_alen (v := 60) hx hb hK hP 0 2 rfl rfl rfl dJ7_fill_d0a16_3 ?_
  refine lv_istore (lv' := [(4, .int 60), (3, .int 0), (0, .ref (a 11)), (1, .long p1)]) hx hb dJ7_fill_d0a16_4 hl (by decide) rfl (fun ls hl => ?_)
  refine loopW (α := US) (fun n y_1 H locs ls => 60 < (y_1.1 0).toInt + (n : Int) ∧ rg 0 60 (y_1.1 0) ∧ va_P D classes [(a 11, .inl (t 2, 60, .inr (.inl (y_1.2.2.1 0))))] H ∧ va_D A [(a 11, .inl (t 2, 60, .inr (.inl (y_1.2.2.1 0))))] ∧ va_S A s.heap H locs ∧ lv_has ls 5 [(4, .int 60), (3, .int (y_1.1 0)), (0, .ref (a 11)), (1, .long p1)]) 6 (fun y_1 => []) (fun _ _ _ _ h9 => m_0 h9.1 h9.2.1) (fun n ih_3 y_1 H locs ls hI => ?_) 61 (fun k => [0].getD k 0, fun k => [].getD k (fun _ => 0), fun k => [g11].getD k (fun _ => 0), fun k => [].getD k 0) ⟨(m_i (rg_c (x := 0) (k := 0) (by decide)) (by decide)), (rg_w (c := 0) (d := 60) (rg_c (x := 0) (k := 0) (by decide)) (by decide) (by decide)), hP, hD, hS, (lv_sub hl [0, 1, 2, 3] rfl)⟩
  obtain ⟨me_4, h_2, hP, hD, hS, hl⟩ := hI
  refine lv_iload_n hx hb dJ7_fill_d0a16_6 rfl (lv_at hl 1 rfl) ?_
  refine lv_iload hx hb dJ7_fill_d0a16_7 (lv_at hl 0 rfl) ?_
  refine lv_icmp_ge (tgt := 22) hx hb dJ7_fill_d0a16_9 (by decide) (fun c_5 => ?_) (fun c_5 => ?_)
  · skip
    have h_6 : rg 60 60 (y_1.1 0) := ⟨Int.le_trans (by decide) (c_leR c_5 (rg_c (x := 60) (k := 60) (by decide))), (h_2).2⟩
    have hP9 := hP.sub (ws' := [(a 11, .inl (t 2, 60, .inr (.inl (y_1.2.2.1 0))))]) [0] rfl
    have hD9 := hD.sub (ws' := [(a 11, .inl (t 2, 60, .inr (.inl (y_1.2.2.1 0))))]) [0] (by decide) rfl
    exact W.vret hx hb hr (fun t9 ht hW => ⟨⟨(fun k => [].getD k 0, fun k => [].getD k (fun _ => 0), fun k => [(y_1.2.2.1 0)].getD k (fun _ => 0), fun _ => 0), rfl, trivial, by rw [ht]; exact hP9, hD9⟩, hS.F ht⟩) hS.2.2 dJ7_fill_d0a16_22
  · skip
    have h_7 : rg 0 59 (y_1.1 0) := ⟨(h_2).1, Int.le_trans (c_nleR c_5 (rg_c (x := 60) (k := 60) (by decide))) (by decide)⟩
    refine lv_aload_n hx hb dJ7_fill_d0a16_12 rfl (lv_at hl 2 rfl) ?_
    refine lv_iload_n hx hb dJ7_fill_d0a16_13 rfl (lv_at hl 1 rfl) ?_
    refine lv_lload_n hx hb dJ7_fill_d0a16_14 rfl (lv_at hl 3 rfl) ?_
    refine x_last hx hb hK hP hD hS 0 2 rfl rfl (in_rg h_7 (by decide) (by decide)) dJ7_fill_d0a16_15 (fun g_8 H locs hP hD hS => ?_)
    have hP : va_P D classes [(a 11, .inl (t 2, 60, .inr (.inl g_8)))] H := hP
    have hD : va_D A [(a 11, .inl (t 2, 60, .inr (.inl g_8)))] := hD
    obtain ⟨x_9, ex_9⟩ : ∃ y9 : Int32, y9 = (y_1.1 0) + 1 := ⟨_, rfl⟩
    have hx_9 : rg 1 60 x_9 := by rw [ex_9]; exact rg_add h_7 (rg_c (x := 1) (k := 1) (by decide)) (by decide) (by decide) (by decide) (by decide)
    have tx_9 : x_9.toInt = (y_1.1 0).toInt + 1 := by rw [ex_9]; exact inc_tk h_7 (by decide) (by decide) (by decide)
    refine lv_iinc (v := x_9) (lv' := [(3, .int x_9), (4, .int 60), (0, .ref (a 11)), (1, .long p1)]) hx hb dJ7_fill_d0a16_16 hl (k := 1) rfl (by rw [ex_9]; rfl) (by decide) rfl (fun ls hl => ?_)
    refine lv_goto (tgt := 6) hx hb dJ7_fill_d0a16_19 (by decide) ?_
    exact ih_3 (fun k => [x_9].getD k 0, fun k => [].getD k (fun _ => 0), fun k => [g_8].getD k (fun _ => 0), fun k => [].getD k 0) _ _ ls ⟨(m_upk me_4 tx_9 (by decide)), (rg_w (c := 0) (d := 60) hx_9 (by decide) (by decide)), hP, hD, hS, (lv_sub hl [1, 0, 2, 3] rfl)⟩

set_option maxHeartbeats 4000000 in
set_option maxRecDepth 100000 in
theorem s_fillJ_12 (l : Launch) (D : va_G) (t : Nat → ClassId) (a : Nat → Nat) (g12 : Nat → Int64) (p1 : Int64) (sz : Nat) : Met l yJ7_fill_d0a16 (wd yJ7_fill_d0a16 cJ7_fill_d0a16 5 none) (RM 0 0 0) (PreW D (TY t) [.ref (a 12), .long p1] [(a 12, .inl (t 2, 60, .inr (.inl g12)))] sz) (va_Qv (fun (_ : US) => True) (fun (u : US) t9 => va_P D classes ((fun u : US => [(a 12, .inl (t 2, 60, .inr (.inl (u.2.2.1 0))))]) u) t9.heap ∧ va_D (va_A [(a 12, .inl (t 2, 60, .inr (.inl g12)))] sz) ((fun u : US => [(a 12, .inl (t 2, 60, .inr (.inl (u.2.2.1 0))))]) u)) (va_A [(a 12, .inl (t 2, 60, .inr (.inl g12)))] sz)) 0 0 (va_A [(a 12, .inl (t 2, 60, .inr (.inl g12)))] sz) := by
  refine Met.ofW (cc := cJ7_fill_d0a16) (maxL := 5) (ret := none) (by decide) rfl ?_
  intro p e s m args below meth c s₁ B hml hv
  obtain ⟨rfl, hsz, hP, hK, hD0, hN⟩ := hv
  have hx := B.exec
  have hb := B.bytes
  have hr := B.returns
  have hts : ∀ w ∈ TB, w.before _ s = true := fun w h => atoms_spec (ws := wd yJ7_fill_d0a16 cJ7_fill_d0a16 5 none) B.pre w (List.mem_cons_of_mem _ h)
  have hown : s.vm.findClass RJ7 = some m.cls := findClass_of_methodNamed B.named
  have hlocks := B.notSynchronized
  have hF : CallFix p m c cJ7_fill_d0a16 5 s _ TB RJ7 := ⟨hx, hb, hml, hown, hts⟩
  have hl := lv_entry ([.ref (a 12), .long p1]) (n := 5) (Nat.le_of_ble_eq_true rfl)
  rw [lg_entry_eq]
  generalize (lg_sl ([.ref (a 12), .long p1]) ++ List.replicate (5 - (lg_sl ([.ref (a 12), .long p1])).length) Slot.unset).toArray = ls at hl ⊢
  have hl : lv_has ls 5 [(0, .ref (a 12)), (1, .long p1)] := hl
  subst hsz
  have hD := hD0.self (sz := s.heap.size)
  generalize hAe : va_A [(a 12, .inl (t 2, 60, .inr (.inl g12)))] s.heap.size = A at hD ⊢
  have hA : ∀ q : Nat, s.heap.size ≤ q → A q := fun q h => by rw [← hAe]; exact Or.inr h
  have hS : va_S A s.heap s.heap [] := va_S.rf
  have hP : va_P D classes [(a 12, .inl (t 2, 60, .inr (.inl g12)))] s.heap := hP
  refine lv_iconst (v := 0) hx hb dJ7_fill_d0a16_0 (by decide) ?_
  refine lv_istore_n (lv' := [(3, .int 0), (0, .ref (a 12)), (1, .long p1)]) hx hb dJ7_fill_d0a16_1 rfl hl (by decide) rfl (fun ls hl => ?_)
  refine lv_aload_n hx hb dJ7_fill_d0a16_2 rfl (lv_at hl 1 rfl) ?_
  refine va_alen (v := 60) hx hb hK hP 0 2 rfl rfl rfl dJ7_fill_d0a16_3 ?_
  refine lv_istore (lv' := [(4, .int 60), (3, .int 0), (0, .ref (a 12)), (1, .long p1)]) hx hb dJ7_fill_d0a16_4 hl (by decide) rfl (fun ls hl => ?_)
  refine loopW (α := US) (fun n y_1 H locs ls => 60 < (y_1.1 0).toInt + (n : Int) ∧ rg 0 60 (y_1.1 0) ∧ va_P D classes [(a 12, .inl (t 2, 60, .inr (.inl (y_1.2.2.1 0))))] H ∧ va_D A [(a 12, .inl (t 2, 60, .inr (.inl (y_1.2.2.1 0))))] ∧ va_S A s.heap H locs ∧ lv_has ls 5 [(4, .int 60), (3, .int (y_1.1 0)), (0, .ref (a 12)), (1, .long p1)]) 6 (fun y_1 => []) (fun _ _ _ _ h9 => m_0 h9.1 h9.2.1) (fun n ih_3 y_1 H locs ls hI => ?_) 61 (fun k => [0].getD k 0, fun k => [].getD k (fun _ => 0), fun k => [g12].getD k (fun _ => 0), fun k => [].getD k 0) ⟨(m_i (rg_c (x := 0) (k := 0) (by decide)) (by decide)), (rg_w (c := 0) (d := 60) (rg_c (x := 0) (k := 0) (by decide)) (by decide) (by decide)), hP, hD, hS, (lv_sub hl [0, 1, 2, 3] rfl)⟩
  obtain ⟨me_4, h_2, hP, hD, hS, hl⟩ := hI
  refine lv_iload_n hx hb dJ7_fill_d0a16_6 rfl (lv_at hl 1 rfl) ?_
  refine lv_iload hx hb dJ7_fill_d0a16_7 (lv_at hl 0 rfl) ?_
  refine lv_icmp_ge (tgt := 22) hx hb dJ7_fill_d0a16_9 (by decide) (fun c_5 => ?_) (fun c_5 => ?_)
  · skip
    have h_6 : rg 60 60 (y_1.1 0) := ⟨Int.le_trans (by decide) (c_leR c_5 (rg_c (x := 60) (k := 60) (by decide))), (h_2).2⟩
    have hP9 := hP.sub (ws' := [(a 12, .inl (t 2, 60, .inr (.inl (y_1.2.2.1 0))))]) [0] rfl
    have hD9 := hD.sub (ws' := [(a 12, .inl (t 2, 60, .inr (.inl (y_1.2.2.1 0))))]) [0] (by decide) rfl
    exact W.vret hx hb hr (fun t9 ht hW => ⟨⟨(fun k => [].getD k 0, fun k => [].getD k (fun _ => 0), fun k => [(y_1.2.2.1 0)].getD k (fun _ => 0), fun _ => 0), rfl, trivial, by rw [ht]; exact hP9, hD9⟩, hS.F ht⟩) hS.2.2 dJ7_fill_d0a16_22
  · skip
    have h_7 : rg 0 59 (y_1.1 0) := ⟨(h_2).1, Int.le_trans (c_nleR c_5 (rg_c (x := 60) (k := 60) (by decide))) (by decide)⟩
    refine lv_aload_n hx hb dJ7_fill_d0a16_12 rfl (lv_at hl 2 rfl) ?_
    refine lv_iload_n hx hb dJ7_fill_d0a16_13 rfl (lv_at hl 1 rfl) ?_
    refine lv_lload_n hx hb dJ7_fill_d0a16_14 rfl (lv_at hl 3 rfl) ?_
    refine x_last hx hb hK hP hD hS 0 2 rfl rfl (in_rg h_7 (by decide) (by decide)) dJ7_fill_d0a16_15 (fun g_8 H locs hP hD hS => ?_)
    have hP : va_P D classes [(a 12, .inl (t 2, 60, .inr (.inl g_8)))] H := hP
    have hD : va_D A [(a 12, .inl (t 2, 60, .inr (.inl g_8)))] := hD
    obtain ⟨x_9, ex_9⟩ : ∃ y9 : Int32, y9 = (y_1.1 0) + 1 := ⟨_, rfl⟩
    have hx_9 : rg 1 60 x_9 := by rw [ex_9]; exact rg_add h_7 (rg_c (x := 1) (k := 1) (by decide)) (by decide) (by decide) (by decide) (by decide)
    have tx_9 : x_9.toInt = (y_1.1 0).toInt + 1 := by rw [ex_9]; exact inc_tk h_7 (by decide) (by decide) (by decide)
    refine lv_iinc (v := x_9) (lv' := [(3, .int x_9), (4, .int 60), (0, .ref (a 12)), (1, .long p1)]) hx hb dJ7_fill_d0a16_16 hl (k := 1) rfl (by rw [ex_9]; rfl) (by decide) rfl (fun ls hl => ?_)
    refine lv_goto (tgt := 6) hx hb dJ7_fill_d0a16_19 (by decide) ?_
    exact ih_3 (fun k => [x_9].getD k 0, fun k => [].getD k (fun _ => 0), fun k => [g_8].getD k (fun _ => 0), fun k => [].getD k 0) _ _ ls ⟨(m_upk me_4 tx_9 (by decide)), (rg_w (c := 0) (d := 60) hx_9 (by decide) (by decide)), hP, hD, hS, (lv_sub hl [1, 0, 2, 3] rfl)⟩

set_option maxHeartbeats 4000000 in
set_option maxRecDepth 100000 in
theorem s_fillJ_13 (l : Launch) (D : va_G) (t : Nat → ClassId) (a : Nat → Nat) (g13 : Nat → Int64) (p1 : Int64) (sz : Nat) : Met l yJ7_fill_d0a16 (wd yJ7_fill_d0a16 cJ7_fill_d0a16 5 none) (RM 0 0 0) (PreW D (TY t) [.ref (a 13), .long p1] [(a 13, .inl (t 2, 60, .inr (.inl g13)))] sz) (va_Qv (fun (_ : US) => True) (fun (u : US) t9 => va_P D classes ((fun u : US => [(a 13, .inl (t 2, 60, .inr (.inl (u.2.2.1 0))))]) u) t9.heap ∧ va_D (va_A [(a 13, .inl (t 2, 60, .inr (.inl g13)))] sz) ((fun u : US => [(a 13, .inl (t 2, 60, .inr (.inl (u.2.2.1 0))))]) u)) (va_A [(a 13, .inl (t 2, 60, .inr (.inl g13)))] sz)) 0 0 (va_A [(a 13, .inl (t 2, 60, .inr (.inl g13)))] sz) := by
  refine Met.ofW (cc := cJ7_fill_d0a16) (maxL := 5) (ret := none) (by decide) rfl ?_
  intro p e s m args below meth c s₁ B hml hv
  obtain ⟨rfl, hsz, hP, hK, hD0, hN⟩ := hv
  have hx := B.exec
  have hb := B.bytes
  have hr := B.returns
  have hts : ∀ w ∈ TB, w.before _ s = true := fun w h => atoms_spec (ws := wd yJ7_fill_d0a16 cJ7_fill_d0a16 5 none) B.pre w (List.mem_cons_of_mem _ h)
  have hown : s.vm.findClass RJ7 = some m.cls := findClass_of_methodNamed B.named
  have hlocks := B.notSynchronized
  have hF : CallFix p m c cJ7_fill_d0a16 5 s _ TB RJ7 := ⟨hx, hb, hml, hown, hts⟩
  have hl := lv_entry ([.ref (a 13), .long p1]) (n := 5) (Nat.le_of_ble_eq_true rfl)
  rw [lg_entry_eq]
  generalize (lg_sl ([.ref (a 13), .long p1]) ++ List.replicate (5 - (lg_sl ([.ref (a 13), .long p1])).length) Slot.unset).toArray = ls at hl ⊢
  have hl : lv_has ls 5 [(0, .ref (a 13)), (1, .long p1)] := hl
  subst hsz
  have hD := hD0.self (sz := s.heap.size)
  generalize hAe : va_A [(a 13, .inl (t 2, 60, .inr (.inl g13)))] s.heap.size = A at hD ⊢
  have hA : ∀ q : Nat, s.heap.size ≤ q → A q := fun q h => by rw [← hAe]; exact Or.inr h
  have hS : va_S A s.heap s.heap [] := va_S.rf
  have hP : va_P D classes [(a 13, .inl (t 2, 60, .inr (.inl g13)))] s.heap := hP
  refine lv_iconst (v := 0) hx hb dJ7_fill_d0a16_0 (by decide) ?_
  refine lv_istore_n (lv' := [(3, .int 0), (0, .ref (a 13)), (1, .long p1)]) hx hb dJ7_fill_d0a16_1 rfl hl (by decide) rfl (fun ls hl => ?_)
  refine lv_aload_n hx hb dJ7_fill_d0a16_2 rfl (lv_at hl 1 rfl) ?_
  refine va_alen (v := 60) hx hb hK hP 0 2 rfl rfl rfl dJ7_fill_d0a16_3 ?_
  refine lv_istore (lv' := [(4, .int 60), (3, .int 0), (0, .ref (a 13)), (1, .long p1)]) hx hb dJ7_fill_d0a16_4 hl (by decide) rfl (fun ls hl => ?_)
  refine loopW (α := US) (fun n y_1 H locs ls => 60 < (y_1.1 0).toInt + (n : Int) ∧ rg 0 60 (y_1.1 0) ∧ va_P D classes [(a 13, .inl (t 2, 60, .inr (.inl (y_1.2.2.1 0))))] H ∧ va_D A [(a 13, .inl (t 2, 60, .inr (.inl (y_1.2.2.1 0))))] ∧ va_S A s.heap H locs ∧ lv_has ls 5 [(4, .int 60), (3, .int (y_1.1 0)), (0, .ref (a 13)), (1, .long p1)]) 6 (fun y_1 => []) (fun _ _ _ _ h9 => m_0 h9.1 h9.2.1) (fun n ih_3 y_1 H locs ls hI => ?_) 61 (fun k => [0].getD k 0, fun k => [].getD k (fun _ => 0), fun k => [g13].getD k (fun _ => 0), fun k => [].getD k 0) ⟨(m_i (rg_c (x := 0) (k := 0) (by decide)) (by decide)), (rg_w (c := 0) (d := 60) (rg_c (x := 0) (k := 0) (by decide)) (by decide) (by decide)), hP, hD, hS, (lv_sub hl [0, 1, 2, 3] rfl)⟩
  obtain ⟨me_4, h_2, hP, hD, hS, hl⟩ := hI
  refine lv_iload_n hx hb dJ7_fill_d0a16_6 rfl (lv_at hl 1 rfl) ?_
  refine lv_iload hx hb dJ7_fill_d0a16_7 (lv_at hl 0 rfl) ?_
  refine lv_icmp_ge (tgt := 22) hx hb dJ7_fill_d0a16_9 (by decide) (fun c_5 => ?_) (fun c_5 => ?_)
  · skip
    have h_6 : rg 60 60 (y_1.1 0) := ⟨Int.le_trans (by decide) (c_leR c_5 (rg_c (x := 60) (k := 60) (by decide))), (h_2).2⟩
    have hP9 := hP.sub (ws' := [(a 13, .inl (t 2, 60, .inr (.inl (y_1.2.2.1 0))))]) [0] rfl
    have hD9 := hD.sub (ws' := [(a 13, .inl (t 2, 60, .inr (.inl (y_1.2.2.1 0))))]) [0] (by decide) rfl
    exact W.vret hx hb hr (fun t9 ht hW => ⟨⟨(fun k => [].getD k 0, fun k => [].getD k (fun _ => 0), fun k => [(y_1.2.2.1 0)].getD k (fun _ => 0), fun _ => 0), rfl, trivial, by rw [ht]; exact hP9, hD9⟩, hS.F ht⟩) hS.2.2 dJ7_fill_d0a16_22
  · skip
    have h_7 : rg 0 59 (y_1.1 0) := ⟨(h_2).1, Int.le_trans (c_nleR c_5 (rg_c (x := 60) (k := 60) (by decide))) (by decide)⟩
    refine lv_aload_n hx hb dJ7_fill_d0a16_12 rfl (lv_at hl 2 rfl) ?_
    refine lv_iload_n hx hb dJ7_fill_d0a16_13 rfl (lv_at hl 1 rfl) ?_
    refine lv_lload_n hx hb dJ7_fill_d0a16_14 rfl (lv_at hl 3 rfl) ?_
    refine x_last hx hb hK hP hD hS 0 2 rfl rfl (in_rg h_7 (by decide) (by decide)) dJ7_fill_d0a16_15 (fun g_8 H locs hP hD hS => ?_)
    have hP : va_P D classes [(a 13, .inl (t 2, 60, .inr (.inl g_8)))] H := hP
    have hD : va_D A [(a 13, .inl (t 2, 60, .inr (.inl g_8)))] := hD
    obtain ⟨x_9, ex_9⟩ : ∃ y9 : Int32, y9 = (y_1.1 0) + 1 := ⟨_, rfl⟩
    have hx_9 : rg 1 60 x_9 := by rw [ex_9]; exact rg_add h_7 (rg_c (x := 1) (k := 1) (by decide)) (by decide) (by decide) (by decide) (by decide)
    have tx_9 : x_9.toInt = (y_1.1 0).toInt + 1 := by rw [ex_9]; exact inc_tk h_7 (by decide) (by decide) (by decide)
    refine lv_iinc (v := x_9) (lv' := [(3, .int x_9), (4, .int 60), (0, .ref (a 13)), (1, .long p1)]) hx hb dJ7_fill_d0a16_16 hl (k := 1) rfl (by rw [ex_9]; rfl) (by decide) rfl (fun ls hl => ?_)
    refine lv_goto (tgt := 6) hx hb dJ7_fill_d0a16_19 (by decide) ?_
    exact ih_3 (fun k => [x_9].getD k 0, fun k => [].getD k (fun _ => 0), fun k => [g_8].getD k (fun _ => 0), fun k => [].getD k 0) _ _ ls ⟨(m_upk me_4 tx_9 (by decide)), (rg_w (c := 0) (d := 60) hx_9 (by decide) (by decide)), hP, hD, hS, (lv_sub hl [1, 0, 2, 3] rfl)⟩

set_option maxHeartbeats 4000000 in
set_option maxRecDepth 100000 in
theorem s_X11_holdsV (l : Launch) (D : va_G) (t : Nat → ClassId) (a : Nat → Nat) (p0 : Int32) (p1 : Int32) : Met l yX11_holds (wd yX11_holds cX11_holds 2 (some .boolean)) (RM 0 0 0) (PreP D (TY t) [.int p0, .int p1] []) (QP (fun r => rg 0 1 r ∧ (r = bt p0 p1))) 0 0 NoF := by
  refine Met.ofW (cc := cX11_holds) (maxL := 2) (ret := (some .boolean)) (by decide) rfl ?_
  intro p e s m args below meth c s₁ B hml hv
  obtain ⟨rfl, hP, hK, hN⟩ := hv
  have hx := B.exec
  have hb := B.bytes
  have hr := B.returns
  have hts : ∀ w ∈ TB, w.before _ s = true := fun w h => atoms_spec (ws := wd yX11_holds cX11_holds 2 (some .boolean)) B.pre w (List.mem_cons_of_mem _ h)
  have hown : s.vm.findClass RX11 = some m.cls := findClass_of_methodNamed B.named
  have hlocks := B.notSynchronized
  have hF : CallFix p m c cX11_holds 2 s _ TB RX11 := ⟨hx, hb, hml, hown, hts⟩
  have hl := lv_entry ([.int p0, .int p1]) (n := 2) (Nat.le_of_ble_eq_true rfl)
  rw [lg_entry_eq]
  generalize (lg_sl ([.int p0, .int p1]) ++ List.replicate (2 - (lg_sl ([.int p0, .int p1])).length) Slot.unset).toArray = ls at hl ⊢
  have hl : lv_has ls 2 [(0, .int p0), (1, .int p1)] := hl
  have hS : va_S NoF s.heap s.heap [] := va_S.rf
  have hP : va_P D classes [] s.heap := hP
  refine lv_iload_n hx hb dX11_holds_0 rfl (lv_at hl 0 rfl) ?_
  refine lv_iload_n hx hb dX11_holds_1 rfl (lv_at hl 1 rfl) ?_
  refine lv_ishr hx hb dX11_holds_2 ?_
  refine lv_topi (fun x_1 ex_1 => ?_)
  refine lv_iconst (v := 1) hx hb dX11_holds_3 (by decide) ?_
  refine lv_iand hx hb dX11_holds_4 ?_
  refine lv_topi (fun x_2 ex_2 => ?_)
  have hx_2 : rg 0 1 x_2 := by rw [ex_2]; exact rg_and (rg_w (c := 0) (d := 1) (rg_c (x := 1) (k := 1) (by decide)) (by decide) (by decide))
  refine lv_iconst (v := 1) hx hb dX11_holds_5 (by decide) ?_
  refine lv_icmp_ne (tgt := 13) hx hb dX11_holds_6 (by decide) (fun c_3 => ?_) (fun c_3 => ?_)
  · skip
    have h_4 : rg 0 0 x_2 := rg_w (rg_neR hx_2 c_3 (by decide)) (by decide) (by decide)
    refine lv_iconst (v := 0) hx hb dX11_holds_13 (by decide) ?_
    exact W.zret (v := 0) hx hb hr rfl (fun t9 ht hW => ⟨⟨0, (), rfl, ⟨(rg_w (c := 0) (d := 1) (rg_c (x := 0) (k := 0) (by decide)) (by decide) (by decide)), (hold_0 ex_1 ex_2 c_3)⟩, trivial⟩, hS.F ht⟩) hS.2.2 dX11_holds_14
  · skip
    have h_5 : rg 1 1 x_2 := rg_eq c_3 (rg_c (x := 1) (k := 1) (by decide))
    refine lv_iconst (v := 1) hx hb dX11_holds_9 (by decide) ?_
    refine lv_goto (tgt := 14) hx hb dX11_holds_10 (by decide) ?_
    exact W.zret (v := 1) hx hb hr rfl (fun t9 ht hW => ⟨⟨1, (), rfl, ⟨(rg_w (c := 0) (d := 1) (rg_c (x := 1) (k := 1) (by decide)) (by decide) (by decide)), (hold_1 ex_1 ex_2 (by first | exact c_3 | exact Classical.not_not.mp c_3))⟩, trivial⟩, hS.F ht⟩) hS.2.2 dX11_holds_14

set_option maxHeartbeats 4000000 in
set_option maxRecDepth 100000 in
theorem s_J6_bitCountV (l : Launch) (D : va_G) (t : Nat → ClassId) (a : Nat → Nat) (p0 : Int32) : Met l yJ6_bitCount_0f7a4 (wd yJ6_bitCount_0f7a4 cJ6_bitCount_0f7a4 1 (some .int)) (RM 0 0 0) (PreP D (TY t) [.int p0] []) (QP (fun r => rg 0 63 r ∧ (r = bcq p0))) 0 0 NoF := by
  refine Met.ofW (cc := cJ6_bitCount_0f7a4) (maxL := 1) (ret := (some .int)) (by decide) rfl ?_
  intro p e s m args below meth c s₁ B hml hv
  obtain ⟨rfl, hP, hK, hN⟩ := hv
  have hx := B.exec
  have hb := B.bytes
  have hr := B.returns
  have hts : ∀ w ∈ TB, w.before _ s = true := fun w h => atoms_spec (ws := wd yJ6_bitCount_0f7a4 cJ6_bitCount_0f7a4 1 (some .int)) B.pre w (List.mem_cons_of_mem _ h)
  have hown : s.vm.findClass RJ6 = some m.cls := findClass_of_methodNamed B.named
  have hlocks := B.notSynchronized
  have hF : CallFix p m c cJ6_bitCount_0f7a4 1 s _ TB RJ6 := ⟨hx, hb, hml, hown, hts⟩
  have hl := lv_entry ([.int p0]) (n := 1) (Nat.le_of_ble_eq_true rfl)
  rw [lg_entry_eq]
  generalize (lg_sl ([.int p0]) ++ List.replicate (1 - (lg_sl ([.int p0])).length) Slot.unset).toArray = ls at hl ⊢
  have hl : lv_has ls 1 [(0, .int p0)] := hl
  have hS : va_S NoF s.heap s.heap [] := va_S.rf
  have hP : va_P D classes [] s.heap := hP
  refine lv_iload_n hx hb dJ6_bitCount_0f7a4_0 rfl (lv_at hl 0 rfl) ?_
  refine lv_iload_n hx hb dJ6_bitCount_0f7a4_1 rfl (lv_at hl 0 rfl) ?_
  refine lv_iconst (v := 1) hx hb dJ6_bitCount_0f7a4_2 (by decide) ?_
  refine lv_iushr hx hb dJ6_bitCount_0f7a4_3 rfl ?_
  refine lv_topi (fun x_1 ex_1 => ?_)
  refine lv_ldcw (v := 1431655765) hx hb hown (hts _ m_755) dJ6_bitCount_0f7a4_4 ?_
  refine lv_iand hx hb dJ6_bitCount_0f7a4_7 ?_
  refine lv_topi (fun x_2 ex_2 => ?_)
  have hx_2 : rg 0 1431655765 x_2 := by rw [ex_2]; exact rg_and (rg_w (c := 0) (d := 1431655765) (rg_c (x := 1431655765) (k := 1431655765) (by decide)) (by decide) (by decide))
  refine lv_isub hx hb dJ6_bitCount_0f7a4_8 ?_
  refine lv_topi (fun x_3 ex_3 => ?_)
  refine lv_istore_n (lv' := [(0, .int x_3)]) hx hb dJ6_bitCount_0f7a4_9 rfl hl (by decide) rfl (fun ls hl => ?_)
  refine lv_iload_n hx hb dJ6_bitCount_0f7a4_10 rfl (lv_at hl 0 rfl) ?_
  refine lv_ldcw (v := 858993459) hx hb hown (hts _ m_756) dJ6_bitCount_0f7a4_11 ?_
  refine lv_iand hx hb dJ6_bitCount_0f7a4_14 ?_
  refine lv_topi (fun x_4 ex_4 => ?_)
  have hx_4 : rg 0 858993459 x_4 := by rw [ex_4]; exact rg_and (rg_w (c := 0) (d := 858993459) (rg_c (x := 858993459) (k := 858993459) (by decide)) (by decide) (by decide))
  refine lv_iload_n hx hb dJ6_bitCount_0f7a4_15 rfl (lv_at hl 0 rfl) ?_
  refine lv_iconst (v := 2) hx hb dJ6_bitCount_0f7a4_16 (by decide) ?_
  refine lv_iushr hx hb dJ6_bitCount_0f7a4_17 rfl ?_
  refine lv_topi (fun x_5 ex_5 => ?_)
  refine lv_ldcw (v := 858993459) hx hb hown (hts _ m_756) dJ6_bitCount_0f7a4_18 ?_
  refine lv_iand hx hb dJ6_bitCount_0f7a4_21 ?_
  refine lv_topi (fun x_6 ex_6 => ?_)
  have hx_6 : rg 0 858993459 x_6 := by rw [ex_6]; exact rg_and (rg_w (c := 0) (d := 858993459) (rg_c (x := 858993459) (k := 858993459) (by decide)) (by decide) (by decide))
  refine lv_iadd hx hb dJ6_bitCount_0f7a4_22 ?_
  refine lv_topi (fun x_7 ex_7 => ?_)
  have hx_7 : rg 0 1717986918 x_7 := by rw [ex_7]; exact rg_add hx_4 hx_6 (by decide) (by decide) (by decide) (by decide)
  refine lv_istore_n (lv' := [(0, .int x_7)]) hx hb dJ6_bitCount_0f7a4_23 rfl hl (by decide) rfl (fun ls hl => ?_)
  refine lv_iload_n hx hb dJ6_bitCount_0f7a4_24 rfl (lv_at hl 0 rfl) ?_
  refine lv_iload_n hx hb dJ6_bitCount_0f7a4_25 rfl (lv_at hl 0 rfl) ?_
  refine lv_iconst (v := 4) hx hb dJ6_bitCount_0f7a4_26 (by decide) ?_
  refine lv_iushr hx hb dJ6_bitCount_0f7a4_27 rfl ?_
  refine lv_topi (fun x_8 ex_8 => ?_)
  refine lv_iadd hx hb dJ6_bitCount_0f7a4_28 ?_
  refine lv_topi (fun x_9 ex_9 => ?_)
  refine lv_ldcw (v := 252645135) hx hb hown (hts _ m_757) dJ6_bitCount_0f7a4_29 ?_
  refine lv_iand hx hb dJ6_bitCount_0f7a4_32 ?_
  refine lv_topi (fun x_10 ex_10 => ?_)
  have hx_10 : rg 0 252645135 x_10 := by rw [ex_10]; exact rg_and (rg_w (c := 0) (d := 252645135) (rg_c (x := 252645135) (k := 252645135) (by decide)) (by decide) (by decide))
  refine lv_istore_n (lv' := [(0, .int x_10)]) hx hb dJ6_bitCount_0f7a4_33 rfl hl (by decide) rfl (fun ls hl => ?_)
  refine lv_iload_n hx hb dJ6_bitCount_0f7a4_34 rfl (lv_at hl 0 rfl) ?_
  refine lv_iload_n hx hb dJ6_bitCount_0f7a4_35 rfl (lv_at hl 0 rfl) ?_
  refine lv_bipush (v := 8) hx hb dJ6_bitCount_0f7a4_36 (by decide) ?_
  refine lv_iushr hx hb dJ6_bitCount_0f7a4_38 rfl ?_
  refine lv_topi (fun x_11 ex_11 => ?_)
  refine lv_iadd hx hb dJ6_bitCount_0f7a4_39 ?_
  refine lv_topi (fun x_12 ex_12 => ?_)
  refine lv_istore_n (lv' := [(0, .int x_12)]) hx hb dJ6_bitCount_0f7a4_40 rfl hl (by decide) rfl (fun ls hl => ?_)
  refine lv_iload_n hx hb dJ6_bitCount_0f7a4_41 rfl (lv_at hl 0 rfl) ?_
  refine lv_iload_n hx hb dJ6_bitCount_0f7a4_42 rfl (lv_at hl 0 rfl) ?_
  refine lv_bipush (v := 16) hx hb dJ6_bitCount_0f7a4_43 (by decide) ?_
  refine lv_iushr hx hb dJ6_bitCount_0f7a4_45 rfl ?_
  refine lv_topi (fun x_13 ex_13 => ?_)
  refine lv_iadd hx hb dJ6_bitCount_0f7a4_46 ?_
  refine lv_topi (fun x_14 ex_14 => ?_)
  refine lv_istore_n (lv' := [(0, .int x_14)]) hx hb dJ6_bitCount_0f7a4_47 rfl hl (by decide) rfl (fun ls hl => ?_)
  refine lv_iload_n hx hb dJ6_bitCount_0f7a4_48 rfl (lv_at hl 0 rfl) ?_
  refine lv_bipush (v := 63) hx hb dJ6_bitCount_0f7a4_49 (by decide) ?_
  refine lv_iand hx hb dJ6_bitCount_0f7a4_51 ?_
  refine lv_topi (fun x_15 ex_15 => ?_)
  have hx_15 : rg 0 63 x_15 := by rw [ex_15]; exact rg_and (rg_w (c := 0) (d := 63) (rg_c (x := 63) (k := 63) (by decide)) (by decide) (by decide))
  exact W.iret (v := x_15) hx hb hr (fun t9 ht hW => ⟨⟨x_15, (), rfl, ⟨hx_15, (by subst_vars; rfl)⟩, trivial⟩, hS.F ht⟩) hS.2.2 dJ6_bitCount_0f7a4_52

set_option maxHeartbeats 4000000 in
set_option maxRecDepth 100000 in
theorem s_X0_wordsInV (l : Launch) (D : va_G) (t : Nat → ClassId) (a : Nat → Nat) (v40_0 : Int32) (v40_1 : Int32) (v40_2 : Int32) (v40_3 : Int32) (v40_4 : Int32) (v40_5 : Int32) (v40_6 : Int32) (v40_7 : Int32) (f43 : Nat → Int32) (p0 : Int32) (r40_1 : rg 0 8 v40_1) (r40_5 : rg 0 4 v40_5) (r40_6 : rg 0 9 v40_6) (r40_7 : rg 0 9 v40_7) (q43 : ∀ j, j < 9 → rg 0 3 (f43 j)) : Met l yX0_wordsIn (wd yX0_wordsIn cX0_wordsIn 4 (some .int)) (RM 0 0 0) (PreP D (TY t) [.ref (a 40), .int p0] [(a 40, .inr (0, [.int v40_0, .int v40_1, .int v40_2, .int v40_3, .int v40_4, .int v40_5, .int v40_6, .int v40_7, .ref (a 41), .ref (a 42), .ref (a 43), .ref (a 44), .ref (a 45), .ref (a 46), .ref (a 47), .ref (a 48), .ref (a 49), .ref (a 50), .ref (a 54)])), (a 43, .inl (t 0, 9, .inl f43))]) (QP (fun r => rg 0 511 r ∧ (lo9 v40_6 r))) 0 0 NoF := by
  refine Met.ofW (cc := cX0_wordsIn) (maxL := 4) (ret := (some .int)) (by decide) rfl ?_
  intro p e s m args below meth c s₁ B hml hv
  obtain ⟨rfl, hP, hK, hN⟩ := hv
  have hx := B.exec
  have hb := B.bytes
  have hr := B.returns
  have hts : ∀ w ∈ TB, w.before _ s = true := fun w h => atoms_spec (ws := wd yX0_wordsIn cX0_wordsIn 4 (some .int)) B.pre w (List.mem_cons_of_mem _ h)
  have hown : s.vm.findClass RX0 = some m.cls := findClass_of_methodNamed B.named
  have hlocks := B.notSynchronized
  have hF : CallFix p m c cX0_wordsIn 4 s _ TB RX0 := ⟨hx, hb, hml, hown, hts⟩
  have hl := lv_entry ([.ref (a 40), .int p0]) (n := 4) (Nat.le_of_ble_eq_true rfl)
  rw [lg_entry_eq]
  generalize (lg_sl ([.ref (a 40), .int p0]) ++ List.replicate (4 - (lg_sl ([.ref (a 40), .int p0])).length) Slot.unset).toArray = ls at hl ⊢
  have hl : lv_has ls 4 [(0, .ref (a 40)), (1, .int p0)] := hl
  have hS : va_S NoF s.heap s.heap [] := va_S.rf
  have hP : va_P D classes [(a 40, .inr (0, [.int v40_0, .int v40_1, .int v40_2, .int v40_3, .int v40_4, .int v40_5, .int v40_6, .int v40_7, .ref (a 41), .ref (a 42), .ref (a 43), .ref (a 44), .ref (a 45), .ref (a 46), .ref (a 47), .ref (a 48), .ref (a 49), .ref (a 50), .ref (a 54)])), (a 43, .inl (t 0, 9, .inl f43))] s.heap := hP
  refine lv_iconst (v := 0) hx hb dX0_wordsIn_0 (by decide) ?_
  refine lv_istore_n (lv' := [(2, .int 0), (0, .ref (a 40)), (1, .int p0)]) hx hb dX0_wordsIn_1 rfl hl (by decide) rfl (fun ls hl => ?_)
  refine lv_iconst (v := 0) hx hb dX0_wordsIn_2 (by decide) ?_
  refine lv_istore_n (lv' := [(3, .int 0), (2, .int 0), (0, .ref (a 40)), (1, .int p0)]) hx hb dX0_wordsIn_3 rfl hl (by decide) rfl (fun ls hl => ?_)
  refine loopW (α := US) (fun n y_1 H locs ls => 9 < (y_1.1 0).toInt + (n : Int) ∧ rg 0 9 (y_1.1 0) ∧ rg 0 511 (y_1.1 1) ∧ (lo9 (y_1.1 0) (y_1.1 1)) ∧ ((y_1.1 0).toInt ≤ v40_6.toInt) ∧ va_P D classes [(a 40, .inr (0, [.int v40_0, .int v40_1, .int v40_2, .int v40_3, .int v40_4, .int v40_5, .int v40_6, .int v40_7, .ref (a 41), .ref (a 42), .ref (a 43), .ref (a 44), .ref (a 45), .ref (a 46), .ref (a 47), .ref (a 48), .ref (a 49), .ref (a 50), .ref (a 54)])), (a 43, .inl (t 0, 9, .inl f43))] H ∧ va_S NoF s.heap H locs ∧ lv_has ls 4 [(3, .int (y_1.1 0)), (2, .int (y_1.1 1)), (0, .ref (a 40)), (1, .int p0)]) 4 (fun y_1 => []) (fun _ _ _ _ h9 => m_0 h9.1 h9.2.1) (fun n ih_6 y_1 H locs ls hI => ?_) 10 (fun k => [0, 0].getD k 0, fun k => [].getD k (fun _ => 0), fun k => [].getD k (fun _ => 0), fun k => [].getD k 0) ⟨(m_i (rg_c (x := 0) (k := 0) (by decide)) (by decide)), (rg_w (c := 0) (d := 9) (rg_c (x := 0) (k := 0) (by decide)) (by decide) (by decide)), (rg_w (c := 0) (d := 511) (rg_c (x := 0) (k := 0) (by decide)) (by decide) (by decide)), (show lo9 (0 : Int32) (0 : Int32) from lo_z), (show (0 : Int32).toInt ≤ v40_6.toInt from (by have z0 := zt0; have zq := r40_6.1; omega)), hP, hS, (lv_sub hl [0, 1, 2, 3] rfl)⟩
  obtain ⟨me_7, h_2, h_3, i_4, i_5, hP, hS, hl⟩ := hI
  refine lv_iload_n hx hb dX0_wordsIn_4 rfl (lv_at hl 0 rfl) ?_
  refine lv_aload_n hx hb dX0_wordsIn_5 rfl (lv_at hl 2 rfl) ?_
  refine va_get (D := D) (ci := 0) (v := .int v40_6) (C := RX0) (T := TX0) (N := 19) hx hb hts iX0 hown hK hP 0 rfl rfl 6 (by decide) (hts _ m_142) (fun _ h9 => h9) rfl dX0_wordsIn_6 ?_
  refine lv_icmp_ge (tgt := 34) hx hb dX0_wordsIn_9 (by decide) (fun c_8 => ?_) (fun c_8 => ?_)
  · skip
    have tc_8 := t_le c_8
    refine lv_iload_n hx hb dX0_wordsIn_34 rfl (lv_at hl 1 rfl) ?_
    exact W.iret (v := (y_1.1 1)) hx hb hr (fun t9 ht hW => ⟨⟨(y_1.1 1), (), rfl, ⟨h_3, (lo_eq i_4 (by omega))⟩, trivial⟩, hS.F ht⟩) hS.2.2 dX0_wordsIn_35
  · skip
    have tc_8 := t_nle c_8
    have h_9 : rg 0 8 (y_1.1 0) := ⟨(h_2).1, Int.le_trans (c_nleR c_8 r40_6) (by decide)⟩
    have h_10 : rg 1 9 v40_6 := ⟨Int.le_trans (by decide) (c_nle c_8 h_2), (r40_6).2⟩
    refine lv_aload_n hx hb dX0_wordsIn_12 rfl (lv_at hl 2 rfl) ?_
    refine va_get (D := D) (ci := 0) (v := .ref (a 43)) (C := RX0) (T := TX0) (N := 19) hx hb hts iX0 hown hK hP 0 rfl rfl 10 (by decide) (hts _ m_160) (fun _ h9 => h9) rfl dX0_wordsIn_13 ?_
    refine lv_iload_n hx hb dX0_wordsIn_16 rfl (lv_at hl 0 rfl) ?_
    refine va_iald hx hb hK hP 1 0 rfl rfl (in_rg h_9 (by decide) (by decide)) dX0_wordsIn_17 ?_
    refine lv_topi (fun x_11 ex_11 => ?_)
    have hx_11 : rg 0 3 x_11 := by rw [ex_11]; exact q43 _ (cl_rg h_9 (by decide) (by decide))
    refine lv_iload_n hx hb dX0_wordsIn_18 rfl (lv_at hl 3 rfl) ?_
    refine lv_icmp_ne (tgt := 28) hx hb dX0_wordsIn_19 (by decide) (fun c_12 => ?_) (fun c_12 => ?_)
    · skip
      have tc_12 : ¬ (x_11 : Int32).toInt = (p0 : Int32).toInt := fun z9 => c_12 (Int32.toInt_inj.mp z9)
      obtain ⟨x_13, ex_13⟩ : ∃ y9 : Int32, y9 = (y_1.1 0) + 1 := ⟨_, rfl⟩
      have hx_13 : rg 1 9 x_13 := by rw [ex_13]; exact rg_add h_9 (rg_c (x := 1) (k := 1) (by decide)) (by decide) (by decide) (by decide) (by decide)
      have tx_13 : x_13.toInt = (y_1.1 0).toInt + 1 := by rw [ex_13]; exact inc_tk h_9 (by decide) (by decide) (by decide)
      refine lv_iinc (v := x_13) (lv' := [(3, .int x_13), (2, .int (y_1.1 1)), (0, .ref (a 40)), (1, .int p0)]) hx hb dX0_wordsIn_28 hl (k := 0) rfl (by rw [ex_13]; rfl) (by decide) rfl (fun ls hl => ?_)
      refine lv_goto (tgt := 4) hx hb dX0_wordsIn_31 (by decide) ?_
      exact ih_6 (fun k => [x_13, (y_1.1 1)].getD k 0, fun k => [].getD k (fun _ => 0), fun k => [].getD k (fun _ => 0), fun k => [].getD k 0) _ _ ls ⟨(m_upk me_7 tx_13 (by decide)), (rg_w (c := 0) (d := 9) hx_13 (by decide) (by decide)), h_3, (show lo9 x_13 (y_1.1 1) from (lo_mono h_9 i_4 tx_13)), (show x_13.toInt ≤ v40_6.toInt from (by have z0 := zt0; have zq := r40_6.1; omega)), hP, hS, (lv_sub hl [0, 1, 2, 3] rfl)⟩
    · skip
      have tc_12 : (x_11 : Int32).toInt = (p0 : Int32).toInt := congrArg Int32.toInt (by first | exact c_12 | exact Classical.not_not.mp c_12)
      refine lv_iload_n hx hb dX0_wordsIn_22 rfl (lv_at hl 1 rfl) ?_
      refine lv_iconst (v := 1) hx hb dX0_wordsIn_23 (by decide) ?_
      refine lv_iload_n hx hb dX0_wordsIn_24 rfl (lv_at hl 0 rfl) ?_
      refine lv_ishl hx hb dX0_wordsIn_25 ?_
      refine lv_topi (fun x_14 ex_14 => ?_)
      have hx_14 : rg 1 256 x_14 := by rw [ex_14]; exact rg_shl1 (b := 8) h_9 (by decide) (by decide)
      refine lv_ior hx hb dX0_wordsIn_26 ?_
      refine lv_topi (fun x_15 ex_15 => ?_)
      have hx_15 : rg 0 511 x_15 := by rw [ex_15]; exact rg_or (m := 9) h_3 (rg_w (c := 0) (d := 511) hx_14 (by decide) (by decide)) (by decide) (by decide)
      refine lv_istore_n (lv' := [(2, .int x_15), (3, .int (y_1.1 0)), (0, .ref (a 40)), (1, .int p0)]) hx hb dX0_wordsIn_27 rfl hl (by decide) rfl (fun ls hl => ?_)
      obtain ⟨x_16, ex_16⟩ : ∃ y9 : Int32, y9 = (y_1.1 0) + 1 := ⟨_, rfl⟩
      have hx_16 : rg 1 9 x_16 := by rw [ex_16]; exact rg_add h_9 (rg_c (x := 1) (k := 1) (by decide)) (by decide) (by decide) (by decide) (by decide)
      have tx_16 : x_16.toInt = (y_1.1 0).toInt + 1 := by rw [ex_16]; exact inc_tk h_9 (by decide) (by decide) (by decide)
      refine lv_iinc (v := x_16) (lv' := [(3, .int x_16), (2, .int x_15), (0, .ref (a 40)), (1, .int p0)]) hx hb dX0_wordsIn_28 hl (k := 1) rfl (by rw [ex_16]; rfl) (by decide) rfl (fun ls hl => ?_)
      refine lv_goto (tgt := 4) hx hb dX0_wordsIn_31 (by decide) ?_
      exact ih_6 (fun k => [x_16, x_15].getD k 0, fun k => [].getD k (fun _ => 0), fun k => [].getD k (fun _ => 0), fun k => [].getD k 0) _ _ ls ⟨(m_upk me_7 tx_16 (by decide)), (rg_w (c := 0) (d := 9) hx_16 (by decide) (by decide)), hx_15, (show lo9 x_16 x_15 from (lo_or1 h_9 i_4 tx_16 ex_14 ex_15)), (show x_16.toInt ≤ v40_6.toInt from (by have z0 := zt0; have zq := r40_6.1; omega)), hP, hS, (lv_sub hl [0, 1, 2, 3] rfl)⟩

set_option maxHeartbeats 4000000 in
set_option maxRecDepth 100000 in
theorem s_X0_standingInV (l : Launch) (D : va_G) (t : Nat → ClassId) (a : Nat → Nat) (v40_0 : Int32) (v40_1 : Int32) (v40_2 : Int32) (v40_3 : Int32) (v40_4 : Int32) (v40_5 : Int32) (v40_6 : Int32) (v40_7 : Int32) (f43 : Nat → Int32) (v54_0 : Int32) (v54_1 : Int32) (v54_2 : Int32) (p0 : Int32) (r40_1 : rg 0 8 v40_1) (r40_5 : rg 0 4 v40_5) (r40_6 : rg 0 9 v40_6) (r40_7 : rg 0 9 v40_7) (q43 : ∀ j, j < 9 → rg 0 3 (f43 j)) (r54_0 : rg 0 60 v54_0) : Met l yX0_standingIn (wd yX0_standingIn cX0_standingIn 2 (some .int)) (RM 1 0 0) (PreP D (TY t) [.ref (a 40), .int p0] [(a 40, .inr (0, [.int v40_0, .int v40_1, .int v40_2, .int v40_3, .int v40_4, .int v40_5, .int v40_6, .int v40_7, .ref (a 41), .ref (a 42), .ref (a 43), .ref (a 44), .ref (a 45), .ref (a 46), .ref (a 47), .ref (a 48), .ref (a 49), .ref (a 50), .ref (a 54)])), (a 43, .inl (t 0, 9, .inl f43)), (a 54, .inr (9, [.int v54_0, .int v54_1, .int v54_2, .ref (a 55), .ref (a 56), .ref (a 57), .ref (a 58)]))]) (QP (fun r => rg 0 511 r ∧ (lo9 v40_6 r))) 0 0 NoF := by
  refine Met.ofW (cc := cX0_standingIn) (maxL := 2) (ret := (some .int)) (by decide) rfl ?_
  intro p e s m args below meth c s₁ B hml hv
  obtain ⟨rfl, hP, hK, hN⟩ := hv
  have hx := B.exec
  have hb := B.bytes
  have hr := B.returns
  have hts : ∀ w ∈ TB, w.before _ s = true := fun w h => atoms_spec (ws := wd yX0_standingIn cX0_standingIn 2 (some .int)) B.pre w (List.mem_cons_of_mem _ h)
  have hown : s.vm.findClass RX0 = some m.cls := findClass_of_methodNamed B.named
  have hlocks := B.notSynchronized
  have hF : CallFix p m c cX0_standingIn 2 s _ TB RX0 := ⟨hx, hb, hml, hown, hts⟩
  have hl := lv_entry ([.ref (a 40), .int p0]) (n := 2) (Nat.le_of_ble_eq_true rfl)
  rw [lg_entry_eq]
  generalize (lg_sl ([.ref (a 40), .int p0]) ++ List.replicate (2 - (lg_sl ([.ref (a 40), .int p0])).length) Slot.unset).toArray = ls at hl ⊢
  have hl : lv_has ls 2 [(0, .ref (a 40)), (1, .int p0)] := hl
  have hS : va_S NoF s.heap s.heap [] := va_S.rf
  have hP : va_P D classes [(a 40, .inr (0, [.int v40_0, .int v40_1, .int v40_2, .int v40_3, .int v40_4, .int v40_5, .int v40_6, .int v40_7, .ref (a 41), .ref (a 42), .ref (a 43), .ref (a 44), .ref (a 45), .ref (a 46), .ref (a 47), .ref (a 48), .ref (a 49), .ref (a 50), .ref (a 54)])), (a 43, .inl (t 0, 9, .inl f43)), (a 54, .inr (9, [.int v54_0, .int v54_1, .int v54_2, .ref (a 55), .ref (a 56), .ref (a 57), .ref (a 58)]))] s.heap := hP
  refine lv_aload_n hx hb dX0_standingIn_0 rfl (lv_at hl 0 rfl) ?_
  refine lv_iload_n hx hb dX0_standingIn_1 rfl (lv_at hl 1 rfl) ?_
  refine y_pV hF (s_X0_wordsInV l D t a v40_0 v40_1 v40_2 v40_3 v40_4 v40_5 v40_6 v40_7 f43 p0 r40_1 r40_5 r40_6 r40_7 q43) m_729 m_730 m_731 m_3 m_732 hd_X0_wordsIn ⟨Nat.le_of_ble_eq_true rfl, Nat.le_of_ble_eq_true rfl⟩ hK hN hP hS [0, 1] rfl 0 (ci := 0) rfl rfl rfl hl.1 rfl (Nat.le_of_ble_eq_true rfl) dX0_standingIn_2 ⟨Nat.zero_le _, Nat.zero_le _⟩ (fun r_1 H locs hr_1 hP hS => ?_)
  have or_1 := hr_1.2
  refine lv_aload_n hx hb dX0_standingIn_5 rfl (lv_at hl 0 rfl) ?_
  refine va_get (D := D) (ci := 0) (v := .ref (a 54)) (C := RX0) (T := TX0) (N := 19) hx hb hts iX0 hown hK hP 0 rfl rfl 18 (by decide) (hts _ m_189) (fun _ h9 => h9) rfl dX0_standingIn_6 ?_
  refine va_getN (D := D) (ci := 9) (v := .int v54_2) (C := RX9) (T := TX9) (N := 7) (host := "WordSeats") hx hb hts iX9 hown hK hP 2 rfl rfl 2 (by decide) (va_Nw.use rfl (hN _ n_94)) (fun _ h9 => h9) rfl dX0_standingIn_9 ?_
  refine lv_iconst (v := (-1)) hx hb dX0_standingIn_12 (by decide) ?_
  refine lv_ixor hx hb dX0_standingIn_13 ?_
  refine lv_topi (fun x_2 ex_2 => ?_)
  refine lv_iand hx hb dX0_standingIn_14 ?_
  refine lv_topi (fun x_3 ex_3 => ?_)
  have hx_3 : rg 0 511 x_3 := by rw [ex_3]; exact rg_andL hr_1.1
  exact W.iret (v := x_3) hx hb hr (fun t9 ht hW => ⟨⟨x_3, (), rfl, ⟨hx_3, (lo_and or_1 ex_3)⟩, trivial⟩, hS.F ht⟩) hS.2.2 dX0_standingIn_15

set_option maxHeartbeats 4000000 in
set_option maxRecDepth 100000 in
theorem s_X0_open_20 (l : Launch) (D : va_G) (t : Nat → ClassId) (a : Nat → Nat) (v20_0 : Int32) (v20_1 : Int32) (v20_2 : Int32) (v20_3 : Int32) (v20_4 : Int32) (v20_5 : Int32) (v20_6 : Int32) (v20_7 : Int32) (p0 : Int32) (p1 : Int32) (p2 : Int32) (p3 : Int32) (r20_1 : rg 0 8 v20_1) (r20_5 : rg 0 4 v20_5) (r20_6 : rg 0 9 v20_6) (r20_7 : rg 0 9 v20_7) (rp0 : rg 0 8 p0) (sz : Nat) : Met l yX0_open (wd yX0_open cX0_open 5 none) (RM 0 0 0) (PreW D (TY t) [.ref (a 20), .int p0, .int p1, .int p2, .int p3] [(a 20, .inr (0, [.int v20_0, .int v20_1, .int v20_2, .int v20_3, .int v20_4, .int v20_5, .int v20_6, .int v20_7, .ref (a 21), .ref (a 22), .ref (a 23), .ref (a 24), .ref (a 25), .ref (a 26), .ref (a 27), .ref (a 28), .ref (a 29), .ref (a 30), .ref (a 34)]))] sz) (va_Qv (fun (u : US) => rg 0 8 (u.1 0)) (fun (u : US) t9 => va_P D classes ((fun u : US => [(a 20, .inr (0, [.int v20_0, .int (u.1 0), .int (u.1 1), .int (u.1 2), .int (u.1 3), .int v20_5, .int v20_6, .int v20_7, .ref (a 21), .ref (a 22), .ref (a 23), .ref (a 24), .ref (a 25), .ref (a 26), .ref (a 27), .ref (a 28), .ref (a 29), .ref (a 30), .ref (a 34)]))]) u) t9.heap ∧ va_D (va_A [(a 20, .inr (0, [.int v20_0, .int v20_1, .int v20_2, .int v20_3, .int v20_4, .int v20_5, .int v20_6, .int v20_7, .ref (a 21), .ref (a 22), .ref (a 23), .ref (a 24), .ref (a 25), .ref (a 26), .ref (a 27), .ref (a 28), .ref (a 29), .ref (a 30), .ref (a 34)]))] sz) ((fun u : US => [(a 20, .inr (0, [.int v20_0, .int (u.1 0), .int (u.1 1), .int (u.1 2), .int (u.1 3), .int v20_5, .int v20_6, .int v20_7, .ref (a 21), .ref (a 22), .ref (a 23), .ref (a 24), .ref (a 25), .ref (a 26), .ref (a 27), .ref (a 28), .ref (a 29), .ref (a 30), .ref (a 34)]))]) u)) (va_A [(a 20, .inr (0, [.int v20_0, .int v20_1, .int v20_2, .int v20_3, .int v20_4, .int v20_5, .int v20_6, .int v20_7, .ref (a 21), .ref (a 22), .ref (a 23), .ref (a 24), .ref (a 25), .ref (a 26), .ref (a 27), .ref (a 28), .ref (a 29), .ref (a 30), .ref (a 34)]))] sz)) 0 0 (va_A [(a 20, .inr (0, [.int v20_0, .int v20_1, .int v20_2, .int v20_3, .int v20_4, .int v20_5, .int v20_6, .int v20_7, .ref (a 21), .ref (a 22), .ref (a 23), .ref (a 24), .ref (a 25), .ref (a 26), .ref (a 27), .ref (a 28), .ref (a 29), .ref (a 30), .ref (a 34)]))] sz) := by
  refine Met.ofW (cc := cX0_open) (maxL := 5) (ret := none) (by decide) rfl ?_
  intro p e s m args below meth c s₁ B hml hv
  obtain ⟨rfl, hsz, hP, hK, hD0, hN⟩ := hv
  have hx := B.exec
  have hb := B.bytes
  have hr := B.returns
  have hts : ∀ w ∈ TB, w.before _ s = true := fun w h => atoms_spec (ws := wd yX0_open cX0_open 5 none) B.pre w (List.mem_cons_of_mem _ h)
  have hown : s.vm.findClass RX0 = some m.cls := findClass_of_methodNamed B.named
  have hlocks := B.notSynchronized
  have hF : CallFix p m c cX0_open 5 s _ TB RX0 := ⟨hx, hb, hml, hown, hts⟩
  have hl := lv_entry ([.ref (a 20), .int p0, .int p1, .int p2, .int p3]) (n := 5) (Nat.le_of_ble_eq_true rfl)
  rw [lg_entry_eq]
  generalize (lg_sl ([.ref (a 20), .int p0, .int p1, .int p2, .int p3]) ++ List.replicate (5 - (lg_sl ([.ref (a 20), .int p0, .int p1, .int p2, .int p3])).length) Slot.unset).toArray = ls at hl ⊢
  have hl : lv_has ls 5 [(0, .ref (a 20)), (1, .int p0), (2, .int p1), (3, .int p2), (4, .int p3)] := hl
  subst hsz
  have hD := hD0.self (sz := s.heap.size)
  generalize hAe : va_A [(a 20, .inr (0, [.int v20_0, .int v20_1, .int v20_2, .int v20_3, .int v20_4, .int v20_5, .int v20_6, .int v20_7, .ref (a 21), .ref (a 22), .ref (a 23), .ref (a 24), .ref (a 25), .ref (a 26), .ref (a 27), .ref (a 28), .ref (a 29), .ref (a 30), .ref (a 34)]))] s.heap.size = A at hD ⊢
  have hA : ∀ q : Nat, s.heap.size ≤ q → A q := fun q h => by rw [← hAe]; exact Or.inr h
  have hS : va_S A s.heap s.heap [] := va_S.rf
  have hP : va_P D classes [(a 20, .inr (0, [.int v20_0, .int v20_1, .int v20_2, .int v20_3, .int v20_4, .int v20_5, .int v20_6, .int v20_7, .ref (a 21), .ref (a 22), .ref (a 23), .ref (a 24), .ref (a 25), .ref (a 26), .ref (a 27), .ref (a 28), .ref (a 29), .ref (a 30), .ref (a 34)]))] s.heap := hP
  refine lv_aload_n hx hb dX0_open_0 rfl (lv_at hl 0 rfl) ?_
  refine lv_iload_n hx hb dX0_open_1 rfl (lv_at hl 1 rfl) ?_
  refine va_put (D := D) (ci := 0) (v := .int p0) (ty := .int) (C := RX0) (T := TX0) (N := 19) hx hb hts iX0 tyX0 tyX0_ok nmX0 hown hK hP hD hS 0 rfl rfl 1 (by decide) (hts _ m_121) (fun _ h9 => h9) rfl (tyX0_ok 1 (by decide)) rfl rfl (Nat.le_of_ble_eq_true rfl) dX0_open_2 (fun H locs hP hD hS => ?_)
  have hP : va_P D classes [(a 20, .inr (0, [.int v20_0, .int p0, .int v20_2, .int v20_3, .int v20_4, .int v20_5, .int v20_6, .int v20_7, .ref (a 21), .ref (a 22), .ref (a 23), .ref (a 24), .ref (a 25), .ref (a 26), .ref (a 27), .ref (a 28), .ref (a 29), .ref (a 30), .ref (a 34)]))] H := hP
  have hD : va_D A [(a 20, .inr (0, [.int v20_0, .int p0, .int v20_2, .int v20_3, .int v20_4, .int v20_5, .int v20_6, .int v20_7, .ref (a 21), .ref (a 22), .ref (a 23), .ref (a 24), .ref (a 25), .ref (a 26), .ref (a 27), .ref (a 28), .ref (a 29), .ref (a 30), .ref (a 34)]))] := hD
  refine lv_aload_n hx hb dX0_open_5 rfl (lv_at hl 0 rfl) ?_
  refine lv_iload_n hx hb dX0_open_6 rfl (lv_at hl 2 rfl) ?_
  refine va_put (D := D) (ci := 0) (v := .int p1) (ty := .int) (C := RX0) (T := TX0) (N := 19) hx hb hts iX0 tyX0 tyX0_ok nmX0 hown hK hP hD hS 0 rfl rfl 2 (by decide) (hts _ m_125) (fun _ h9 => h9) rfl (tyX0_ok 2 (by decide)) rfl rfl (Nat.le_of_ble_eq_true rfl) dX0_open_7 (fun H locs hP hD hS => ?_)
  have hP : va_P D classes [(a 20, .inr (0, [.int v20_0, .int p0, .int p1, .int v20_3, .int v20_4, .int v20_5, .int v20_6, .int v20_7, .ref (a 21), .ref (a 22), .ref (a 23), .ref (a 24), .ref (a 25), .ref (a 26), .ref (a 27), .ref (a 28), .ref (a 29), .ref (a 30), .ref (a 34)]))] H := hP
  have hD : va_D A [(a 20, .inr (0, [.int v20_0, .int p0, .int p1, .int v20_3, .int v20_4, .int v20_5, .int v20_6, .int v20_7, .ref (a 21), .ref (a 22), .ref (a 23), .ref (a 24), .ref (a 25), .ref (a 26), .ref (a 27), .ref (a 28), .ref (a 29), .ref (a 30), .ref (a 34)]))] := hD
  refine lv_aload_n hx hb dX0_open_10 rfl (lv_at hl 0 rfl) ?_
  refine lv_iload_n hx hb dX0_open_11 rfl (lv_at hl 3 rfl) ?_
  refine va_put (D := D) (ci := 0) (v := .int p2) (ty := .int) (C := RX0) (T := TX0) (N := 19) hx hb hts iX0 tyX0 tyX0_ok nmX0 hown hK hP hD hS 0 rfl rfl 3 (by decide) (hts _ m_129) (fun _ h9 => h9) rfl (tyX0_ok 3 (by decide)) rfl rfl (Nat.le_of_ble_eq_true rfl) dX0_open_12 (fun H locs hP hD hS => ?_)
  have hP : va_P D classes [(a 20, .inr (0, [.int v20_0, .int p0, .int p1, .int p2, .int v20_4, .int v20_5, .int v20_6, .int v20_7, .ref (a 21), .ref (a 22), .ref (a 23), .ref (a 24), .ref (a 25), .ref (a 26), .ref (a 27), .ref (a 28), .ref (a 29), .ref (a 30), .ref (a 34)]))] H := hP
  have hD : va_D A [(a 20, .inr (0, [.int v20_0, .int p0, .int p1, .int p2, .int v20_4, .int v20_5, .int v20_6, .int v20_7, .ref (a 21), .ref (a 22), .ref (a 23), .ref (a 24), .ref (a 25), .ref (a 26), .ref (a 27), .ref (a 28), .ref (a 29), .ref (a 30), .ref (a 34)]))] := hD
  refine lv_aload_n hx hb dX0_open_15 rfl (lv_at hl 0 rfl) ?_
  refine lv_iload hx hb dX0_open_16 (lv_at hl 4 rfl) ?_
  refine va_put (D := D) (ci := 0) (v := .int p3) (ty := .int) (C := RX0) (T := TX0) (N := 19) hx hb hts iX0 tyX0 tyX0_ok nmX0 hown hK hP hD hS 0 rfl rfl 4 (by decide) (hts _ m_132) (fun _ h9 => h9) rfl (tyX0_ok 4 (by decide)) rfl rfl (Nat.le_of_ble_eq_true rfl) dX0_open_18 (fun H locs hP hD hS => ?_)
  have hP : va_P D classes [(a 20, .inr (0, [.int v20_0, .int p0, .int p1, .int p2, .int p3, .int v20_5, .int v20_6, .int v20_7, .ref (a 21), .ref (a 22), .ref (a 23), .ref (a 24), .ref (a 25), .ref (a 26), .ref (a 27), .ref (a 28), .ref (a 29), .ref (a 30), .ref (a 34)]))] H := hP
  have hD : va_D A [(a 20, .inr (0, [.int v20_0, .int p0, .int p1, .int p2, .int p3, .int v20_5, .int v20_6, .int v20_7, .ref (a 21), .ref (a 22), .ref (a 23), .ref (a 24), .ref (a 25), .ref (a 26), .ref (a 27), .ref (a 28), .ref (a 29), .ref (a 30), .ref (a 34)]))] := hD
  have hP9 := hP.sub (ws' := [(a 20, .inr (0, [.int v20_0, .int p0, .int p1, .int p2, .int p3, .int v20_5, .int v20_6, .int v20_7, .ref (a 21), .ref (a 22), .ref (a 23), .ref (a 24), .ref (a 25), .ref (a 26), .ref (a 27), .ref (a 28), .ref (a 29), .ref (a 30), .ref (a 34)]))]) [0] rfl
  have hD9 := hD.sub (ws' := [(a 20, .inr (0, [.int v20_0, .int p0, .int p1, .int p2, .int p3, .int v20_5, .int v20_6, .int v20_7, .ref (a 21), .ref (a 22), .ref (a 23), .ref (a 24), .ref (a 25), .ref (a 26), .ref (a 27), .ref (a 28), .ref (a 29), .ref (a 30), .ref (a 34)]))]) [0] (by decide) rfl
  exact W.vret hx hb hr (fun t9 ht hW => ⟨⟨(fun k => [p0, p1, p2, p3].getD k 0, fun k => [].getD k (fun _ => 0), fun k => [].getD k (fun _ => 0), fun _ => 0), rfl, rp0, by rw [ht]; exact hP9, hD9⟩, hS.F ht⟩) hS.2.2 dX0_open_21

set_option maxHeartbeats 4000000 in
set_option maxRecDepth 100000 in
theorem s_X0_open_40 (l : Launch) (D : va_G) (t : Nat → ClassId) (a : Nat → Nat) (v40_0 : Int32) (v40_1 : Int32) (v40_2 : Int32) (v40_3 : Int32) (v40_4 : Int32) (v40_5 : Int32) (v40_6 : Int32) (v40_7 : Int32) (p0 : Int32) (p1 : Int32) (p2 : Int32) (p3 : Int32) (r40_1 : rg 0 8 v40_1) (r40_5 : rg 0 4 v40_5) (r40_6 : rg 0 9 v40_6) (r40_7 : rg 0 9 v40_7) (rp0 : rg 0 8 p0) (sz : Nat) : Met l yX0_open (wd yX0_open cX0_open 5 none) (RM 0 0 0) (PreW D (TY t) [.ref (a 40), .int p0, .int p1, .int p2, .int p3] [(a 40, .inr (0, [.int v40_0, .int v40_1, .int v40_2, .int v40_3, .int v40_4, .int v40_5, .int v40_6, .int v40_7, .ref (a 41), .ref (a 42), .ref (a 43), .ref (a 44), .ref (a 45), .ref (a 46), .ref (a 47), .ref (a 48), .ref (a 49), .ref (a 50), .ref (a 54)]))] sz) (va_Qv (fun (u : US) => rg 0 8 (u.1 0)) (fun (u : US) t9 => va_P D classes ((fun u : US => [(a 40, .inr (0, [.int v40_0, .int (u.1 0), .int (u.1 1), .int (u.1 2), .int (u.1 3), .int v40_5, .int v40_6, .int v40_7, .ref (a 41), .ref (a 42), .ref (a 43), .ref (a 44), .ref (a 45), .ref (a 46), .ref (a 47), .ref (a 48), .ref (a 49), .ref (a 50), .ref (a 54)]))]) u) t9.heap ∧ va_D (va_A [(a 40, .inr (0, [.int v40_0, .int v40_1, .int v40_2, .int v40_3, .int v40_4, .int v40_5, .int v40_6, .int v40_7, .ref (a 41), .ref (a 42), .ref (a 43), .ref (a 44), .ref (a 45), .ref (a 46), .ref (a 47), .ref (a 48), .ref (a 49), .ref (a 50), .ref (a 54)]))] sz) ((fun u : US => [(a 40, .inr (0, [.int v40_0, .int (u.1 0), .int (u.1 1), .int (u.1 2), .int (u.1 3), .int v40_5, .int v40_6, .int v40_7, .ref (a 41), .ref (a 42), .ref (a 43), .ref (a 44), .ref (a 45), .ref (a 46), .ref (a 47), .ref (a 48), .ref (a 49), .ref (a 50), .ref (a 54)]))]) u)) (va_A [(a 40, .inr (0, [.int v40_0, .int v40_1, .int v40_2, .int v40_3, .int v40_4, .int v40_5, .int v40_6, .int v40_7, .ref (a 41), .ref (a 42), .ref (a 43), .ref (a 44), .ref (a 45), .ref (a 46), .ref (a 47), .ref (a 48), .ref (a 49), .ref (a 50), .ref (a 54)]))] sz)) 0 0 (va_A [(a 40, .inr (0, [.int v40_0, .int v40_1, .int v40_2, .int v40_3, .int v40_4, .int v40_5, .int v40_6, .int v40_7, .ref (a 41), .ref (a 42), .ref (a 43), .ref (a 44), .ref (a 45), .ref (a 46), .ref (a 47), .ref (a 48), .ref (a 49), .ref (a 50), .ref (a 54)]))] sz) := by
  refine Met.ofW (cc := cX0_open) (maxL := 5) (ret := none) (by decide) rfl ?_
  intro p e s m args below meth c s₁ B hml hv
  obtain ⟨rfl, hsz, hP, hK, hD0, hN⟩ := hv
  have hx := B.exec
  have hb := B.bytes
  have hr := B.returns
  have hts : ∀ w ∈ TB, w.before _ s = true := fun w h => atoms_spec (ws := wd yX0_open cX0_open 5 none) B.pre w (List.mem_cons_of_mem _ h)
  have hown : s.vm.findClass RX0 = some m.cls := findClass_of_methodNamed B.named
  have hlocks := B.notSynchronized
  have hF : CallFix p m c cX0_open 5 s _ TB RX0 := ⟨hx, hb, hml, hown, hts⟩
  have hl := lv_entry ([.ref (a 40), .int p0, .int p1, .int p2, .int p3]) (n := 5) (Nat.le_of_ble_eq_true rfl)
  rw [lg_entry_eq]
  generalize (lg_sl ([.ref (a 40), .int p0, .int p1, .int p2, .int p3]) ++ List.replicate (5 - (lg_sl ([.ref (a 40), .int p0, .int p1, .int p2, .int p3])).length) Slot.unset).toArray = ls at hl ⊢
  have hl : lv_has ls 5 [(0, .ref (a 40)), (1, .int p0), (2, .int p1), (3, .int p2), (4, .int p3)] := hl
  subst hsz
  have hD := hD0.self (sz := s.heap.size)
  generalize hAe : va_A [(a 40, .inr (0, [.int v40_0, .int v40_1, .int v40_2, .int v40_3, .int v40_4, .int v40_5, .int v40_6, .int v40_7, .ref (a 41), .ref (a 42), .ref (a 43), .ref (a 44), .ref (a 45), .ref (a 46), .ref (a 47), .ref (a 48), .ref (a 49), .ref (a 50), .ref (a 54)]))] s.heap.size = A at hD ⊢
  have hA : ∀ q : Nat, s.heap.size ≤ q → A q := fun q h => by rw [← hAe]; exact Or.inr h
  have hS : va_S A s.heap s.heap [] := va_S.rf
  have hP : va_P D classes [(a 40, .inr (0, [.int v40_0, .int v40_1, .int v40_2, .int v40_3, .int v40_4, .int v40_5, .int v40_6, .int v40_7, .ref (a 41), .ref (a 42), .ref (a 43), .ref (a 44), .ref (a 45), .ref (a 46), .ref (a 47), .ref (a 48), .ref (a 49), .ref (a 50), .ref (a 54)]))] s.heap := hP
  refine lv_aload_n hx hb dX0_open_0 rfl (lv_at hl 0 rfl) ?_
  refine lv_iload_n hx hb dX0_open_1 rfl (lv_at hl 1 rfl) ?_
  refine va_put (D := D) (ci := 0) (v := .int p0) (ty := .int) (C := RX0) (T := TX0) (N := 19) hx hb hts iX0 tyX0 tyX0_ok nmX0 hown hK hP hD hS 0 rfl rfl 1 (by decide) (hts _ m_121) (fun _ h9 => h9) rfl (tyX0_ok 1 (by decide)) rfl rfl (Nat.le_of_ble_eq_true rfl) dX0_open_2 (fun H locs hP hD hS => ?_)
  have hP : va_P D classes [(a 40, .inr (0, [.int v40_0, .int p0, .int v40_2, .int v40_3, .int v40_4, .int v40_5, .int v40_6, .int v40_7, .ref (a 41), .ref (a 42), .ref (a 43), .ref (a 44), .ref (a 45), .ref (a 46), .ref (a 47), .ref (a 48), .ref (a 49), .ref (a 50), .ref (a 54)]))] H := hP
  have hD : va_D A [(a 40, .inr (0, [.int v40_0, .int p0, .int v40_2, .int v40_3, .int v40_4, .int v40_5, .int v40_6, .int v40_7, .ref (a 41), .ref (a 42), .ref (a 43), .ref (a 44), .ref (a 45), .ref (a 46), .ref (a 47), .ref (a 48), .ref (a 49), .ref (a 50), .ref (a 54)]))] := hD
  refine lv_aload_n hx hb dX0_open_5 rfl (lv_at hl 0 rfl) ?_
  refine lv_iload_n hx hb dX0_open_6 rfl (lv_at hl 2 rfl) ?_
  refine va_put (D := D) (ci := 0) (v := .int p1) (ty := .int) (C := RX0) (T := TX0) (N := 19) hx hb hts iX0 tyX0 tyX0_ok nmX0 hown hK hP hD hS 0 rfl rfl 2 (by decide) (hts _ m_125) (fun _ h9 => h9) rfl (tyX0_ok 2 (by decide)) rfl rfl (Nat.le_of_ble_eq_true rfl) dX0_open_7 (fun H locs hP hD hS => ?_)
  have hP : va_P D classes [(a 40, .inr (0, [.int v40_0, .int p0, .int p1, .int v40_3, .int v40_4, .int v40_5, .int v40_6, .int v40_7, .ref (a 41), .ref (a 42), .ref (a 43), .ref (a 44), .ref (a 45), .ref (a 46), .ref (a 47), .ref (a 48), .ref (a 49), .ref (a 50), .ref (a 54)]))] H := hP
  have hD : va_D A [(a 40, .inr (0, [.int v40_0, .int p0, .int p1, .int v40_3, .int v40_4, .int v40_5, .int v40_6, .int v40_7, .ref (a 41), .ref (a 42), .ref (a 43), .ref (a 44), .ref (a 45), .ref (a 46), .ref (a 47), .ref (a 48), .ref (a 49), .ref (a 50), .ref (a 54)]))] := hD
  refine lv_aload_n hx hb dX0_open_10 rfl (lv_at hl 0 rfl) ?_
  refine lv_iload_n hx hb dX0_open_11 rfl (lv_at hl 3 rfl) ?_
  refine va_put (D := D) (ci := 0) (v := .int p2) (ty := .int) (C := RX0) (T := TX0) (N := 19) hx hb hts iX0 tyX0 tyX0_ok nmX0 hown hK hP hD hS 0 rfl rfl 3 (by decide) (hts _ m_129) (fun _ h9 => h9) rfl (tyX0_ok 3 (by decide)) rfl rfl (Nat.le_of_ble_eq_true rfl) dX0_open_12 (fun H locs hP hD hS => ?_)
  have hP : va_P D classes [(a 40, .inr (0, [.int v40_0, .int p0, .int p1, .int p2, .int v40_4, .int v40_5, .int v40_6, .int v40_7, .ref (a 41), .ref (a 42), .ref (a 43), .ref (a 44), .ref (a 45), .ref (a 46), .ref (a 47), .ref (a 48), .ref (a 49), .ref (a 50), .ref (a 54)]))] H := hP
  have hD : va_D A [(a 40, .inr (0, [.int v40_0, .int p0, .int p1, .int p2, .int v40_4, .int v40_5, .int v40_6, .int v40_7, .ref (a 41), .ref (a 42), .ref (a 43), .ref (a 44), .ref (a 45), .ref (a 46), .ref (a 47), .ref (a 48), .ref (a 49), .ref (a 50), .ref (a 54)]))] := hD
  refine lv_aload_n hx hb dX0_open_15 rfl (lv_at hl 0 rfl) ?_
  refine lv_iload hx hb dX0_open_16 (lv_at hl 4 rfl) ?_
  refine va_put (D := D) (ci := 0) (v := .int p3) (ty := .int) (C := RX0) (T := TX0) (N := 19) hx hb hts iX0 tyX0 tyX0_ok nmX0 hown hK hP hD hS 0 rfl rfl 4 (by decide) (hts _ m_132) (fun _ h9 => h9) rfl (tyX0_ok 4 (by decide)) rfl rfl (Nat.le_of_ble_eq_true rfl) dX0_open_18 (fun H locs hP hD hS => ?_)
  have hP : va_P D classes [(a 40, .inr (0, [.int v40_0, .int p0, .int p1, .int p2, .int p3, .int v40_5, .int v40_6, .int v40_7, .ref (a 41), .ref (a 42), .ref (a 43), .ref (a 44), .ref (a 45), .ref (a 46), .ref (a 47), .ref (a 48), .ref (a 49), .ref (a 50), .ref (a 54)]))] H := hP
  have hD : va_D A [(a 40, .inr (0, [.int v40_0, .int p0, .int p1, .int p2, .int p3, .int v40_5, .int v40_6, .int v40_7, .ref (a 41), .ref (a 42), .ref (a 43), .ref (a 44), .ref (a 45), .ref (a 46), .ref (a 47), .ref (a 48), .ref (a 49), .ref (a 50), .ref (a 54)]))] := hD
  have hP9 := hP.sub (ws' := [(a 40, .inr (0, [.int v40_0, .int p0, .int p1, .int p2, .int p3, .int v40_5, .int v40_6, .int v40_7, .ref (a 41), .ref (a 42), .ref (a 43), .ref (a 44), .ref (a 45), .ref (a 46), .ref (a 47), .ref (a 48), .ref (a 49), .ref (a 50), .ref (a 54)]))]) [0] rfl
  have hD9 := hD.sub (ws' := [(a 40, .inr (0, [.int v40_0, .int p0, .int p1, .int p2, .int p3, .int v40_5, .int v40_6, .int v40_7, .ref (a 41), .ref (a 42), .ref (a 43), .ref (a 44), .ref (a 45), .ref (a 46), .ref (a 47), .ref (a 48), .ref (a 49), .ref (a 50), .ref (a 54)]))]) [0] (by decide) rfl
  exact W.vret hx hb hr (fun t9 ht hW => ⟨⟨(fun k => [p0, p1, p2, p3].getD k 0, fun k => [].getD k (fun _ => 0), fun k => [].getD k (fun _ => 0), fun _ => 0), rfl, rp0, by rw [ht]; exact hP9, hD9⟩, hS.F ht⟩) hS.2.2 dX0_open_21

set_option maxHeartbeats 4000000 in
set_option maxRecDepth 100000 in
theorem s_X0_open_60 (l : Launch) (D : va_G) (t : Nat → ClassId) (a : Nat → Nat) (v60_0 : Int32) (v60_1 : Int32) (v60_2 : Int32) (v60_3 : Int32) (v60_4 : Int32) (v60_5 : Int32) (v60_6 : Int32) (v60_7 : Int32) (p0 : Int32) (p1 : Int32) (p2 : Int32) (p3 : Int32) (r60_1 : rg 0 8 v60_1) (r60_5 : rg 0 4 v60_5) (r60_6 : rg 0 9 v60_6) (r60_7 : rg 0 9 v60_7) (rp0 : rg 0 8 p0) (sz : Nat) : Met l yX0_open (wd yX0_open cX0_open 5 none) (RM 0 0 0) (PreW D (TY t) [.ref (a 60), .int p0, .int p1, .int p2, .int p3] [(a 60, .inr (0, [.int v60_0, .int v60_1, .int v60_2, .int v60_3, .int v60_4, .int v60_5, .int v60_6, .int v60_7, .ref (a 61), .ref (a 62), .ref (a 63), .ref (a 64), .ref (a 65), .ref (a 66), .ref (a 67), .ref (a 68), .ref (a 69), .ref (a 70), .ref (a 74)]))] sz) (va_Qv (fun (u : US) => rg 0 8 (u.1 0)) (fun (u : US) t9 => va_P D classes ((fun u : US => [(a 60, .inr (0, [.int v60_0, .int (u.1 0), .int (u.1 1), .int (u.1 2), .int (u.1 3), .int v60_5, .int v60_6, .int v60_7, .ref (a 61), .ref (a 62), .ref (a 63), .ref (a 64), .ref (a 65), .ref (a 66), .ref (a 67), .ref (a 68), .ref (a 69), .ref (a 70), .ref (a 74)]))]) u) t9.heap ∧ va_D (va_A [(a 60, .inr (0, [.int v60_0, .int v60_1, .int v60_2, .int v60_3, .int v60_4, .int v60_5, .int v60_6, .int v60_7, .ref (a 61), .ref (a 62), .ref (a 63), .ref (a 64), .ref (a 65), .ref (a 66), .ref (a 67), .ref (a 68), .ref (a 69), .ref (a 70), .ref (a 74)]))] sz) ((fun u : US => [(a 60, .inr (0, [.int v60_0, .int (u.1 0), .int (u.1 1), .int (u.1 2), .int (u.1 3), .int v60_5, .int v60_6, .int v60_7, .ref (a 61), .ref (a 62), .ref (a 63), .ref (a 64), .ref (a 65), .ref (a 66), .ref (a 67), .ref (a 68), .ref (a 69), .ref (a 70), .ref (a 74)]))]) u)) (va_A [(a 60, .inr (0, [.int v60_0, .int v60_1, .int v60_2, .int v60_3, .int v60_4, .int v60_5, .int v60_6, .int v60_7, .ref (a 61), .ref (a 62), .ref (a 63), .ref (a 64), .ref (a 65), .ref (a 66), .ref (a 67), .ref (a 68), .ref (a 69), .ref (a 70), .ref (a 74)]))] sz)) 0 0 (va_A [(a 60, .inr (0, [.int v60_0, .int v60_1, .int v60_2, .int v60_3, .int v60_4, .int v60_5, .int v60_6, .int v60_7, .ref (a 61), .ref (a 62), .ref (a 63), .ref (a 64), .ref (a 65), .ref (a 66), .ref (a 67), .ref (a 68), .ref (a 69), .ref (a 70), .ref (a 74)]))] sz) := by
  refine Met.ofW (cc := cX0_open) (maxL := 5) (ret := none) (by decide) rfl ?_
  intro p e s m args below meth c s₁ B hml hv
  obtain ⟨rfl, hsz, hP, hK, hD0, hN⟩ := hv
  have hx := B.exec
  have hb := B.bytes
  have hr := B.returns
  have hts : ∀ w ∈ TB, w.before _ s = true := fun w h => atoms_spec (ws := wd yX0_open cX0_open 5 none) B.pre w (List.mem_cons_of_mem _ h)
  have hown : s.vm.findClass RX0 = some m.cls := findClass_of_methodNamed B.named
  have hlocks := B.notSynchronized
  have hF : CallFix p m c cX0_open 5 s _ TB RX0 := ⟨hx, hb, hml, hown, hts⟩
  have hl := lv_entry ([.ref (a 60), .int p0, .int p1, .int p2, .int p3]) (n := 5) (Nat.le_of_ble_eq_true rfl)
  rw [lg_entry_eq]
  generalize (lg_sl ([.ref (a 60), .int p0, .int p1, .int p2, .int p3]) ++ List.replicate (5 - (lg_sl ([.ref (a 60), .int p0, .int p1, .int p2, .int p3])).length) Slot.unset).toArray = ls at hl ⊢
  have hl : lv_has ls 5 [(0, .ref (a 60)), (1, .int p0), (2, .int p1), (3, .int p2), (4, .int p3)] := hl
  subst hsz
  have hD := hD0.self (sz := s.heap.size)
  generalize hAe : va_A [(a 60, .inr (0, [.int v60_0, .int v60_1, .int v60_2, .int v60_3, .int v60_4, .int v60_5, .int v60_6, .int v60_7, .ref (a 61), .ref (a 62), .ref (a 63), .ref (a 64), .ref (a 65), .ref (a 66), .ref (a 67), .ref (a 68), .ref (a 69), .ref (a 70), .ref (a 74)]))] s.heap.size = A at hD ⊢
  have hA : ∀ q : Nat, s.heap.size ≤ q → A q := fun q h => by rw [← hAe]; exact Or.inr h
  have hS : va_S A s.heap s.heap [] := va_S.rf
  have hP : va_P D classes [(a 60, .inr (0, [.int v60_0, .int v60_1, .int v60_2, .int v60_3, .int v60_4, .int v60_5, .int v60_6, .int v60_7, .ref (a 61), .ref (a 62), .ref (a 63), .ref (a 64), .ref (a 65), .ref (a 66), .ref (a 67), .ref (a 68), .ref (a 69), .ref (a 70), .ref (a 74)]))] s.heap := hP
  refine lv_aload_n hx hb dX0_open_0 rfl (lv_at hl 0 rfl) ?_
  refine lv_iload_n hx hb dX0_open_1 rfl (lv_at hl 1 rfl) ?_
  refine va_put (D := D) (ci := 0) (v := .int p0) (ty := .int) (C := RX0) (T := TX0) (N := 19) hx hb hts iX0 tyX0 tyX0_ok nmX0 hown hK hP hD hS 0 rfl rfl 1 (by decide) (hts _ m_121) (fun _ h9 => h9) rfl (tyX0_ok 1 (by decide)) rfl rfl (Nat.le_of_ble_eq_true rfl) dX0_open_2 (fun H locs hP hD hS => ?_)
  have hP : va_P D classes [(a 60, .inr (0, [.int v60_0, .int p0, .int v60_2, .int v60_3, .int v60_4, .int v60_5, .int v60_6, .int v60_7, .ref (a 61), .ref (a 62), .ref (a 63), .ref (a 64), .ref (a 65), .ref (a 66), .ref (a 67), .ref (a 68), .ref (a 69), .ref (a 70), .ref (a 74)]))] H := hP
  have hD : va_D A [(a 60, .inr (0, [.int v60_0, .int p0, .int v60_2, .int v60_3, .int v60_4, .int v60_5, .int v60_6, .int v60_7, .ref (a 61), .ref (a 62), .ref (a 63), .ref (a 64), .ref (a 65), .ref (a 66), .ref (a 67), .ref (a 68), .ref (a 69), .ref (a 70), .ref (a 74)]))] := hD
  refine lv_aload_n hx hb dX0_open_5 rfl (lv_at hl 0 rfl) ?_
  refine lv_iload_n hx hb dX0_open_6 rfl (lv_at hl 2 rfl) ?_
  refine va_put (D := D) (ci := 0) (v := .int p1) (ty := .int) (C := RX0) (T := TX0) (N := 19) hx hb hts iX0 tyX0 tyX0_ok nmX0 hown hK hP hD hS 0 rfl rfl 2 (by decide) (hts _ m_125) (fun _ h9 => h9) rfl (tyX0_ok 2 (by decide)) rfl rfl (Nat.le_of_ble_eq_true rfl) dX0_open_7 (fun H locs hP hD hS => ?_)
  have hP : va_P D classes [(a 60, .inr (0, [.int v60_0, .int p0, .int p1, .int v60_3, .int v60_4, .int v60_5, .int v60_6, .int v60_7, .ref (a 61), .ref (a 62), .ref (a 63), .ref (a 64), .ref (a 65), .ref (a 66), .ref (a 67), .ref (a 68), .ref (a 69), .ref (a 70), .ref (a 74)]))] H := hP
  have hD : va_D A [(a 60, .inr (0, [.int v60_0, .int p0, .int p1, .int v60_3, .int v60_4, .int v60_5, .int v60_6, .int v60_7, .ref (a 61), .ref (a 62), .ref (a 63), .ref (a 64), .ref (a 65), .ref (a 66), .ref (a 67), .ref (a 68), .ref (a 69), .ref (a 70), .ref (a 74)]))] := hD
  refine lv_aload_n hx hb dX0_open_10 rfl (lv_at hl 0 rfl) ?_
  refine lv_iload_n hx hb dX0_open_11 rfl (lv_at hl 3 rfl) ?_
  refine va_put (D := D) (ci := 0) (v := .int p2) (ty := .int) (C := RX0) (T := TX0) (N := 19) hx hb hts iX0 tyX0 tyX0_ok nmX0 hown hK hP hD hS 0 rfl rfl 3 (by decide) (hts _ m_129) (fun _ h9 => h9) rfl (tyX0_ok 3 (by decide)) rfl rfl (Nat.le_of_ble_eq_true rfl) dX0_open_12 (fun H locs hP hD hS => ?_)
  have hP : va_P D classes [(a 60, .inr (0, [.int v60_0, .int p0, .int p1, .int p2, .int v60_4, .int v60_5, .int v60_6, .int v60_7, .ref (a 61), .ref (a 62), .ref (a 63), .ref (a 64), .ref (a 65), .ref (a 66), .ref (a 67), .ref (a 68), .ref (a 69), .ref (a 70), .ref (a 74)]))] H := hP
  have hD : va_D A [(a 60, .inr (0, [.int v60_0, .int p0, .int p1, .int p2, .int v60_4, .int v60_5, .int v60_6, .int v60_7, .ref (a 61), .ref (a 62), .ref (a 63), .ref (a 64), .ref (a 65), .ref (a 66), .ref (a 67), .ref (a 68), .ref (a 69), .ref (a 70), .ref (a 74)]))] := hD
  refine lv_aload_n hx hb dX0_open_15 rfl (lv_at hl 0 rfl) ?_
  refine lv_iload hx hb dX0_open_16 (lv_at hl 4 rfl) ?_
  refine va_put (D := D) (ci := 0) (v := .int p3) (ty := .int) (C := RX0) (T := TX0) (N := 19) hx hb hts iX0 tyX0 tyX0_ok nmX0 hown hK hP hD hS 0 rfl rfl 4 (by decide) (hts _ m_132) (fun _ h9 => h9) rfl (tyX0_ok 4 (by decide)) rfl rfl (Nat.le_of_ble_eq_true rfl) dX0_open_18 (fun H locs hP hD hS => ?_)
  have hP : va_P D classes [(a 60, .inr (0, [.int v60_0, .int p0, .int p1, .int p2, .int p3, .int v60_5, .int v60_6, .int v60_7, .ref (a 61), .ref (a 62), .ref (a 63), .ref (a 64), .ref (a 65), .ref (a 66), .ref (a 67), .ref (a 68), .ref (a 69), .ref (a 70), .ref (a 74)]))] H := hP
  have hD : va_D A [(a 60, .inr (0, [.int v60_0, .int p0, .int p1, .int p2, .int p3, .int v60_5, .int v60_6, .int v60_7, .ref (a 61), .ref (a 62), .ref (a 63), .ref (a 64), .ref (a 65), .ref (a 66), .ref (a 67), .ref (a 68), .ref (a 69), .ref (a 70), .ref (a 74)]))] := hD
  have hP9 := hP.sub (ws' := [(a 60, .inr (0, [.int v60_0, .int p0, .int p1, .int p2, .int p3, .int v60_5, .int v60_6, .int v60_7, .ref (a 61), .ref (a 62), .ref (a 63), .ref (a 64), .ref (a 65), .ref (a 66), .ref (a 67), .ref (a 68), .ref (a 69), .ref (a 70), .ref (a 74)]))]) [0] rfl
  have hD9 := hD.sub (ws' := [(a 60, .inr (0, [.int v60_0, .int p0, .int p1, .int p2, .int p3, .int v60_5, .int v60_6, .int v60_7, .ref (a 61), .ref (a 62), .ref (a 63), .ref (a 64), .ref (a 65), .ref (a 66), .ref (a 67), .ref (a 68), .ref (a 69), .ref (a 70), .ref (a 74)]))]) [0] (by decide) rfl
  exact W.vret hx hb hr (fun t9 ht hW => ⟨⟨(fun k => [p0, p1, p2, p3].getD k 0, fun k => [].getD k (fun _ => 0), fun k => [].getD k (fun _ => 0), fun _ => 0), rfl, rp0, by rw [ht]; exact hP9, hD9⟩, hS.F ht⟩) hS.2.2 dX0_open_21

set_option maxHeartbeats 4000000 in
set_option maxRecDepth 100000 in
theorem s_X0_open_80 (l : Launch) (D : va_G) (t : Nat → ClassId) (a : Nat → Nat) (v80_0 : Int32) (v80_1 : Int32) (v80_2 : Int32) (v80_3 : Int32) (v80_4 : Int32) (v80_5 : Int32) (v80_6 : Int32) (v80_7 : Int32) (p0 : Int32) (p1 : Int32) (p2 : Int32) (p3 : Int32) (r80_1 : rg 0 8 v80_1) (r80_5 : rg 0 4 v80_5) (r80_6 : rg 0 9 v80_6) (r80_7 : rg 0 9 v80_7) (rp0 : rg 0 8 p0) (sz : Nat) : Met l yX0_open (wd yX0_open cX0_open 5 none) (RM 0 0 0) (PreW D (TY t) [.ref (a 80), .int p0, .int p1, .int p2, .int p3] [(a 80, .inr (0, [.int v80_0, .int v80_1, .int v80_2, .int v80_3, .int v80_4, .int v80_5, .int v80_6, .int v80_7, .ref (a 81), .ref (a 82), .ref (a 83), .ref (a 84), .ref (a 85), .ref (a 86), .ref (a 87), .ref (a 88), .ref (a 89), .ref (a 90), .ref (a 94)]))] sz) (va_Qv (fun (u : US) => rg 0 8 (u.1 0)) (fun (u : US) t9 => va_P D classes ((fun u : US => [(a 80, .inr (0, [.int v80_0, .int (u.1 0), .int (u.1 1), .int (u.1 2), .int (u.1 3), .int v80_5, .int v80_6, .int v80_7, .ref (a 81), .ref (a 82), .ref (a 83), .ref (a 84), .ref (a 85), .ref (a 86), .ref (a 87), .ref (a 88), .ref (a 89), .ref (a 90), .ref (a 94)]))]) u) t9.heap ∧ va_D (va_A [(a 80, .inr (0, [.int v80_0, .int v80_1, .int v80_2, .int v80_3, .int v80_4, .int v80_5, .int v80_6, .int v80_7, .ref (a 81), .ref (a 82), .ref (a 83), .ref (a 84), .ref (a 85), .ref (a 86), .ref (a 87), .ref (a 88), .ref (a 89), .ref (a 90), .ref (a 94)]))] sz) ((fun u : US => [(a 80, .inr (0, [.int v80_0, .int (u.1 0), .int (u.1 1), .int (u.1 2), .int (u.1 3), .int v80_5, .int v80_6, .int v80_7, .ref (a 81), .ref (a 82), .ref (a 83), .ref (a 84), .ref (a 85), .ref (a 86), .ref (a 87), .ref (a 88), .ref (a 89), .ref (a 90), .ref (a 94)]))]) u)) (va_A [(a 80, .inr (0, [.int v80_0, .int v80_1, .int v80_2, .int v80_3, .int v80_4, .int v80_5, .int v80_6, .int v80_7, .ref (a 81), .ref (a 82), .ref (a 83), .ref (a 84), .ref (a 85), .ref (a 86), .ref (a 87), .ref (a 88), .ref (a 89), .ref (a 90), .ref (a 94)]))] sz)) 0 0 (va_A [(a 80, .inr (0, [.int v80_0, .int v80_1, .int v80_2, .int v80_3, .int v80_4, .int v80_5, .int v80_6, .int v80_7, .ref (a 81), .ref (a 82), .ref (a 83), .ref (a 84), .ref (a 85), .ref (a 86), .ref (a 87), .ref (a 88), .ref (a 89), .ref (a 90), .ref (a 94)]))] sz) := by
  refine Met.ofW (cc := cX0_open) (maxL := 5) (ret := none) (by decide) rfl ?_
  intro p e s m args below meth c s₁ B hml hv
  obtain ⟨rfl, hsz, hP, hK, hD0, hN⟩ := hv
  have hx := B.exec
  have hb := B.bytes
  have hr := B.returns
  have hts : ∀ w ∈ TB, w.before _ s = true := fun w h => atoms_spec (ws := wd yX0_open cX0_open 5 none) B.pre w (List.mem_cons_of_mem _ h)
  have hown : s.vm.findClass RX0 = some m.cls := findClass_of_methodNamed B.named
  have hlocks := B.notSynchronized
  have hF : CallFix p m c cX0_open 5 s _ TB RX0 := ⟨hx, hb, hml, hown, hts⟩
  have hl := lv_entry ([.ref (a 80), .int p0, .int p1, .int p2, .int p3]) (n := 5) (Nat.le_of_ble_eq_true rfl)
  rw [lg_entry_eq]
  generalize (lg_sl ([.ref (a 80), .int p0, .int p1, .int p2, .int p3]) ++ List.replicate (5 - (lg_sl ([.ref (a 80), .int p0, .int p1, .int p2, .int p3])).length) Slot.unset).toArray = ls at hl ⊢
  have hl : lv_has ls 5 [(0, .ref (a 80)), (1, .int p0), (2, .int p1), (3, .int p2), (4, .int p3)] := hl
  subst hsz
  have hD := hD0.self (sz := s.heap.size)
  generalize hAe : va_A [(a 80, .inr (0, [.int v80_0, .int v80_1, .int v80_2, .int v80_3, .int v80_4, .int v80_5, .int v80_6, .int v80_7, .ref (a 81), .ref (a 82), .ref (a 83), .ref (a 84), .ref (a 85), .ref (a 86), .ref (a 87), .ref (a 88), .ref (a 89), .ref (a 90), .ref (a 94)]))] s.heap.size = A at hD ⊢
  have hA : ∀ q : Nat, s.heap.size ≤ q → A q := fun q h => by rw [← hAe]; exact Or.inr h
  have hS : va_S A s.heap s.heap [] := va_S.rf
  have hP : va_P D classes [(a 80, .inr (0, [.int v80_0, .int v80_1, .int v80_2, .int v80_3, .int v80_4, .int v80_5, .int v80_6, .int v80_7, .ref (a 81), .ref (a 82), .ref (a 83), .ref (a 84), .ref (a 85), .ref (a 86), .ref (a 87), .ref (a 88), .ref (a 89), .ref (a 90), .ref (a 94)]))] s.heap := hP
  refine lv_aload_n hx hb dX0_open_0 rfl (lv_at hl 0 rfl) ?_
  refine lv_iload_n hx hb dX0_open_1 rfl (lv_at hl 1 rfl) ?_
  refine va_put (D := D) (ci := 0) (v := .int p0) (ty := .int) (C := RX0) (T := TX0) (N := 19) hx hb hts iX0 tyX0 tyX0_ok nmX0 hown hK hP hD hS 0 rfl rfl 1 (by decide) (hts _ m_121) (fun _ h9 => h9) rfl (tyX0_ok 1 (by decide)) rfl rfl (Nat.le_of_ble_eq_true rfl) dX0_open_2 (fun H locs hP hD hS => ?_)
  have hP : va_P D classes [(a 80, .inr (0, [.int v80_0, .int p0, .int v80_2, .int v80_3, .int v80_4, .int v80_5, .int v80_6, .int v80_7, .ref (a 81), .ref (a 82), .ref (a 83), .ref (a 84), .ref (a 85), .ref (a 86), .ref (a 87), .ref (a 88), .ref (a 89), .ref (a 90), .ref (a 94)]))] H := hP
  have hD : va_D A [(a 80, .inr (0, [.int v80_0, .int p0, .int v80_2, .int v80_3, .int v80_4, .int v80_5, .int v80_6, .int v80_7, .ref (a 81), .ref (a 82), .ref (a 83), .ref (a 84), .ref (a 85), .ref (a 86), .ref (a 87), .ref (a 88), .ref (a 89), .ref (a 90), .ref (a 94)]))] := hD
  refine lv_aload_n hx hb dX0_open_5 rfl (lv_at hl 0 rfl) ?_
  refine lv_iload_n hx hb dX0_open_6 rfl (lv_at hl 2 rfl) ?_
  refine va_put (D := D) (ci := 0) (v := .int p1) (ty := .int) (C := RX0) (T := TX0) (N := 19) hx hb hts iX0 tyX0 tyX0_ok nmX0 hown hK hP hD hS 0 rfl rfl 2 (by decide) (hts _ m_125) (fun _ h9 => h9) rfl (tyX0_ok 2 (by decide)) rfl rfl (Nat.le_of_ble_eq_true rfl) dX0_open_7 (fun H locs hP hD hS => ?_)
  have hP : va_P D classes [(a 80, .inr (0, [.int v80_0, .int p0, .int p1, .int v80_3, .int v80_4, .int v80_5, .int v80_6, .int v80_7, .ref (a 81), .ref (a 82), .ref (a 83), .ref (a 84), .ref (a 85), .ref (a 86), .ref (a 87), .ref (a 88), .ref (a 89), .ref (a 90), .ref (a 94)]))] H := hP
  have hD : va_D A [(a 80, .inr (0, [.int v80_0, .int p0, .int p1, .int v80_3, .int v80_4, .int v80_5, .int v80_6, .int v80_7, .ref (a 81), .ref (a 82), .ref (a 83), .ref (a 84), .ref (a 85), .ref (a 86), .ref (a 87), .ref (a 88), .ref (a 89), .ref (a 90), .ref (a 94)]))] := hD
  refine lv_aload_n hx hb dX0_open_10 rfl (lv_at hl 0 rfl) ?_
  refine lv_iload_n hx hb dX0_open_11 rfl (lv_at hl 3 rfl) ?_
  refine va_put (D := D) (ci := 0) (v := .int p2) (ty := .int) (C := RX0) (T := TX0) (N := 19) hx hb hts iX0 tyX0 tyX0_ok nmX0 hown hK hP hD hS 0 rfl rfl 3 (by decide) (hts _ m_129) (fun _ h9 => h9) rfl (tyX0_ok 3 (by decide)) rfl rfl (Nat.le_of_ble_eq_true rfl) dX0_open_12 (fun H locs hP hD hS => ?_)
  have hP : va_P D classes [(a 80, .inr (0, [.int v80_0, .int p0, .int p1, .int p2, .int v80_4, .int v80_5, .int v80_6, .int v80_7, .ref (a 81), .ref (a 82), .ref (a 83), .ref (a 84), .ref (a 85), .ref (a 86), .ref (a 87), .ref (a 88), .ref (a 89), .ref (a 90), .ref (a 94)]))] H := hP
  have hD : va_D A [(a 80, .inr (0, [.int v80_0, .int p0, .int p1, .int p2, .int v80_4, .int v80_5, .int v80_6, .int v80_7, .ref (a 81), .ref (a 82), .ref (a 83), .ref (a 84), .ref (a 85), .ref (a 86), .ref (a 87), .ref (a 88), .ref (a 89), .ref (a 90), .ref (a 94)]))] := hD
  refine lv_aload_n hx hb dX0_open_15 rfl (lv_at hl 0 rfl) ?_
  refine lv_iload hx hb dX0_open_16 (lv_at hl 4 rfl) ?_
  refine va_put (D := D) (ci := 0) (v := .int p3) (ty := .int) (C := RX0) (T := TX0) (N := 19) hx hb hts iX0 tyX0 tyX0_ok nmX0 hown hK hP hD hS 0 rfl rfl 4 (by decide) (hts _ m_132) (fun _ h9 => h9) rfl (tyX0_ok 4 (by decide)) rfl rfl (Nat.le_of_ble_eq_true rfl) dX0_open_18 (fun H locs hP hD hS => ?_)
  have hP : va_P D classes [(a 80, .inr (0, [.int v80_0, .int p0, .int p1, .int p2, .int p3, .int v80_5, .int v80_6, .int v80_7, .ref (a 81), .ref (a 82), .ref (a 83), .ref (a 84), .ref (a 85), .ref (a 86), .ref (a 87), .ref (a 88), .ref (a 89), .ref (a 90), .ref (a 94)]))] H := hP
  have hD : va_D A [(a 80, .inr (0, [.int v80_0, .int p0, .int p1, .int p2, .int p3, .int v80_5, .int v80_6, .int v80_7, .ref (a 81), .ref (a 82), .ref (a 83), .ref (a 84), .ref (a 85), .ref (a 86), .ref (a 87), .ref (a 88), .ref (a 89), .ref (a 90), .ref (a 94)]))] := hD
  have hP9 := hP.sub (ws' := [(a 80, .inr (0, [.int v80_0, .int p0, .int p1, .int p2, .int p3, .int v80_5, .int v80_6, .int v80_7, .ref (a 81), .ref (a 82), .ref (a 83), .ref (a 84), .ref (a 85), .ref (a 86), .ref (a 87), .ref (a 88), .ref (a 89), .ref (a 90), .ref (a 94)]))]) [0] rfl
  have hD9 := hD.sub (ws' := [(a 80, .inr (0, [.int v80_0, .int p0, .int p1, .int p2, .int p3, .int v80_5, .int v80_6, .int v80_7, .ref (a 81), .ref (a 82), .ref (a 83), .ref (a 84), .ref (a 85), .ref (a 86), .ref (a 87), .ref (a 88), .ref (a 89), .ref (a 90), .ref (a 94)]))]) [0] (by decide) rfl
  exact W.vret hx hb hr (fun t9 ht hW => ⟨⟨(fun k => [p0, p1, p2, p3].getD k 0, fun k => [].getD k (fun _ => 0), fun k => [].getD k (fun _ => 0), fun _ => 0), rfl, rp0, by rw [ht]; exact hP9, hD9⟩, hS.F ht⟩) hS.2.2 dX0_open_21

set_option maxHeartbeats 4000000 in
set_option maxRecDepth 100000 in
theorem s_X0_open_100 (l : Launch) (D : va_G) (t : Nat → ClassId) (a : Nat → Nat) (v100_0 : Int32) (v100_1 : Int32) (v100_2 : Int32) (v100_3 : Int32) (v100_4 : Int32) (v100_5 : Int32) (v100_6 : Int32) (v100_7 : Int32) (p0 : Int32) (p1 : Int32) (p2 : Int32) (p3 : Int32) (r100_1 : rg 0 8 v100_1) (r100_5 : rg 0 4 v100_5) (r100_6 : rg 0 9 v100_6) (r100_7 : rg 0 9 v100_7) (rp0 : rg 0 8 p0) (sz : Nat) : Met l yX0_open (wd yX0_open cX0_open 5 none) (RM 0 0 0) (PreW D (TY t) [.ref (a 100), .int p0, .int p1, .int p2, .int p3] [(a 100, .inr (0, [.int v100_0, .int v100_1, .int v100_2, .int v100_3, .int v100_4, .int v100_5, .int v100_6, .int v100_7, .ref (a 101), .ref (a 102), .ref (a 103), .ref (a 104), .ref (a 105), .ref (a 106), .ref (a 107), .ref (a 108), .ref (a 109), .ref (a 110), .ref (a 114)]))] sz) (va_Qv (fun (u : US) => rg 0 8 (u.1 0)) (fun (u : US) t9 => va_P D classes ((fun u : US => [(a 100, .inr (0, [.int v100_0, .int (u.1 0), .int (u.1 1), .int (u.1 2), .int (u.1 3), .int v100_5, .int v100_6, .int v100_7, .ref (a 101), .ref (a 102), .ref (a 103), .ref (a 104), .ref (a 105), .ref (a 106), .ref (a 107), .ref (a 108), .ref (a 109), .ref (a 110), .ref (a 114)]))]) u) t9.heap ∧ va_D (va_A [(a 100, .inr (0, [.int v100_0, .int v100_1, .int v100_2, .int v100_3, .int v100_4, .int v100_5, .int v100_6, .int v100_7, .ref (a 101), .ref (a 102), .ref (a 103), .ref (a 104), .ref (a 105), .ref (a 106), .ref (a 107), .ref (a 108), .ref (a 109), .ref (a 110), .ref (a 114)]))] sz) ((fun u : US => [(a 100, .inr (0, [.int v100_0, .int (u.1 0), .int (u.1 1), .int (u.1 2), .int (u.1 3), .int v100_5, .int v100_6, .int v100_7, .ref (a 101), .ref (a 102), .ref (a 103), .ref (a 104), .ref (a 105), .ref (a 106), .ref (a 107), .ref (a 108), .ref (a 109), .ref (a 110), .ref (a 114)]))]) u)) (va_A [(a 100, .inr (0, [.int v100_0, .int v100_1, .int v100_2, .int v100_3, .int v100_4, .int v100_5, .int v100_6, .int v100_7, .ref (a 101), .ref (a 102), .ref (a 103), .ref (a 104), .ref (a 105), .ref (a 106), .ref (a 107), .ref (a 108), .ref (a 109), .ref (a 110), .ref (a 114)]))] sz)) 0 0 (va_A [(a 100, .inr (0, [.int v100_0, .int v100_1, .int v100_2, .int v100_3, .int v100_4, .int v100_5, .int v100_6, .int v100_7, .ref (a 101), .ref (a 102), .ref (a 103), .ref (a 104), .ref (a 105), .ref (a 106), .ref (a 107), .ref (a 108), .ref (a 109), .ref (a 110), .ref (a 114)]))] sz) := by
  refine Met.ofW (cc := cX0_open) (maxL := 5) (ret := none) (by decide) rfl ?_
  intro p e s m args below meth c s₁ B hml hv
  obtain ⟨rfl, hsz, hP, hK, hD0, hN⟩ := hv
  have hx := B.exec
  have hb := B.bytes
  have hr := B.returns
  have hts : ∀ w ∈ TB, w.before _ s = true := fun w h => atoms_spec (ws := wd yX0_open cX0_open 5 none) B.pre w (List.mem_cons_of_mem _ h)
  have hown : s.vm.findClass RX0 = some m.cls := findClass_of_methodNamed B.named
  have hlocks := B.notSynchronized
  have hF : CallFix p m c cX0_open 5 s _ TB RX0 := ⟨hx, hb, hml, hown, hts⟩
  have hl := lv_entry ([.ref (a 100), .int p0, .int p1, .int p2, .int p3]) (n := 5) (Nat.le_of_ble_eq_true rfl)
  rw [lg_entry_eq]
  generalize (lg_sl ([.ref (a 100), .int p0, .int p1, .int p2, .int p3]) ++ List.replicate (5 - (lg_sl ([.ref (a 100), .int p0, .int p1, .int p2, .int p3])).length) Slot.unset).toArray = ls at hl ⊢
  have hl : lv_has ls 5 [(0, .ref (a 100)), (1, .int p0), (2, .int p1), (3, .int p2), (4, .int p3)] := hl
  subst hsz
  have hD := hD0.self (sz := s.heap.size)
  generalize hAe : va_A [(a 100, .inr (0, [.int v100_0, .int v100_1, .int v100_2, .int v100_3, .int v100_4, .int v100_5, .int v100_6, .int v100_7, .ref (a 101), .ref (a 102), .ref (a 103), .ref (a 104), .ref (a 105), .ref (a 106), .ref (a 107), .ref (a 108), .ref (a 109), .ref (a 110), .ref (a 114)]))] s.heap.size = A at hD ⊢
  have hA : ∀ q : Nat, s.heap.size ≤ q → A q := fun q h => by rw [← hAe]; exact Or.inr h
  have hS : va_S A s.heap s.heap [] := va_S.rf
  have hP : va_P D classes [(a 100, .inr (0, [.int v100_0, .int v100_1, .int v100_2, .int v100_3, .int v100_4, .int v100_5, .int v100_6, .int v100_7, .ref (a 101), .ref (a 102), .ref (a 103), .ref (a 104), .ref (a 105), .ref (a 106), .ref (a 107), .ref (a 108), .ref (a 109), .ref (a 110), .ref (a 114)]))] s.heap := hP
  refine lv_aload_n hx hb dX0_open_0 rfl (lv_at hl 0 rfl) ?_
  refine lv_iload_n hx hb dX0_open_1 rfl (lv_at hl 1 rfl) ?_
  refine va_put (D := D) (ci := 0) (v := .int p0) (ty := .int) (C := RX0) (T := TX0) (N := 19) hx hb hts iX0 tyX0 tyX0_ok nmX0 hown hK hP hD hS 0 rfl rfl 1 (by decide) (hts _ m_121) (fun _ h9 => h9) rfl (tyX0_ok 1 (by decide)) rfl rfl (Nat.le_of_ble_eq_true rfl) dX0_open_2 (fun H locs hP hD hS => ?_)
  have hP : va_P D classes [(a 100, .inr (0, [.int v100_0, .int p0, .int v100_2, .int v100_3, .int v100_4, .int v100_5, .int v100_6, .int v100_7, .ref (a 101), .ref (a 102), .ref (a 103), .ref (a 104), .ref (a 105), .ref (a 106), .ref (a 107), .ref (a 108), .ref (a 109), .ref (a 110), .ref (a 114)]))] H := hP
  have hD : va_D A [(a 100, .inr (0, [.int v100_0, .int p0, .int v100_2, .int v100_3, .int v100_4, .int v100_5, .int v100_6, .int v100_7, .ref (a 101), .ref (a 102), .ref (a 103), .ref (a 104), .ref (a 105), .ref (a 106), .ref (a 107), .ref (a 108), .ref (a 109), .ref (a 110), .ref (a 114)]))] := hD
  refine lv_aload_n hx hb dX0_open_5 rfl (lv_at hl 0 rfl) ?_
  refine lv_iload_n hx hb dX0_open_6 rfl (lv_at hl 2 rfl) ?_
  refine va_put (D := D) (ci := 0) (v := .int p1) (ty := .int) (C := RX0) (T := TX0) (N := 19) hx hb hts iX0 tyX0 tyX0_ok nmX0 hown hK hP hD hS 0 rfl rfl 2 (by decide) (hts _ m_125) (fun _ h9 => h9) rfl (tyX0_ok 2 (by decide)) rfl rfl (Nat.le_of_ble_eq_true rfl) dX0_open_7 (fun H locs hP hD hS => ?_)
  have hP : va_P D classes [(a 100, .inr (0, [.int v100_0, .int p0, .int p1, .int v100_3, .int v100_4, .int v100_5, .int v100_6, .int v100_7, .ref (a 101), .ref (a 102), .ref (a 103), .ref (a 104), .ref (a 105), .ref (a 106), .ref (a 107), .ref (a 108), .ref (a 109), .ref (a 110), .ref (a 114)]))] H := hP
  have hD : va_D A [(a 100, .inr (0, [.int v100_0, .int p0, .int p1, .int v100_3, .int v100_4, .int v100_5, .int v100_6, .int v100_7, .ref (a 101), .ref (a 102), .ref (a 103), .ref (a 104), .ref (a 105), .ref (a 106), .ref (a 107), .ref (a 108), .ref (a 109), .ref (a 110), .ref (a 114)]))] := hD
  refine lv_aload_n hx hb dX0_open_10 rfl (lv_at hl 0 rfl) ?_
  refine lv_iload_n hx hb dX0_open_11 rfl (lv_at hl 3 rfl) ?_
  refine va_put (D := D) (ci := 0) (v := .int p2) (ty := .int) (C := RX0) (T := TX0) (N := 19) hx hb hts iX0 tyX0 tyX0_ok nmX0 hown hK hP hD hS 0 rfl rfl 3 (by decide) (hts _ m_129) (fun _ h9 => h9) rfl (tyX0_ok 3 (by decide)) rfl rfl (Nat.le_of_ble_eq_true rfl) dX0_open_12 (fun H locs hP hD hS => ?_)
  have hP : va_P D classes [(a 100, .inr (0, [.int v100_0, .int p0, .int p1, .int p2, .int v100_4, .int v100_5, .int v100_6, .int v100_7, .ref (a 101), .ref (a 102), .ref (a 103), .ref (a 104), .ref (a 105), .ref (a 106), .ref (a 107), .ref (a 108), .ref (a 109), .ref (a 110), .ref (a 114)]))] H := hP
  have hD : va_D A [(a 100, .inr (0, [.int v100_0, .int p0, .int p1, .int p2, .int v100_4, .int v100_5, .int v100_6, .int v100_7, .ref (a 101), .ref (a 102), .ref (a 103), .ref (a 104), .ref (a 105), .ref (a 106), .ref (a 107), .ref (a 108), .ref (a 109), .ref (a 110), .ref (a 114)]))] := hD
  refine lv_aload_n hx hb dX0_open_15 rfl (lv_at hl 0 rfl) ?_
  refine lv_iload hx hb dX0_open_16 (lv_at hl 4 rfl) ?_
  refine va_put (D := D) (ci := 0) (v := .int p3) (ty := .int) (C := RX0) (T := TX0) (N := 19) hx hb hts iX0 tyX0 tyX0_ok nmX0 hown hK hP hD hS 0 rfl rfl 4 (by decide) (hts _ m_132) (fun _ h9 => h9) rfl (tyX0_ok 4 (by decide)) rfl rfl (Nat.le_of_ble_eq_true rfl) dX0_open_18 (fun H locs hP hD hS => ?_)
  have hP : va_P D classes [(a 100, .inr (0, [.int v100_0, .int p0, .int p1, .int p2, .int p3, .int v100_5, .int v100_6, .int v100_7, .ref (a 101), .ref (a 102), .ref (a 103), .ref (a 104), .ref (a 105), .ref (a 106), .ref (a 107), .ref (a 108), .ref (a 109), .ref (a 110), .ref (a 114)]))] H := hP
  have hD : va_D A [(a 100, .inr (0, [.int v100_0, .int p0, .int p1, .int p2, .int p3, .int v100_5, .int v100_6, .int v100_7, .ref (a 101), .ref (a 102), .ref (a 103), .ref (a 104), .ref (a 105), .ref (a 106), .ref (a 107), .ref (a 108), .ref (a 109), .ref (a 110), .ref (a 114)]))] := hD
  have hP9 := hP.sub (ws' := [(a 100, .inr (0, [.int v100_0, .int p0, .int p1, .int p2, .int p3, .int v100_5, .int v100_6, .int v100_7, .ref (a 101), .ref (a 102), .ref (a 103), .ref (a 104), .ref (a 105), .ref (a 106), .ref (a 107), .ref (a 108), .ref (a 109), .ref (a 110), .ref (a 114)]))]) [0] rfl
  have hD9 := hD.sub (ws' := [(a 100, .inr (0, [.int v100_0, .int p0, .int p1, .int p2, .int p3, .int v100_5, .int v100_6, .int v100_7, .ref (a 101), .ref (a 102), .ref (a 103), .ref (a 104), .ref (a 105), .ref (a 106), .ref (a 107), .ref (a 108), .ref (a 109), .ref (a 110), .ref (a 114)]))]) [0] (by decide) rfl
  exact W.vret hx hb hr (fun t9 ht hW => ⟨⟨(fun k => [p0, p1, p2, p3].getD k 0, fun k => [].getD k (fun _ => 0), fun k => [].getD k (fun _ => 0), fun _ => 0), rfl, rp0, by rw [ht]; exact hP9, hD9⟩, hS.F ht⟩) hS.2.2 dX0_open_21

set_option maxHeartbeats 4000000 in
set_option maxRecDepth 100000 in
theorem s_X9_clear_34 (l : Launch) (D : va_G) (t : Nat → ClassId) (a : Nat → Nat) (v34_0 : Int32) (v34_1 : Int32) (v34_2 : Int32) (f35 : Nat → Int32) (r34_0 : rg 0 60 v34_0) (sz : Nat) : Met l yX9_clear (wd yX9_clear cX9_clear 1 none) (RM 1 0 0) (PreW D (TY t) [.ref (a 34)] [(a 34, .inr (9, [.int v34_0, .int v34_1, .int v34_2, .ref (a 35), .ref (a 36), .ref (a 37), .ref (a 38)])), (a 35, .inl (t 0, 9, .inl f35))] sz) (va_Qv (fun (u : US) => rg 0 60 (u.1 0)) (fun (u : US) t9 => va_P D classes ((fun u : US => [(a 34, .inr (9, [.int (u.1 0), .int (u.1 1), .int (u.1 2), .ref (a 35), .ref (a 36), .ref (a 37), .ref (a 38)])), (a 35, .inl (t 0, 9, .inl (u.2.1 0)))]) u) t9.heap ∧ va_D (va_A [(a 34, .inr (9, [.int v34_0, .int v34_1, .int v34_2, .ref (a 35), .ref (a 36), .ref (a 37), .ref (a 38)])), (a 35, .inl (t 0, 9, .inl f35))] sz) ((fun u : US => [(a 34, .inr (9, [.int (u.1 0), .int (u.1 1), .int (u.1 2), .ref (a 35), .ref (a 36), .ref (a 37), .ref (a 38)])), (a 35, .inl (t 0, 9, .inl (u.2.1 0)))]) u)) (va_A [(a 34, .inr (9, [.int v34_0, .int v34_1, .int v34_2, .ref (a 35), .ref (a 36), .ref (a 37), .ref (a 38)])), (a 35, .inl (t 0, 9, .inl f35))] sz)) 0 0 (va_A [(a 34, .inr (9, [.int v34_0, .int v34_1, .int v34_2, .ref (a 35), .ref (a 36), .ref (a 37), .ref (a 38)])), (a 35, .inl (t 0, 9, .inl f35))] sz) := by
  refine Met.ofW (cc := cX9_clear) (maxL := 1) (ret := none) (by decide) rfl ?_
  intro p e s m args below meth c s₁ B hml hv
  obtain ⟨rfl, hsz, hP, hK, hD0, hN⟩ := hv
  have hx := B.exec
  have hb := B.bytes
  have hr := B.returns
  have hts : ∀ w ∈ TB, w.before _ s = true := fun w h => atoms_spec (ws := wd yX9_clear cX9_clear 1 none) B.pre w (List.mem_cons_of_mem _ h)
  have hown : s.vm.findClass RX9 = some m.cls := findClass_of_methodNamed B.named
  have hlocks := B.notSynchronized
  have hF : CallFix p m c cX9_clear 1 s _ TB RX9 := ⟨hx, hb, hml, hown, hts⟩
  have hl := lv_entry ([.ref (a 34)]) (n := 1) (Nat.le_of_ble_eq_true rfl)
  rw [lg_entry_eq]
  generalize (lg_sl ([.ref (a 34)]) ++ List.replicate (1 - (lg_sl ([.ref (a 34)])).length) Slot.unset).toArray = ls at hl ⊢
  have hl : lv_has ls 1 [(0, .ref (a 34))] := hl
  subst hsz
  have hD := hD0.self (sz := s.heap.size)
  generalize hAe : va_A [(a 34, .inr (9, [.int v34_0, .int v34_1, .int v34_2, .ref (a 35), .ref (a 36), .ref (a 37), .ref (a 38)])), (a 35, .inl (t 0, 9, .inl f35))] s.heap.size = A at hD ⊢
  have hA : ∀ q : Nat, s.heap.size ≤ q → A q := fun q h => by rw [← hAe]; exact Or.inr h
  have hS : va_S A s.heap s.heap [] := va_S.rf
  have hP : va_P D classes [(a 34, .inr (9, [.int v34_0, .int v34_1, .int v34_2, .ref (a 35), .ref (a 36), .ref (a 37), .ref (a 38)])), (a 35, .inl (t 0, 9, .inl f35))] s.heap := hP
  refine lv_aload_n hx hb dX9_clear_0 rfl (lv_at hl 0 rfl) ?_
  refine lv_iconst (v := 0) hx hb dX9_clear_1 (by decide) ?_
  refine va_put (D := D) (ci := 9) (v := .int 0) (ty := .int) (C := RX9) (T := TX9) (N := 7) hx hb hts iX9 tyX9 tyX9_ok nmX9 hown hK hP hD hS 0 rfl rfl 0 (by decide) (hts _ m_85) (fun _ h9 => h9) rfl (tyX9_ok 0 (by decide)) rfl rfl (Nat.le_of_ble_eq_true rfl) dX9_clear_2 (fun H locs hP hD hS => ?_)
  have hP : va_P D classes [(a 34, .inr (9, [.int 0, .int v34_1, .int v34_2, .ref (a 35), .ref (a 36), .ref (a 37), .ref (a 38)])), (a 35, .inl (t 0, 9, .inl f35))] H := hP
  have hD : va_D A [(a 34, .inr (9, [.int 0, .int v34_1, .int v34_2, .ref (a 35), .ref (a 36), .ref (a 37), .ref (a 38)])), (a 35, .inl (t 0, 9, .inl f35))] := hD
  refine lv_aload_n hx hb dX9_clear_5 rfl (lv_at hl 0 rfl) ?_
  refine lv_iconst (v := 0) hx hb dX9_clear_6 (by decide) ?_
  refine va_put (D := D) (ci := 9) (v := .int 0) (ty := .int) (C := RX9) (T := TX9) (N := 7) hx hb hts iX9 tyX9 tyX9_ok nmX9 hown hK hP hD hS 0 rfl rfl 1 (by decide) (hts _ m_87) (fun _ h9 => h9) rfl (tyX9_ok 1 (by decide)) rfl rfl (Nat.le_of_ble_eq_true rfl) dX9_clear_7 (fun H locs hP hD hS => ?_)
  have hP : va_P D classes [(a 34, .inr (9, [.int 0, .int 0, .int v34_2, .ref (a 35), .ref (a 36), .ref (a 37), .ref (a 38)])), (a 35, .inl (t 0, 9, .inl f35))] H := hP
  have hD : va_D A [(a 34, .inr (9, [.int 0, .int 0, .int v34_2, .ref (a 35), .ref (a 36), .ref (a 37), .ref (a 38)])), (a 35, .inl (t 0, 9, .inl f35))] := hD
  refine lv_aload_n hx hb dX9_clear_10 rfl (lv_at hl 0 rfl) ?_
  refine lv_iconst (v := 0) hx hb dX9_clear_11 (by decide) ?_
  refine va_put (D := D) (ci := 9) (v := .int 0) (ty := .int) (C := RX9) (T := TX9) (N := 7) hx hb hts iX9 tyX9 tyX9_ok nmX9 hown hK hP hD hS 0 rfl rfl 2 (by decide) (hts _ m_91) (fun _ h9 => h9) rfl (tyX9_ok 2 (by decide)) rfl rfl (Nat.le_of_ble_eq_true rfl) dX9_clear_12 (fun H locs hP hD hS => ?_)
  have hP : va_P D classes [(a 34, .inr (9, [.int 0, .int 0, .int 0, .ref (a 35), .ref (a 36), .ref (a 37), .ref (a 38)])), (a 35, .inl (t 0, 9, .inl f35))] H := hP
  have hD : va_D A [(a 34, .inr (9, [.int 0, .int 0, .int 0, .ref (a 35), .ref (a 36), .ref (a 37), .ref (a 38)])), (a 35, .inl (t 0, 9, .inl f35))] := hD
  refine lv_aload_n hx hb dX9_clear_15 rfl (lv_at hl 0 rfl) ?_
  refine va_get (D := D) (ci := 9) (v := .ref (a 35)) (C := RX9) (T := TX9) (N := 7) hx hb hts iX9 hown hK hP 0 rfl rfl 3 (by decide) (hts _ m_96) (fun _ h9 => h9) rfl dX9_clear_16 ?_
  refine lv_iconst (v := 0) hx hb dX9_clear_19 (by decide) ?_
  refine y_wS (wr := [(a 34, .inr (9, [.int 0, .int 0, .int 0, .ref (a 35), .ref (a 36), .ref (a 37), .ref (a 38)]))]) hF (s_fill_35 l D t a f35 0 H.size) m_506 m_507 m_14 m_508 hd_J7_fill_53178 ⟨Nat.le_of_ble_eq_true rfl, Nat.le_of_ble_eq_true rfl⟩ hK hN hP hD hS hA [1] [0] rfl rfl (by decide) (by decide) (by decide) hl.1 rfl (Nat.le_of_ble_eq_true rfl) dX9_clear_20 ⟨Nat.zero_le _, Nat.zero_le _⟩ (fun u_1 H locs hu_1 hP hD hS => ?_)
  have hP : va_P D classes [(a 34, .inr (9, [.int 0, .int 0, .int 0, .ref (a 35), .ref (a 36), .ref (a 37), .ref (a 38)])), (a 35, .inl (t 0, 9, .inl (u_1.2.1 0)))] H := hP
  have hD : va_D A [(a 34, .inr (9, [.int 0, .int 0, .int 0, .ref (a 35), .ref (a 36), .ref (a 37), .ref (a 38)])), (a 35, .inl (t 0, 9, .inl (u_1.2.1 0)))] := hD
  have hP9 := hP.sub (ws' := [(a 34, .inr (9, [.int 0, .int 0, .int 0, .ref (a 35), .ref (a 36), .ref (a 37), .ref (a 38)])), (a 35, .inl (t 0, 9, .inl (u_1.2.1 0)))]) [0, 1] rfl
  have hD9 := hD.sub (ws' := [(a 34, .inr (9, [.int 0, .int 0, .int 0, .ref (a 35), .ref (a 36), .ref (a 37), .ref (a 38)])), (a 35, .inl (t 0, 9, .inl (u_1.2.1 0)))]) [0, 1] (by decide) rfl
  exact W.vret hx hb hr (fun t9 ht hW => ⟨⟨(fun k => [0, 0, 0].getD k 0, fun k => [(u_1.2.1 0)].getD k (fun _ => 0), fun k => [].getD k (fun _ => 0), fun _ => 0), rfl, (rg_w (c := 0) (d := 60) (rg_c (x := 0) (k := 0) (by decide)) (by decide) (by decide)), by rw [ht]; exact hP9, hD9⟩, hS.F ht⟩) hS.2.2 dX9_clear_23

set_option maxHeartbeats 4000000 in
set_option maxRecDepth 100000 in
theorem s_X0_clear_20 (l : Launch) (D : va_G) (t : Nat → ClassId) (a : Nat → Nat) (v20_0 : Int32) (v20_1 : Int32) (v20_2 : Int32) (v20_3 : Int32) (v20_4 : Int32) (v20_5 : Int32) (v20_6 : Int32) (v20_7 : Int32) (v30_0 : Int32) (v34_0 : Int32) (v34_1 : Int32) (v34_2 : Int32) (f35 : Nat → Int32) (r20_1 : rg 0 8 v20_1) (r20_5 : rg 0 4 v20_5) (r20_6 : rg 0 9 v20_6) (r20_7 : rg 0 9 v20_7) (r30_0 : rg 0 8 v30_0) (r34_0 : rg 0 60 v34_0) (sz : Nat) : Met l yX0_clear (wd yX0_clear cX0_clear 1 none) (RM 2 0 0) (PreW D (TY t) [.ref (a 20)] [(a 20, .inr (0, [.int v20_0, .int v20_1, .int v20_2, .int v20_3, .int v20_4, .int v20_5, .int v20_6, .int v20_7, .ref (a 21), .ref (a 22), .ref (a 23), .ref (a 24), .ref (a 25), .ref (a 26), .ref (a 27), .ref (a 28), .ref (a 29), .ref (a 30), .ref (a 34)])), (a 30, .inr (5, [.int v30_0, .ref (a 31), .ref (a 32), .ref (a 33)])), (a 34, .inr (9, [.int v34_0, .int v34_1, .int v34_2, .ref (a 35), .ref (a 36), .ref (a 37), .ref (a 38)])), (a 35, .inl (t 0, 9, .inl f35))] sz) (va_Qv (fun (u : US) => rg 0 8 (u.1 1) ∧ rg 0 4 (u.1 5) ∧ rg 0 9 (u.1 6) ∧ rg 0 9 (u.1 7) ∧ rg 0 8 (u.1 8) ∧ rg 0 60 (u.1 9)) (fun (u : US) t9 => va_P D classes ((fun u : US => [(a 20, .inr (0, [.int (u.1 0), .int (u.1 1), .int (u.1 2), .int (u.1 3), .int (u.1 4), .int (u.1 5), .int (u.1 6), .int (u.1 7), .ref (a 21), .ref (a 22), .ref (a 23), .ref (a 24), .ref (a 25), .ref (a 26), .ref (a 27), .ref (a 28), .ref (a 29), .ref (a 30), .ref (a 34)])), (a 30, .inr (5, [.int (u.1 8), .ref (a 31), .ref (a 32), .ref (a 33)])), (a 34, .inr (9, [.int (u.1 9), .int (u.1 10), .int (u.1 11), .ref (a 35), .ref (a 36), .ref (a 37), .ref (a 38)])), (a 35, .inl (t 0, 9, .inl (u.2.1 0)))]) u) t9.heap ∧ va_D (va_A [(a 20, .inr (0, [.int v20_0, .int v20_1, .int v20_2, .int v20_3, .int v20_4, .int v20_5, .int v20_6, .int v20_7, .ref (a 21), .ref (a 22), .ref (a 23), .ref (a 24), .ref (a 25), .ref (a 26), .ref (a 27), .ref (a 28), .ref (a 29), .ref (a 30), .ref (a 34)])), (a 30, .inr (5, [.int v30_0, .ref (a 31), .ref (a 32), .ref (a 33)])), (a 34, .inr (9, [.int v34_0, .int v34_1, .int v34_2, .ref (a 35), .ref (a 36), .ref (a 37), .ref (a 38)])), (a 35, .inl (t 0, 9, .inl f35))] sz) ((fun u : US => [(a 20, .inr (0, [.int (u.1 0), .int (u.1 1), .int (u.1 2), .int (u.1 3), .int (u.1 4), .int (u.1 5), .int (u.1 6), .int (u.1 7), .ref (a 21), .ref (a 22), .ref (a 23), .ref (a 24), .ref (a 25), .ref (a 26), .ref (a 27), .ref (a 28), .ref (a 29), .ref (a 30), .ref (a 34)])), (a 30, .inr (5, [.int (u.1 8), .ref (a 31), .ref (a 32), .ref (a 33)])), (a 34, .inr (9, [.int (u.1 9), .int (u.1 10), .int (u.1 11), .ref (a 35), .ref (a 36), .ref (a 37), .ref (a 38)])), (a 35, .inl (t 0, 9, .inl (u.2.1 0)))]) u)) (va_A [(a 20, .inr (0, [.int v20_0, .int v20_1, .int v20_2, .int v20_3, .int v20_4, .int v20_5, .int v20_6, .int v20_7, .ref (a 21), .ref (a 22), .ref (a 23), .ref (a 24), .ref (a 25), .ref (a 26), .ref (a 27), .ref (a 28), .ref (a 29), .ref (a 30), .ref (a 34)])), (a 30, .inr (5, [.int v30_0, .ref (a 31), .ref (a 32), .ref (a 33)])), (a 34, .inr (9, [.int v34_0, .int v34_1, .int v34_2, .ref (a 35), .ref (a 36), .ref (a 37), .ref (a 38)])), (a 35, .inl (t 0, 9, .inl f35))] sz)) 0 0 (va_A [(a 20, .inr (0, [.int v20_0, .int v20_1, .int v20_2, .int v20_3, .int v20_4, .int v20_5, .int v20_6, .int v20_7, .ref (a 21), .ref (a 22), .ref (a 23), .ref (a 24), .ref (a 25), .ref (a 26), .ref (a 27), .ref (a 28), .ref (a 29), .ref (a 30), .ref (a 34)])), (a 30, .inr (5, [.int v30_0, .ref (a 31), .ref (a 32), .ref (a 33)])), (a 34, .inr (9, [.int v34_0, .int v34_1, .int v34_2, .ref (a 35), .ref (a 36), .ref (a 37), .ref (a 38)])), (a 35, .inl (t 0, 9, .inl f35))] sz) := by
  refine Met.ofW (cc := cX0_clear) (maxL := 1) (ret := none) (by decide) rfl ?_
  intro p e s m args below meth c s₁ B hml hv
  obtain ⟨rfl, hsz, hP, hK, hD0, hN⟩ := hv
  have hx := B.exec
  have hb := B.bytes
  have hr := B.returns
  have hts : ∀ w ∈ TB, w.before _ s = true := fun w h => atoms_spec (ws := wd yX0_clear cX0_clear 1 none) B.pre w (List.mem_cons_of_mem _ h)
  have hown : s.vm.findClass RX0 = some m.cls := findClass_of_methodNamed B.named
  have hlocks := B.notSynchronized
  have hF : CallFix p m c cX0_clear 1 s _ TB RX0 := ⟨hx, hb, hml, hown, hts⟩
  have hl := lv_entry ([.ref (a 20)]) (n := 1) (Nat.le_of_ble_eq_true rfl)
  rw [lg_entry_eq]
  generalize (lg_sl ([.ref (a 20)]) ++ List.replicate (1 - (lg_sl ([.ref (a 20)])).length) Slot.unset).toArray = ls at hl ⊢
  have hl : lv_has ls 1 [(0, .ref (a 20))] := hl
  subst hsz
  have hD := hD0.self (sz := s.heap.size)
  generalize hAe : va_A [(a 20, .inr (0, [.int v20_0, .int v20_1, .int v20_2, .int v20_3, .int v20_4, .int v20_5, .int v20_6, .int v20_7, .ref (a 21), .ref (a 22), .ref (a 23), .ref (a 24), .ref (a 25), .ref (a 26), .ref (a 27), .ref (a 28), .ref (a 29), .ref (a 30), .ref (a 34)])), (a 30, .inr (5, [.int v30_0, .ref (a 31), .ref (a 32), .ref (a 33)])), (a 34, .inr (9, [.int v34_0, .int v34_1, .int v34_2, .ref (a 35), .ref (a 36), .ref (a 37), .ref (a 38)])), (a 35, .inl (t 0, 9, .inl f35))] s.heap.size = A at hD ⊢
  have hA : ∀ q : Nat, s.heap.size ≤ q → A q := fun q h => by rw [← hAe]; exact Or.inr h
  have hS : va_S A s.heap s.heap [] := va_S.rf
  have hP : va_P D classes [(a 20, .inr (0, [.int v20_0, .int v20_1, .int v20_2, .int v20_3, .int v20_4, .int v20_5, .int v20_6, .int v20_7, .ref (a 21), .ref (a 22), .ref (a 23), .ref (a 24), .ref (a 25), .ref (a 26), .ref (a 27), .ref (a 28), .ref (a 29), .ref (a 30), .ref (a 34)])), (a 30, .inr (5, [.int v30_0, .ref (a 31), .ref (a 32), .ref (a 33)])), (a 34, .inr (9, [.int v34_0, .int v34_1, .int v34_2, .ref (a 35), .ref (a 36), .ref (a 37), .ref (a 38)])), (a 35, .inl (t 0, 9, .inl f35))] s.heap := hP
  refine lv_aload_n hx hb dX0_clear_0 rfl (lv_at hl 0 rfl) ?_
  refine lv_iconst (v := 0) hx hb dX0_clear_1 (by decide) ?_
  refine va_put (D := D) (ci := 0) (v := .int 0) (ty := .int) (C := RX0) (T := TX0) (N := 19) hx hb hts iX0 tyX0 tyX0_ok nmX0 hown hK hP hD hS 0 rfl rfl 0 (by decide) (hts _ m_117) (fun _ h9 => h9) rfl (tyX0_ok 0 (by decide)) rfl rfl (Nat.le_of_ble_eq_true rfl) dX0_clear_2 (fun H locs hP hD hS => ?_)
  have hP : va_P D classes [(a 20, .inr (0, [.int 0, .int v20_1, .int v20_2, .int v20_3, .int v20_4, .int v20_5, .int v20_6, .int v20_7, .ref (a 21), .ref (a 22), .ref (a 23), .ref (a 24), .ref (a 25), .ref (a 26), .ref (a 27), .ref (a 28), .ref (a 29), .ref (a 30), .ref (a 34)])), (a 30, .inr (5, [.int v30_0, .ref (a 31), .ref (a 32), .ref (a 33)])), (a 34, .inr (9, [.int v34_0, .int v34_1, .int v34_2, .ref (a 35), .ref (a 36), .ref (a 37), .ref (a 38)])), (a 35, .inl (t 0, 9, .inl f35))] H := hP
  have hD : va_D A [(a 20, .inr (0, [.int 0, .int v20_1, .int v20_2, .int v20_3, .int v20_4, .int v20_5, .int v20_6, .int v20_7, .ref (a 21), .ref (a 22), .ref (a 23), .ref (a 24), .ref (a 25), .ref (a 26), .ref (a 27), .ref (a 28), .ref (a 29), .ref (a 30), .ref (a 34)])), (a 30, .inr (5, [.int v30_0, .ref (a 31), .ref (a 32), .ref (a 33)])), (a 34, .inr (9, [.int v34_0, .int v34_1, .int v34_2, .ref (a 35), .ref (a 36), .ref (a 37), .ref (a 38)])), (a 35, .inl (t 0, 9, .inl f35))] := hD
  refine lv_aload_n hx hb dX0_clear_5 rfl (lv_at hl 0 rfl) ?_
  refine lv_iconst (v := 0) hx hb dX0_clear_6 (by decide) ?_
  refine lv_iconst (v := 0) hx hb dX0_clear_7 (by decide) ?_
  refine lv_iconst (v := 0) hx hb dX0_clear_8 (by decide) ?_
  refine lv_iconst (v := 0) hx hb dX0_clear_9 (by decide) ?_
  refine y_wV (wr := [(a 30, .inr (5, [.int v30_0, .ref (a 31), .ref (a 32), .ref (a 33)])), (a 34, .inr (9, [.int v34_0, .int v34_1, .int v34_2, .ref (a 35), .ref (a 36), .ref (a 37), .ref (a 38)])), (a 35, .inl (t 0, 9, .inl f35))]) hF (s_X0_open_20 l D t a 0 v20_1 v20_2 v20_3 v20_4 v20_5 v20_6 v20_7 0 0 0 0 r20_1 r20_5 r20_6 r20_7 (rg_w (c := 0) (d := 8) (rg_c (x := 0) (k := 0) (by decide)) (by decide) (by decide)) H.size) m_498 m_499 m_500 m_3 m_501 hd_X0_open ⟨Nat.le_of_ble_eq_true rfl, Nat.le_of_ble_eq_true rfl⟩ hK hN hP hD hS hA 0 (ci := 0) rfl rfl rfl [0] [1, 2, 3] rfl rfl (by decide) (by decide) (by decide) hl.1 rfl (Nat.le_of_ble_eq_true rfl) dX0_clear_10 ⟨Nat.zero_le _, Nat.zero_le _⟩ (fun u_1 H locs hu_1 hP hD hS => ?_)
  have h_3 := hu_1
  have hP : va_P D classes [(a 30, .inr (5, [.int v30_0, .ref (a 31), .ref (a 32), .ref (a 33)])), (a 34, .inr (9, [.int v34_0, .int v34_1, .int v34_2, .ref (a 35), .ref (a 36), .ref (a 37), .ref (a 38)])), (a 35, .inl (t 0, 9, .inl f35)), (a 20, .inr (0, [.int 0, .int (u_1.1 0), .int (u_1.1 1), .int (u_1.1 2), .int (u_1.1 3), .int v20_5, .int v20_6, .int v20_7, .ref (a 21), .ref (a 22), .ref (a 23), .ref (a 24), .ref (a 25), .ref (a 26), .ref (a 27), .ref (a 28), .ref (a 29), .ref (a 30), .ref (a 34)]))] H := hP
  have hD : va_D A [(a 30, .inr (5, [.int v30_0, .ref (a 31), .ref (a 32), .ref (a 33)])), (a 34, .inr (9, [.int v34_0, .int v34_1, .int v34_2, .ref (a 35), .ref (a 36), .ref (a 37), .ref (a 38)])), (a 35, .inl (t 0, 9, .inl f35)), (a 20, .inr (0, [.int 0, .int (u_1.1 0), .int (u_1.1 1), .int (u_1.1 2), .int (u_1.1 3), .int v20_5, .int v20_6, .int v20_7, .ref (a 21), .ref (a 22), .ref (a 23), .ref (a 24), .ref (a 25), .ref (a 26), .ref (a 27), .ref (a 28), .ref (a 29), .ref (a 30), .ref (a 34)]))] := hD
  refine lv_aload_n hx hb dX0_clear_13 rfl (lv_at hl 0 rfl) ?_
  refine lv_iconst (v := 0) hx hb dX0_clear_14 (by decide) ?_
  refine va_put (D := D) (ci := 0) (v := .int 0) (ty := .int) (C := RX0) (T := TX0) (N := 19) hx hb hts iX0 tyX0 tyX0_ok nmX0 hown hK hP hD hS 3 rfl rfl 5 (by decide) (hts _ m_135) (fun _ h9 => h9) rfl (tyX0_ok 5 (by decide)) rfl rfl (Nat.le_of_ble_eq_true rfl) dX0_clear_15 (fun H locs hP hD hS => ?_)
  have hP : va_P D classes [(a 30, .inr (5, [.int v30_0, .ref (a 31), .ref (a 32), .ref (a 33)])), (a 34, .inr (9, [.int v34_0, .int v34_1, .int v34_2, .ref (a 35), .ref (a 36), .ref (a 37), .ref (a 38)])), (a 35, .inl (t 0, 9, .inl f35)), (a 20, .inr (0, [.int 0, .int (u_1.1 0), .int (u_1.1 1), .int (u_1.1 2), .int (u_1.1 3), .int 0, .int v20_6, .int v20_7, .ref (a 21), .ref (a 22), .ref (a 23), .ref (a 24), .ref (a 25), .ref (a 26), .ref (a 27), .ref (a 28), .ref (a 29), .ref (a 30), .ref (a 34)]))] H := hP
  have hD : va_D A [(a 30, .inr (5, [.int v30_0, .ref (a 31), .ref (a 32), .ref (a 33)])), (a 34, .inr (9, [.int v34_0, .int v34_1, .int v34_2, .ref (a 35), .ref (a 36), .ref (a 37), .ref (a 38)])), (a 35, .inl (t 0, 9, .inl f35)), (a 20, .inr (0, [.int 0, .int (u_1.1 0), .int (u_1.1 1), .int (u_1.1 2), .int (u_1.1 3), .int 0, .int v20_6, .int v20_7, .ref (a 21), .ref (a 22), .ref (a 23), .ref (a 24), .ref (a 25), .ref (a 26), .ref (a 27), .ref (a 28), .ref (a 29), .ref (a 30), .ref (a 34)]))] := hD
  refine lv_aload_n hx hb dX0_clear_18 rfl (lv_at hl 0 rfl) ?_
  refine lv_iconst (v := 0) hx hb dX0_clear_19 (by decide) ?_
  refine va_put (D := D) (ci := 0) (v := .int 0) (ty := .int) (C := RX0) (T := TX0) (N := 19) hx hb hts iX0 tyX0 tyX0_ok nmX0 hown hK hP hD hS 3 rfl rfl 6 (by decide) (hts _ m_142) (fun _ h9 => h9) rfl (tyX0_ok 6 (by decide)) rfl rfl (Nat.le_of_ble_eq_true rfl) dX0_clear_20 (fun H locs hP hD hS => ?_)
  have hP : va_P D classes [(a 30, .inr (5, [.int v30_0, .ref (a 31), .ref (a 32), .ref (a 33)])), (a 34, .inr (9, [.int v34_0, .int v34_1, .int v34_2, .ref (a 35), .ref (a 36), .ref (a 37), .ref (a 38)])), (a 35, .inl (t 0, 9, .inl f35)), (a 20, .inr (0, [.int 0, .int (u_1.1 0), .int (u_1.1 1), .int (u_1.1 2), .int (u_1.1 3), .int 0, .int 0, .int v20_7, .ref (a 21), .ref (a 22), .ref (a 23), .ref (a 24), .ref (a 25), .ref (a 26), .ref (a 27), .ref (a 28), .ref (a 29), .ref (a 30), .ref (a 34)]))] H := hP
  have hD : va_D A [(a 30, .inr (5, [.int v30_0, .ref (a 31), .ref (a 32), .ref (a 33)])), (a 34, .inr (9, [.int v34_0, .int v34_1, .int v34_2, .ref (a 35), .ref (a 36), .ref (a 37), .ref (a 38)])), (a 35, .inl (t 0, 9, .inl f35)), (a 20, .inr (0, [.int 0, .int (u_1.1 0), .int (u_1.1 1), .int (u_1.1 2), .int (u_1.1 3), .int 0, .int 0, .int v20_7, .ref (a 21), .ref (a 22), .ref (a 23), .ref (a 24), .ref (a 25), .ref (a 26), .ref (a 27), .ref (a 28), .ref (a 29), .ref (a 30), .ref (a 34)]))] := hD
  refine lv_aload_n hx hb dX0_clear_23 rfl (lv_at hl 0 rfl) ?_
  refine lv_iconst (v := 0) hx hb dX0_clear_24 (by decide) ?_
  refine va_put (D := D) (ci := 0) (v := .int 0) (ty := .int) (C := RX0) (T := TX0) (N := 19) hx hb hts iX0 tyX0 tyX0_ok nmX0 hown hK hP hD hS 3 rfl rfl 7 (by decide) (hts _ m_149) (fun _ h9 => h9) rfl (tyX0_ok 7 (by decide)) rfl rfl (Nat.le_of_ble_eq_true rfl) dX0_clear_25 (fun H locs hP hD hS => ?_)
  have hP : va_P D classes [(a 30, .inr (5, [.int v30_0, .ref (a 31), .ref (a 32), .ref (a 33)])), (a 34, .inr (9, [.int v34_0, .int v34_1, .int v34_2, .ref (a 35), .ref (a 36), .ref (a 37), .ref (a 38)])), (a 35, .inl (t 0, 9, .inl f35)), (a 20, .inr (0, [.int 0, .int (u_1.1 0), .int (u_1.1 1), .int (u_1.1 2), .int (u_1.1 3), .int 0, .int 0, .int 0, .ref (a 21), .ref (a 22), .ref (a 23), .ref (a 24), .ref (a 25), .ref (a 26), .ref (a 27), .ref (a 28), .ref (a 29), .ref (a 30), .ref (a 34)]))] H := hP
  have hD : va_D A [(a 30, .inr (5, [.int v30_0, .ref (a 31), .ref (a 32), .ref (a 33)])), (a 34, .inr (9, [.int v34_0, .int v34_1, .int v34_2, .ref (a 35), .ref (a 36), .ref (a 37), .ref (a 38)])), (a 35, .inl (t 0, 9, .inl f35)), (a 20, .inr (0, [.int 0, .int (u_1.1 0), .int (u_1.1 1), .int (u_1.1 2), .int (u_1.1 3), .int 0, .int 0, .int 0, .ref (a 21), .ref (a 22), .ref (a 23), .ref (a 24), .ref (a 25), .ref (a 26), .ref (a 27), .ref (a 28), .ref (a 29), .ref (a 30), .ref (a 34)]))] := hD
  refine lv_aload_n hx hb dX0_clear_28 rfl (lv_at hl 0 rfl) ?_
  refine va_get (D := D) (ci := 0) (v := .ref (a 30)) (C := RX0) (T := TX0) (N := 19) hx hb hts iX0 hown hK hP 3 rfl rfl 17 (by decide) (hts _ m_185) (fun _ h9 => h9) rfl dX0_clear_29 ?_
  refine lv_iconst (v := 0) hx hb dX0_clear_32 (by decide) ?_
  refine va_putN (D := D) (ci := 5) (v := .int 0) (ty := .int) (C := RX5) (T := TX5) (N := 4) (host := "WordSeats") hx hb hts iX5 tyX5 tyX5_ok nmX5 hown hK hP hD hS 0 rfl rfl 0 (by decide) (va_Nw.use rfl (hN _ n_59)) (fun _ h9 => h9) rfl (tyX5_ok 0 (by decide)) rfl rfl (Nat.le_of_ble_eq_true rfl) dX0_clear_33 (fun H locs hP hD hS => ?_)
  have hP : va_P D classes [(a 30, .inr (5, [.int 0, .ref (a 31), .ref (a 32), .ref (a 33)])), (a 34, .inr (9, [.int v34_0, .int v34_1, .int v34_2, .ref (a 35), .ref (a 36), .ref (a 37), .ref (a 38)])), (a 35, .inl (t 0, 9, .inl f35)), (a 20, .inr (0, [.int 0, .int (u_1.1 0), .int (u_1.1 1), .int (u_1.1 2), .int (u_1.1 3), .int 0, .int 0, .int 0, .ref (a 21), .ref (a 22), .ref (a 23), .ref (a 24), .ref (a 25), .ref (a 26), .ref (a 27), .ref (a 28), .ref (a 29), .ref (a 30), .ref (a 34)]))] H := hP
  have hD : va_D A [(a 30, .inr (5, [.int 0, .ref (a 31), .ref (a 32), .ref (a 33)])), (a 34, .inr (9, [.int v34_0, .int v34_1, .int v34_2, .ref (a 35), .ref (a 36), .ref (a 37), .ref (a 38)])), (a 35, .inl (t 0, 9, .inl f35)), (a 20, .inr (0, [.int 0, .int (u_1.1 0), .int (u_1.1 1), .int (u_1.1 2), .int (u_1.1 3), .int 0, .int 0, .int 0, .ref (a 21), .ref (a 22), .ref (a 23), .ref (a 24), .ref (a 25), .ref (a 26), .ref (a 27), .ref (a 28), .ref (a 29), .ref (a 30), .ref (a 34)]))] := hD
  refine lv_aload_n hx hb dX0_clear_36 rfl (lv_at hl 0 rfl) ?_
  refine va_get (D := D) (ci := 0) (v := .ref (a 34)) (C := RX0) (T := TX0) (N := 19) hx hb hts iX0 hown hK hP 3 rfl rfl 18 (by decide) (hts _ m_189) (fun _ h9 => h9) rfl dX0_clear_37 ?_
  refine y_wV (wr := [(a 30, .inr (5, [.int 0, .ref (a 31), .ref (a 32), .ref (a 33)])), (a 20, .inr (0, [.int 0, .int (u_1.1 0), .int (u_1.1 1), .int (u_1.1 2), .int (u_1.1 3), .int 0, .int 0, .int 0, .ref (a 21), .ref (a 22), .ref (a 23), .ref (a 24), .ref (a 25), .ref (a 26), .ref (a 27), .ref (a 28), .ref (a 29), .ref (a 30), .ref (a 34)]))]) hF (s_X9_clear_34 l D t a v34_0 v34_1 v34_2 f35 r34_0 H.size) m_502 m_503 m_504 m_5 m_505 hd_X9_clear ⟨Nat.le_of_ble_eq_true rfl, Nat.le_of_ble_eq_true rfl⟩ hK hN hP hD hS hA 0 (ci := 9) rfl rfl rfl [1, 2] [0, 3] rfl rfl (by decide) (by decide) (by decide) hl.1 rfl (Nat.le_of_ble_eq_true rfl) dX0_clear_40 ⟨Nat.zero_le _, Nat.zero_le _⟩ (fun u_4 H locs hu_4 hP hD hS => ?_)
  have h_6 := hu_4
  have hP : va_P D classes [(a 30, .inr (5, [.int 0, .ref (a 31), .ref (a 32), .ref (a 33)])), (a 20, .inr (0, [.int 0, .int (u_1.1 0), .int (u_1.1 1), .int (u_1.1 2), .int (u_1.1 3), .int 0, .int 0, .int 0, .ref (a 21), .ref (a 22), .ref (a 23), .ref (a 24), .ref (a 25), .ref (a 26), .ref (a 27), .ref (a 28), .ref (a 29), .ref (a 30), .ref (a 34)])), (a 34, .inr (9, [.int (u_4.1 0), .int (u_4.1 1), .int (u_4.1 2), .ref (a 35), .ref (a 36), .ref (a 37), .ref (a 38)])), (a 35, .inl (t 0, 9, .inl (u_4.2.1 0)))] H := hP
  have hD : va_D A [(a 30, .inr (5, [.int 0, .ref (a 31), .ref (a 32), .ref (a 33)])), (a 20, .inr (0, [.int 0, .int (u_1.1 0), .int (u_1.1 1), .int (u_1.1 2), .int (u_1.1 3), .int 0, .int 0, .int 0, .ref (a 21), .ref (a 22), .ref (a 23), .ref (a 24), .ref (a 25), .ref (a 26), .ref (a 27), .ref (a 28), .ref (a 29), .ref (a 30), .ref (a 34)])), (a 34, .inr (9, [.int (u_4.1 0), .int (u_4.1 1), .int (u_4.1 2), .ref (a 35), .ref (a 36), .ref (a 37), .ref (a 38)])), (a 35, .inl (t 0, 9, .inl (u_4.2.1 0)))] := hD
  have hP9 := hP.sub (ws' := [(a 20, .inr (0, [.int 0, .int (u_1.1 0), .int (u_1.1 1), .int (u_1.1 2), .int (u_1.1 3), .int 0, .int 0, .int 0, .ref (a 21), .ref (a 22), .ref (a 23), .ref (a 24), .ref (a 25), .ref (a 26), .ref (a 27), .ref (a 28), .ref (a 29), .ref (a 30), .ref (a 34)])), (a 30, .inr (5, [.int 0, .ref (a 31), .ref (a 32), .ref (a 33)])), (a 34, .inr (9, [.int (u_4.1 0), .int (u_4.1 1), .int (u_4.1 2), .ref (a 35), .ref (a 36), .ref (a 37), .ref (a 38)])), (a 35, .inl (t 0, 9, .inl (u_4.2.1 0)))]) [1, 0, 2, 3] rfl
  have hD9 := hD.sub (ws' := [(a 20, .inr (0, [.int 0, .int (u_1.1 0), .int (u_1.1 1), .int (u_1.1 2), .int (u_1.1 3), .int 0, .int 0, .int 0, .ref (a 21), .ref (a 22), .ref (a 23), .ref (a 24), .ref (a 25), .ref (a 26), .ref (a 27), .ref (a 28), .ref (a 29), .ref (a 30), .ref (a 34)])), (a 30, .inr (5, [.int 0, .ref (a 31), .ref (a 32), .ref (a 33)])), (a 34, .inr (9, [.int (u_4.1 0), .int (u_4.1 1), .int (u_4.1 2), .ref (a 35), .ref (a 36), .ref (a 37), .ref (a 38)])), (a 35, .inl (t 0, 9, .inl (u_4.2.1 0)))]) [1, 0, 2, 3] (by decide) rfl
  exact W.vret hx hb hr (fun t9 ht hW => ⟨⟨(fun k => [0, (u_1.1 0), (u_1.1 1), (u_1.1 2), (u_1.1 3), 0, 0, 0, 0, (u_4.1 0), (u_4.1 1), (u_4.1 2)].getD k 0, fun k => [(u_4.2.1 0)].getD k (fun _ => 0), fun k => [].getD k (fun _ => 0), fun _ => 0), rfl, ⟨h_3, (rg_w (c := 0) (d := 4) (rg_c (x := 0) (k := 0) (by decide)) (by decide) (by decide)), (rg_w (c := 0) (d := 9) (rg_c (x := 0) (k := 0) (by decide)) (by decide) (by decide)), (rg_w (c := 0) (d := 9) (rg_c (x := 0) (k := 0) (by decide)) (by decide) (by decide)), (rg_w (c := 0) (d := 8) (rg_c (x := 0) (k := 0) (by decide)) (by decide) (by decide)), h_6⟩, by rw [ht]; exact hP9, hD9⟩, hS.F ht⟩) hS.2.2 dX0_clear_43

set_option maxHeartbeats 4000000 in
set_option maxRecDepth 100000 in
theorem s_X0_addDistrict_20 (l : Launch) (D : va_G) (t : Nat → ClassId) (a : Nat → Nat) (v20_0 : Int32) (v20_1 : Int32) (v20_2 : Int32) (v20_3 : Int32) (v20_4 : Int32) (v20_5 : Int32) (v20_6 : Int32) (v20_7 : Int32) (f21 : Nat → Int32) (p0 : Int32) (r20_1 : rg 0 8 v20_1) (r20_5 : rg 0 4 v20_5) (r20_6 : rg 0 9 v20_6) (r20_7 : rg 0 9 v20_7) (sz : Nat) : Met l yX0_addDistrict (wd yX0_addDistrict cX0_addDistrict 2 none) (RM 0 0 0) (PreW D (TY t) [.ref (a 20), .int p0] [(a 20, .inr (0, [.int v20_0, .int v20_1, .int v20_2, .int v20_3, .int v20_4, .int v20_5, .int v20_6, .int v20_7, .ref (a 21), .ref (a 22), .ref (a 23), .ref (a 24), .ref (a 25), .ref (a 26), .ref (a 27), .ref (a 28), .ref (a 29), .ref (a 30), .ref (a 34)])), (a 21, .inl (t 0, 4, .inl f21))] sz) (va_Qv (fun (u : US) => rg 0 4 (u.1 0)) (fun (u : US) t9 => va_P D classes ((fun u : US => [(a 20, .inr (0, [.int v20_0, .int v20_1, .int v20_2, .int v20_3, .int v20_4, .int (u.1 0), .int v20_6, .int v20_7, .ref (a 21), .ref (a 22), .ref (a 23), .ref (a 24), .ref (a 25), .ref (a 26), .ref (a 27), .ref (a 28), .ref (a 29), .ref (a 30), .ref (a 34)])), (a 21, .inl (t 0, 4, .inl (u.2.1 0)))]) u) t9.heap ∧ va_D (va_A [(a 20, .inr (0, [.int v20_0, .int v20_1, .int v20_2, .int v20_3, .int v20_4, .int v20_5, .int v20_6, .int v20_7, .ref (a 21), .ref (a 22), .ref (a 23), .ref (a 24), .ref (a 25), .ref (a 26), .ref (a 27), .ref (a 28), .ref (a 29), .ref (a 30), .ref (a 34)])), (a 21, .inl (t 0, 4, .inl f21))] sz) ((fun u : US => [(a 20, .inr (0, [.int v20_0, .int v20_1, .int v20_2, .int v20_3, .int v20_4, .int (u.1 0), .int v20_6, .int v20_7, .ref (a 21), .ref (a 22), .ref (a 23), .ref (a 24), .ref (a 25), .ref (a 26), .ref (a 27), .ref (a 28), .ref (a 29), .ref (a 30), .ref (a 34)])), (a 21, .inl (t 0, 4, .inl (u.2.1 0)))]) u)) (va_A [(a 20, .inr (0, [.int v20_0, .int v20_1, .int v20_2, .int v20_3, .int v20_4, .int v20_5, .int v20_6, .int v20_7, .ref (a 21), .ref (a 22), .ref (a 23), .ref (a 24), .ref (a 25), .ref (a 26), .ref (a 27), .ref (a 28), .ref (a 29), .ref (a 30), .ref (a 34)])), (a 21, .inl (t 0, 4, .inl f21))] sz)) 0 0 (va_A [(a 20, .inr (0, [.int v20_0, .int v20_1, .int v20_2, .int v20_3, .int v20_4, .int v20_5, .int v20_6, .int v20_7, .ref (a 21), .ref (a 22), .ref (a 23), .ref (a 24), .ref (a 25), .ref (a 26), .ref (a 27), .ref (a 28), .ref (a 29), .ref (a 30), .ref (a 34)])), (a 21, .inl (t 0, 4, .inl f21))] sz) := by
  refine Met.ofW (cc := cX0_addDistrict) (maxL := 2) (ret := none) (by decide) rfl ?_
  intro p e s m args below meth c s₁ B hml hv
  obtain ⟨rfl, hsz, hP, hK, hD0, hN⟩ := hv
  have hx := B.exec
  have hb := B.bytes
  have hr := B.returns
  have hts : ∀ w ∈ TB, w.before _ s = true := fun w h => atoms_spec (ws := wd yX0_addDistrict cX0_addDistrict 2 none) B.pre w (List.mem_cons_of_mem _ h)
  have hown : s.vm.findClass RX0 = some m.cls := findClass_of_methodNamed B.named
  have hlocks := B.notSynchronized
  have hF : CallFix p m c cX0_addDistrict 2 s _ TB RX0 := ⟨hx, hb, hml, hown, hts⟩
  have hl := lv_entry ([.ref (a 20), .int p0]) (n := 2) (Nat.le_of_ble_eq_true rfl)
  rw [lg_entry_eq]
  generalize (lg_sl ([.ref (a 20), .int p0]) ++ List.replicate (2 - (lg_sl ([.ref (a 20), .int p0])).length) Slot.unset).toArray = ls at hl ⊢
  have hl : lv_has ls 2 [(0, .ref (a 20)), (1, .int p0)] := hl
  subst hsz
  have hD := hD0.self (sz := s.heap.size)
  generalize hAe : va_A [(a 20, .inr (0, [.int v20_0, .int v20_1, .int v20_2, .int v20_3, .int v20_4, .int v20_5, .int v20_6, .int v20_7, .ref (a 21), .ref (a 22), .ref (a 23), .ref (a 24), .ref (a 25), .ref (a 26), .ref (a 27), .ref (a 28), .ref (a 29), .ref (a 30), .ref (a 34)])), (a 21, .inl (t 0, 4, .inl f21))] s.heap.size = A at hD ⊢
  have hA : ∀ q : Nat, s.heap.size ≤ q → A q := fun q h => by rw [← hAe]; exact Or.inr h
  have hS : va_S A s.heap s.heap [] := va_S.rf
  have hP : va_P D classes [(a 20, .inr (0, [.int v20_0, .int v20_1, .int v20_2, .int v20_3, .int v20_4, .int v20_5, .int v20_6, .int v20_7, .ref (a 21), .ref (a 22), .ref (a 23), .ref (a 24), .ref (a 25), .ref (a 26), .ref (a 27), .ref (a 28), .ref (a 29), .ref (a 30), .ref (a 34)])), (a 21, .inl (t 0, 4, .inl f21))] s.heap := hP
  refine lv_aload_n hx hb dX0_addDistrict_0 rfl (lv_at hl 0 rfl) ?_
  refine va_get (D := D) (ci := 0) (v := .int v20_5) (C := RX0) (T := TX0) (N := 19) hx hb hts iX0 hown hK hP 0 rfl rfl 5 (by decide) (hts _ m_135) (fun _ h9 => h9) rfl dX0_addDistrict_1 ?_
  refine lv_iconst (v := 4) hx hb dX0_addDistrict_4 (by decide) ?_
  refine lv_icmp_ge (tgt := 28) hx hb dX0_addDistrict_5 (by decide) (fun c_1 => ?_) (fun c_1 => ?_)
  · skip
    have h_2 : rg 4 4 v20_5 := ⟨Int.le_trans (by decide) (c_leR c_1 (rg_c (x := 4) (k := 4) (by decide))), (r20_5).2⟩
    have hP9 := hP.sub (ws' := [(a 20, .inr (0, [.int v20_0, .int v20_1, .int v20_2, .int v20_3, .int v20_4, .int v20_5, .int v20_6, .int v20_7, .ref (a 21), .ref (a 22), .ref (a 23), .ref (a 24), .ref (a 25), .ref (a 26), .ref (a 27), .ref (a 28), .ref (a 29), .ref (a 30), .ref (a 34)])), (a 21, .inl (t 0, 4, .inl f21))]) [0, 1] rfl
    have hD9 := hD.sub (ws' := [(a 20, .inr (0, [.int v20_0, .int v20_1, .int v20_2, .int v20_3, .int v20_4, .int v20_5, .int v20_6, .int v20_7, .ref (a 21), .ref (a 22), .ref (a 23), .ref (a 24), .ref (a 25), .ref (a 26), .ref (a 27), .ref (a 28), .ref (a 29), .ref (a 30), .ref (a 34)])), (a 21, .inl (t 0, 4, .inl f21))]) [0, 1] (by decide) rfl
    exact W.vret hx hb hr (fun t9 ht hW => ⟨⟨(fun k => [v20_5].getD k 0, fun k => [f21].getD k (fun _ => 0), fun k => [].getD k (fun _ => 0), fun _ => 0), rfl, (rg_w (c := 0) (d := 4) h_2 (by decide) (by decide)), by rw [ht]; exact hP9, hD9⟩, hS.F ht⟩) hS.2.2 dX0_addDistrict_28
  · skip
    have h_3 : rg 0 3 v20_5 := ⟨(r20_5).1, Int.le_trans (c_nleR c_1 (rg_c (x := 4) (k := 4) (by decide))) (by decide)⟩
    refine lv_aload_n hx hb dX0_addDistrict_8 rfl (lv_at hl 0 rfl) ?_
    refine va_get (D := D) (ci := 0) (v := .ref (a 21)) (C := RX0) (T := TX0) (N := 19) hx hb hts iX0 hown hK hP 0 rfl rfl 8 (by decide) (hts _ m_153) (fun _ h9 => h9) rfl dX0_addDistrict_9 ?_
    refine lv_aload_n hx hb dX0_addDistrict_12 rfl (lv_at hl 0 rfl) ?_
    refine va_get (D := D) (ci := 0) (v := .int v20_5) (C := RX0) (T := TX0) (N := 19) hx hb hts iX0 hown hK hP 0 rfl rfl 5 (by decide) (hts _ m_135) (fun _ h9 => h9) rfl dX0_addDistrict_13 ?_
    refine lv_iload_n hx hb dX0_addDistrict_16 rfl (lv_at hl 1 rfl) ?_
    refine x_iast hx hb hK hP hD hS 1 0 rfl rfl (in_rg h_3 (by decide) (by decide)) dX0_addDistrict_17 (fun g_4 H locs hP hD hS => ?_)
    have hP : va_P D classes [(a 20, .inr (0, [.int v20_0, .int v20_1, .int v20_2, .int v20_3, .int v20_4, .int v20_5, .int v20_6, .int v20_7, .ref (a 21), .ref (a 22), .ref (a 23), .ref (a 24), .ref (a 25), .ref (a 26), .ref (a 27), .ref (a 28), .ref (a 29), .ref (a 30), .ref (a 34)])), (a 21, .inl (t 0, 4, .inl g_4))] H := hP
    have hD : va_D A [(a 20, .inr (0, [.int v20_0, .int v20_1, .int v20_2, .int v20_3, .int v20_4, .int v20_5, .int v20_6, .int v20_7, .ref (a 21), .ref (a 22), .ref (a 23), .ref (a 24), .ref (a 25), .ref (a 26), .ref (a 27), .ref (a 28), .ref (a 29), .ref (a 30), .ref (a 34)])), (a 21, .inl (t 0, 4, .inl g_4))] := hD
    refine lv_aload_n hx hb dX0_addDistrict_18 rfl (lv_at hl 0 rfl) ?_
    refine lv_dup hx hb dX0_addDistrict_19 rfl ?_
    refine va_get (D := D) (ci := 0) (v := .int v20_5) (C := RX0) (T := TX0) (N := 19) hx hb hts iX0 hown hK hP 0 rfl rfl 5 (by decide) (hts _ m_135) (fun _ h9 => h9) rfl dX0_addDistrict_20 ?_
    refine lv_iconst (v := 1) hx hb dX0_addDistrict_23 (by decide) ?_
    refine lv_iadd hx hb dX0_addDistrict_24 ?_
    refine lv_topi (fun x_5 ex_5 => ?_)
    have hx_5 : rg 1 4 x_5 := by rw [ex_5]; exact rg_add h_3 (rg_c (x := 1) (k := 1) (by decide)) (by decide) (by decide) (by decide) (by decide)
    refine va_put (D := D) (ci := 0) (v := .int x_5) (ty := .int) (C := RX0) (T := TX0) (N := 19) hx hb hts iX0 tyX0 tyX0_ok nmX0 hown hK hP hD hS 0 rfl rfl 5 (by decide) (hts _ m_135) (fun _ h9 => h9) rfl (tyX0_ok 5 (by decide)) rfl rfl (Nat.le_of_ble_eq_true rfl) dX0_addDistrict_25 (fun H locs hP hD hS => ?_)
    have hP : va_P D classes [(a 20, .inr (0, [.int v20_0, .int v20_1, .int v20_2, .int v20_3, .int v20_4, .int x_5, .int v20_6, .int v20_7, .ref (a 21), .ref (a 22), .ref (a 23), .ref (a 24), .ref (a 25), .ref (a 26), .ref (a 27), .ref (a 28), .ref (a 29), .ref (a 30), .ref (a 34)])), (a 21, .inl (t 0, 4, .inl g_4))] H := hP
    have hD : va_D A [(a 20, .inr (0, [.int v20_0, .int v20_1, .int v20_2, .int v20_3, .int v20_4, .int x_5, .int v20_6, .int v20_7, .ref (a 21), .ref (a 22), .ref (a 23), .ref (a 24), .ref (a 25), .ref (a 26), .ref (a 27), .ref (a 28), .ref (a 29), .ref (a 30), .ref (a 34)])), (a 21, .inl (t 0, 4, .inl g_4))] := hD
    have hP9 := hP.sub (ws' := [(a 20, .inr (0, [.int v20_0, .int v20_1, .int v20_2, .int v20_3, .int v20_4, .int x_5, .int v20_6, .int v20_7, .ref (a 21), .ref (a 22), .ref (a 23), .ref (a 24), .ref (a 25), .ref (a 26), .ref (a 27), .ref (a 28), .ref (a 29), .ref (a 30), .ref (a 34)])), (a 21, .inl (t 0, 4, .inl g_4))]) [0, 1] rfl
    have hD9 := hD.sub (ws' := [(a 20, .inr (0, [.int v20_0, .int v20_1, .int v20_2, .int v20_3, .int v20_4, .int x_5, .int v20_6, .int v20_7, .ref (a 21), .ref (a 22), .ref (a 23), .ref (a 24), .ref (a 25), .ref (a 26), .ref (a 27), .ref (a 28), .ref (a 29), .ref (a 30), .ref (a 34)])), (a 21, .inl (t 0, 4, .inl g_4))]) [0, 1] (by decide) rfl
    exact W.vret hx hb hr (fun t9 ht hW => ⟨⟨(fun k => [x_5].getD k 0, fun k => [g_4].getD k (fun _ => 0), fun k => [].getD k (fun _ => 0), fun _ => 0), rfl, (rg_w (c := 0) (d := 4) hx_5 (by decide) (by decide)), by rw [ht]; exact hP9, hD9⟩, hS.F ht⟩) hS.2.2 dX0_addDistrict_28

