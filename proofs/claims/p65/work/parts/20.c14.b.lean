set_option maxHeartbeats 4000000 in
set_option maxRecDepth 100000 in
theorem s_X1_countTheirs (l : Launch) (D : va_G) (t : Nat → ClassId) (a : Nat → Nat) (v17_4 : Int32) (v17_5 : Int32) (v40_0 : Int32) (v40_1 : Int32) (v40_2 : Int32) (v40_3 : Int32) (v40_4 : Int32) (v40_5 : Int32) (v40_6 : Int32) (v40_7 : Int32) (f127 : Nat → Int32) (f128 : Nat → Int32) (p0 : Int32) (r17_5 : rg 0 2147483647 v17_5) (r40_1 : rg 0 8 v40_1) (r40_5 : rg 1 4 v40_5) (r40_6 : rg 0 9 v40_6) (r40_7 : rg 0 6 v40_7) (q128 : ∀ j, j < 4 → rg 0 63 (f128 j)) (rp0 : rg 0 2147483647 p0) (sz : Nat) : Met l yX1_countTheirs (wd yX1_countTheirs cX1_countTheirs 5 (some .int)) (RM 1 0 0) (PreW D (TY t) [.ref (a 17), .int p0] [(a 17, .inr (1, [.ref (a 40), .ref (a 14), .ref (a 127), .ref (a 128), .int v17_4, .int v17_5])), (a 40, .inr (0, [.int v40_0, .int v40_1, .int v40_2, .int v40_3, .int v40_4, .int v40_5, .int v40_6, .int v40_7, .ref (a 41), .ref (a 42), .ref (a 43), .ref (a 44), .ref (a 45), .ref (a 46), .ref (a 47), .ref (a 48), .ref (a 49), .ref (a 50), .ref (a 54)])), (a 127, .inl (t 3, 256, .inl f127)), (a 128, .inl (t 0, 4, .inl f128))] sz) (va_Qi (fun (_ : Int32) (u : US) => (∀ j, j < 4 → rg 0 63 (u.2.1 0 j))) (fun (u : US) t9 => va_P D classes ((fun u : US => [(a 17, .inr (1, [.ref (a 40), .ref (a 14), .ref (a 127), .ref (a 128), .int v17_4, .int v17_5])), (a 40, .inr (0, [.int v40_0, .int v40_1, .int v40_2, .int v40_3, .int v40_4, .int v40_5, .int v40_6, .int v40_7, .ref (a 41), .ref (a 42), .ref (a 43), .ref (a 44), .ref (a 45), .ref (a 46), .ref (a 47), .ref (a 48), .ref (a 49), .ref (a 50), .ref (a 54)])), (a 127, .inl (t 3, 256, .inl f127)), (a 128, .inl (t 0, 4, .inl (u.2.1 0)))]) u) t9.heap ∧ va_D (va_A [(a 17, .inr (1, [.ref (a 40), .ref (a 14), .ref (a 127), .ref (a 128), .int v17_4, .int v17_5])), (a 40, .inr (0, [.int v40_0, .int v40_1, .int v40_2, .int v40_3, .int v40_4, .int v40_5, .int v40_6, .int v40_7, .ref (a 41), .ref (a 42), .ref (a 43), .ref (a 44), .ref (a 45), .ref (a 46), .ref (a 47), .ref (a 48), .ref (a 49), .ref (a 50), .ref (a 54)])), (a 127, .inl (t 3, 256, .inl f127)), (a 128, .inl (t 0, 4, .inl f128))] sz) ((fun u : US => [(a 17, .inr (1, [.ref (a 40), .ref (a 14), .ref (a 127), .ref (a 128), .int v17_4, .int v17_5])), (a 40, .inr (0, [.int v40_0, .int v40_1, .int v40_2, .int v40_3, .int v40_4, .int v40_5, .int v40_6, .int v40_7, .ref (a 41), .ref (a 42), .ref (a 43), .ref (a 44), .ref (a 45), .ref (a 46), .ref (a 47), .ref (a 48), .ref (a 49), .ref (a 50), .ref (a 54)])), (a 127, .inl (t 3, 256, .inl f127)), (a 128, .inl (t 0, 4, .inl (u.2.1 0)))]) u)) (va_A [(a 17, .inr (1, [.ref (a 40), .ref (a 14), .ref (a 127), .ref (a 128), .int v17_4, .int v17_5])), (a 40, .inr (0, [.int v40_0, .int v40_1, .int v40_2, .int v40_3, .int v40_4, .int v40_5, .int v40_6, .int v40_7, .ref (a 41), .ref (a 42), .ref (a 43), .ref (a 44), .ref (a 45), .ref (a 46), .ref (a 47), .ref (a 48), .ref (a 49), .ref (a 50), .ref (a 54)])), (a 127, .inl (t 3, 256, .inl f127)), (a 128, .inl (t 0, 4, .inl f128))] sz)) 0 0 (va_A [(a 17, .inr (1, [.ref (a 40), .ref (a 14), .ref (a 127), .ref (a 128), .int v17_4, .int v17_5])), (a 40, .inr (0, [.int v40_0, .int v40_1, .int v40_2, .int v40_3, .int v40_4, .int v40_5, .int v40_6, .int v40_7, .ref (a 41), .ref (a 42), .ref (a 43), .ref (a 44), .ref (a 45), .ref (a 46), .ref (a 47), .ref (a 48), .ref (a 49), .ref (a 50), .ref (a 54)])), (a 127, .inl (t 3, 256, .inl f127)), (a 128, .inl (t 0, 4, .inl f128))] sz) := by
  refine Met.ofW (cc := cX1_countTheirs) (maxL := 5) (ret := (some .int)) (by decide) rfl ?_
  intro p e s m args below meth c s₁ B hml hv
  obtain ⟨rfl, hsz, hP, hK, hD0, hN⟩ := hv
  have hx := B.exec
  have hb := B.bytes
  have hr := B.returns
  have hts : ∀ w ∈ TB, w.before _ s = true := fun w h => atoms_spec (ws := wd yX1_countTheirs cX1_countTheirs 5 (some .int)) B.pre w (List.mem_cons_of_mem _ h)
  have hown : s.vm.findClass RX1 = some m.cls := findClass_of_methodNamed B.named
  have hlocks := B.notSynchronized
  have hF : CallFix p m c cX1_countTheirs 5 s _ TB RX1 := ⟨hx, hb, hml, hown, hts⟩
  have hl := lv_entry ([.ref (a 17), .int p0]) (n := 5) (Nat.le_of_ble_eq_true rfl)
  rw [lg_entry_eq]
  generalize (lg_sl ([.ref (a 17), .int p0]) ++ List.replicate (5 - (lg_sl ([.ref (a 17), .int p0])).length) Slot.unset).toArray = ls at hl ⊢
  have hl : lv_has ls 5 [(0, .ref (a 17)), (1, .int p0)] := hl
  subst hsz
  have hD := hD0.self (sz := s.heap.size)
  generalize hAe : va_A [(a 17, .inr (1, [.ref (a 40), .ref (a 14), .ref (a 127), .ref (a 128), .int v17_4, .int v17_5])), (a 40, .inr (0, [.int v40_0, .int v40_1, .int v40_2, .int v40_3, .int v40_4, .int v40_5, .int v40_6, .int v40_7, .ref (a 41), .ref (a 42), .ref (a 43), .ref (a 44), .ref (a 45), .ref (a 46), .ref (a 47), .ref (a 48), .ref (a 49), .ref (a 50), .ref (a 54)])), (a 127, .inl (t 3, 256, .inl f127)), (a 128, .inl (t 0, 4, .inl f128))] s.heap.size = A at hD ⊢
  have hA : ∀ q : Nat, s.heap.size ≤ q → A q := fun q h => by rw [← hAe]; exact Or.inr h
  have hS : va_S A s.heap s.heap [] := va_S.rf
  have hP : va_P D classes [(a 17, .inr (1, [.ref (a 40), .ref (a 14), .ref (a 127), .ref (a 128), .int v17_4, .int v17_5])), (a 40, .inr (0, [.int v40_0, .int v40_1, .int v40_2, .int v40_3, .int v40_4, .int v40_5, .int v40_6, .int v40_7, .ref (a 41), .ref (a 42), .ref (a 43), .ref (a 44), .ref (a 45), .ref (a 46), .ref (a 47), .ref (a 48), .ref (a 49), .ref (a 50), .ref (a 54)])), (a 127, .inl (t 3, 256, .inl f127)), (a 128, .inl (t 0, 4, .inl f128))] s.heap := hP
  refine lv_aload_n hx hb dX1_countTheirs_0 rfl (lv_at hl 0 rfl) ?_
  refine va_get (D := D) (ci := 1) (v := .ref (a 128)) (C := RX1) (T := TX1) (N := 6) hx hb hts iX1 hown hK hP 0 rfl rfl 3 (by decide) (hts _ m_369) (fun _ h9 => h9) rfl dX1_countTheirs_1 ?_
  refine lv_iconst (v := 0) hx hb dX1_countTheirs_4 (by decide) ?_
  refine y_wS (wr := [(a 17, .inr (1, [.ref (a 40), .ref (a 14), .ref (a 127), .ref (a 128), .int v17_4, .int v17_5])), (a 40, .inr (0, [.int v40_0, .int v40_1, .int v40_2, .int v40_3, .int v40_4, .int v40_5, .int v40_6, .int v40_7, .ref (a 41), .ref (a 42), .ref (a 43), .ref (a 44), .ref (a 45), .ref (a 46), .ref (a 47), .ref (a 48), .ref (a 49), .ref (a 50), .ref (a 54)])), (a 127, .inl (t 3, 256, .inl f127))]) hF (s_fill_128 l D t a f128 0 q128 (rg_w (c := 0) (d := 63) (rg_c (x := 0) (k := 0) (by decide)) (by decide) (by decide)) s.heap.size) m_1203 m_507 m_14 m_508 hd_J7_fill_53178 ⟨Nat.le_of_ble_eq_true rfl, Nat.le_of_ble_eq_true rfl⟩ hK hN hP hD hS hA [3] [0, 1, 2] rfl rfl (by decide) (by decide) (by decide) hl.1 rfl (Nat.le_of_ble_eq_true rfl) dX1_countTheirs_5 ⟨Nat.zero_le _, Nat.zero_le _⟩ (fun u_1 H locs hu_1 hP hD hS => ?_)
  have h_3 := hu_1
  have hP : va_P D classes [(a 17, .inr (1, [.ref (a 40), .ref (a 14), .ref (a 127), .ref (a 128), .int v17_4, .int v17_5])), (a 40, .inr (0, [.int v40_0, .int v40_1, .int v40_2, .int v40_3, .int v40_4, .int v40_5, .int v40_6, .int v40_7, .ref (a 41), .ref (a 42), .ref (a 43), .ref (a 44), .ref (a 45), .ref (a 46), .ref (a 47), .ref (a 48), .ref (a 49), .ref (a 50), .ref (a 54)])), (a 127, .inl (t 3, 256, .inl f127)), (a 128, .inl (t 0, 4, .inl (u_1.2.1 0)))] H := hP
  have hD : va_D A [(a 17, .inr (1, [.ref (a 40), .ref (a 14), .ref (a 127), .ref (a 128), .int v17_4, .int v17_5])), (a 40, .inr (0, [.int v40_0, .int v40_1, .int v40_2, .int v40_3, .int v40_4, .int v40_5, .int v40_6, .int v40_7, .ref (a 41), .ref (a 42), .ref (a 43), .ref (a 44), .ref (a 45), .ref (a 46), .ref (a 47), .ref (a 48), .ref (a 49), .ref (a 50), .ref (a 54)])), (a 127, .inl (t 3, 256, .inl f127)), (a 128, .inl (t 0, 4, .inl (u_1.2.1 0)))] := hD
  refine lv_iload_n hx hb dX1_countTheirs_8 rfl (lv_at hl 1 rfl) ?_
  refine lv_istore_n (lv' := [(2, .int p0), (0, .ref (a 17)), (1, .int p0)]) hx hb dX1_countTheirs_9 rfl hl (by decide) rfl (fun ls hl => ?_)
  refine lv_aload_n hx hb dX1_countTheirs_10 rfl (lv_at hl 1 rfl) ?_
  refine va_get (D := D) (ci := 1) (v := .ref (a 40)) (C := RX1) (T := TX1) (N := 6) hx hb hts iX1 hown hK hP 0 rfl rfl 0 (by decide) (hts _ m_366) (fun _ h9 => h9) rfl dX1_countTheirs_11 ?_
  refine va_getN (D := D) (ci := 0) (v := .int v40_7) (C := RX0) (T := TX0) (N := 19) (host := "WordSeats") hx hb hts iX0 hown hK hP 1 rfl rfl 7 (by decide) (va_Nw.use rfl (hN _ n_147)) (fun _ h9 => h9) rfl dX1_countTheirs_14 ?_
  refine lv_iconst (v := 1) hx hb dX1_countTheirs_17 (by decide) ?_
  refine lv_isub hx hb dX1_countTheirs_18 ?_
  refine lv_topi (fun x_4 ex_4 => ?_)
  have hx_4 : rg (-1) 5 x_4 := by rw [ex_4]; exact rg_sub r40_7 (rg_c (x := 1) (k := 1) (by decide)) (by decide) (by decide) (by decide) (by decide)
  refine lv_istore_n (lv' := [(3, .int x_4), (2, .int p0), (0, .ref (a 17)), (1, .int p0)]) hx hb dX1_countTheirs_19 rfl hl (by decide) rfl (fun ls hl => ?_)
  refine loopW (α := US) (fun n y_5 H locs ls => (y_5.1 0).toInt < (-1) + (n : Int) ∧ rg (-1) 5 (y_5.1 0) ∧ rg 0 2147483647 (y_5.1 1) ∧ (∀ j, j < 4 → rg 0 63 ((y_5.2.1 0) j)) ∧ va_P D classes [(a 17, .inr (1, [.ref (a 40), .ref (a 14), .ref (a 127), .ref (a 128), .int v17_4, .int v17_5])), (a 40, .inr (0, [.int v40_0, .int v40_1, .int v40_2, .int v40_3, .int v40_4, .int v40_5, .int v40_6, .int v40_7, .ref (a 41), .ref (a 42), .ref (a 43), .ref (a 44), .ref (a 45), .ref (a 46), .ref (a 47), .ref (a 48), .ref (a 49), .ref (a 50), .ref (a 54)])), (a 127, .inl (t 3, 256, .inl f127)), (a 128, .inl (t 0, 4, .inl (y_5.2.1 0)))] H ∧ va_D A [(a 17, .inr (1, [.ref (a 40), .ref (a 14), .ref (a 127), .ref (a 128), .int v17_4, .int v17_5])), (a 40, .inr (0, [.int v40_0, .int v40_1, .int v40_2, .int v40_3, .int v40_4, .int v40_5, .int v40_6, .int v40_7, .ref (a 41), .ref (a 42), .ref (a 43), .ref (a 44), .ref (a 45), .ref (a 46), .ref (a 47), .ref (a 48), .ref (a 49), .ref (a 50), .ref (a 54)])), (a 127, .inl (t 3, 256, .inl f127)), (a 128, .inl (t 0, 4, .inl (y_5.2.1 0)))] ∧ va_S A s.heap H locs ∧ lv_has ls 5 [(3, .int (y_5.1 0)), (2, .int (y_5.1 1)), (0, .ref (a 17)), (1, .int p0)]) 20 (fun y_5 => []) (fun _ _ _ _ h9 => m_0d h9.1 h9.2.1) (fun n ih_9 y_5 H locs ls hI => ?_) 7 (fun k => [x_4, p0].getD k 0, fun k => [(u_1.2.1 0)].getD k (fun _ => 0), fun k => [].getD k (fun _ => 0), fun k => [].getD k 0) ⟨(m_id hx_4 (by decide)), hx_4, rp0, h_3, hP, hD, hS, (lv_sub hl [0, 1, 2, 3] rfl)⟩
  obtain ⟨me_10, h_6, h_7, h_8, hP, hD, hS, hl⟩ := hI
  refine lv_iload_n hx hb dX1_countTheirs_20 rfl (lv_at hl 0 rfl) ?_
  refine lv_if_lt (tgt := 60) hx hb dX1_countTheirs_21 (by decide) (fun c_11 => ?_) (fun c_11 => ?_)
  · skip
    have h_12 : rg (-1) (-1) (y_5.1 0) := ⟨(h_6).1, Int.le_trans (c_lt c_11 (rg_c (x := 0) (k := 0) (by decide))) (by decide)⟩
    refine lv_iconst (v := 0) hx hb dX1_countTheirs_60 (by decide) ?_
    refine lv_istore_n (lv' := [(3, .int 0), (2, .int (y_5.1 1)), (0, .ref (a 17)), (1, .int p0)]) hx hb dX1_countTheirs_61 rfl hl (by decide) rfl (fun ls hl => ?_)
    refine lv_iconst (v := 0) hx hb dX1_countTheirs_62 (by decide) ?_
    refine lv_istore (lv' := [(4, .int 0), (3, .int 0), (2, .int (y_5.1 1)), (0, .ref (a 17)), (1, .int p0)]) hx hb dX1_countTheirs_63 hl (by decide) rfl (fun ls hl => ?_)
    refine loopW (α := US) (fun n y_13 H locs ls => 4 < (y_13.1 0).toInt + (n : Int) ∧ rg 0 4 (y_13.1 0) ∧ va_P D classes [(a 17, .inr (1, [.ref (a 40), .ref (a 14), .ref (a 127), .ref (a 128), .int v17_4, .int v17_5])), (a 40, .inr (0, [.int v40_0, .int v40_1, .int v40_2, .int v40_3, .int v40_4, .int v40_5, .int v40_6, .int v40_7, .ref (a 41), .ref (a 42), .ref (a 43), .ref (a 44), .ref (a 45), .ref (a 46), .ref (a 47), .ref (a 48), .ref (a 49), .ref (a 50), .ref (a 54)])), (a 127, .inl (t 3, 256, .inl f127)), (a 128, .inl (t 0, 4, .inl (y_5.2.1 0)))] H ∧ va_D A [(a 17, .inr (1, [.ref (a 40), .ref (a 14), .ref (a 127), .ref (a 128), .int v17_4, .int v17_5])), (a 40, .inr (0, [.int v40_0, .int v40_1, .int v40_2, .int v40_3, .int v40_4, .int v40_5, .int v40_6, .int v40_7, .ref (a 41), .ref (a 42), .ref (a 43), .ref (a 44), .ref (a 45), .ref (a 46), .ref (a 47), .ref (a 48), .ref (a 49), .ref (a 50), .ref (a 54)])), (a 127, .inl (t 3, 256, .inl f127)), (a 128, .inl (t 0, 4, .inl (y_5.2.1 0)))] ∧ va_S A s.heap H locs ∧ lv_has ls 5 [(4, .int (y_13.1 0)), (3, .int (y_13.1 1)), (2, .int (y_5.1 1)), (0, .ref (a 17)), (1, .int p0)]) 65 (fun y_13 => []) (fun _ _ _ _ h9 => m_0 h9.1 h9.2.1) (fun n ih_15 y_13 H locs ls hI => ?_) 5 (fun k => [0, 0].getD k 0, fun k => [].getD k (fun _ => 0), fun k => [].getD k (fun _ => 0), fun k => [].getD k 0) ⟨(m_i (rg_c (x := 0) (k := 0) (by decide)) (by decide)), (rg_w (c := 0) (d := 4) (rg_c (x := 0) (k := 0) (by decide)) (by decide) (by decide)), hP, hD, hS, (lv_sub hl [0, 1, 2, 3, 4] rfl)⟩
    obtain ⟨me_16, h_14, hP, hD, hS, hl⟩ := hI
    refine lv_iload hx hb dX1_countTheirs_65 (lv_at hl 0 rfl) ?_
    refine lv_aload_n hx hb dX1_countTheirs_67 rfl (lv_at hl 3 rfl) ?_
    refine va_get (D := D) (ci := 1) (v := .ref (a 40)) (C := RX1) (T := TX1) (N := 6) hx hb hts iX1 hown hK hP 0 rfl rfl 0 (by decide) (hts _ m_366) (fun _ h9 => h9) rfl dX1_countTheirs_68 ?_
    refine va_getN (D := D) (ci := 0) (v := .int v40_5) (C := RX0) (T := TX0) (N := 19) (host := "WordSeats") hx hb hts iX0 hown hK hP 1 rfl rfl 5 (by decide) (va_Nw.use rfl (hN _ n_134)) (fun _ h9 => h9) rfl dX1_countTheirs_71 ?_
    refine lv_icmp_ge (tgt := 119) hx hb dX1_countTheirs_74 (by decide) (fun c_17 => ?_) (fun c_17 => ?_)
    · skip
      have h_18 : rg 1 4 (y_13.1 0) := ⟨Int.le_trans (by decide) (c_leR c_17 r40_5), (h_14).2⟩
      refine lv_iload_n hx hb dX1_countTheirs_119 rfl (lv_at hl 1 rfl) ?_
      have hP9 := hP.sub (ws' := [(a 17, .inr (1, [.ref (a 40), .ref (a 14), .ref (a 127), .ref (a 128), .int v17_4, .int v17_5])), (a 40, .inr (0, [.int v40_0, .int v40_1, .int v40_2, .int v40_3, .int v40_4, .int v40_5, .int v40_6, .int v40_7, .ref (a 41), .ref (a 42), .ref (a 43), .ref (a 44), .ref (a 45), .ref (a 46), .ref (a 47), .ref (a 48), .ref (a 49), .ref (a 50), .ref (a 54)])), (a 127, .inl (t 3, 256, .inl f127)), (a 128, .inl (t 0, 4, .inl (y_5.2.1 0)))]) [0, 1, 2, 3] rfl
      have hD9 := hD.sub (ws' := [(a 17, .inr (1, [.ref (a 40), .ref (a 14), .ref (a 127), .ref (a 128), .int v17_4, .int v17_5])), (a 40, .inr (0, [.int v40_0, .int v40_1, .int v40_2, .int v40_3, .int v40_4, .int v40_5, .int v40_6, .int v40_7, .ref (a 41), .ref (a 42), .ref (a 43), .ref (a 44), .ref (a 45), .ref (a 46), .ref (a 47), .ref (a 48), .ref (a 49), .ref (a 50), .ref (a 54)])), (a 127, .inl (t 3, 256, .inl f127)), (a 128, .inl (t 0, 4, .inl (y_5.2.1 0)))]) [0, 1, 2, 3] (by decide) rfl
      exact W.iret (v := (y_13.1 1)) hx hb hr (fun t9 ht hW => ⟨⟨(y_13.1 1), (fun k => [].getD k 0, fun k => [(y_5.2.1 0)].getD k (fun _ => 0), fun k => [].getD k (fun _ => 0), fun _ => 0), rfl, h_8, by rw [ht]; exact hP9, hD9⟩, hS.F ht⟩) hS.2.2 dX1_countTheirs_120
    · skip
      have h_19 : rg 0 3 (y_13.1 0) := ⟨(h_14).1, Int.le_trans (c_nleR c_17 r40_5) (by decide)⟩
      refine lv_aload_n hx hb dX1_countTheirs_77 rfl (lv_at hl 3 rfl) ?_
      refine va_get (D := D) (ci := 1) (v := .ref (a 128)) (C := RX1) (T := TX1) (N := 6) hx hb hts iX1 hown hK hP 0 rfl rfl 3 (by decide) (hts _ m_369) (fun _ h9 => h9) rfl dX1_countTheirs_78 ?_
      refine lv_iload hx hb dX1_countTheirs_81 (lv_at hl 0 rfl) ?_
      refine va_iald hx hb hK hP 3 0 rfl rfl (in_rg h_19 (by decide) (by decide)) dX1_countTheirs_83 ?_
      refine lv_topi (fun x_20 ex_20 => ?_)
      have hx_20 : rg 0 63 x_20 := by rw [ex_20]; exact h_8 _ (cl_rg h_19 (by decide) (by decide))
      refine lv_if_ne (tgt := 89) hx hb dX1_countTheirs_84 (by decide) (fun c_21 => ?_) (fun c_21 => ?_)
      · skip
        have h_22 : rg 1 63 x_20 := rg_w (rg_neL hx_20 c_21 (by decide)) (by decide) (by decide)
        refine lv_aload_n hx hb dX1_countTheirs_89 rfl (lv_at hl 3 rfl) ?_
        refine va_get (D := D) (ci := 1) (v := .ref (a 127)) (C := RX1) (T := TX1) (N := 6) hx hb hts iX1 hown hK hP 0 rfl rfl 2 (by decide) (hts _ m_368) (fun _ h9 => h9) rfl dX1_countTheirs_90 ?_
        refine lv_iload hx hb dX1_countTheirs_93 (lv_at hl 0 rfl) ?_
        refine lv_bipush (v := 6) hx hb dX1_countTheirs_95 (by decide) ?_
        refine lv_ishl hx hb dX1_countTheirs_97 ?_
        refine lv_topi (fun x_23 ex_23 => ?_)
        have hx_23 : rg 0 192 x_23 := by rw [ex_23]; exact rg_shlc (k := 6) h_19 (by decide) (by decide) (by decide) (by decide)
        refine lv_aload_n hx hb dX1_countTheirs_98 rfl (lv_at hl 3 rfl) ?_
        refine va_get (D := D) (ci := 1) (v := .ref (a 128)) (C := RX1) (T := TX1) (N := 6) hx hb hts iX1 hown hK hP 0 rfl rfl 3 (by decide) (hts _ m_369) (fun _ h9 => h9) rfl dX1_countTheirs_99 ?_
        refine lv_iload hx hb dX1_countTheirs_102 (lv_at hl 0 rfl) ?_
        refine va_iald hx hb hK hP 3 0 rfl rfl (in_rg h_19 (by decide) (by decide)) dX1_countTheirs_104 ?_
        refine lv_topi (fun x_24 ex_24 => ?_)
        have hx_24 : rg 0 63 x_24 := by rw [ex_24]; exact h_8 _ (cl_rg h_19 (by decide) (by decide))
        refine lv_iadd hx hb dX1_countTheirs_105 ?_
        refine lv_topi (fun x_25 ex_25 => ?_)
        have hx_25 : rg 0 255 x_25 := by rw [ex_25]; exact rg_add hx_23 hx_24 (by decide) (by decide) (by decide) (by decide)
        refine va_zald hx hb hK hP 2 3 rfl rfl (in_rg hx_25 (by decide) (by decide)) dX1_countTheirs_106 ?_
        refine lv_topi (fun x_26 ex_26 => ?_)
        refine lv_if_eq (tgt := 113) hx hb dX1_countTheirs_107 (by decide) (fun c_27 => ?_) (fun c_27 => ?_)
        · skip
          have h_28 : rg 0 0 x_26 := rg_eq c_27 (rg_c (x := 0) (k := 0) (by decide))
          obtain ⟨x_29, ex_29⟩ : ∃ y9 : Int32, y9 = (y_13.1 0) + 1 := ⟨_, rfl⟩
          have hx_29 : rg 1 4 x_29 := by rw [ex_29]; exact rg_add h_19 (rg_c (x := 1) (k := 1) (by decide)) (by decide) (by decide) (by decide) (by decide)
          have tx_29 : x_29.toInt = (y_13.1 0).toInt + 1 := by rw [ex_29]; exact inc_tk h_19 (by decide) (by decide) (by decide)
          refine lv_iinc (v := x_29) (lv' := [(4, .int x_29), (3, .int (y_13.1 1)), (2, .int (y_5.1 1)), (0, .ref (a 17)), (1, .int p0)]) hx hb dX1_countTheirs_113 hl (k := 0) rfl (by rw [ex_29]; rfl) (by decide) rfl (fun ls hl => ?_)
          refine lv_goto (tgt := 65) hx hb dX1_countTheirs_116 (by decide) ?_
          exact ih_15 (fun k => [x_29, (y_13.1 1)].getD k 0, fun k => [].getD k (fun _ => 0), fun k => [].getD k (fun _ => 0), fun k => [].getD k 0) _ _ ls ⟨(m_upk me_16 tx_29 (by decide)), (rg_w (c := 0) (d := 4) hx_29 (by decide) (by decide)), hP, hD, hS, (lv_sub hl [0, 1, 2, 3, 4] rfl)⟩
        · skip
          obtain ⟨x_30, ex_30⟩ : ∃ y9 : Int32, y9 = (y_13.1 1) + 1 := ⟨_, rfl⟩
          refine lv_iinc (v := x_30) (lv' := [(3, .int x_30), (4, .int (y_13.1 0)), (2, .int (y_5.1 1)), (0, .ref (a 17)), (1, .int p0)]) hx hb dX1_countTheirs_110 hl (k := 1) rfl (by rw [ex_30]; rfl) (by decide) rfl (fun ls hl => ?_)
          obtain ⟨x_31, ex_31⟩ : ∃ y9 : Int32, y9 = (y_13.1 0) + 1 := ⟨_, rfl⟩
          have hx_31 : rg 1 4 x_31 := by rw [ex_31]; exact rg_add h_19 (rg_c (x := 1) (k := 1) (by decide)) (by decide) (by decide) (by decide) (by decide)
          have tx_31 : x_31.toInt = (y_13.1 0).toInt + 1 := by rw [ex_31]; exact inc_tk h_19 (by decide) (by decide) (by decide)
          refine lv_iinc (v := x_31) (lv' := [(4, .int x_31), (3, .int x_30), (2, .int (y_5.1 1)), (0, .ref (a 17)), (1, .int p0)]) hx hb dX1_countTheirs_113 hl (k := 1) rfl (by rw [ex_31]; rfl) (by decide) rfl (fun ls hl => ?_)
          refine lv_goto (tgt := 65) hx hb dX1_countTheirs_116 (by decide) ?_
          exact ih_15 (fun k => [x_31, x_30].getD k 0, fun k => [].getD k (fun _ => 0), fun k => [].getD k (fun _ => 0), fun k => [].getD k 0) _ _ ls ⟨(m_upk me_16 tx_31 (by decide)), (rg_w (c := 0) (d := 4) hx_31 (by decide) (by decide)), hP, hD, hS, (lv_sub hl [0, 1, 2, 3, 4] rfl)⟩
      · skip
        have h_32 : rg 0 0 x_20 := rg_eq c_21 (rg_c (x := 0) (k := 0) (by decide))
        refine lv_iconst (v := (-1)) hx hb dX1_countTheirs_87 (by decide) ?_
        have hP9 := hP.sub (ws' := [(a 17, .inr (1, [.ref (a 40), .ref (a 14), .ref (a 127), .ref (a 128), .int v17_4, .int v17_5])), (a 40, .inr (0, [.int v40_0, .int v40_1, .int v40_2, .int v40_3, .int v40_4, .int v40_5, .int v40_6, .int v40_7, .ref (a 41), .ref (a 42), .ref (a 43), .ref (a 44), .ref (a 45), .ref (a 46), .ref (a 47), .ref (a 48), .ref (a 49), .ref (a 50), .ref (a 54)])), (a 127, .inl (t 3, 256, .inl f127)), (a 128, .inl (t 0, 4, .inl (y_5.2.1 0)))]) [0, 1, 2, 3] rfl
        have hD9 := hD.sub (ws' := [(a 17, .inr (1, [.ref (a 40), .ref (a 14), .ref (a 127), .ref (a 128), .int v17_4, .int v17_5])), (a 40, .inr (0, [.int v40_0, .int v40_1, .int v40_2, .int v40_3, .int v40_4, .int v40_5, .int v40_6, .int v40_7, .ref (a 41), .ref (a 42), .ref (a 43), .ref (a 44), .ref (a 45), .ref (a 46), .ref (a 47), .ref (a 48), .ref (a 49), .ref (a 50), .ref (a 54)])), (a 127, .inl (t 3, 256, .inl f127)), (a 128, .inl (t 0, 4, .inl (y_5.2.1 0)))]) [0, 1, 2, 3] (by decide) rfl
        exact W.iret (v := (-1)) hx hb hr (fun t9 ht hW => ⟨⟨(-1), (fun k => [].getD k 0, fun k => [(y_5.2.1 0)].getD k (fun _ => 0), fun k => [].getD k (fun _ => 0), fun _ => 0), rfl, h_8, by rw [ht]; exact hP9, hD9⟩, hS.F ht⟩) hS.2.2 dX1_countTheirs_88
  · skip
    have h_33 : rg 0 5 (y_5.1 0) := ⟨Int.le_trans (by decide) (c_nlt c_11 (rg_c (x := 0) (k := 0) (by decide))), (h_6).2⟩
    refine lv_aload_n hx hb dX1_countTheirs_24 rfl (lv_at hl 2 rfl) ?_
    refine va_get (D := D) (ci := 1) (v := .ref (a 128)) (C := RX1) (T := TX1) (N := 6) hx hb hts iX1 hown hK hP 0 rfl rfl 3 (by decide) (hts _ m_369) (fun _ h9 => h9) rfl dX1_countTheirs_25 ?_
    refine lv_iload_n hx hb dX1_countTheirs_28 rfl (lv_at hl 1 rfl) ?_
    refine lv_aload_n hx hb dX1_countTheirs_29 rfl (lv_at hl 2 rfl) ?_
    refine va_get (D := D) (ci := 1) (v := .ref (a 40)) (C := RX1) (T := TX1) (N := 6) hx hb hts iX1 hown hK hP 0 rfl rfl 0 (by decide) (hts _ m_366) (fun _ h9 => h9) rfl dX1_countTheirs_30 ?_
    refine va_getN (D := D) (ci := 0) (v := .int v40_5) (C := RX0) (T := TX0) (N := 19) (host := "WordSeats") hx hb hts iX0 hown hK hP 1 rfl rfl 5 (by decide) (va_Nw.use rfl (hN _ n_134)) (fun _ h9 => h9) rfl dX1_countTheirs_33 ?_
    refine lv_irem hx hb dX1_countTheirs_36 (ne0_rg r40_5) ?_
    refine lv_topi (fun x_34 ex_34 => ?_)
    have hx_34 : rg 0 3 x_34 := by rw [ex_34]; exact rg_rem h_7 r40_5 (by decide)
    refine lv_dup2_11 hx hb dX1_countTheirs_37 rfl rfl ?_
    refine va_iald hx hb hK hP 3 0 rfl rfl (in_rg hx_34 (by decide) (by decide)) dX1_countTheirs_38 ?_
    refine lv_topi (fun x_35 ex_35 => ?_)
    have hx_35 : rg 0 63 x_35 := by rw [ex_35]; exact h_8 _ (cl_rg hx_34 (by decide) (by decide))
    refine lv_iconst (v := 1) hx hb dX1_countTheirs_39 (by decide) ?_
    refine lv_iload_n hx hb dX1_countTheirs_40 rfl (lv_at hl 0 rfl) ?_
    refine lv_ishl hx hb dX1_countTheirs_41 ?_
    refine lv_topi (fun x_36 ex_36 => ?_)
    have hx_36 : rg 1 32 x_36 := by rw [ex_36]; exact rg_shl1 (b := 5) h_33 (by decide) (by decide)
    refine lv_ior hx hb dX1_countTheirs_42 ?_
    refine lv_topi (fun x_37 ex_37 => ?_)
    have hx_37 : rg 0 63 x_37 := by rw [ex_37]; exact rg_or (m := 6) hx_35 (rg_w (c := 0) (d := 63) hx_36 (by decide) (by decide)) (by decide) (by decide)
    refine y_iast hx hb hK hP hD hS 3 0 rfl rfl (in_rg hx_34 (by decide) (by decide)) dX1_countTheirs_43 (lo := 0) (hi := 63) h_8 hx_37 (fun g_38 H locs hg_38 hP hD hS => ?_)
    have hP : va_P D classes [(a 17, .inr (1, [.ref (a 40), .ref (a 14), .ref (a 127), .ref (a 128), .int v17_4, .int v17_5])), (a 40, .inr (0, [.int v40_0, .int v40_1, .int v40_2, .int v40_3, .int v40_4, .int v40_5, .int v40_6, .int v40_7, .ref (a 41), .ref (a 42), .ref (a 43), .ref (a 44), .ref (a 45), .ref (a 46), .ref (a 47), .ref (a 48), .ref (a 49), .ref (a 50), .ref (a 54)])), (a 127, .inl (t 3, 256, .inl f127)), (a 128, .inl (t 0, 4, .inl g_38))] H := hP
    have hD : va_D A [(a 17, .inr (1, [.ref (a 40), .ref (a 14), .ref (a 127), .ref (a 128), .int v17_4, .int v17_5])), (a 40, .inr (0, [.int v40_0, .int v40_1, .int v40_2, .int v40_3, .int v40_4, .int v40_5, .int v40_6, .int v40_7, .ref (a 41), .ref (a 42), .ref (a 43), .ref (a 44), .ref (a 45), .ref (a 46), .ref (a 47), .ref (a 48), .ref (a 49), .ref (a 50), .ref (a 54)])), (a 127, .inl (t 3, 256, .inl f127)), (a 128, .inl (t 0, 4, .inl g_38))] := hD
    refine lv_iload_n hx hb dX1_countTheirs_44 rfl (lv_at hl 1 rfl) ?_
    refine lv_aload_n hx hb dX1_countTheirs_45 rfl (lv_at hl 2 rfl) ?_
    refine va_get (D := D) (ci := 1) (v := .ref (a 40)) (C := RX1) (T := TX1) (N := 6) hx hb hts iX1 hown hK hP 0 rfl rfl 0 (by decide) (hts _ m_366) (fun _ h9 => h9) rfl dX1_countTheirs_46 ?_
    refine va_getN (D := D) (ci := 0) (v := .int v40_5) (C := RX0) (T := TX0) (N := 19) (host := "WordSeats") hx hb hts iX0 hown hK hP 1 rfl rfl 5 (by decide) (va_Nw.use rfl (hN _ n_134)) (fun _ h9 => h9) rfl dX1_countTheirs_49 ?_
    refine lv_idiv hx hb dX1_countTheirs_52 (ne0_rg r40_5) ?_
    refine lv_topi (fun x_39 ex_39 => ?_)
    have hx_39 : rg 0 2147483647 x_39 := by rw [ex_39]; exact rg_div h_7 r40_5
    refine lv_istore_n (lv' := [(2, .int x_39), (3, .int (y_5.1 0)), (0, .ref (a 17)), (1, .int p0)]) hx hb dX1_countTheirs_53 rfl hl (by decide) rfl (fun ls hl => ?_)
    obtain ⟨x_40, ex_40⟩ : ∃ y9 : Int32, y9 = (y_5.1 0) + (-1) := ⟨_, rfl⟩
    have hx_40 : rg (-1) 4 x_40 := by rw [ex_40]; exact rg_add h_33 (rg_c (x := (-1)) (k := (-1)) (by decide)) (by decide) (by decide) (by decide) (by decide)
    have tx_40 : x_40.toInt = (y_5.1 0).toInt + (-1) := by rw [ex_40]; exact inc_tk h_33 (by decide) (by decide) (by decide)
    refine lv_iinc (v := x_40) (lv' := [(3, .int x_40), (2, .int x_39), (0, .ref (a 17)), (1, .int p0)]) hx hb dX1_countTheirs_54 hl (k := 1) rfl (by rw [ex_40]; rfl) (by decide) rfl (fun ls hl => ?_)
    refine lv_goto (tgt := 20) hx hb dX1_countTheirs_57 (by decide) ?_
    exact ih_9 (fun k => [x_40, x_39].getD k 0, fun k => [g_38].getD k (fun _ => 0), fun k => [].getD k (fun _ => 0), fun k => [].getD k 0) _ _ ls ⟨(m_dnk me_10 tx_40 (by decide)), (rg_w (c := (-1)) (d := 5) hx_40 (by decide) (by decide)), hx_39, hg_38, hP, hD, hS, (lv_sub hl [0, 1, 2, 3] rfl)⟩

set_option maxHeartbeats 4000000 in
set_option maxRecDepth 100000 in
theorem s_X1_draw (l : Launch) (D : va_G) (t : Nat → ClassId) (a : Nat → Nat) (v14_1 : Int32) (v14_2 : Int32) (v14_3 : Int32) (v14_6 : Int32) (v14_8 : Int32) (v14_9 : Int32) (v14_10 : Int32) (v14_11 : Int32) (v14_12 : Int32) (v17_4 : Int32) (v17_5 : Int32) (v40_0 : Int32) (v40_1 : Int32) (v40_2 : Int32) (v40_3 : Int32) (v40_4 : Int32) (v40_5 : Int32) (v40_6 : Int32) (v40_7 : Int32) (f42 : Nat → Int32) (f43 : Nat → Int32) (f44 : Nat → Int32) (f45 : Nat → Int32) (f46 : Nat → Int32) (f47 : Nat → Int32) (f49 : Nat → Int32) (v54_0 : Int32) (v54_1 : Int32) (v54_2 : Int32) (f120 : Nat → Int32) (f121 : Nat → Int32) (f122 : Nat → Int32) (f127 : Nat → Int32) (f128 : Nat → Int32) (p0 : Int32) (r14_8 : rg 0 9 v14_8) (r14_9 : rg (-1) 8 v14_9) (r17_5 : rg 0 2147483647 v17_5) (r40_1 : rg 0 8 v40_1) (r40_5 : rg 0 4 v40_5) (r40_6 : rg 0 9 v40_6) (r40_7 : rg 0 9 v40_7) (q43 : ∀ j, j < 9 → rg 0 3 (f43 j)) (q44 : ∀ j, j < 9 → rg 0 3 (f44 j)) (r54_0 : rg 0 60 v54_0) (q128 : ∀ j, j < 4 → rg 0 63 (f128 j)) (rp0 : rg 0 3 p0) (sz : Nat) : Met l yX1_draw (wd yX1_draw cX1_draw 5 none) (RM 6 0 0) (PreW D (TY t) [.ref (a 17), .int p0] [(a 14, .inr (2, [.ref (a 40), .int v14_1, .int v14_2, .int v14_3, .ref (a 120), .ref (a 121), .int v14_6, .ref (a 122), .int v14_8, .int v14_9, .int v14_10, .int v14_11, .int v14_12])), (a 17, .inr (1, [.ref (a 40), .ref (a 14), .ref (a 127), .ref (a 128), .int v17_4, .int v17_5])), (a 40, .inr (0, [.int v40_0, .int v40_1, .int v40_2, .int v40_3, .int v40_4, .int v40_5, .int v40_6, .int v40_7, .ref (a 41), .ref (a 42), .ref (a 43), .ref (a 44), .ref (a 45), .ref (a 46), .ref (a 47), .ref (a 48), .ref (a 49), .ref (a 50), .ref (a 54)])), (a 42, .inl (t 0, 9, .inl f42)), (a 43, .inl (t 0, 9, .inl f43)), (a 44, .inl (t 0, 9, .inl f44)), (a 45, .inl (t 0, 9, .inl f45)), (a 46, .inl (t 0, 9, .inl f46)), (a 47, .inl (t 0, 9, .inl f47)), (a 49, .inl (t 0, 9, .inl f49)), (a 54, .inr (9, [.int v54_0, .int v54_1, .int v54_2, .ref (a 55), .ref (a 56), .ref (a 57), .ref (a 58)])), (a 120, .inl (t 0, 81, .inl f120)), (a 121, .inl (t 0, 9, .inl f121)), (a 122, .inl (t 0, 9, .inl f122)), (a 127, .inl (t 3, 256, .inl f127)), (a 128, .inl (t 0, 4, .inl f128))] sz) (va_Qv (fun (u : US) => rg 0 9 (u.1 4) ∧ rg (-1) 8 (u.1 5) ∧ rg 0 2147483647 (u.1 8) ∧ (∀ j, j < 4 → rg 0 63 (u.2.1 4 j))) (fun (u : US) t9 => va_P D classes ((fun u : US => [(a 14, .inr (2, [.ref (a 40), .int (u.1 0), .int (u.1 1), .int (u.1 2), .ref (a 120), .ref (a 121), .int (u.1 3), .ref (a 122), .int (u.1 4), .int (u.1 5), .int (u.1 6), .int v14_11, .int v14_12])), (a 17, .inr (1, [.ref (a 40), .ref (a 14), .ref (a 127), .ref (a 128), .int (u.1 7), .int (u.1 8)])), (a 40, .inr (0, [.int v40_0, .int v40_1, .int v40_2, .int v40_3, .int v40_4, .int v40_5, .int v40_6, .int v40_7, .ref (a 41), .ref (a 42), .ref (a 43), .ref (a 44), .ref (a 45), .ref (a 46), .ref (a 47), .ref (a 48), .ref (a 49), .ref (a 50), .ref (a 54)])), (a 42, .inl (t 0, 9, .inl f42)), (a 43, .inl (t 0, 9, .inl f43)), (a 44, .inl (t 0, 9, .inl f44)), (a 45, .inl (t 0, 9, .inl f45)), (a 46, .inl (t 0, 9, .inl f46)), (a 47, .inl (t 0, 9, .inl f47)), (a 49, .inl (t 0, 9, .inl f49)), (a 54, .inr (9, [.int v54_0, .int v54_1, .int v54_2, .ref (a 55), .ref (a 56), .ref (a 57), .ref (a 58)])), (a 120, .inl (t 0, 81, .inl (u.2.1 0))), (a 121, .inl (t 0, 9, .inl (u.2.1 1))), (a 122, .inl (t 0, 9, .inl (u.2.1 2))), (a 127, .inl (t 3, 256, .inl (u.2.1 3))), (a 128, .inl (t 0, 4, .inl (u.2.1 4)))]) u) t9.heap ∧ va_D (va_A [(a 14, .inr (2, [.ref (a 40), .int v14_1, .int v14_2, .int v14_3, .ref (a 120), .ref (a 121), .int v14_6, .ref (a 122), .int v14_8, .int v14_9, .int v14_10, .int v14_11, .int v14_12])), (a 17, .inr (1, [.ref (a 40), .ref (a 14), .ref (a 127), .ref (a 128), .int v17_4, .int v17_5])), (a 40, .inr (0, [.int v40_0, .int v40_1, .int v40_2, .int v40_3, .int v40_4, .int v40_5, .int v40_6, .int v40_7, .ref (a 41), .ref (a 42), .ref (a 43), .ref (a 44), .ref (a 45), .ref (a 46), .ref (a 47), .ref (a 48), .ref (a 49), .ref (a 50), .ref (a 54)])), (a 42, .inl (t 0, 9, .inl f42)), (a 43, .inl (t 0, 9, .inl f43)), (a 44, .inl (t 0, 9, .inl f44)), (a 45, .inl (t 0, 9, .inl f45)), (a 46, .inl (t 0, 9, .inl f46)), (a 47, .inl (t 0, 9, .inl f47)), (a 49, .inl (t 0, 9, .inl f49)), (a 54, .inr (9, [.int v54_0, .int v54_1, .int v54_2, .ref (a 55), .ref (a 56), .ref (a 57), .ref (a 58)])), (a 120, .inl (t 0, 81, .inl f120)), (a 121, .inl (t 0, 9, .inl f121)), (a 122, .inl (t 0, 9, .inl f122)), (a 127, .inl (t 3, 256, .inl f127)), (a 128, .inl (t 0, 4, .inl f128))] sz) ((fun u : US => [(a 14, .inr (2, [.ref (a 40), .int (u.1 0), .int (u.1 1), .int (u.1 2), .ref (a 120), .ref (a 121), .int (u.1 3), .ref (a 122), .int (u.1 4), .int (u.1 5), .int (u.1 6), .int v14_11, .int v14_12])), (a 17, .inr (1, [.ref (a 40), .ref (a 14), .ref (a 127), .ref (a 128), .int (u.1 7), .int (u.1 8)])), (a 40, .inr (0, [.int v40_0, .int v40_1, .int v40_2, .int v40_3, .int v40_4, .int v40_5, .int v40_6, .int v40_7, .ref (a 41), .ref (a 42), .ref (a 43), .ref (a 44), .ref (a 45), .ref (a 46), .ref (a 47), .ref (a 48), .ref (a 49), .ref (a 50), .ref (a 54)])), (a 42, .inl (t 0, 9, .inl f42)), (a 43, .inl (t 0, 9, .inl f43)), (a 44, .inl (t 0, 9, .inl f44)), (a 45, .inl (t 0, 9, .inl f45)), (a 46, .inl (t 0, 9, .inl f46)), (a 47, .inl (t 0, 9, .inl f47)), (a 49, .inl (t 0, 9, .inl f49)), (a 54, .inr (9, [.int v54_0, .int v54_1, .int v54_2, .ref (a 55), .ref (a 56), .ref (a 57), .ref (a 58)])), (a 120, .inl (t 0, 81, .inl (u.2.1 0))), (a 121, .inl (t 0, 9, .inl (u.2.1 1))), (a 122, .inl (t 0, 9, .inl (u.2.1 2))), (a 127, .inl (t 3, 256, .inl (u.2.1 3))), (a 128, .inl (t 0, 4, .inl (u.2.1 4)))]) u)) (va_A [(a 14, .inr (2, [.ref (a 40), .int v14_1, .int v14_2, .int v14_3, .ref (a 120), .ref (a 121), .int v14_6, .ref (a 122), .int v14_8, .int v14_9, .int v14_10, .int v14_11, .int v14_12])), (a 17, .inr (1, [.ref (a 40), .ref (a 14), .ref (a 127), .ref (a 128), .int v17_4, .int v17_5])), (a 40, .inr (0, [.int v40_0, .int v40_1, .int v40_2, .int v40_3, .int v40_4, .int v40_5, .int v40_6, .int v40_7, .ref (a 41), .ref (a 42), .ref (a 43), .ref (a 44), .ref (a 45), .ref (a 46), .ref (a 47), .ref (a 48), .ref (a 49), .ref (a 50), .ref (a 54)])), (a 42, .inl (t 0, 9, .inl f42)), (a 43, .inl (t 0, 9, .inl f43)), (a 44, .inl (t 0, 9, .inl f44)), (a 45, .inl (t 0, 9, .inl f45)), (a 46, .inl (t 0, 9, .inl f46)), (a 47, .inl (t 0, 9, .inl f47)), (a 49, .inl (t 0, 9, .inl f49)), (a 54, .inr (9, [.int v54_0, .int v54_1, .int v54_2, .ref (a 55), .ref (a 56), .ref (a 57), .ref (a 58)])), (a 120, .inl (t 0, 81, .inl f120)), (a 121, .inl (t 0, 9, .inl f121)), (a 122, .inl (t 0, 9, .inl f122)), (a 127, .inl (t 3, 256, .inl f127)), (a 128, .inl (t 0, 4, .inl f128))] sz)) 0 0 (va_A [(a 14, .inr (2, [.ref (a 40), .int v14_1, .int v14_2, .int v14_3, .ref (a 120), .ref (a 121), .int v14_6, .ref (a 122), .int v14_8, .int v14_9, .int v14_10, .int v14_11, .int v14_12])), (a 17, .inr (1, [.ref (a 40), .ref (a 14), .ref (a 127), .ref (a 128), .int v17_4, .int v17_5])), (a 40, .inr (0, [.int v40_0, .int v40_1, .int v40_2, .int v40_3, .int v40_4, .int v40_5, .int v40_6, .int v40_7, .ref (a 41), .ref (a 42), .ref (a 43), .ref (a 44), .ref (a 45), .ref (a 46), .ref (a 47), .ref (a 48), .ref (a 49), .ref (a 50), .ref (a 54)])), (a 42, .inl (t 0, 9, .inl f42)), (a 43, .inl (t 0, 9, .inl f43)), (a 44, .inl (t 0, 9, .inl f44)), (a 45, .inl (t 0, 9, .inl f45)), (a 46, .inl (t 0, 9, .inl f46)), (a 47, .inl (t 0, 9, .inl f47)), (a 49, .inl (t 0, 9, .inl f49)), (a 54, .inr (9, [.int v54_0, .int v54_1, .int v54_2, .ref (a 55), .ref (a 56), .ref (a 57), .ref (a 58)])), (a 120, .inl (t 0, 81, .inl f120)), (a 121, .inl (t 0, 9, .inl f121)), (a 122, .inl (t 0, 9, .inl f122)), (a 127, .inl (t 3, 256, .inl f127)), (a 128, .inl (t 0, 4, .inl f128))] sz) := by
  refine Met.ofW (cc := cX1_draw) (maxL := 5) (ret := none) (by decide) rfl ?_
  intro p e s m args below meth c s₁ B hml hv
  obtain ⟨rfl, hsz, hP, hK, hD0, hN⟩ := hv
  have hx := B.exec
  have hb := B.bytes
  have hr := B.returns
  have hts : ∀ w ∈ TB, w.before _ s = true := fun w h => atoms_spec (ws := wd yX1_draw cX1_draw 5 none) B.pre w (List.mem_cons_of_mem _ h)
  have hown : s.vm.findClass RX1 = some m.cls := findClass_of_methodNamed B.named
  have hlocks := B.notSynchronized
  have hF : CallFix p m c cX1_draw 5 s _ TB RX1 := ⟨hx, hb, hml, hown, hts⟩
  have hl := lv_entry ([.ref (a 17), .int p0]) (n := 5) (Nat.le_of_ble_eq_true rfl)
  rw [lg_entry_eq]
  generalize (lg_sl ([.ref (a 17), .int p0]) ++ List.replicate (5 - (lg_sl ([.ref (a 17), .int p0])).length) Slot.unset).toArray = ls at hl ⊢
  have hl : lv_has ls 5 [(0, .ref (a 17)), (1, .int p0)] := hl
  subst hsz
  have hD := hD0.self (sz := s.heap.size)
  generalize hAe : va_A [(a 14, .inr (2, [.ref (a 40), .int v14_1, .int v14_2, .int v14_3, .ref (a 120), .ref (a 121), .int v14_6, .ref (a 122), .int v14_8, .int v14_9, .int v14_10, .int v14_11, .int v14_12])), (a 17, .inr (1, [.ref (a 40), .ref (a 14), .ref (a 127), .ref (a 128), .int v17_4, .int v17_5])), (a 40, .inr (0, [.int v40_0, .int v40_1, .int v40_2, .int v40_3, .int v40_4, .int v40_5, .int v40_6, .int v40_7, .ref (a 41), .ref (a 42), .ref (a 43), .ref (a 44), .ref (a 45), .ref (a 46), .ref (a 47), .ref (a 48), .ref (a 49), .ref (a 50), .ref (a 54)])), (a 42, .inl (t 0, 9, .inl f42)), (a 43, .inl (t 0, 9, .inl f43)), (a 44, .inl (t 0, 9, .inl f44)), (a 45, .inl (t 0, 9, .inl f45)), (a 46, .inl (t 0, 9, .inl f46)), (a 47, .inl (t 0, 9, .inl f47)), (a 49, .inl (t 0, 9, .inl f49)), (a 54, .inr (9, [.int v54_0, .int v54_1, .int v54_2, .ref (a 55), .ref (a 56), .ref (a 57), .ref (a 58)])), (a 120, .inl (t 0, 81, .inl f120)), (a 121, .inl (t 0, 9, .inl f121)), (a 122, .inl (t 0, 9, .inl f122)), (a 127, .inl (t 3, 256, .inl f127)), (a 128, .inl (t 0, 4, .inl f128))] s.heap.size = A at hD ⊢
  have hA : ∀ q : Nat, s.heap.size ≤ q → A q := fun q h => by rw [← hAe]; exact Or.inr h
  have hS : va_S A s.heap s.heap [] := va_S.rf
  have hP : va_P D classes [(a 14, .inr (2, [.ref (a 40), .int v14_1, .int v14_2, .int v14_3, .ref (a 120), .ref (a 121), .int v14_6, .ref (a 122), .int v14_8, .int v14_9, .int v14_10, .int v14_11, .int v14_12])), (a 17, .inr (1, [.ref (a 40), .ref (a 14), .ref (a 127), .ref (a 128), .int v17_4, .int v17_5])), (a 40, .inr (0, [.int v40_0, .int v40_1, .int v40_2, .int v40_3, .int v40_4, .int v40_5, .int v40_6, .int v40_7, .ref (a 41), .ref (a 42), .ref (a 43), .ref (a 44), .ref (a 45), .ref (a 46), .ref (a 47), .ref (a 48), .ref (a 49), .ref (a 50), .ref (a 54)])), (a 42, .inl (t 0, 9, .inl f42)), (a 43, .inl (t 0, 9, .inl f43)), (a 44, .inl (t 0, 9, .inl f44)), (a 45, .inl (t 0, 9, .inl f45)), (a 46, .inl (t 0, 9, .inl f46)), (a 47, .inl (t 0, 9, .inl f47)), (a 49, .inl (t 0, 9, .inl f49)), (a 54, .inr (9, [.int v54_0, .int v54_1, .int v54_2, .ref (a 55), .ref (a 56), .ref (a 57), .ref (a 58)])), (a 120, .inl (t 0, 81, .inl f120)), (a 121, .inl (t 0, 9, .inl f121)), (a 122, .inl (t 0, 9, .inl f122)), (a 127, .inl (t 3, 256, .inl f127)), (a 128, .inl (t 0, 4, .inl f128))] s.heap := hP
  refine lv_aload_n hx hb dX1_draw_0 rfl (lv_at hl 0 rfl) ?_
  refine lv_iconst (v := (-1)) hx hb dX1_draw_1 (by decide) ?_
  refine va_put (D := D) (ci := 1) (v := .int (-1)) (ty := .int) (C := RX1) (T := TX1) (N := 6) hx hb hts iX1 tyX1 tyX1_ok nmX1 hown hK hP hD hS 1 rfl rfl 4 (by decide) (hts _ m_370) (fun _ h9 => h9) rfl (tyX1_ok 4 (by decide)) rfl rfl (Nat.le_of_ble_eq_true rfl) dX1_draw_2 (fun H locs hP hD hS => ?_)
  have hP : va_P D classes [(a 14, .inr (2, [.ref (a 40), .int v14_1, .int v14_2, .int v14_3, .ref (a 120), .ref (a 121), .int v14_6, .ref (a 122), .int v14_8, .int v14_9, .int v14_10, .int v14_11, .int v14_12])), (a 17, .inr (1, [.ref (a 40), .ref (a 14), .ref (a 127), .ref (a 128), .int (-1), .int v17_5])), (a 40, .inr (0, [.int v40_0, .int v40_1, .int v40_2, .int v40_3, .int v40_4, .int v40_5, .int v40_6, .int v40_7, .ref (a 41), .ref (a 42), .ref (a 43), .ref (a 44), .ref (a 45), .ref (a 46), .ref (a 47), .ref (a 48), .ref (a 49), .ref (a 50), .ref (a 54)])), (a 42, .inl (t 0, 9, .inl f42)), (a 43, .inl (t 0, 9, .inl f43)), (a 44, .inl (t 0, 9, .inl f44)), (a 45, .inl (t 0, 9, .inl f45)), (a 46, .inl (t 0, 9, .inl f46)), (a 47, .inl (t 0, 9, .inl f47)), (a 49, .inl (t 0, 9, .inl f49)), (a 54, .inr (9, [.int v54_0, .int v54_1, .int v54_2, .ref (a 55), .ref (a 56), .ref (a 57), .ref (a 58)])), (a 120, .inl (t 0, 81, .inl f120)), (a 121, .inl (t 0, 9, .inl f121)), (a 122, .inl (t 0, 9, .inl f122)), (a 127, .inl (t 3, 256, .inl f127)), (a 128, .inl (t 0, 4, .inl f128))] H := hP
  have hD : va_D A [(a 14, .inr (2, [.ref (a 40), .int v14_1, .int v14_2, .int v14_3, .ref (a 120), .ref (a 121), .int v14_6, .ref (a 122), .int v14_8, .int v14_9, .int v14_10, .int v14_11, .int v14_12])), (a 17, .inr (1, [.ref (a 40), .ref (a 14), .ref (a 127), .ref (a 128), .int (-1), .int v17_5])), (a 40, .inr (0, [.int v40_0, .int v40_1, .int v40_2, .int v40_3, .int v40_4, .int v40_5, .int v40_6, .int v40_7, .ref (a 41), .ref (a 42), .ref (a 43), .ref (a 44), .ref (a 45), .ref (a 46), .ref (a 47), .ref (a 48), .ref (a 49), .ref (a 50), .ref (a 54)])), (a 42, .inl (t 0, 9, .inl f42)), (a 43, .inl (t 0, 9, .inl f43)), (a 44, .inl (t 0, 9, .inl f44)), (a 45, .inl (t 0, 9, .inl f45)), (a 46, .inl (t 0, 9, .inl f46)), (a 47, .inl (t 0, 9, .inl f47)), (a 49, .inl (t 0, 9, .inl f49)), (a 54, .inr (9, [.int v54_0, .int v54_1, .int v54_2, .ref (a 55), .ref (a 56), .ref (a 57), .ref (a 58)])), (a 120, .inl (t 0, 81, .inl f120)), (a 121, .inl (t 0, 9, .inl f121)), (a 122, .inl (t 0, 9, .inl f122)), (a 127, .inl (t 3, 256, .inl f127)), (a 128, .inl (t 0, 4, .inl f128))] := hD
  refine lv_aload_n hx hb dX1_draw_5 rfl (lv_at hl 0 rfl) ?_
  refine lv_iconst (v := 0) hx hb dX1_draw_6 (by decide) ?_
  refine va_put (D := D) (ci := 1) (v := .int 0) (ty := .int) (C := RX1) (T := TX1) (N := 6) hx hb hts iX1 tyX1 tyX1_ok nmX1 hown hK hP hD hS 1 rfl rfl 5 (by decide) (hts _ m_372) (fun _ h9 => h9) rfl (tyX1_ok 5 (by decide)) rfl rfl (Nat.le_of_ble_eq_true rfl) dX1_draw_7 (fun H locs hP hD hS => ?_)
  have hP : va_P D classes [(a 14, .inr (2, [.ref (a 40), .int v14_1, .int v14_2, .int v14_3, .ref (a 120), .ref (a 121), .int v14_6, .ref (a 122), .int v14_8, .int v14_9, .int v14_10, .int v14_11, .int v14_12])), (a 17, .inr (1, [.ref (a 40), .ref (a 14), .ref (a 127), .ref (a 128), .int (-1), .int 0])), (a 40, .inr (0, [.int v40_0, .int v40_1, .int v40_2, .int v40_3, .int v40_4, .int v40_5, .int v40_6, .int v40_7, .ref (a 41), .ref (a 42), .ref (a 43), .ref (a 44), .ref (a 45), .ref (a 46), .ref (a 47), .ref (a 48), .ref (a 49), .ref (a 50), .ref (a 54)])), (a 42, .inl (t 0, 9, .inl f42)), (a 43, .inl (t 0, 9, .inl f43)), (a 44, .inl (t 0, 9, .inl f44)), (a 45, .inl (t 0, 9, .inl f45)), (a 46, .inl (t 0, 9, .inl f46)), (a 47, .inl (t 0, 9, .inl f47)), (a 49, .inl (t 0, 9, .inl f49)), (a 54, .inr (9, [.int v54_0, .int v54_1, .int v54_2, .ref (a 55), .ref (a 56), .ref (a 57), .ref (a 58)])), (a 120, .inl (t 0, 81, .inl f120)), (a 121, .inl (t 0, 9, .inl f121)), (a 122, .inl (t 0, 9, .inl f122)), (a 127, .inl (t 3, 256, .inl f127)), (a 128, .inl (t 0, 4, .inl f128))] H := hP
  have hD : va_D A [(a 14, .inr (2, [.ref (a 40), .int v14_1, .int v14_2, .int v14_3, .ref (a 120), .ref (a 121), .int v14_6, .ref (a 122), .int v14_8, .int v14_9, .int v14_10, .int v14_11, .int v14_12])), (a 17, .inr (1, [.ref (a 40), .ref (a 14), .ref (a 127), .ref (a 128), .int (-1), .int 0])), (a 40, .inr (0, [.int v40_0, .int v40_1, .int v40_2, .int v40_3, .int v40_4, .int v40_5, .int v40_6, .int v40_7, .ref (a 41), .ref (a 42), .ref (a 43), .ref (a 44), .ref (a 45), .ref (a 46), .ref (a 47), .ref (a 48), .ref (a 49), .ref (a 50), .ref (a 54)])), (a 42, .inl (t 0, 9, .inl f42)), (a 43, .inl (t 0, 9, .inl f43)), (a 44, .inl (t 0, 9, .inl f44)), (a 45, .inl (t 0, 9, .inl f45)), (a 46, .inl (t 0, 9, .inl f46)), (a 47, .inl (t 0, 9, .inl f47)), (a 49, .inl (t 0, 9, .inl f49)), (a 54, .inr (9, [.int v54_0, .int v54_1, .int v54_2, .ref (a 55), .ref (a 56), .ref (a 57), .ref (a 58)])), (a 120, .inl (t 0, 81, .inl f120)), (a 121, .inl (t 0, 9, .inl f121)), (a 122, .inl (t 0, 9, .inl f122)), (a 127, .inl (t 3, 256, .inl f127)), (a 128, .inl (t 0, 4, .inl f128))] := hD
  refine lv_aload_n hx hb dX1_draw_10 rfl (lv_at hl 0 rfl) ?_
  refine y_pV hF (s_X1_canDraw l D t a (-1) 0 v40_0 v40_1 v40_2 v40_3 v40_4 v40_5 v40_6 v40_7 (rg_w (c := 0) (d := 2147483647) (rg_c (x := 0) (k := 0) (by decide)) (by decide) (by decide)) r40_1 r40_5 r40_6 r40_7) m_1190 m_1183 m_1184 m_10 m_1185 hd_X1_canDraw ⟨Nat.le_of_ble_eq_true rfl, Nat.le_of_ble_eq_true rfl⟩ hK hN hP hS [1, 2] rfl 0 (ci := 1) rfl rfl rfl hl.1 rfl (Nat.le_of_ble_eq_true rfl) dX1_draw_11 ⟨Nat.zero_le _, Nat.zero_le _⟩ (fun r_1 H locs hr_1 hP hS => ?_)
  refine lv_if_ne (tgt := 18) hx hb dX1_draw_14 (by decide) (fun c_2 => ?_) (fun c_2 => ?_)
  · skip
    have o_3 := Or.resolve_left hr_1.2 c_2
    refine lv_iconst (v := 0) hx hb dX1_draw_18 (by decide) ?_
    refine lv_istore_n (lv' := [(2, .int 0), (0, .ref (a 17)), (1, .int p0)]) hx hb dX1_draw_19 rfl hl (by decide) rfl (fun ls hl => ?_)
    refine loopW (α := US) (fun n y_4 H locs ls => 4 < (y_4.1 0).toInt + (n : Int) ∧ rg 0 4 (y_4.1 0) ∧ rg 0 9 (y_4.1 5) ∧ rg (-1) 8 (y_4.1 6) ∧ va_P D classes [(a 14, .inr (2, [.ref (a 40), .int (y_4.1 1), .int (y_4.1 2), .int (y_4.1 3), .ref (a 120), .ref (a 121), .int (y_4.1 4), .ref (a 122), .int (y_4.1 5), .int (y_4.1 6), .int (y_4.1 7), .int v14_11, .int v14_12])), (a 17, .inr (1, [.ref (a 40), .ref (a 14), .ref (a 127), .ref (a 128), .int (-1), .int 0])), (a 40, .inr (0, [.int v40_0, .int v40_1, .int v40_2, .int v40_3, .int v40_4, .int v40_5, .int v40_6, .int v40_7, .ref (a 41), .ref (a 42), .ref (a 43), .ref (a 44), .ref (a 45), .ref (a 46), .ref (a 47), .ref (a 48), .ref (a 49), .ref (a 50), .ref (a 54)])), (a 42, .inl (t 0, 9, .inl f42)), (a 43, .inl (t 0, 9, .inl f43)), (a 44, .inl (t 0, 9, .inl f44)), (a 45, .inl (t 0, 9, .inl f45)), (a 46, .inl (t 0, 9, .inl f46)), (a 47, .inl (t 0, 9, .inl f47)), (a 49, .inl (t 0, 9, .inl f49)), (a 54, .inr (9, [.int v54_0, .int v54_1, .int v54_2, .ref (a 55), .ref (a 56), .ref (a 57), .ref (a 58)])), (a 120, .inl (t 0, 81, .inl (y_4.2.1 0))), (a 121, .inl (t 0, 9, .inl (y_4.2.1 1))), (a 122, .inl (t 0, 9, .inl (y_4.2.1 2))), (a 127, .inl (t 3, 256, .inl (y_4.2.1 3))), (a 128, .inl (t 0, 4, .inl f128))] H ∧ va_D A [(a 14, .inr (2, [.ref (a 40), .int (y_4.1 1), .int (y_4.1 2), .int (y_4.1 3), .ref (a 120), .ref (a 121), .int (y_4.1 4), .ref (a 122), .int (y_4.1 5), .int (y_4.1 6), .int (y_4.1 7), .int v14_11, .int v14_12])), (a 17, .inr (1, [.ref (a 40), .ref (a 14), .ref (a 127), .ref (a 128), .int (-1), .int 0])), (a 40, .inr (0, [.int v40_0, .int v40_1, .int v40_2, .int v40_3, .int v40_4, .int v40_5, .int v40_6, .int v40_7, .ref (a 41), .ref (a 42), .ref (a 43), .ref (a 44), .ref (a 45), .ref (a 46), .ref (a 47), .ref (a 48), .ref (a 49), .ref (a 50), .ref (a 54)])), (a 42, .inl (t 0, 9, .inl f42)), (a 43, .inl (t 0, 9, .inl f43)), (a 44, .inl (t 0, 9, .inl f44)), (a 45, .inl (t 0, 9, .inl f45)), (a 46, .inl (t 0, 9, .inl f46)), (a 47, .inl (t 0, 9, .inl f47)), (a 49, .inl (t 0, 9, .inl f49)), (a 54, .inr (9, [.int v54_0, .int v54_1, .int v54_2, .ref (a 55), .ref (a 56), .ref (a 57), .ref (a 58)])), (a 120, .inl (t 0, 81, .inl (y_4.2.1 0))), (a 121, .inl (t 0, 9, .inl (y_4.2.1 1))), (a 122, .inl (t 0, 9, .inl (y_4.2.1 2))), (a 127, .inl (t 3, 256, .inl (y_4.2.1 3))), (a 128, .inl (t 0, 4, .inl f128))] ∧ va_S A s.heap H locs ∧ lv_has ls 5 [(2, .int (y_4.1 0)), (0, .ref (a 17)), (1, .int p0)]) 20 (fun y_4 => []) (fun _ _ _ _ h9 => m_0 h9.1 h9.2.1) (fun n ih_8 y_4 H locs ls hI => ?_) 5 (fun k => [0, v14_1, v14_2, v14_3, v14_6, v14_8, v14_9, v14_10].getD k 0, fun k => [f120, f121, f122, f127].getD k (fun _ => 0), fun k => [].getD k (fun _ => 0), fun k => [].getD k 0) ⟨(m_i (rg_c (x := 0) (k := 0) (by decide)) (by decide)), (rg_w (c := 0) (d := 4) (rg_c (x := 0) (k := 0) (by decide)) (by decide) (by decide)), r14_8, r14_9, hP, hD, hS, (lv_sub hl [0, 1, 2] rfl)⟩
    obtain ⟨me_9, h_5, h_6, h_7, hP, hD, hS, hl⟩ := hI
    refine lv_iload_n hx hb dX1_draw_20 rfl (lv_at hl 0 rfl) ?_
    refine lv_aload_n hx hb dX1_draw_21 rfl (lv_at hl 1 rfl) ?_
    refine va_get (D := D) (ci := 1) (v := .ref (a 40)) (C := RX1) (T := TX1) (N := 6) hx hb hts iX1 hown hK hP 1 rfl rfl 0 (by decide) (hts _ m_366) (fun _ h9 => h9) rfl dX1_draw_22 ?_
    refine va_getN (D := D) (ci := 0) (v := .int v40_5) (C := RX0) (T := TX0) (N := 19) (host := "WordSeats") hx hb hts iX0 hown hK hP 2 rfl rfl 5 (by decide) (va_Nw.use rfl (hN _ n_134)) (fun _ h9 => h9) rfl dX1_draw_25 ?_
    refine lv_icmp_ge (tgt := 43) hx hb dX1_draw_28 (by decide) (fun c_10 => ?_) (fun c_10 => ?_)
    · skip
      have h_11 : rg 1 4 (y_4.1 0) := ⟨Int.le_trans (by decide) (c_leR c_10 o_3.1), (h_5).2⟩
      refine lv_iconst (v := 1) hx hb dX1_draw_43 (by decide) ?_
      refine lv_istore_n (lv' := [(2, .int 1), (0, .ref (a 17)), (1, .int p0)]) hx hb dX1_draw_44 rfl hl (by decide) rfl (fun ls hl => ?_)
      refine lv_iconst (v := 0) hx hb dX1_draw_45 (by decide) ?_
      refine lv_istore_n (lv' := [(3, .int 0), (2, .int 1), (0, .ref (a 17)), (1, .int p0)]) hx hb dX1_draw_46 rfl hl (by decide) rfl (fun ls hl => ?_)
      refine loopW (α := US) (fun n y_12 H locs ls => 7 < (y_12.1 0).toInt + (n : Int) ∧ rg 0 7 (y_12.1 0) ∧ va_P D classes [(a 14, .inr (2, [.ref (a 40), .int (y_4.1 1), .int (y_4.1 2), .int (y_4.1 3), .ref (a 120), .ref (a 121), .int (y_4.1 4), .ref (a 122), .int (y_4.1 5), .int (y_4.1 6), .int (y_4.1 7), .int v14_11, .int v14_12])), (a 17, .inr (1, [.ref (a 40), .ref (a 14), .ref (a 127), .ref (a 128), .int (-1), .int 0])), (a 40, .inr (0, [.int v40_0, .int v40_1, .int v40_2, .int v40_3, .int v40_4, .int v40_5, .int v40_6, .int v40_7, .ref (a 41), .ref (a 42), .ref (a 43), .ref (a 44), .ref (a 45), .ref (a 46), .ref (a 47), .ref (a 48), .ref (a 49), .ref (a 50), .ref (a 54)])), (a 42, .inl (t 0, 9, .inl f42)), (a 43, .inl (t 0, 9, .inl f43)), (a 44, .inl (t 0, 9, .inl f44)), (a 45, .inl (t 0, 9, .inl f45)), (a 46, .inl (t 0, 9, .inl f46)), (a 47, .inl (t 0, 9, .inl f47)), (a 49, .inl (t 0, 9, .inl f49)), (a 54, .inr (9, [.int v54_0, .int v54_1, .int v54_2, .ref (a 55), .ref (a 56), .ref (a 57), .ref (a 58)])), (a 120, .inl (t 0, 81, .inl (y_4.2.1 0))), (a 121, .inl (t 0, 9, .inl (y_4.2.1 1))), (a 122, .inl (t 0, 9, .inl (y_4.2.1 2))), (a 127, .inl (t 3, 256, .inl (y_4.2.1 3))), (a 128, .inl (t 0, 4, .inl f128))] H ∧ va_D A [(a 14, .inr (2, [.ref (a 40), .int (y_4.1 1), .int (y_4.1 2), .int (y_4.1 3), .ref (a 120), .ref (a 121), .int (y_4.1 4), .ref (a 122), .int (y_4.1 5), .int (y_4.1 6), .int (y_4.1 7), .int v14_11, .int v14_12])), (a 17, .inr (1, [.ref (a 40), .ref (a 14), .ref (a 127), .ref (a 128), .int (-1), .int 0])), (a 40, .inr (0, [.int v40_0, .int v40_1, .int v40_2, .int v40_3, .int v40_4, .int v40_5, .int v40_6, .int v40_7, .ref (a 41), .ref (a 42), .ref (a 43), .ref (a 44), .ref (a 45), .ref (a 46), .ref (a 47), .ref (a 48), .ref (a 49), .ref (a 50), .ref (a 54)])), (a 42, .inl (t 0, 9, .inl f42)), (a 43, .inl (t 0, 9, .inl f43)), (a 44, .inl (t 0, 9, .inl f44)), (a 45, .inl (t 0, 9, .inl f45)), (a 46, .inl (t 0, 9, .inl f46)), (a 47, .inl (t 0, 9, .inl f47)), (a 49, .inl (t 0, 9, .inl f49)), (a 54, .inr (9, [.int v54_0, .int v54_1, .int v54_2, .ref (a 55), .ref (a 56), .ref (a 57), .ref (a 58)])), (a 120, .inl (t 0, 81, .inl (y_4.2.1 0))), (a 121, .inl (t 0, 9, .inl (y_4.2.1 1))), (a 122, .inl (t 0, 9, .inl (y_4.2.1 2))), (a 127, .inl (t 3, 256, .inl (y_4.2.1 3))), (a 128, .inl (t 0, 4, .inl f128))] ∧ va_S A s.heap H locs ∧ lv_has ls 5 [(3, .int (y_12.1 0)), (2, .int (y_12.1 1)), (0, .ref (a 17)), (1, .int p0)]) 47 (fun y_12 => []) (fun _ _ _ _ h9 => m_0 h9.1 h9.2.1) (fun n ih_14 y_12 H locs ls hI => ?_) 8 (fun k => [0, 1].getD k 0, fun k => [].getD k (fun _ => 0), fun k => [].getD k (fun _ => 0), fun k => [].getD k 0) ⟨(m_i (rg_c (x := 0) (k := 0) (by decide)) (by decide)), (rg_w (c := 0) (d := 7) (rg_c (x := 0) (k := 0) (by decide)) (by decide) (by decide)), hP, hD, hS, (lv_sub hl [0, 1, 2, 3] rfl)⟩
      obtain ⟨me_15, h_13, hP, hD, hS, hl⟩ := hI
      refine lv_iload_n hx hb dX1_draw_47 rfl (lv_at hl 0 rfl) ?_
      refine lv_aload_n hx hb dX1_draw_48 rfl (lv_at hl 2 rfl) ?_
      refine va_get (D := D) (ci := 1) (v := .ref (a 40)) (C := RX1) (T := TX1) (N := 6) hx hb hts iX1 hown hK hP 1 rfl rfl 0 (by decide) (hts _ m_366) (fun _ h9 => h9) rfl dX1_draw_49 ?_
      refine va_getN (D := D) (ci := 0) (v := .int v40_7) (C := RX0) (T := TX0) (N := 19) (host := "WordSeats") hx hb hts iX0 hown hK hP 2 rfl rfl 7 (by decide) (va_Nw.use rfl (hN _ n_147)) (fun _ h9 => h9) rfl dX1_draw_52 ?_
      refine lv_icmp_ge (tgt := 74) hx hb dX1_draw_55 (by decide) (fun c_16 => ?_) (fun c_16 => ?_)
      · skip
        refine lv_iconst (v := 0) hx hb dX1_draw_74 (by decide) ?_
        refine lv_istore_n (lv' := [(3, .int 0), (2, .int (y_12.1 1)), (0, .ref (a 17)), (1, .int p0)]) hx hb dX1_draw_75 rfl hl (by decide) rfl (fun ls hl => ?_)
        refine loopW (α := US) (fun n y_17 H locs ls => 2147483647 < (y_17.1 0).toInt + (n : Int) ∧ rg 0 2147483647 (y_17.1 0) ∧ rg (-1) 2147483647 (y_17.1 1) ∧ rg 0 2147483647 (y_17.1 2) ∧ (∀ j, j < 4 → rg 0 63 ((y_17.2.1 0) j)) ∧ va_P D classes [(a 14, .inr (2, [.ref (a 40), .int (y_4.1 1), .int (y_4.1 2), .int (y_4.1 3), .ref (a 120), .ref (a 121), .int (y_4.1 4), .ref (a 122), .int (y_4.1 5), .int (y_4.1 6), .int (y_4.1 7), .int v14_11, .int v14_12])), (a 17, .inr (1, [.ref (a 40), .ref (a 14), .ref (a 127), .ref (a 128), .int (y_17.1 1), .int (y_17.1 2)])), (a 40, .inr (0, [.int v40_0, .int v40_1, .int v40_2, .int v40_3, .int v40_4, .int v40_5, .int v40_6, .int v40_7, .ref (a 41), .ref (a 42), .ref (a 43), .ref (a 44), .ref (a 45), .ref (a 46), .ref (a 47), .ref (a 48), .ref (a 49), .ref (a 50), .ref (a 54)])), (a 42, .inl (t 0, 9, .inl f42)), (a 43, .inl (t 0, 9, .inl f43)), (a 44, .inl (t 0, 9, .inl f44)), (a 45, .inl (t 0, 9, .inl f45)), (a 46, .inl (t 0, 9, .inl f46)), (a 47, .inl (t 0, 9, .inl f47)), (a 49, .inl (t 0, 9, .inl f49)), (a 54, .inr (9, [.int v54_0, .int v54_1, .int v54_2, .ref (a 55), .ref (a 56), .ref (a 57), .ref (a 58)])), (a 120, .inl (t 0, 81, .inl (y_4.2.1 0))), (a 121, .inl (t 0, 9, .inl (y_4.2.1 1))), (a 122, .inl (t 0, 9, .inl (y_4.2.1 2))), (a 127, .inl (t 3, 256, .inl (y_4.2.1 3))), (a 128, .inl (t 0, 4, .inl (y_17.2.1 0)))] H ∧ va_D A [(a 14, .inr (2, [.ref (a 40), .int (y_4.1 1), .int (y_4.1 2), .int (y_4.1 3), .ref (a 120), .ref (a 121), .int (y_4.1 4), .ref (a 122), .int (y_4.1 5), .int (y_4.1 6), .int (y_4.1 7), .int v14_11, .int v14_12])), (a 17, .inr (1, [.ref (a 40), .ref (a 14), .ref (a 127), .ref (a 128), .int (y_17.1 1), .int (y_17.1 2)])), (a 40, .inr (0, [.int v40_0, .int v40_1, .int v40_2, .int v40_3, .int v40_4, .int v40_5, .int v40_6, .int v40_7, .ref (a 41), .ref (a 42), .ref (a 43), .ref (a 44), .ref (a 45), .ref (a 46), .ref (a 47), .ref (a 48), .ref (a 49), .ref (a 50), .ref (a 54)])), (a 42, .inl (t 0, 9, .inl f42)), (a 43, .inl (t 0, 9, .inl f43)), (a 44, .inl (t 0, 9, .inl f44)), (a 45, .inl (t 0, 9, .inl f45)), (a 46, .inl (t 0, 9, .inl f46)), (a 47, .inl (t 0, 9, .inl f47)), (a 49, .inl (t 0, 9, .inl f49)), (a 54, .inr (9, [.int v54_0, .int v54_1, .int v54_2, .ref (a 55), .ref (a 56), .ref (a 57), .ref (a 58)])), (a 120, .inl (t 0, 81, .inl (y_4.2.1 0))), (a 121, .inl (t 0, 9, .inl (y_4.2.1 1))), (a 122, .inl (t 0, 9, .inl (y_4.2.1 2))), (a 127, .inl (t 3, 256, .inl (y_4.2.1 3))), (a 128, .inl (t 0, 4, .inl (y_17.2.1 0)))] ∧ va_S A s.heap H locs ∧ lv_has ls 5 [(3, .int (y_17.1 0)), (2, .int (y_12.1 1)), (0, .ref (a 17)), (1, .int p0)]) 76 (fun y_17 => []) (fun _ _ _ _ h9 => m_0 h9.1 h9.2.1) (fun n ih_22 y_17 H locs ls hI => ?_) 2147483648 (fun k => [0, (-1), 0].getD k 0, fun k => [f128].getD k (fun _ => 0), fun k => [].getD k (fun _ => 0), fun k => [].getD k 0) ⟨(m_i (rg_c (x := 0) (k := 0) (by decide)) (by decide)), (rg_w (c := 0) (d := 2147483647) (rg_c (x := 0) (k := 0) (by decide)) (by decide) (by decide)), (rg_w (c := (-1)) (d := 2147483647) (rg_c (x := (-1)) (k := (-1)) (by decide)) (by decide) (by decide)), (rg_w (c := 0) (d := 2147483647) (rg_c (x := 0) (k := 0) (by decide)) (by decide) (by decide)), q128, hP, hD, hS, (lv_sub hl [0, 1, 2, 3] rfl)⟩
        obtain ⟨me_23, h_18, h_19, h_20, h_21, hP, hD, hS, hl⟩ := hI
        refine lv_iload_n hx hb dX1_draw_76 rfl (lv_at hl 0 rfl) ?_
        refine lv_iload_n hx hb dX1_draw_77 rfl (lv_at hl 1 rfl) ?_
        refine lv_icmp_ge (tgt := 114) hx hb dX1_draw_78 (by decide) (fun c_24 => ?_) (fun c_24 => ?_)
        · skip
          have hP9 := hP.sub (ws' := [(a 14, .inr (2, [.ref (a 40), .int (y_4.1 1), .int (y_4.1 2), .int (y_4.1 3), .ref (a 120), .ref (a 121), .int (y_4.1 4), .ref (a 122), .int (y_4.1 5), .int (y_4.1 6), .int (y_4.1 7), .int v14_11, .int v14_12])), (a 17, .inr (1, [.ref (a 40), .ref (a 14), .ref (a 127), .ref (a 128), .int (y_17.1 1), .int (y_17.1 2)])), (a 40, .inr (0, [.int v40_0, .int v40_1, .int v40_2, .int v40_3, .int v40_4, .int v40_5, .int v40_6, .int v40_7, .ref (a 41), .ref (a 42), .ref (a 43), .ref (a 44), .ref (a 45), .ref (a 46), .ref (a 47), .ref (a 48), .ref (a 49), .ref (a 50), .ref (a 54)])), (a 42, .inl (t 0, 9, .inl f42)), (a 43, .inl (t 0, 9, .inl f43)), (a 44, .inl (t 0, 9, .inl f44)), (a 45, .inl (t 0, 9, .inl f45)), (a 46, .inl (t 0, 9, .inl f46)), (a 47, .inl (t 0, 9, .inl f47)), (a 49, .inl (t 0, 9, .inl f49)), (a 54, .inr (9, [.int v54_0, .int v54_1, .int v54_2, .ref (a 55), .ref (a 56), .ref (a 57), .ref (a 58)])), (a 120, .inl (t 0, 81, .inl (y_4.2.1 0))), (a 121, .inl (t 0, 9, .inl (y_4.2.1 1))), (a 122, .inl (t 0, 9, .inl (y_4.2.1 2))), (a 127, .inl (t 3, 256, .inl (y_4.2.1 3))), (a 128, .inl (t 0, 4, .inl (y_17.2.1 0)))]) [0, 1, 2, 3, 4, 5, 6, 7, 8, 9, 10, 11, 12, 13, 14, 15] rfl
          have hD9 := hD.sub (ws' := [(a 14, .inr (2, [.ref (a 40), .int (y_4.1 1), .int (y_4.1 2), .int (y_4.1 3), .ref (a 120), .ref (a 121), .int (y_4.1 4), .ref (a 122), .int (y_4.1 5), .int (y_4.1 6), .int (y_4.1 7), .int v14_11, .int v14_12])), (a 17, .inr (1, [.ref (a 40), .ref (a 14), .ref (a 127), .ref (a 128), .int (y_17.1 1), .int (y_17.1 2)])), (a 40, .inr (0, [.int v40_0, .int v40_1, .int v40_2, .int v40_3, .int v40_4, .int v40_5, .int v40_6, .int v40_7, .ref (a 41), .ref (a 42), .ref (a 43), .ref (a 44), .ref (a 45), .ref (a 46), .ref (a 47), .ref (a 48), .ref (a 49), .ref (a 50), .ref (a 54)])), (a 42, .inl (t 0, 9, .inl f42)), (a 43, .inl (t 0, 9, .inl f43)), (a 44, .inl (t 0, 9, .inl f44)), (a 45, .inl (t 0, 9, .inl f45)), (a 46, .inl (t 0, 9, .inl f46)), (a 47, .inl (t 0, 9, .inl f47)), (a 49, .inl (t 0, 9, .inl f49)), (a 54, .inr (9, [.int v54_0, .int v54_1, .int v54_2, .ref (a 55), .ref (a 56), .ref (a 57), .ref (a 58)])), (a 120, .inl (t 0, 81, .inl (y_4.2.1 0))), (a 121, .inl (t 0, 9, .inl (y_4.2.1 1))), (a 122, .inl (t 0, 9, .inl (y_4.2.1 2))), (a 127, .inl (t 3, 256, .inl (y_4.2.1 3))), (a 128, .inl (t 0, 4, .inl (y_17.2.1 0)))]) [0, 1, 2, 3, 4, 5, 6, 7, 8, 9, 10, 11, 12, 13, 14, 15] (by decide) rfl
          exact W.vret hx hb hr (fun t9 ht hW => ⟨⟨(fun k => [(y_4.1 1), (y_4.1 2), (y_4.1 3), (y_4.1 4), (y_4.1 5), (y_4.1 6), (y_4.1 7), (y_17.1 1), (y_17.1 2)].getD k 0, fun k => [(y_4.2.1 0), (y_4.2.1 1), (y_4.2.1 2), (y_4.2.1 3), (y_17.2.1 0)].getD k (fun _ => 0), fun k => [].getD k (fun _ => 0), fun _ => 0), rfl, ⟨h_6, h_7, h_20, h_21⟩, by rw [ht]; exact hP9, hD9⟩, hS.F ht⟩) hS.2.2 dX1_draw_114
        · skip
          have h_25 : rg 0 2147483646 (y_17.1 0) := ⟨(h_18).1, Int.le_trans (c_nleR c_24 (rg_any (y_12.1 1))) (by decide)⟩
          have h_26 : rg 1 2147483647 (y_12.1 1) := ⟨Int.le_trans (by decide) (c_nle c_24 h_18), ((rg_any (y_12.1 1))).2⟩
          refine lv_aload_n hx hb dX1_draw_81 rfl (lv_at hl 2 rfl) ?_
          refine lv_iload_n hx hb dX1_draw_82 rfl (lv_at hl 0 rfl) ?_
          refine y_wVi (wr := [(a 14, .inr (2, [.ref (a 40), .int (y_4.1 1), .int (y_4.1 2), .int (y_4.1 3), .ref (a 120), .ref (a 121), .int (y_4.1 4), .ref (a 122), .int (y_4.1 5), .int (y_4.1 6), .int (y_4.1 7), .int v14_11, .int v14_12])), (a 42, .inl (t 0, 9, .inl f42)), (a 43, .inl (t 0, 9, .inl f43)), (a 44, .inl (t 0, 9, .inl f44)), (a 45, .inl (t 0, 9, .inl f45)), (a 46, .inl (t 0, 9, .inl f46)), (a 47, .inl (t 0, 9, .inl f47)), (a 49, .inl (t 0, 9, .inl f49)), (a 54, .inr (9, [.int v54_0, .int v54_1, .int v54_2, .ref (a 55), .ref (a 56), .ref (a 57), .ref (a 58)])), (a 120, .inl (t 0, 81, .inl (y_4.2.1 0))), (a 121, .inl (t 0, 9, .inl (y_4.2.1 1))), (a 122, .inl (t 0, 9, .inl (y_4.2.1 2)))]) hF (s_X1_countTheirs l D t a (y_17.1 1) (y_17.1 2) v40_0 v40_1 v40_2 v40_3 v40_4 v40_5 v40_6 v40_7 (y_4.2.1 3) (y_17.2.1 0) (y_17.1 0) h_20 r40_1 o_3.1 r40_6 o_3.2 h_21 (rg_w (c := 0) (d := 2147483647) h_25 (by decide) (by decide)) H.size) m_1199 m_1201 m_s32 m_10 m_1202 hd_X1_countTheirs ⟨Nat.le_of_ble_eq_true rfl, Nat.le_of_ble_eq_true rfl⟩ hK hN hP hD hS hA 0 (ci := 1) rfl rfl rfl [1, 2, 14, 15] [0, 3, 4, 5, 6, 7, 8, 9, 10, 11, 12, 13] rfl rfl (by decide) (by decide) (by decide) hl.1 rfl (Nat.le_of_ble_eq_true rfl) dX1_draw_83 ⟨Nat.zero_le _, Nat.zero_le _⟩ (fun r_28 u_27 H locs hu_27 hP hD hS => ?_)
          have h_29 := hu_27
          have hP : va_P D classes [(a 14, .inr (2, [.ref (a 40), .int (y_4.1 1), .int (y_4.1 2), .int (y_4.1 3), .ref (a 120), .ref (a 121), .int (y_4.1 4), .ref (a 122), .int (y_4.1 5), .int (y_4.1 6), .int (y_4.1 7), .int v14_11, .int v14_12])), (a 42, .inl (t 0, 9, .inl f42)), (a 43, .inl (t 0, 9, .inl f43)), (a 44, .inl (t 0, 9, .inl f44)), (a 45, .inl (t 0, 9, .inl f45)), (a 46, .inl (t 0, 9, .inl f46)), (a 47, .inl (t 0, 9, .inl f47)), (a 49, .inl (t 0, 9, .inl f49)), (a 54, .inr (9, [.int v54_0, .int v54_1, .int v54_2, .ref (a 55), .ref (a 56), .ref (a 57), .ref (a 58)])), (a 120, .inl (t 0, 81, .inl (y_4.2.1 0))), (a 121, .inl (t 0, 9, .inl (y_4.2.1 1))), (a 122, .inl (t 0, 9, .inl (y_4.2.1 2))), (a 17, .inr (1, [.ref (a 40), .ref (a 14), .ref (a 127), .ref (a 128), .int (y_17.1 1), .int (y_17.1 2)])), (a 40, .inr (0, [.int v40_0, .int v40_1, .int v40_2, .int v40_3, .int v40_4, .int v40_5, .int v40_6, .int v40_7, .ref (a 41), .ref (a 42), .ref (a 43), .ref (a 44), .ref (a 45), .ref (a 46), .ref (a 47), .ref (a 48), .ref (a 49), .ref (a 50), .ref (a 54)])), (a 127, .inl (t 3, 256, .inl (y_4.2.1 3))), (a 128, .inl (t 0, 4, .inl (u_27.2.1 0)))] H := hP
          have hD : va_D A [(a 14, .inr (2, [.ref (a 40), .int (y_4.1 1), .int (y_4.1 2), .int (y_4.1 3), .ref (a 120), .ref (a 121), .int (y_4.1 4), .ref (a 122), .int (y_4.1 5), .int (y_4.1 6), .int (y_4.1 7), .int v14_11, .int v14_12])), (a 42, .inl (t 0, 9, .inl f42)), (a 43, .inl (t 0, 9, .inl f43)), (a 44, .inl (t 0, 9, .inl f44)), (a 45, .inl (t 0, 9, .inl f45)), (a 46, .inl (t 0, 9, .inl f46)), (a 47, .inl (t 0, 9, .inl f47)), (a 49, .inl (t 0, 9, .inl f49)), (a 54, .inr (9, [.int v54_0, .int v54_1, .int v54_2, .ref (a 55), .ref (a 56), .ref (a 57), .ref (a 58)])), (a 120, .inl (t 0, 81, .inl (y_4.2.1 0))), (a 121, .inl (t 0, 9, .inl (y_4.2.1 1))), (a 122, .inl (t 0, 9, .inl (y_4.2.1 2))), (a 17, .inr (1, [.ref (a 40), .ref (a 14), .ref (a 127), .ref (a 128), .int (y_17.1 1), .int (y_17.1 2)])), (a 40, .inr (0, [.int v40_0, .int v40_1, .int v40_2, .int v40_3, .int v40_4, .int v40_5, .int v40_6, .int v40_7, .ref (a 41), .ref (a 42), .ref (a 43), .ref (a 44), .ref (a 45), .ref (a 46), .ref (a 47), .ref (a 48), .ref (a 49), .ref (a 50), .ref (a 54)])), (a 127, .inl (t 3, 256, .inl (y_4.2.1 3))), (a 128, .inl (t 0, 4, .inl (u_27.2.1 0)))] := hD
          refine lv_istore (lv' := [(4, .int r_28), (3, .int (y_17.1 0)), (2, .int (y_12.1 1)), (0, .ref (a 17)), (1, .int p0)]) hx hb dX1_draw_86 hl (by decide) rfl (fun ls hl => ?_)
          refine lv_iload hx hb dX1_draw_88 (lv_at hl 0 rfl) ?_
          refine lv_aload_n hx hb dX1_draw_90 rfl (lv_at hl 3 rfl) ?_
          refine va_get (D := D) (ci := 1) (v := .int (y_17.1 1)) (C := RX1) (T := TX1) (N := 6) hx hb hts iX1 hown hK hP 12 rfl rfl 4 (by decide) (hts _ m_370) (fun _ h9 => h9) rfl dX1_draw_91 ?_
          refine lv_icmp_le (tgt := 108) hx hb dX1_draw_94 (by decide) (fun c_30 => ?_) (fun c_30 => ?_)
          · skip
            obtain ⟨x_31, ex_31⟩ : ∃ y9 : Int32, y9 = (y_17.1 0) + 1 := ⟨_, rfl⟩
            have hx_31 : rg 1 2147483647 x_31 := by rw [ex_31]; exact rg_add h_25 (rg_c (x := 1) (k := 1) (by decide)) (by decide) (by decide) (by decide) (by decide)
            have tx_31 : x_31.toInt = (y_17.1 0).toInt + 1 := by rw [ex_31]; exact inc_tk h_25 (by decide) (by decide) (by decide)
            refine lv_iinc (v := x_31) (lv' := [(3, .int x_31), (4, .int r_28), (2, .int (y_12.1 1)), (0, .ref (a 17)), (1, .int p0)]) hx hb dX1_draw_108 hl (k := 1) rfl (by rw [ex_31]; rfl) (by decide) rfl (fun ls hl => ?_)
            refine lv_goto (tgt := 76) hx hb dX1_draw_111 (by decide) ?_
            exact ih_22 (fun k => [x_31, (y_17.1 1), (y_17.1 2)].getD k 0, fun k => [(u_27.2.1 0)].getD k (fun _ => 0), fun k => [].getD k (fun _ => 0), fun k => [].getD k 0) _ _ ls ⟨(m_upk me_23 tx_31 (by decide)), (rg_w (c := 0) (d := 2147483647) hx_31 (by decide) (by decide)), h_19, h_20, h_29, (hP.sub [0, 12, 13, 1, 2, 3, 4, 5, 6, 7, 8, 9, 10, 11, 14, 15] rfl), (hD.sub [0, 12, 13, 1, 2, 3, 4, 5, 6, 7, 8, 9, 10, 11, 14, 15] (by decide) rfl), hS, (lv_sub hl [0, 2, 3, 4] rfl)⟩
          · skip
            have h_32 : rg 0 2147483647 r_28 := ⟨Int.le_trans (by decide) (c_nle c_30 h_19), ((rg_any r_28)).2⟩
            have h_33 : rg (-1) 2147483646 (y_17.1 1) := ⟨(h_19).1, Int.le_trans (c_nleR c_30 (rg_any r_28)) (by decide)⟩
            refine lv_aload_n hx hb dX1_draw_97 rfl (lv_at hl 3 rfl) ?_
            refine lv_iload hx hb dX1_draw_98 (lv_at hl 0 rfl) ?_
            refine va_put (D := D) (ci := 1) (v := .int r_28) (ty := .int) (C := RX1) (T := TX1) (N := 6) hx hb hts iX1 tyX1 tyX1_ok nmX1 hown hK hP hD hS 12 rfl rfl 4 (by decide) (hts _ m_370) (fun _ h9 => h9) rfl (tyX1_ok 4 (by decide)) rfl rfl (Nat.le_of_ble_eq_true rfl) dX1_draw_100 (fun H locs hP hD hS => ?_)
            have hP : va_P D classes [(a 14, .inr (2, [.ref (a 40), .int (y_4.1 1), .int (y_4.1 2), .int (y_4.1 3), .ref (a 120), .ref (a 121), .int (y_4.1 4), .ref (a 122), .int (y_4.1 5), .int (y_4.1 6), .int (y_4.1 7), .int v14_11, .int v14_12])), (a 42, .inl (t 0, 9, .inl f42)), (a 43, .inl (t 0, 9, .inl f43)), (a 44, .inl (t 0, 9, .inl f44)), (a 45, .inl (t 0, 9, .inl f45)), (a 46, .inl (t 0, 9, .inl f46)), (a 47, .inl (t 0, 9, .inl f47)), (a 49, .inl (t 0, 9, .inl f49)), (a 54, .inr (9, [.int v54_0, .int v54_1, .int v54_2, .ref (a 55), .ref (a 56), .ref (a 57), .ref (a 58)])), (a 120, .inl (t 0, 81, .inl (y_4.2.1 0))), (a 121, .inl (t 0, 9, .inl (y_4.2.1 1))), (a 122, .inl (t 0, 9, .inl (y_4.2.1 2))), (a 17, .inr (1, [.ref (a 40), .ref (a 14), .ref (a 127), .ref (a 128), .int r_28, .int (y_17.1 2)])), (a 40, .inr (0, [.int v40_0, .int v40_1, .int v40_2, .int v40_3, .int v40_4, .int v40_5, .int v40_6, .int v40_7, .ref (a 41), .ref (a 42), .ref (a 43), .ref (a 44), .ref (a 45), .ref (a 46), .ref (a 47), .ref (a 48), .ref (a 49), .ref (a 50), .ref (a 54)])), (a 127, .inl (t 3, 256, .inl (y_4.2.1 3))), (a 128, .inl (t 0, 4, .inl (u_27.2.1 0)))] H := hP
            have hD : va_D A [(a 14, .inr (2, [.ref (a 40), .int (y_4.1 1), .int (y_4.1 2), .int (y_4.1 3), .ref (a 120), .ref (a 121), .int (y_4.1 4), .ref (a 122), .int (y_4.1 5), .int (y_4.1 6), .int (y_4.1 7), .int v14_11, .int v14_12])), (a 42, .inl (t 0, 9, .inl f42)), (a 43, .inl (t 0, 9, .inl f43)), (a 44, .inl (t 0, 9, .inl f44)), (a 45, .inl (t 0, 9, .inl f45)), (a 46, .inl (t 0, 9, .inl f46)), (a 47, .inl (t 0, 9, .inl f47)), (a 49, .inl (t 0, 9, .inl f49)), (a 54, .inr (9, [.int v54_0, .int v54_1, .int v54_2, .ref (a 55), .ref (a 56), .ref (a 57), .ref (a 58)])), (a 120, .inl (t 0, 81, .inl (y_4.2.1 0))), (a 121, .inl (t 0, 9, .inl (y_4.2.1 1))), (a 122, .inl (t 0, 9, .inl (y_4.2.1 2))), (a 17, .inr (1, [.ref (a 40), .ref (a 14), .ref (a 127), .ref (a 128), .int r_28, .int (y_17.1 2)])), (a 40, .inr (0, [.int v40_0, .int v40_1, .int v40_2, .int v40_3, .int v40_4, .int v40_5, .int v40_6, .int v40_7, .ref (a 41), .ref (a 42), .ref (a 43), .ref (a 44), .ref (a 45), .ref (a 46), .ref (a 47), .ref (a 48), .ref (a 49), .ref (a 50), .ref (a 54)])), (a 127, .inl (t 3, 256, .inl (y_4.2.1 3))), (a 128, .inl (t 0, 4, .inl (u_27.2.1 0)))] := hD
            refine lv_aload_n hx hb dX1_draw_103 rfl (lv_at hl 3 rfl) ?_
            refine lv_iload_n hx hb dX1_draw_104 rfl (lv_at hl 1 rfl) ?_
            refine va_put (D := D) (ci := 1) (v := .int (y_17.1 0)) (ty := .int) (C := RX1) (T := TX1) (N := 6) hx hb hts iX1 tyX1 tyX1_ok nmX1 hown hK hP hD hS 12 rfl rfl 5 (by decide) (hts _ m_372) (fun _ h9 => h9) rfl (tyX1_ok 5 (by decide)) rfl rfl (Nat.le_of_ble_eq_true rfl) dX1_draw_105 (fun H locs hP hD hS => ?_)
            have hP : va_P D classes [(a 14, .inr (2, [.ref (a 40), .int (y_4.1 1), .int (y_4.1 2), .int (y_4.1 3), .ref (a 120), .ref (a 121), .int (y_4.1 4), .ref (a 122), .int (y_4.1 5), .int (y_4.1 6), .int (y_4.1 7), .int v14_11, .int v14_12])), (a 42, .inl (t 0, 9, .inl f42)), (a 43, .inl (t 0, 9, .inl f43)), (a 44, .inl (t 0, 9, .inl f44)), (a 45, .inl (t 0, 9, .inl f45)), (a 46, .inl (t 0, 9, .inl f46)), (a 47, .inl (t 0, 9, .inl f47)), (a 49, .inl (t 0, 9, .inl f49)), (a 54, .inr (9, [.int v54_0, .int v54_1, .int v54_2, .ref (a 55), .ref (a 56), .ref (a 57), .ref (a 58)])), (a 120, .inl (t 0, 81, .inl (y_4.2.1 0))), (a 121, .inl (t 0, 9, .inl (y_4.2.1 1))), (a 122, .inl (t 0, 9, .inl (y_4.2.1 2))), (a 17, .inr (1, [.ref (a 40), .ref (a 14), .ref (a 127), .ref (a 128), .int r_28, .int (y_17.1 0)])), (a 40, .inr (0, [.int v40_0, .int v40_1, .int v40_2, .int v40_3, .int v40_4, .int v40_5, .int v40_6, .int v40_7, .ref (a 41), .ref (a 42), .ref (a 43), .ref (a 44), .ref (a 45), .ref (a 46), .ref (a 47), .ref (a 48), .ref (a 49), .ref (a 50), .ref (a 54)])), (a 127, .inl (t 3, 256, .inl (y_4.2.1 3))), (a 128, .inl (t 0, 4, .inl (u_27.2.1 0)))] H := hP
            have hD : va_D A [(a 14, .inr (2, [.ref (a 40), .int (y_4.1 1), .int (y_4.1 2), .int (y_4.1 3), .ref (a 120), .ref (a 121), .int (y_4.1 4), .ref (a 122), .int (y_4.1 5), .int (y_4.1 6), .int (y_4.1 7), .int v14_11, .int v14_12])), (a 42, .inl (t 0, 9, .inl f42)), (a 43, .inl (t 0, 9, .inl f43)), (a 44, .inl (t 0, 9, .inl f44)), (a 45, .inl (t 0, 9, .inl f45)), (a 46, .inl (t 0, 9, .inl f46)), (a 47, .inl (t 0, 9, .inl f47)), (a 49, .inl (t 0, 9, .inl f49)), (a 54, .inr (9, [.int v54_0, .int v54_1, .int v54_2, .ref (a 55), .ref (a 56), .ref (a 57), .ref (a 58)])), (a 120, .inl (t 0, 81, .inl (y_4.2.1 0))), (a 121, .inl (t 0, 9, .inl (y_4.2.1 1))), (a 122, .inl (t 0, 9, .inl (y_4.2.1 2))), (a 17, .inr (1, [.ref (a 40), .ref (a 14), .ref (a 127), .ref (a 128), .int r_28, .int (y_17.1 0)])), (a 40, .inr (0, [.int v40_0, .int v40_1, .int v40_2, .int v40_3, .int v40_4, .int v40_5, .int v40_6, .int v40_7, .ref (a 41), .ref (a 42), .ref (a 43), .ref (a 44), .ref (a 45), .ref (a 46), .ref (a 47), .ref (a 48), .ref (a 49), .ref (a 50), .ref (a 54)])), (a 127, .inl (t 3, 256, .inl (y_4.2.1 3))), (a 128, .inl (t 0, 4, .inl (u_27.2.1 0)))] := hD
            obtain ⟨x_34, ex_34⟩ : ∃ y9 : Int32, y9 = (y_17.1 0) + 1 := ⟨_, rfl⟩
            have hx_34 : rg 1 2147483647 x_34 := by rw [ex_34]; exact rg_add h_25 (rg_c (x := 1) (k := 1) (by decide)) (by decide) (by decide) (by decide) (by decide)
            have tx_34 : x_34.toInt = (y_17.1 0).toInt + 1 := by rw [ex_34]; exact inc_tk h_25 (by decide) (by decide) (by decide)
            refine lv_iinc (v := x_34) (lv' := [(3, .int x_34), (4, .int r_28), (2, .int (y_12.1 1)), (0, .ref (a 17)), (1, .int p0)]) hx hb dX1_draw_108 hl (k := 1) rfl (by rw [ex_34]; rfl) (by decide) rfl (fun ls hl => ?_)
            refine lv_goto (tgt := 76) hx hb dX1_draw_111 (by decide) ?_
            exact ih_22 (fun k => [x_34, r_28, (y_17.1 0)].getD k 0, fun k => [(u_27.2.1 0)].getD k (fun _ => 0), fun k => [].getD k (fun _ => 0), fun k => [].getD k 0) _ _ ls ⟨(m_upk me_23 tx_34 (by decide)), (rg_w (c := 0) (d := 2147483647) hx_34 (by decide) (by decide)), (rg_w (c := (-1)) (d := 2147483647) h_32 (by decide) (by decide)), (rg_w (c := 0) (d := 2147483647) h_25 (by decide) (by decide)), h_29, (hP.sub [0, 12, 13, 1, 2, 3, 4, 5, 6, 7, 8, 9, 10, 11, 14, 15] rfl), (hD.sub [0, 12, 13, 1, 2, 3, 4, 5, 6, 7, 8, 9, 10, 11, 14, 15] (by decide) rfl), hS, (lv_sub hl [0, 2, 3, 4] rfl)⟩
      · skip
        have h_35 : rg 0 5 (y_12.1 0) := ⟨(h_13).1, Int.le_trans (c_nleR c_16 o_3.2) (by decide)⟩
        have h_36 : rg 1 6 v40_7 := ⟨Int.le_trans (by decide) (c_nle c_16 h_13), (o_3.2).2⟩
        refine lv_iload_n hx hb dX1_draw_58 rfl (lv_at hl 1 rfl) ?_
        refine lv_aload_n hx hb dX1_draw_59 rfl (lv_at hl 2 rfl) ?_
        refine va_get (D := D) (ci := 1) (v := .ref (a 40)) (C := RX1) (T := TX1) (N := 6) hx hb hts iX1 hown hK hP 1 rfl rfl 0 (by decide) (hts _ m_366) (fun _ h9 => h9) rfl dX1_draw_60 ?_
        refine va_getN (D := D) (ci := 0) (v := .int v40_5) (C := RX0) (T := TX0) (N := 19) (host := "WordSeats") hx hb hts iX0 hown hK hP 2 rfl rfl 5 (by decide) (va_Nw.use rfl (hN _ n_134)) (fun _ h9 => h9) rfl dX1_draw_63 ?_
        refine lv_imul hx hb dX1_draw_66 ?_
        refine lv_topi (fun x_37 ex_37 => ?_)
        refine lv_istore_n (lv' := [(2, .int x_37), (3, .int (y_12.1 0)), (0, .ref (a 17)), (1, .int p0)]) hx hb dX1_draw_67 rfl hl (by decide) rfl (fun ls hl => ?_)
        obtain ⟨x_38, ex_38⟩ : ∃ y9 : Int32, y9 = (y_12.1 0) + 1 := ⟨_, rfl⟩
        have hx_38 : rg 1 6 x_38 := by rw [ex_38]; exact rg_add h_35 (rg_c (x := 1) (k := 1) (by decide)) (by decide) (by decide) (by decide) (by decide)
        have tx_38 : x_38.toInt = (y_12.1 0).toInt + 1 := by rw [ex_38]; exact inc_tk h_35 (by decide) (by decide) (by decide)
        refine lv_iinc (v := x_38) (lv' := [(3, .int x_38), (2, .int x_37), (0, .ref (a 17)), (1, .int p0)]) hx hb dX1_draw_68 hl (k := 1) rfl (by rw [ex_38]; rfl) (by decide) rfl (fun ls hl => ?_)
        refine lv_goto (tgt := 47) hx hb dX1_draw_71 (by decide) ?_
        exact ih_14 (fun k => [x_38, x_37].getD k 0, fun k => [].getD k (fun _ => 0), fun k => [].getD k (fun _ => 0), fun k => [].getD k 0) _ _ ls ⟨(m_upk me_15 tx_38 (by decide)), (rg_w (c := 0) (d := 7) hx_38 (by decide) (by decide)), hP, hD, hS, (lv_sub hl [0, 1, 2, 3] rfl)⟩
    · skip
      have h_39 : rg 0 3 (y_4.1 0) := ⟨(h_5).1, Int.le_trans (c_nleR c_10 o_3.1) (by decide)⟩
      refine lv_aload_n hx hb dX1_draw_31 rfl (lv_at hl 1 rfl) ?_
      refine lv_iload_n hx hb dX1_draw_32 rfl (lv_at hl 2 rfl) ?_
      refine lv_iload_n hx hb dX1_draw_33 rfl (lv_at hl 0 rfl) ?_
      refine y_wV (wr := [(a 128, .inl (t 0, 4, .inl f128))]) hF (s_X1_tryPeople l D t a (y_4.1 1) (y_4.1 2) (y_4.1 3) (y_4.1 4) (y_4.1 5) (y_4.1 6) (y_4.1 7) v14_11 v14_12 (-1) 0 v40_0 v40_1 v40_2 v40_3 v40_4 v40_5 v40_6 v40_7 f42 f43 f44 f45 f46 f47 f49 v54_0 v54_1 v54_2 (y_4.2.1 0) (y_4.2.1 1) (y_4.2.1 2) (y_4.2.1 3) p0 (y_4.1 0) h_6 h_7 (rg_w (c := 0) (d := 2147483647) (rg_c (x := 0) (k := 0) (by decide)) (by decide) (by decide)) r40_1 (rg_w (c := 0) (d := 4) o_3.1 (by decide) (by decide)) r40_6 o_3.2 q43 q44 r54_0 rp0 h_39 H.size) m_1191 m_1193 m_s31 m_10 m_1194 hd_X1_tryPeople ⟨Nat.le_of_ble_eq_true rfl, Nat.le_of_ble_eq_true rfl⟩ hK hN hP hD hS hA 1 (ci := 1) rfl rfl rfl [0, 1, 2, 3, 4, 5, 6, 7, 8, 9, 10, 11, 12, 13, 14] [15] rfl rfl (by decide) (by decide) (by decide) hl.1 rfl (Nat.le_of_ble_eq_true rfl) dX1_draw_34 ⟨Nat.zero_le _, Nat.zero_le _⟩ (fun u_40 H locs hu_40 hP hD hS => ?_)
      obtain ⟨h_42, h_43⟩ := hu_40
      have hP : va_P D classes [(a 128, .inl (t 0, 4, .inl f128)), (a 14, .inr (2, [.ref (a 40), .int (u_40.1 0), .int (u_40.1 1), .int (u_40.1 2), .ref (a 120), .ref (a 121), .int (u_40.1 3), .ref (a 122), .int (u_40.1 4), .int (u_40.1 5), .int (u_40.1 6), .int v14_11, .int v14_12])), (a 17, .inr (1, [.ref (a 40), .ref (a 14), .ref (a 127), .ref (a 128), .int (-1), .int 0])), (a 40, .inr (0, [.int v40_0, .int v40_1, .int v40_2, .int v40_3, .int v40_4, .int v40_5, .int v40_6, .int v40_7, .ref (a 41), .ref (a 42), .ref (a 43), .ref (a 44), .ref (a 45), .ref (a 46), .ref (a 47), .ref (a 48), .ref (a 49), .ref (a 50), .ref (a 54)])), (a 42, .inl (t 0, 9, .inl f42)), (a 43, .inl (t 0, 9, .inl f43)), (a 44, .inl (t 0, 9, .inl f44)), (a 45, .inl (t 0, 9, .inl f45)), (a 46, .inl (t 0, 9, .inl f46)), (a 47, .inl (t 0, 9, .inl f47)), (a 49, .inl (t 0, 9, .inl f49)), (a 54, .inr (9, [.int v54_0, .int v54_1, .int v54_2, .ref (a 55), .ref (a 56), .ref (a 57), .ref (a 58)])), (a 120, .inl (t 0, 81, .inl (u_40.2.1 0))), (a 121, .inl (t 0, 9, .inl (u_40.2.1 1))), (a 122, .inl (t 0, 9, .inl (u_40.2.1 2))), (a 127, .inl (t 3, 256, .inl (u_40.2.1 3)))] H := hP
      have hD : va_D A [(a 128, .inl (t 0, 4, .inl f128)), (a 14, .inr (2, [.ref (a 40), .int (u_40.1 0), .int (u_40.1 1), .int (u_40.1 2), .ref (a 120), .ref (a 121), .int (u_40.1 3), .ref (a 122), .int (u_40.1 4), .int (u_40.1 5), .int (u_40.1 6), .int v14_11, .int v14_12])), (a 17, .inr (1, [.ref (a 40), .ref (a 14), .ref (a 127), .ref (a 128), .int (-1), .int 0])), (a 40, .inr (0, [.int v40_0, .int v40_1, .int v40_2, .int v40_3, .int v40_4, .int v40_5, .int v40_6, .int v40_7, .ref (a 41), .ref (a 42), .ref (a 43), .ref (a 44), .ref (a 45), .ref (a 46), .ref (a 47), .ref (a 48), .ref (a 49), .ref (a 50), .ref (a 54)])), (a 42, .inl (t 0, 9, .inl f42)), (a 43, .inl (t 0, 9, .inl f43)), (a 44, .inl (t 0, 9, .inl f44)), (a 45, .inl (t 0, 9, .inl f45)), (a 46, .inl (t 0, 9, .inl f46)), (a 47, .inl (t 0, 9, .inl f47)), (a 49, .inl (t 0, 9, .inl f49)), (a 54, .inr (9, [.int v54_0, .int v54_1, .int v54_2, .ref (a 55), .ref (a 56), .ref (a 57), .ref (a 58)])), (a 120, .inl (t 0, 81, .inl (u_40.2.1 0))), (a 121, .inl (t 0, 9, .inl (u_40.2.1 1))), (a 122, .inl (t 0, 9, .inl (u_40.2.1 2))), (a 127, .inl (t 3, 256, .inl (u_40.2.1 3)))] := hD
      obtain ⟨x_44, ex_44⟩ : ∃ y9 : Int32, y9 = (y_4.1 0) + 1 := ⟨_, rfl⟩
      have hx_44 : rg 1 4 x_44 := by rw [ex_44]; exact rg_add h_39 (rg_c (x := 1) (k := 1) (by decide)) (by decide) (by decide) (by decide) (by decide)
      have tx_44 : x_44.toInt = (y_4.1 0).toInt + 1 := by rw [ex_44]; exact inc_tk h_39 (by decide) (by decide) (by decide)
      refine lv_iinc (v := x_44) (lv' := [(2, .int x_44), (0, .ref (a 17)), (1, .int p0)]) hx hb dX1_draw_37 hl (k := 0) rfl (by rw [ex_44]; rfl) (by decide) rfl (fun ls hl => ?_)
      refine lv_goto (tgt := 20) hx hb dX1_draw_40 (by decide) ?_
      exact ih_8 (fun k => [x_44, (u_40.1 0), (u_40.1 1), (u_40.1 2), (u_40.1 3), (u_40.1 4), (u_40.1 5), (u_40.1 6)].getD k 0, fun k => [(u_40.2.1 0), (u_40.2.1 1), (u_40.2.1 2), (u_40.2.1 3)].getD k (fun _ => 0), fun k => [].getD k (fun _ => 0), fun k => [].getD k 0) _ _ ls ⟨(m_upk me_9 tx_44 (by decide)), (rg_w (c := 0) (d := 4) hx_44 (by decide) (by decide)), h_42, h_43, (hP.sub [1, 2, 3, 4, 5, 6, 7, 8, 9, 10, 11, 12, 13, 14, 15, 0] rfl), (hD.sub [1, 2, 3, 4, 5, 6, 7, 8, 9, 10, 11, 12, 13, 14, 15, 0] (by decide) rfl), hS, (lv_sub hl [0, 1, 2] rfl)⟩
  · skip
    have hP9 := hP.sub (ws' := [(a 14, .inr (2, [.ref (a 40), .int v14_1, .int v14_2, .int v14_3, .ref (a 120), .ref (a 121), .int v14_6, .ref (a 122), .int v14_8, .int v14_9, .int v14_10, .int v14_11, .int v14_12])), (a 17, .inr (1, [.ref (a 40), .ref (a 14), .ref (a 127), .ref (a 128), .int (-1), .int 0])), (a 40, .inr (0, [.int v40_0, .int v40_1, .int v40_2, .int v40_3, .int v40_4, .int v40_5, .int v40_6, .int v40_7, .ref (a 41), .ref (a 42), .ref (a 43), .ref (a 44), .ref (a 45), .ref (a 46), .ref (a 47), .ref (a 48), .ref (a 49), .ref (a 50), .ref (a 54)])), (a 42, .inl (t 0, 9, .inl f42)), (a 43, .inl (t 0, 9, .inl f43)), (a 44, .inl (t 0, 9, .inl f44)), (a 45, .inl (t 0, 9, .inl f45)), (a 46, .inl (t 0, 9, .inl f46)), (a 47, .inl (t 0, 9, .inl f47)), (a 49, .inl (t 0, 9, .inl f49)), (a 54, .inr (9, [.int v54_0, .int v54_1, .int v54_2, .ref (a 55), .ref (a 56), .ref (a 57), .ref (a 58)])), (a 120, .inl (t 0, 81, .inl f120)), (a 121, .inl (t 0, 9, .inl f121)), (a 122, .inl (t 0, 9, .inl f122)), (a 127, .inl (t 3, 256, .inl f127)), (a 128, .inl (t 0, 4, .inl f128))]) [0, 1, 2, 3, 4, 5, 6, 7, 8, 9, 10, 11, 12, 13, 14, 15] rfl
    have hD9 := hD.sub (ws' := [(a 14, .inr (2, [.ref (a 40), .int v14_1, .int v14_2, .int v14_3, .ref (a 120), .ref (a 121), .int v14_6, .ref (a 122), .int v14_8, .int v14_9, .int v14_10, .int v14_11, .int v14_12])), (a 17, .inr (1, [.ref (a 40), .ref (a 14), .ref (a 127), .ref (a 128), .int (-1), .int 0])), (a 40, .inr (0, [.int v40_0, .int v40_1, .int v40_2, .int v40_3, .int v40_4, .int v40_5, .int v40_6, .int v40_7, .ref (a 41), .ref (a 42), .ref (a 43), .ref (a 44), .ref (a 45), .ref (a 46), .ref (a 47), .ref (a 48), .ref (a 49), .ref (a 50), .ref (a 54)])), (a 42, .inl (t 0, 9, .inl f42)), (a 43, .inl (t 0, 9, .inl f43)), (a 44, .inl (t 0, 9, .inl f44)), (a 45, .inl (t 0, 9, .inl f45)), (a 46, .inl (t 0, 9, .inl f46)), (a 47, .inl (t 0, 9, .inl f47)), (a 49, .inl (t 0, 9, .inl f49)), (a 54, .inr (9, [.int v54_0, .int v54_1, .int v54_2, .ref (a 55), .ref (a 56), .ref (a 57), .ref (a 58)])), (a 120, .inl (t 0, 81, .inl f120)), (a 121, .inl (t 0, 9, .inl f121)), (a 122, .inl (t 0, 9, .inl f122)), (a 127, .inl (t 3, 256, .inl f127)), (a 128, .inl (t 0, 4, .inl f128))]) [0, 1, 2, 3, 4, 5, 6, 7, 8, 9, 10, 11, 12, 13, 14, 15] (by decide) rfl
    exact W.vret hx hb hr (fun t9 ht hW => ⟨⟨(fun k => [v14_1, v14_2, v14_3, v14_6, v14_8, v14_9, v14_10, (-1), 0].getD k 0, fun k => [f120, f121, f122, f127, f128].getD k (fun _ => 0), fun k => [].getD k (fun _ => 0), fun _ => 0), rfl, ⟨r14_8, r14_9, (rg_w (c := 0) (d := 2147483647) (rg_c (x := 0) (k := 0) (by decide)) (by decide) (by decide)), q128⟩, by rw [ht]; exact hP9, hD9⟩, hS.F ht⟩) hS.2.2 dX1_draw_17

set_option maxHeartbeats 4000000 in
set_option maxRecDepth 100000 in
theorem s_X1_placeOf (l : Launch) (D : va_G) (t : Nat → ClassId) (a : Nat → Nat) (v17_4 : Int32) (v17_5 : Int32) (v40_0 : Int32) (v40_1 : Int32) (v40_2 : Int32) (v40_3 : Int32) (v40_4 : Int32) (v40_5 : Int32) (v40_6 : Int32) (v40_7 : Int32) (p0 : Int32) (r17_5 : rg 0 2147483647 v17_5) (r40_1 : rg 0 8 v40_1) (r40_5 : rg 0 4 v40_5) (r40_6 : rg 0 9 v40_6) (r40_7 : rg 0 9 v40_7) : Met l yX1_placeOf (wd yX1_placeOf cX1_placeOf 4 (some .int)) (RM 1 0 0) (PreP D (TY t) [.ref (a 17), .int p0] [(a 17, .inr (1, [.ref (a 40), .ref (a 14), .ref (a 127), .ref (a 128), .int v17_4, .int v17_5])), (a 40, .inr (0, [.int v40_0, .int v40_1, .int v40_2, .int v40_3, .int v40_4, .int v40_5, .int v40_6, .int v40_7, .ref (a 41), .ref (a 42), .ref (a 43), .ref (a 44), .ref (a 45), .ref (a 46), .ref (a 47), .ref (a 48), .ref (a 49), .ref (a 50), .ref (a 54)]))]) (QP (fun r => rg (-1) 3 r)) 0 0 NoF := by
  refine Met.ofW (cc := cX1_placeOf) (maxL := 4) (ret := (some .int)) (by decide) rfl ?_
  intro p e s m args below meth c s₁ B hml hv
  obtain ⟨rfl, hP, hK, hN⟩ := hv
  have hx := B.exec
  have hb := B.bytes
  have hr := B.returns
  have hts : ∀ w ∈ TB, w.before _ s = true := fun w h => atoms_spec (ws := wd yX1_placeOf cX1_placeOf 4 (some .int)) B.pre w (List.mem_cons_of_mem _ h)
  have hown : s.vm.findClass RX1 = some m.cls := findClass_of_methodNamed B.named
  have hlocks := B.notSynchronized
  have hF : CallFix p m c cX1_placeOf 4 s _ TB RX1 := ⟨hx, hb, hml, hown, hts⟩
  have hl := lv_entry ([.ref (a 17), .int p0]) (n := 4) (Nat.le_of_ble_eq_true rfl)
  rw [lg_entry_eq]
  generalize (lg_sl ([.ref (a 17), .int p0]) ++ List.replicate (4 - (lg_sl ([.ref (a 17), .int p0])).length) Slot.unset).toArray = ls at hl ⊢
  have hl : lv_has ls 4 [(0, .ref (a 17)), (1, .int p0)] := hl
  have hS : va_S NoF s.heap s.heap [] := va_S.rf
  have hP : va_P D classes [(a 17, .inr (1, [.ref (a 40), .ref (a 14), .ref (a 127), .ref (a 128), .int v17_4, .int v17_5])), (a 40, .inr (0, [.int v40_0, .int v40_1, .int v40_2, .int v40_3, .int v40_4, .int v40_5, .int v40_6, .int v40_7, .ref (a 41), .ref (a 42), .ref (a 43), .ref (a 44), .ref (a 45), .ref (a 46), .ref (a 47), .ref (a 48), .ref (a 49), .ref (a 50), .ref (a 54)]))] s.heap := hP
  refine lv_aload_n hx hb dX1_placeOf_0 rfl (lv_at hl 0 rfl) ?_
  refine y_pV hF (s_X1_canDraw l D t a v17_4 v17_5 v40_0 v40_1 v40_2 v40_3 v40_4 v40_5 v40_6 v40_7 r17_5 r40_1 r40_5 r40_6 r40_7) m_1190 m_1183 m_1184 m_10 m_1185 hd_X1_canDraw ⟨Nat.le_of_ble_eq_true rfl, Nat.le_of_ble_eq_true rfl⟩ hK hN hP hS [0, 1] rfl 0 (ci := 1) rfl rfl rfl hl.1 rfl (Nat.le_of_ble_eq_true rfl) dX1_placeOf_1 ⟨Nat.zero_le _, Nat.zero_le _⟩ (fun r_1 H locs hr_1 hP hS => ?_)
  refine lv_if_ne (tgt := 9) hx hb dX1_placeOf_4 (by decide) (fun c_2 => ?_) (fun c_2 => ?_)
  · skip
    have o_3 := Or.resolve_left hr_1.2 c_2
    refine lv_aload_n hx hb dX1_placeOf_9 rfl (lv_at hl 0 rfl) ?_
    refine va_get (D := D) (ci := 1) (v := .int v17_5) (C := RX1) (T := TX1) (N := 6) hx hb hts iX1 hown hK hP 0 rfl rfl 5 (by decide) (hts _ m_372) (fun _ h9 => h9) rfl dX1_placeOf_10 ?_
    refine lv_istore_n (lv' := [(2, .int v17_5), (0, .ref (a 17)), (1, .int p0)]) hx hb dX1_placeOf_13 rfl hl (by decide) rfl (fun ls hl => ?_)
    refine lv_aload_n hx hb dX1_placeOf_14 rfl (lv_at hl 1 rfl) ?_
    refine va_get (D := D) (ci := 1) (v := .ref (a 40)) (C := RX1) (T := TX1) (N := 6) hx hb hts iX1 hown hK hP 0 rfl rfl 0 (by decide) (hts _ m_366) (fun _ h9 => h9) rfl dX1_placeOf_15 ?_
    refine va_getN (D := D) (ci := 0) (v := .int v40_7) (C := RX0) (T := TX0) (N := 19) (host := "WordSeats") hx hb hts iX0 hown hK hP 1 rfl rfl 7 (by decide) (va_Nw.use rfl (hN _ n_147)) (fun _ h9 => h9) rfl dX1_placeOf_18 ?_
    refine lv_iconst (v := 1) hx hb dX1_placeOf_21 (by decide) ?_
    refine lv_isub hx hb dX1_placeOf_22 ?_
    refine lv_topi (fun x_4 ex_4 => ?_)
    have hx_4 : rg (-1) 5 x_4 := by rw [ex_4]; exact rg_sub o_3.2 (rg_c (x := 1) (k := 1) (by decide)) (by decide) (by decide) (by decide) (by decide)
    refine lv_istore_n (lv' := [(3, .int x_4), (2, .int v17_5), (0, .ref (a 17)), (1, .int p0)]) hx hb dX1_placeOf_23 rfl hl (by decide) rfl (fun ls hl => ?_)
    refine loopW (α := US) (fun n y_5 H locs ls => (y_5.1 0).toInt < (-2147483648) + (n : Int) ∧ rg (-2147483648) 5 (y_5.1 0) ∧ rg 0 2147483647 (y_5.1 1) ∧ va_P D classes [(a 17, .inr (1, [.ref (a 40), .ref (a 14), .ref (a 127), .ref (a 128), .int v17_4, .int v17_5])), (a 40, .inr (0, [.int v40_0, .int v40_1, .int v40_2, .int v40_3, .int v40_4, .int v40_5, .int v40_6, .int v40_7, .ref (a 41), .ref (a 42), .ref (a 43), .ref (a 44), .ref (a 45), .ref (a 46), .ref (a 47), .ref (a 48), .ref (a 49), .ref (a 50), .ref (a 54)]))] H ∧ va_S NoF s.heap H locs ∧ lv_has ls 4 [(3, .int (y_5.1 0)), (2, .int (y_5.1 1)), (0, .ref (a 17)), (1, .int p0)]) 24 (fun y_5 => []) (fun _ _ _ _ h9 => m_0d h9.1 h9.2.1) (fun n ih_8 y_5 H locs ls hI => ?_) 2147483654 (fun k => [x_4, v17_5].getD k 0, fun k => [].getD k (fun _ => 0), fun k => [].getD k (fun _ => 0), fun k => [].getD k 0) ⟨(m_id hx_4 (by decide)), (rg_w (c := (-2147483648)) (d := 5) hx_4 (by decide) (by decide)), r17_5, hP, hS, (lv_sub hl [0, 1, 2, 3] rfl)⟩
    obtain ⟨me_9, h_6, h_7, hP, hS, hl⟩ := hI
    refine lv_iload_n hx hb dX1_placeOf_24 rfl (lv_at hl 0 rfl) ?_
    refine lv_iload_n hx hb dX1_placeOf_25 rfl (lv_at hl 3 rfl) ?_
    refine lv_icmp_le (tgt := 45) hx hb dX1_placeOf_26 (by decide) (fun c_10 => ?_) (fun c_10 => ?_)
    · skip
      refine lv_iload_n hx hb dX1_placeOf_45 rfl (lv_at hl 1 rfl) ?_
      refine lv_aload_n hx hb dX1_placeOf_46 rfl (lv_at hl 2 rfl) ?_
      refine va_get (D := D) (ci := 1) (v := .ref (a 40)) (C := RX1) (T := TX1) (N := 6) hx hb hts iX1 hown hK hP 0 rfl rfl 0 (by decide) (hts _ m_366) (fun _ h9 => h9) rfl dX1_placeOf_47 ?_
      refine va_getN (D := D) (ci := 0) (v := .int v40_5) (C := RX0) (T := TX0) (N := 19) (host := "WordSeats") hx hb hts iX0 hown hK hP 1 rfl rfl 5 (by decide) (va_Nw.use rfl (hN _ n_134)) (fun _ h9 => h9) rfl dX1_placeOf_50 ?_
      refine lv_irem hx hb dX1_placeOf_53 (ne0_rg o_3.1) ?_
      refine lv_topi (fun x_11 ex_11 => ?_)
      have hx_11 : rg 0 3 x_11 := by rw [ex_11]; exact rg_rem h_7 o_3.1 (by decide)
      exact W.iret (v := x_11) hx hb hr (fun t9 ht hW => ⟨⟨x_11, (), rfl, (rg_w (c := (-1)) (d := 3) hx_11 (by decide) (by decide)), trivial⟩, hS.F ht⟩) hS.2.2 dX1_placeOf_54
    · skip
      have h_12 : rg (-2147483647) 5 (y_5.1 0) := ⟨Int.le_trans (by decide) (c_nle c_10 (rg_any p0)), (h_6).2⟩
      have h_13 : rg (-2147483648) 4 p0 := ⟨((rg_any p0)).1, Int.le_trans (c_nleR c_10 h_6) (by decide)⟩
      refine lv_iload_n hx hb dX1_placeOf_29 rfl (lv_at hl 1 rfl) ?_
      refine lv_aload_n hx hb dX1_placeOf_30 rfl (lv_at hl 2 rfl) ?_
      refine va_get (D := D) (ci := 1) (v := .ref (a 40)) (C := RX1) (T := TX1) (N := 6) hx hb hts iX1 hown hK hP 0 rfl rfl 0 (by decide) (hts _ m_366) (fun _ h9 => h9) rfl dX1_placeOf_31 ?_
      refine va_getN (D := D) (ci := 0) (v := .int v40_5) (C := RX0) (T := TX0) (N := 19) (host := "WordSeats") hx hb hts iX0 hown hK hP 1 rfl rfl 5 (by decide) (va_Nw.use rfl (hN _ n_134)) (fun _ h9 => h9) rfl dX1_placeOf_34 ?_
      refine lv_idiv hx hb dX1_placeOf_37 (ne0_rg o_3.1) ?_
      refine lv_topi (fun x_14 ex_14 => ?_)
      have hx_14 : rg 0 2147483647 x_14 := by rw [ex_14]; exact rg_div h_7 o_3.1
      refine lv_istore_n (lv' := [(2, .int x_14), (3, .int (y_5.1 0)), (0, .ref (a 17)), (1, .int p0)]) hx hb dX1_placeOf_38 rfl hl (by decide) rfl (fun ls hl => ?_)
      obtain ⟨x_15, ex_15⟩ : ∃ y9 : Int32, y9 = (y_5.1 0) + (-1) := ⟨_, rfl⟩
      have hx_15 : rg (-2147483648) 4 x_15 := by rw [ex_15]; exact rg_add h_12 (rg_c (x := (-1)) (k := (-1)) (by decide)) (by decide) (by decide) (by decide) (by decide)
      have tx_15 : x_15.toInt = (y_5.1 0).toInt + (-1) := by rw [ex_15]; exact inc_tk h_12 (by decide) (by decide) (by decide)
      refine lv_iinc (v := x_15) (lv' := [(3, .int x_15), (2, .int x_14), (0, .ref (a 17)), (1, .int p0)]) hx hb dX1_placeOf_39 hl (k := 1) rfl (by rw [ex_15]; rfl) (by decide) rfl (fun ls hl => ?_)
      refine lv_goto (tgt := 24) hx hb dX1_placeOf_42 (by decide) ?_
      exact ih_8 (fun k => [x_15, x_14].getD k 0, fun k => [].getD k (fun _ => 0), fun k => [].getD k (fun _ => 0), fun k => [].getD k 0) _ _ ls ⟨(m_dnk me_9 tx_15 (by decide)), (rg_w (c := (-2147483648)) (d := 5) hx_15 (by decide) (by decide)), hx_14, hP, hS, (lv_sub hl [0, 1, 2, 3] rfl)⟩
  · skip
    refine lv_iconst (v := (-1)) hx hb dX1_placeOf_7 (by decide) ?_
    exact W.iret (v := (-1)) hx hb hr (fun t9 ht hW => ⟨⟨(-1), (), rfl, (rg_w (c := (-1)) (d := 3) (rg_c (x := (-1)) (k := (-1)) (by decide)) (by decide) (by decide)), trivial⟩, hS.F ht⟩) hS.2.2 dX1_placeOf_8

set_option maxHeartbeats 4000000 in
set_option maxRecDepth 100000 in
theorem s_X6_isNothing_6 (l : Launch) (D : va_G) (t : Nat → ClassId) (a : Nat → Nat) (v6_1 : Int32) (v6_2 : Int32) (r6_2 : rg 0 60 v6_2) : Met l yX6_isNothing (wd yX6_isNothing cX6_isNothing 1 (some .boolean)) (RM 0 0 0) (PreP D (TY t) [.ref (a 6)] [(a 6, .inr (6, [.ref (a 10), .int v6_1, .int v6_2]))]) (QP (fun r => rg 0 1 r)) 0 0 NoF := by
  refine Met.ofW (cc := cX6_isNothing) (maxL := 1) (ret := (some .boolean)) (by decide) rfl ?_
  intro p e s m args below meth c s₁ B hml hv
  obtain ⟨rfl, hP, hK, hN⟩ := hv
  have hx := B.exec
  have hb := B.bytes
  have hr := B.returns
  have hts : ∀ w ∈ TB, w.before _ s = true := fun w h => atoms_spec (ws := wd yX6_isNothing cX6_isNothing 1 (some .boolean)) B.pre w (List.mem_cons_of_mem _ h)
  have hown : s.vm.findClass RX6 = some m.cls := findClass_of_methodNamed B.named
  have hlocks := B.notSynchronized
  have hF : CallFix p m c cX6_isNothing 1 s _ TB RX6 := ⟨hx, hb, hml, hown, hts⟩
  have hl := lv_entry ([.ref (a 6)]) (n := 1) (Nat.le_of_ble_eq_true rfl)
  rw [lg_entry_eq]
  generalize (lg_sl ([.ref (a 6)]) ++ List.replicate (1 - (lg_sl ([.ref (a 6)])).length) Slot.unset).toArray = ls at hl ⊢
  have hl : lv_has ls 1 [(0, .ref (a 6))] := hl
  have hS : va_S NoF s.heap s.heap [] := va_S.rf
  have hP : va_P D classes [(a 6, .inr (6, [.ref (a 10), .int v6_1, .int v6_2]))] s.heap := hP
  refine lv_aload_n hx hb dX6_isNothing_0 rfl (lv_at hl 0 rfl) ?_
  refine va_get (D := D) (ci := 6) (v := .int v6_1) (C := RX6) (T := TX6) (N := 3) hx hb hts iX6 hown hK hP 0 rfl rfl 1 (by decide) (hts _ m_420) (fun _ h9 => h9) rfl dX6_isNothing_1 ?_
  refine lv_iconst (v := (-1)) hx hb dX6_isNothing_4 (by decide) ?_
  refine lv_icmp_ne (tgt := 12) hx hb dX6_isNothing_5 (by decide) (fun c_1 => ?_) (fun c_1 => ?_)
  · skip
    refine lv_iconst (v := 0) hx hb dX6_isNothing_12 (by decide) ?_
    exact W.zret (v := 0) hx hb hr rfl (fun t9 ht hW => ⟨⟨0, (), rfl, (rg_w (c := 0) (d := 1) (rg_c (x := 0) (k := 0) (by decide)) (by decide) (by decide)), trivial⟩, hS.F ht⟩) hS.2.2 dX6_isNothing_13
  · skip
    have h_2 : rg (-1) (-1) v6_1 := rg_eq c_1 (rg_c (x := (-1)) (k := (-1)) (by decide))
    refine lv_iconst (v := 1) hx hb dX6_isNothing_8 (by decide) ?_
    refine lv_goto (tgt := 13) hx hb dX6_isNothing_9 (by decide) ?_
    exact W.zret (v := 1) hx hb hr rfl (fun t9 ht hW => ⟨⟨1, (), rfl, (rg_w (c := 0) (d := 1) (rg_c (x := 1) (k := 1) (by decide)) (by decide) (by decide)), trivial⟩, hS.F ht⟩) hS.2.2 dX6_isNothing_13

set_option maxHeartbeats 4000000 in
set_option maxRecDepth 100000 in
theorem s_X6_lay_6 (l : Launch) (D : va_G) (t : Nat → ClassId) (a : Nat → Nat) (v6_1 : Int32) (v6_2 : Int32) (g10 : Nat → Int64) (p0 : Int32) (p1 : Int32) (r6_2 : rg 0 60 v6_2) (rp0 : rg 0 3 p0) (rp1 : rg 0 60 p1) (sz : Nat) : Met l yX6_lay (wd yX6_lay cX6_lay 3 none) (RM 1 0 0) (PreW D (TY t) [.ref (a 6), .int p0, .int p1] [(a 6, .inr (6, [.ref (a 10), .int v6_1, .int v6_2])), (a 10, .inl (t 2, 60, .inr (.inl g10)))] sz) (va_Qv (fun (u : US) => rg 0 60 (u.1 1)) (fun (u : US) t9 => va_P D classes ((fun u : US => [(a 6, .inr (6, [.ref (a 10), .int (u.1 0), .int (u.1 1)])), (a 10, .inl (t 2, 60, .inr (.inl (u.2.2.1 0))))]) u) t9.heap ∧ va_D (va_A [(a 6, .inr (6, [.ref (a 10), .int v6_1, .int v6_2])), (a 10, .inl (t 2, 60, .inr (.inl g10)))] sz) ((fun u : US => [(a 6, .inr (6, [.ref (a 10), .int (u.1 0), .int (u.1 1)])), (a 10, .inl (t 2, 60, .inr (.inl (u.2.2.1 0))))]) u)) (va_A [(a 6, .inr (6, [.ref (a 10), .int v6_1, .int v6_2])), (a 10, .inl (t 2, 60, .inr (.inl g10)))] sz)) 0 0 (va_A [(a 6, .inr (6, [.ref (a 10), .int v6_1, .int v6_2])), (a 10, .inl (t 2, 60, .inr (.inl g10)))] sz) := by
  refine Met.ofW (cc := cX6_lay) (maxL := 3) (ret := none) (by decide) rfl ?_
  intro p e s m args below meth c s₁ B hml hv
  obtain ⟨rfl, hsz, hP, hK, hD0, hN⟩ := hv
  have hx := B.exec
  have hb := B.bytes
  have hr := B.returns
  have hts : ∀ w ∈ TB, w.before _ s = true := fun w h => atoms_spec (ws := wd yX6_lay cX6_lay 3 none) B.pre w (List.mem_cons_of_mem _ h)
  have hown : s.vm.findClass RX6 = some m.cls := findClass_of_methodNamed B.named
  have hlocks := B.notSynchronized
  have hF : CallFix p m c cX6_lay 3 s _ TB RX6 := ⟨hx, hb, hml, hown, hts⟩
  have hl := lv_entry ([.ref (a 6), .int p0, .int p1]) (n := 3) (Nat.le_of_ble_eq_true rfl)
  rw [lg_entry_eq]
  generalize (lg_sl ([.ref (a 6), .int p0, .int p1]) ++ List.replicate (3 - (lg_sl ([.ref (a 6), .int p0, .int p1])).length) Slot.unset).toArray = ls at hl ⊢
  have hl : lv_has ls 3 [(0, .ref (a 6)), (1, .int p0), (2, .int p1)] := hl
  subst hsz
  have hD := hD0.self (sz := s.heap.size)
  generalize hAe : va_A [(a 6, .inr (6, [.ref (a 10), .int v6_1, .int v6_2])), (a 10, .inl (t 2, 60, .inr (.inl g10)))] s.heap.size = A at hD ⊢
  have hA : ∀ q : Nat, s.heap.size ≤ q → A q := fun q h => by rw [← hAe]; exact Or.inr h
  have hS : va_S A s.heap s.heap [] := va_S.rf
  have hP : va_P D classes [(a 6, .inr (6, [.ref (a 10), .int v6_1, .int v6_2])), (a 10, .inl (t 2, 60, .inr (.inl g10)))] s.heap := hP
  refine lv_aload_n hx hb dX6_lay_0 rfl (lv_at hl 0 rfl) ?_
  refine lv_iload_n hx hb dX6_lay_1 rfl (lv_at hl 1 rfl) ?_
  refine va_put (D := D) (ci := 6) (v := .int p0) (ty := .int) (C := RX6) (T := TX6) (N := 3) hx hb hts iX6 tyX6 tyX6_ok nmX6 hown hK hP hD hS 0 rfl rfl 1 (by decide) (hts _ m_420) (fun _ h9 => h9) rfl (tyX6_ok 1 (by decide)) rfl rfl (Nat.le_of_ble_eq_true rfl) dX6_lay_2 (fun H locs hP hD hS => ?_)
  have hP : va_P D classes [(a 6, .inr (6, [.ref (a 10), .int p0, .int v6_2])), (a 10, .inl (t 2, 60, .inr (.inl g10)))] H := hP
  have hD : va_D A [(a 6, .inr (6, [.ref (a 10), .int p0, .int v6_2])), (a 10, .inl (t 2, 60, .inr (.inl g10)))] := hD
  refine lv_aload_n hx hb dX6_lay_5 rfl (lv_at hl 0 rfl) ?_
  refine lv_iload_n hx hb dX6_lay_6 rfl (lv_at hl 2 rfl) ?_
  refine va_put (D := D) (ci := 6) (v := .int p1) (ty := .int) (C := RX6) (T := TX6) (N := 3) hx hb hts iX6 tyX6 tyX6_ok nmX6 hown hK hP hD hS 0 rfl rfl 2 (by decide) (hts _ m_423) (fun _ h9 => h9) rfl (tyX6_ok 2 (by decide)) rfl rfl (Nat.le_of_ble_eq_true rfl) dX6_lay_7 (fun H locs hP hD hS => ?_)
  have hP : va_P D classes [(a 6, .inr (6, [.ref (a 10), .int p0, .int p1])), (a 10, .inl (t 2, 60, .inr (.inl g10)))] H := hP
  have hD : va_D A [(a 6, .inr (6, [.ref (a 10), .int p0, .int p1])), (a 10, .inl (t 2, 60, .inr (.inl g10)))] := hD
  refine lv_aload_n hx hb dX6_lay_10 rfl (lv_at hl 0 rfl) ?_
  refine va_get (D := D) (ci := 6) (v := .ref (a 10)) (C := RX6) (T := TX6) (N := 3) hx hb hts iX6 hown hK hP 0 rfl rfl 0 (by decide) (hts _ m_417) (fun _ h9 => h9) rfl dX6_lay_11 ?_
  refine lv_lconst (v := 0) hx hb dX6_lay_14 rfl ?_
  refine y_wS (wr := [(a 6, .inr (6, [.ref (a 10), .int p0, .int p1]))]) hF (s_fillJ_10 l D t a g10 0 H.size) m_1314 m_1315 m_14 m_1316 hd_J7_fill_d0a16 ⟨Nat.le_of_ble_eq_true rfl, Nat.le_of_ble_eq_true rfl⟩ hK hN hP hD hS hA [1] [0] rfl rfl (by decide) (by decide) (by decide) hl.1 rfl (Nat.le_of_ble_eq_true rfl) dX6_lay_15 ⟨Nat.zero_le _, Nat.zero_le _⟩ (fun u_1 H locs hu_1 hP hD hS => ?_)
  have hP : va_P D classes [(a 6, .inr (6, [.ref (a 10), .int p0, .int p1])), (a 10, .inl (t 2, 60, .inr (.inl (u_1.2.2.1 0))))] H := hP
  have hD : va_D A [(a 6, .inr (6, [.ref (a 10), .int p0, .int p1])), (a 10, .inl (t 2, 60, .inr (.inl (u_1.2.2.1 0))))] := hD
  have hP9 := hP.sub (ws' := [(a 6, .inr (6, [.ref (a 10), .int p0, .int p1])), (a 10, .inl (t 2, 60, .inr (.inl (u_1.2.2.1 0))))]) [0, 1] rfl
  have hD9 := hD.sub (ws' := [(a 6, .inr (6, [.ref (a 10), .int p0, .int p1])), (a 10, .inl (t 2, 60, .inr (.inl (u_1.2.2.1 0))))]) [0, 1] (by decide) rfl
  exact W.vret hx hb hr (fun t9 ht hW => ⟨⟨(fun k => [p0, p1].getD k 0, fun k => [].getD k (fun _ => 0), fun k => [(u_1.2.2.1 0)].getD k (fun _ => 0), fun _ => 0), rfl, rp1, by rw [ht]; exact hP9, hD9⟩, hS.F ht⟩) hS.2.2 dX6_lay_18

set_option maxHeartbeats 4000000 in
set_option maxRecDepth 100000 in
theorem s_X6_cut_6 (l : Launch) (D : va_G) (t : Nat → ClassId) (a : Nat → Nat) (v6_1 : Int32) (v6_2 : Int32) (p0 : Int64) (r6_2 : rg 0 60 v6_2) : Met l yX6_cut (wd yX6_cut cX6_cut 3 (some .long)) (RM 0 0 0) (PreP D (TY t) [.ref (a 6), .long p0] [(a 6, .inr (6, [.ref (a 10), .int v6_1, .int v6_2]))]) (QPl (fun _ => True)) 0 0 NoF := by
  refine Met.ofW (cc := cX6_cut) (maxL := 3) (ret := (some .long)) (by decide) rfl ?_
  intro p e s m args below meth c s₁ B hml hv
  obtain ⟨rfl, hP, hK, hN⟩ := hv
  have hx := B.exec
  have hb := B.bytes
  have hr := B.returns
  have hts : ∀ w ∈ TB, w.before _ s = true := fun w h => atoms_spec (ws := wd yX6_cut cX6_cut 3 (some .long)) B.pre w (List.mem_cons_of_mem _ h)
  have hown : s.vm.findClass RX6 = some m.cls := findClass_of_methodNamed B.named
  have hlocks := B.notSynchronized
  have hF : CallFix p m c cX6_cut 3 s _ TB RX6 := ⟨hx, hb, hml, hown, hts⟩
  have hl := lv_entry ([.ref (a 6), .long p0]) (n := 3) (Nat.le_of_ble_eq_true rfl)
  rw [lg_entry_eq]
  generalize (lg_sl ([.ref (a 6), .long p0]) ++ List.replicate (3 - (lg_sl ([.ref (a 6), .long p0])).length) Slot.unset).toArray = ls at hl ⊢
  have hl : lv_has ls 3 [(0, .ref (a 6)), (1, .long p0)] := hl
  have hS : va_S NoF s.heap s.heap [] := va_S.rf
  have hP : va_P D classes [(a 6, .inr (6, [.ref (a 10), .int v6_1, .int v6_2]))] s.heap := hP
  refine lv_aload_n hx hb dX6_cut_0 rfl (lv_at hl 0 rfl) ?_
  refine va_get (D := D) (ci := 6) (v := .int v6_1) (C := RX6) (T := TX6) (N := 3) hx hb hts iX6 hown hK hP 0 rfl rfl 1 (by decide) (hts _ m_420) (fun _ h9 => h9) rfl dX6_cut_1 ?_
  by_cases s_1 : v6_1 = 0
  · refine x_seti 0 s_1 ?_
    refine lv_tableIn (off := 28) (tgt := 32) hx hb dX6_cut_4 (by decide) (by decide) rfl (by decide) ?_
    refine lv_lload_n hx hb dX6_cut_32 rfl (lv_at hl 1 rfl) ?_
    refine lv_l2i hx hb dX6_cut_33 rfl ?_
    refine lv_topi (fun x_2 ex_2 => ?_)
    refine lv_i2b hx hb dX6_cut_34 rfl ?_
    refine lv_topi (fun x_3 ex_3 => ?_)
    refine lv_i2l hx hb dX6_cut_35 rfl ?_
    exact W.lret (v := (x_3).toInt64) hx hb hr (fun t9 ht hW => ⟨⟨(x_3).toInt64, (), rfl, trivial, trivial⟩, hS.F ht⟩) hS.2.2 dX6_cut_36
  · by_cases s_4 : v6_1 = 1
    · refine x_seti 1 s_4 ?_
      refine lv_tableIn (off := 33) (tgt := 37) hx hb dX6_cut_4 (by decide) (by decide) rfl (by decide) ?_
      refine lv_lload_n hx hb dX6_cut_37 rfl (lv_at hl 1 rfl) ?_
      refine lv_l2i hx hb dX6_cut_38 rfl ?_
      refine lv_topi (fun x_5 ex_5 => ?_)
      refine lv_i2s hx hb dX6_cut_39 rfl ?_
      refine lv_topi (fun x_6 ex_6 => ?_)
      refine lv_i2l hx hb dX6_cut_40 rfl ?_
      exact W.lret (v := (x_6).toInt64) hx hb hr (fun t9 ht hW => ⟨⟨(x_6).toInt64, (), rfl, trivial, trivial⟩, hS.F ht⟩) hS.2.2 dX6_cut_41
    · by_cases s_7 : v6_1 = 2
      · refine x_seti 2 s_7 ?_
        refine lv_tableIn (off := 38) (tgt := 42) hx hb dX6_cut_4 (by decide) (by decide) rfl (by decide) ?_
        refine lv_lload_n hx hb dX6_cut_42 rfl (lv_at hl 1 rfl) ?_
        refine lv_l2i hx hb dX6_cut_43 rfl ?_
        refine lv_topi (fun x_8 ex_8 => ?_)
        refine lv_i2l hx hb dX6_cut_44 rfl ?_
        exact W.lret (v := (x_8).toInt64) hx hb hr (fun t9 ht hW => ⟨⟨(x_8).toInt64, (), rfl, trivial, trivial⟩, hS.F ht⟩) hS.2.2 dX6_cut_45
      · refine lv_tableOut (tgt := 46) hx hb dX6_cut_4 (by have q0 := c_ne s_1 (k := 0) (by decide); have q1 := c_ne s_4 (k := 1) (by decide); have q2 := c_ne s_7 (k := 2) (by decide); omega) (by decide) ?_
        refine lv_lload_n hx hb dX6_cut_46 rfl (lv_at hl 1 rfl) ?_
        exact W.lret (v := p0) hx hb hr (fun t9 ht hW => ⟨⟨p0, (), rfl, trivial, trivial⟩, hS.F ht⟩) hS.2.2 dX6_cut_47

set_option maxHeartbeats 4000000 in
set_option maxRecDepth 100000 in
theorem s_X6_set_6 (l : Launch) (D : va_G) (t : Nat → ClassId) (a : Nat → Nat) (v6_1 : Int32) (v6_2 : Int32) (g10 : Nat → Int64) (p0 : Int32) (p1 : Int64) (r6_2 : rg 0 60 v6_2) (rp0 : rg 0 59 p0) (sz : Nat) : Met l yX6_set (wd yX6_set cX6_set 4 none) (RM 1 0 0) (PreW D (TY t) [.ref (a 6), .int p0, .long p1] [(a 6, .inr (6, [.ref (a 10), .int v6_1, .int v6_2])), (a 10, .inl (t 2, 60, .inr (.inl g10)))] sz) (va_Qv (fun (_ : US) => True) (fun (u : US) t9 => va_P D classes ((fun u : US => [(a 6, .inr (6, [.ref (a 10), .int v6_1, .int v6_2])), (a 10, .inl (t 2, 60, .inr (.inl (u.2.2.1 0))))]) u) t9.heap ∧ va_D (va_A [(a 6, .inr (6, [.ref (a 10), .int v6_1, .int v6_2])), (a 10, .inl (t 2, 60, .inr (.inl g10)))] sz) ((fun u : US => [(a 6, .inr (6, [.ref (a 10), .int v6_1, .int v6_2])), (a 10, .inl (t 2, 60, .inr (.inl (u.2.2.1 0))))]) u)) (va_A [(a 6, .inr (6, [.ref (a 10), .int v6_1, .int v6_2])), (a 10, .inl (t 2, 60, .inr (.inl g10)))] sz)) 0 0 (va_A [(a 6, .inr (6, [.ref (a 10), .int v6_1, .int v6_2])), (a 10, .inl (t 2, 60, .inr (.inl g10)))] sz) := by
  refine Met.ofW (cc := cX6_set) (maxL := 4) (ret := none) (by decide) rfl ?_
  intro p e s m args below meth c s₁ B hml hv
  obtain ⟨rfl, hsz, hP, hK, hD0, hN⟩ := hv
  have hx := B.exec
  have hb := B.bytes
  have hr := B.returns
  have hts : ∀ w ∈ TB, w.before _ s = true := fun w h => atoms_spec (ws := wd yX6_set cX6_set 4 none) B.pre w (List.mem_cons_of_mem _ h)
  have hown : s.vm.findClass RX6 = some m.cls := findClass_of_methodNamed B.named
  have hlocks := B.notSynchronized
  have hF : CallFix p m c cX6_set 4 s _ TB RX6 := ⟨hx, hb, hml, hown, hts⟩
  have hl := lv_entry ([.ref (a 6), .int p0, .long p1]) (n := 4) (Nat.le_of_ble_eq_true rfl)
  rw [lg_entry_eq]
  generalize (lg_sl ([.ref (a 6), .int p0, .long p1]) ++ List.replicate (4 - (lg_sl ([.ref (a 6), .int p0, .long p1])).length) Slot.unset).toArray = ls at hl ⊢
  have hl : lv_has ls 4 [(0, .ref (a 6)), (1, .int p0), (2, .long p1)] := hl
  subst hsz
  have hD := hD0.self (sz := s.heap.size)
  generalize hAe : va_A [(a 6, .inr (6, [.ref (a 10), .int v6_1, .int v6_2])), (a 10, .inl (t 2, 60, .inr (.inl g10)))] s.heap.size = A at hD ⊢
  have hA : ∀ q : Nat, s.heap.size ≤ q → A q := fun q h => by rw [← hAe]; exact Or.inr h
  have hS : va_S A s.heap s.heap [] := va_S.rf
  have hP : va_P D classes [(a 6, .inr (6, [.ref (a 10), .int v6_1, .int v6_2])), (a 10, .inl (t 2, 60, .inr (.inl g10)))] s.heap := hP
  refine lv_aload_n hx hb dX6_set_0 rfl (lv_at hl 0 rfl) ?_
  refine va_get (D := D) (ci := 6) (v := .ref (a 10)) (C := RX6) (T := TX6) (N := 3) hx hb hts iX6 hown hK hP 0 rfl rfl 0 (by decide) (hts _ m_417) (fun _ h9 => h9) rfl dX6_set_1 ?_
  refine lv_iload_n hx hb dX6_set_4 rfl (lv_at hl 1 rfl) ?_
  refine lv_aload_n hx hb dX6_set_5 rfl (lv_at hl 0 rfl) ?_
  refine lv_lload_n hx hb dX6_set_6 rfl (lv_at hl 2 rfl) ?_
  refine y_pVl hF (s_X6_cut_6 l D t a v6_1 v6_2 p1 r6_2) m_1325 m_1327 m_s36 m_12 m_1328 hd_X6_cut ⟨Nat.le_of_ble_eq_true rfl, Nat.le_of_ble_eq_true rfl⟩ hK hN hP hS [0] rfl 0 (ci := 6) rfl rfl rfl hl.1 rfl (Nat.le_of_ble_eq_true rfl) dX6_set_7 ⟨Nat.zero_le _, Nat.zero_le _⟩ (fun r_1 H locs hr_1 hP hS => ?_)
  refine x_last hx hb hK hP hD hS 1 2 rfl rfl (in_rg rp0 (by decide) (by decide)) dX6_set_10 (fun g_2 H locs hP hD hS => ?_)
  have hP : va_P D classes [(a 6, .inr (6, [.ref (a 10), .int v6_1, .int v6_2])), (a 10, .inl (t 2, 60, .inr (.inl g_2)))] H := hP
  have hD : va_D A [(a 6, .inr (6, [.ref (a 10), .int v6_1, .int v6_2])), (a 10, .inl (t 2, 60, .inr (.inl g_2)))] := hD
  have hP9 := hP.sub (ws' := [(a 6, .inr (6, [.ref (a 10), .int v6_1, .int v6_2])), (a 10, .inl (t 2, 60, .inr (.inl g_2)))]) [0, 1] rfl
  have hD9 := hD.sub (ws' := [(a 6, .inr (6, [.ref (a 10), .int v6_1, .int v6_2])), (a 10, .inl (t 2, 60, .inr (.inl g_2)))]) [0, 1] (by decide) rfl
  exact W.vret hx hb hr (fun t9 ht hW => ⟨⟨(fun k => [].getD k 0, fun k => [].getD k (fun _ => 0), fun k => [g_2].getD k (fun _ => 0), fun _ => 0), rfl, trivial, by rw [ht]; exact hP9, hD9⟩, hS.F ht⟩) hS.2.2 dX6_set_11

set_option maxHeartbeats 4000000 in
set_option maxRecDepth 100000 in
theorem s_X6_reaches_6 (l : Launch) (D : va_G) (t : Nat → ClassId) (a : Nat → Nat) (v6_1 : Int32) (v6_2 : Int32) (p0 : Int32) (p1 : Int32) (r6_2 : rg 0 60 v6_2) : Met l yX6_reaches (wd yX6_reaches cX6_reaches 3 (some .boolean)) (RM 0 0 0) (PreP D (TY t) [.ref (a 6), .int p0, .int p1] [(a 6, .inr (6, [.ref (a 10), .int v6_1, .int v6_2]))]) (QP (fun r => rg 0 1 r ∧ (r = 0 ∨ (0 ≤ p0.toInt ∧ 0 ≤ p1.toInt ∧ p0.toInt + p1.toInt ≤ v6_2.toInt)))) 0 0 NoF := by
  refine Met.ofW (cc := cX6_reaches) (maxL := 3) (ret := (some .boolean)) (by decide) rfl ?_
  intro p e s m args below meth c s₁ B hml hv
  obtain ⟨rfl, hP, hK, hN⟩ := hv
  have hx := B.exec
  have hb := B.bytes
  have hr := B.returns
  have hts : ∀ w ∈ TB, w.before _ s = true := fun w h => atoms_spec (ws := wd yX6_reaches cX6_reaches 3 (some .boolean)) B.pre w (List.mem_cons_of_mem _ h)
  have hown : s.vm.findClass RX6 = some m.cls := findClass_of_methodNamed B.named
  have hlocks := B.notSynchronized
  have hF : CallFix p m c cX6_reaches 3 s _ TB RX6 := ⟨hx, hb, hml, hown, hts⟩
  have hl := lv_entry ([.ref (a 6), .int p0, .int p1]) (n := 3) (Nat.le_of_ble_eq_true rfl)
  rw [lg_entry_eq]
  generalize (lg_sl ([.ref (a 6), .int p0, .int p1]) ++ List.replicate (3 - (lg_sl ([.ref (a 6), .int p0, .int p1])).length) Slot.unset).toArray = ls at hl ⊢
  have hl : lv_has ls 3 [(0, .ref (a 6)), (1, .int p0), (2, .int p1)] := hl
  have hS : va_S NoF s.heap s.heap [] := va_S.rf
  have hP : va_P D classes [(a 6, .inr (6, [.ref (a 10), .int v6_1, .int v6_2]))] s.heap := hP
  refine lv_iload_n hx hb dX6_reaches_0 rfl (lv_at hl 1 rfl) ?_
  refine lv_if_lt (tgt := 26) hx hb dX6_reaches_1 (by decide) (fun c_1 => ?_) (fun c_1 => ?_)
  · skip
    have zc_2 : (0 : Int32).toInt = 0 := rfl
    have tc_1 := t_lt c_1
    have h_3 : rg (-2147483648) (-1) p0 := ⟨((rg_any p0)).1, Int.le_trans (c_lt c_1 (rg_c (x := 0) (k := 0) (by decide))) (by decide)⟩
    refine lv_iconst (v := 0) hx hb dX6_reaches_26 (by decide) ?_
    exact W.zret (v := 0) hx hb hr rfl (fun t9 ht hW => ⟨⟨0, (), rfl, ⟨(rg_w (c := 0) (d := 1) (rg_c (x := 0) (k := 0) (by decide)) (by decide) (by decide)), (Or.inl rfl)⟩, trivial⟩, hS.F ht⟩) hS.2.2 dX6_reaches_27
  · skip
    have zc_4 : (0 : Int32).toInt = 0 := rfl
    have tc_1 := t_nlt c_1
    have h_5 : rg 0 2147483647 p0 := ⟨Int.le_trans (by decide) (c_nlt c_1 (rg_c (x := 0) (k := 0) (by decide))), ((rg_any p0)).2⟩
    refine lv_iload_n hx hb dX6_reaches_4 rfl (lv_at hl 2 rfl) ?_
    refine lv_if_lt (tgt := 26) hx hb dX6_reaches_5 (by decide) (fun c_6 => ?_) (fun c_6 => ?_)
    · skip
      have zc_7 : (0 : Int32).toInt = 0 := rfl
      have tc_6 := t_lt c_6
      have h_8 : rg (-2147483648) (-1) p1 := ⟨((rg_any p1)).1, Int.le_trans (c_lt c_6 (rg_c (x := 0) (k := 0) (by decide))) (by decide)⟩
      refine lv_iconst (v := 0) hx hb dX6_reaches_26 (by decide) ?_
      exact W.zret (v := 0) hx hb hr rfl (fun t9 ht hW => ⟨⟨0, (), rfl, ⟨(rg_w (c := 0) (d := 1) (rg_c (x := 0) (k := 0) (by decide)) (by decide) (by decide)), (Or.inl rfl)⟩, trivial⟩, hS.F ht⟩) hS.2.2 dX6_reaches_27
    · skip
      have zc_9 : (0 : Int32).toInt = 0 := rfl
      have tc_6 := t_nlt c_6
      have h_10 : rg 0 2147483647 p1 := ⟨Int.le_trans (by decide) (c_nlt c_6 (rg_c (x := 0) (k := 0) (by decide))), ((rg_any p1)).2⟩
      refine lv_iload_n hx hb dX6_reaches_8 rfl (lv_at hl 1 rfl) ?_
      refine lv_i2l hx hb dX6_reaches_9 rfl ?_
      refine lv_iload_n hx hb dX6_reaches_10 rfl (lv_at hl 2 rfl) ?_
      refine lv_i2l hx hb dX6_reaches_11 rfl ?_
      refine lv_ladd hx hb dX6_reaches_12 ?_
      refine lv_topl (fun x_11 ex_11 => ?_)
      refine lv_aload_n hx hb dX6_reaches_13 rfl (lv_at hl 0 rfl) ?_
      refine va_get (D := D) (ci := 6) (v := .int v6_2) (C := RX6) (T := TX6) (N := 3) hx hb hts iX6 hown hK hP 0 rfl rfl 2 (by decide) (hts _ m_423) (fun _ h9 => h9) rfl dX6_reaches_14 ?_
      refine lv_i2l hx hb dX6_reaches_17 rfl ?_
      refine W.lcmp hx hb dX6_reaches_18 ?_
      refine lv_topi (fun x_12 ex_12 => ?_)
      refine lv_if_gt (tgt := 26) hx hb dX6_reaches_19 (by decide) (fun c_13 => ?_) (fun c_13 => ?_)
      · skip
        have zc_14 : (0 : Int32).toInt = 0 := rfl
        have tc_13 := t_lt c_13
        have h_15 : rg 1 2147483647 x_12 := ⟨Int.le_trans (by decide) (c_ltR c_13 (rg_c (x := 0) (k := 0) (by decide))), ((rg_any x_12)).2⟩
        refine lv_iconst (v := 0) hx hb dX6_reaches_26 (by decide) ?_
        exact W.zret (v := 0) hx hb hr rfl (fun t9 ht hW => ⟨⟨0, (), rfl, ⟨(rg_w (c := 0) (d := 1) (rg_c (x := 0) (k := 0) (by decide)) (by decide) (by decide)), (Or.inl rfl)⟩, trivial⟩, hS.F ht⟩) hS.2.2 dX6_reaches_27
      · skip
        have zc_16 : (0 : Int32).toInt = 0 := rfl
        have tc_13 := t_nlt c_13
        have h_17 : rg (-2147483648) 0 x_12 := ⟨((rg_any x_12)).1, Int.le_trans (c_nltR c_13 (rg_c (x := 0) (k := 0) (by decide))) (by decide)⟩
        refine lv_iconst (v := 1) hx hb dX6_reaches_22 (by decide) ?_
        refine lv_goto (tgt := 27) hx hb dX6_reaches_23 (by decide) ?_
        exact W.zret (v := 1) hx hb hr rfl (fun t9 ht hW => ⟨⟨1, (), rfl, ⟨(rg_w (c := 0) (d := 1) (rg_c (x := 1) (k := 1) (by decide)) (by decide) (by decide)), (Or.inr ⟨by have z0 := zt0; omega, by have z0 := zt0; omega, lc_le ex_11 ex_12 (by first | exact c_13 | exact t_gtn c_13)⟩)⟩, trivial⟩, hS.F ht⟩) hS.2.2 dX6_reaches_27

set_option maxHeartbeats 4000000 in
set_option maxRecDepth 100000 in
theorem s_X6_isNothing_7 (l : Launch) (D : va_G) (t : Nat → ClassId) (a : Nat → Nat) (v7_1 : Int32) (v7_2 : Int32) (r7_2 : rg 0 60 v7_2) : Met l yX6_isNothing (wd yX6_isNothing cX6_isNothing 1 (some .boolean)) (RM 0 0 0) (PreP D (TY t) [.ref (a 7)] [(a 7, .inr (6, [.ref (a 11), .int v7_1, .int v7_2]))]) (QP (fun r => rg 0 1 r)) 0 0 NoF := by
  refine Met.ofW (cc := cX6_isNothing) (maxL := 1) (ret := (some .boolean)) (by decide) rfl ?_
  intro p e s m args below meth c s₁ B hml hv
  obtain ⟨rfl, hP, hK, hN⟩ := hv
  have hx := B.exec
  have hb := B.bytes
  have hr := B.returns
  have hts : ∀ w ∈ TB, w.before _ s = true := fun w h => atoms_spec (ws := wd yX6_isNothing cX6_isNothing 1 (some .boolean)) B.pre w (List.mem_cons_of_mem _ h)
  have hown : s.vm.findClass RX6 = some m.cls := findClass_of_methodNamed B.named
  have hlocks := B.notSynchronized
  have hF : CallFix p m c cX6_isNothing 1 s _ TB RX6 := ⟨hx, hb, hml, hown, hts⟩
  have hl := lv_entry ([.ref (a 7)]) (n := 1) (Nat.le_of_ble_eq_true rfl)
  rw [lg_entry_eq]
  generalize (lg_sl ([.ref (a 7)]) ++ List.replicate (1 - (lg_sl ([.ref (a 7)])).length) Slot.unset).toArray = ls at hl ⊢
  have hl : lv_has ls 1 [(0, .ref (a 7))] := hl
  have hS : va_S NoF s.heap s.heap [] := va_S.rf
  have hP : va_P D classes [(a 7, .inr (6, [.ref (a 11), .int v7_1, .int v7_2]))] s.heap := hP
  refine lv_aload_n hx hb dX6_isNothing_0 rfl (lv_at hl 0 rfl) ?_
  refine va_get (D := D) (ci := 6) (v := .int v7_1) (C := RX6) (T := TX6) (N := 3) hx hb hts iX6 hown hK hP 0 rfl rfl 1 (by decide) (hts _ m_420) (fun _ h9 => h9) rfl dX6_isNothing_1 ?_
  refine lv_iconst (v := (-1)) hx hb dX6_isNothing_4 (by decide) ?_
  refine lv_icmp_ne (tgt := 12) hx hb dX6_isNothing_5 (by decide) (fun c_1 => ?_) (fun c_1 => ?_)
  · skip
    refine lv_iconst (v := 0) hx hb dX6_isNothing_12 (by decide) ?_
    exact W.zret (v := 0) hx hb hr rfl (fun t9 ht hW => ⟨⟨0, (), rfl, (rg_w (c := 0) (d := 1) (rg_c (x := 0) (k := 0) (by decide)) (by decide) (by decide)), trivial⟩, hS.F ht⟩) hS.2.2 dX6_isNothing_13
  · skip
    have h_2 : rg (-1) (-1) v7_1 := rg_eq c_1 (rg_c (x := (-1)) (k := (-1)) (by decide))
    refine lv_iconst (v := 1) hx hb dX6_isNothing_8 (by decide) ?_
    refine lv_goto (tgt := 13) hx hb dX6_isNothing_9 (by decide) ?_
    exact W.zret (v := 1) hx hb hr rfl (fun t9 ht hW => ⟨⟨1, (), rfl, (rg_w (c := 0) (d := 1) (rg_c (x := 1) (k := 1) (by decide)) (by decide) (by decide)), trivial⟩, hS.F ht⟩) hS.2.2 dX6_isNothing_13

set_option maxHeartbeats 4000000 in
set_option maxRecDepth 100000 in
theorem s_X6_lay_7 (l : Launch) (D : va_G) (t : Nat → ClassId) (a : Nat → Nat) (v7_1 : Int32) (v7_2 : Int32) (g11 : Nat → Int64) (p0 : Int32) (p1 : Int32) (r7_2 : rg 0 60 v7_2) (rp0 : rg 0 3 p0) (rp1 : rg 0 60 p1) (sz : Nat) : Met l yX6_lay (wd yX6_lay cX6_lay 3 none) (RM 1 0 0) (PreW D (TY t) [.ref (a 7), .int p0, .int p1] [(a 7, .inr (6, [.ref (a 11), .int v7_1, .int v7_2])), (a 11, .inl (t 2, 60, .inr (.inl g11)))] sz) (va_Qv (fun (u : US) => rg 0 60 (u.1 1)) (fun (u : US) t9 => va_P D classes ((fun u : US => [(a 7, .inr (6, [.ref (a 11), .int (u.1 0), .int (u.1 1)])), (a 11, .inl (t 2, 60, .inr (.inl (u.2.2.1 0))))]) u) t9.heap ∧ va_D (va_A [(a 7, .inr (6, [.ref (a 11), .int v7_1, .int v7_2])), (a 11, .inl (t 2, 60, .inr (.inl g11)))] sz) ((fun u : US => [(a 7, .inr (6, [.ref (a 11), .int (u.1 0), .int (u.1 1)])), (a 11, .inl (t 2, 60, .inr (.inl (u.2.2.1 0))))]) u)) (va_A [(a 7, .inr (6, [.ref (a 11), .int v7_1, .int v7_2])), (a 11, .inl (t 2, 60, .inr (.inl g11)))] sz)) 0 0 (va_A [(a 7, .inr (6, [.ref (a 11), .int v7_1, .int v7_2])), (a 11, .inl (t 2, 60, .inr (.inl g11)))] sz) := by
  refine Met.ofW (cc := cX6_lay) (maxL := 3) (ret := none) (by decide) rfl ?_
  intro p e s m args below meth c s₁ B hml hv
  obtain ⟨rfl, hsz, hP, hK, hD0, hN⟩ := hv
  have hx := B.exec
  have hb := B.bytes
  have hr := B.returns
  have hts : ∀ w ∈ TB, w.before _ s = true := fun w h => atoms_spec (ws := wd yX6_lay cX6_lay 3 none) B.pre w (List.mem_cons_of_mem _ h)
  have hown : s.vm.findClass RX6 = some m.cls := findClass_of_methodNamed B.named
  have hlocks := B.notSynchronized
  have hF : CallFix p m c cX6_lay 3 s _ TB RX6 := ⟨hx, hb, hml, hown, hts⟩
  have hl := lv_entry ([.ref (a 7), .int p0, .int p1]) (n := 3) (Nat.le_of_ble_eq_true rfl)
  rw [lg_entry_eq]
  generalize (lg_sl ([.ref (a 7), .int p0, .int p1]) ++ List.replicate (3 - (lg_sl ([.ref (a 7), .int p0, .int p1])).length) Slot.unset).toArray = ls at hl ⊢
  have hl : lv_has ls 3 [(0, .ref (a 7)), (1, .int p0), (2, .int p1)] := hl
  subst hsz
  have hD := hD0.self (sz := s.heap.size)
  generalize hAe : va_A [(a 7, .inr (6, [.ref (a 11), .int v7_1, .int v7_2])), (a 11, .inl (t 2, 60, .inr (.inl g11)))] s.heap.size = A at hD ⊢
  have hA : ∀ q : Nat, s.heap.size ≤ q → A q := fun q h => by rw [← hAe]; exact Or.inr h
  have hS : va_S A s.heap s.heap [] := va_S.rf
  have hP : va_P D classes [(a 7, .inr (6, [.ref (a 11), .int v7_1, .int v7_2])), (a 11, .inl (t 2, 60, .inr (.inl g11)))] s.heap := hP
  refine lv_aload_n hx hb dX6_lay_0 rfl (lv_at hl 0 rfl) ?_
  refine lv_iload_n hx hb dX6_lay_1 rfl (lv_at hl 1 rfl) ?_
  refine va_put (D := D) (ci := 6) (v := .int p0) (ty := .int) (C := RX6) (T := TX6) (N := 3) hx hb hts iX6 tyX6 tyX6_ok nmX6 hown hK hP hD hS 0 rfl rfl 1 (by decide) (hts _ m_420) (fun _ h9 => h9) rfl (tyX6_ok 1 (by decide)) rfl rfl (Nat.le_of_ble_eq_true rfl) dX6_lay_2 (fun H locs hP hD hS => ?_)
  have hP : va_P D classes [(a 7, .inr (6, [.ref (a 11), .int p0, .int v7_2])), (a 11, .inl (t 2, 60, .inr (.inl g11)))] H := hP
  have hD : va_D A [(a 7, .inr (6, [.ref (a 11), .int p0, .int v7_2])), (a 11, .inl (t 2, 60, .inr (.inl g11)))] := hD
  refine lv_aload_n hx hb dX6_lay_5 rfl (lv_at hl 0 rfl) ?_
  refine lv_iload_n hx hb dX6_lay_6 rfl (lv_at hl 2 rfl) ?_
  refine va_put (D := D) (ci := 6) (v := .int p1) (ty := .int) (C := RX6) (T := TX6) (N := 3) hx hb hts iX6 tyX6 tyX6_ok nmX6 hown hK hP hD hS 0 rfl rfl 2 (by decide) (hts _ m_423) (fun _ h9 => h9) rfl (tyX6_ok 2 (by decide)) rfl rfl (Nat.le_of_ble_eq_true rfl) dX6_lay_7 (fun H locs hP hD hS => ?_)
  have hP : va_P D classes [(a 7, .inr (6, [.ref (a 11), .int p0, .int p1])), (a 11, .inl (t 2, 60, .inr (.inl g11)))] H := hP
  have hD : va_D A [(a 7, .inr (6, [.ref (a 11), .int p0, .int p1])), (a 11, .inl (t 2, 60, .inr (.inl g11)))] := hD
  refine lv_aload_n hx hb dX6_lay_10 rfl (lv_at hl 0 rfl) ?_
  refine va_get (D := D) (ci := 6) (v := .ref (a 11)) (C := RX6) (T := TX6) (N := 3) hx hb hts iX6 hown hK hP 0 rfl rfl 0 (by decide) (hts _ m_417) (fun _ h9 => h9) rfl dX6_lay_11 ?_
  refine lv_lconst (v := 0) hx hb dX6_lay_14 rfl ?_
  refine y_wS (wr := [(a 7, .inr (6, [.ref (a 11), .int p0, .int p1]))]) hF (s_fillJ_11 l D t a g11 0 H.size) m_1314 m_1315 m_14 m_1316 hd_J7_fill_d0a16 ⟨Nat.le_of_ble_eq_true rfl, Nat.le_of_ble_eq_true rfl⟩ hK hN hP hD hS hA [1] [0] rfl rfl (by decide) (by decide) (by decide) hl.1 rfl (Nat.le_of_ble_eq_true rfl) dX6_lay_15 ⟨Nat.zero_le _, Nat.zero_le _⟩ (fun u_1 H locs hu_1 hP hD hS => ?_)
  have hP : va_P D classes [(a 7, .inr (6, [.ref (a 11), .int p0, .int p1])), (a 11, .inl (t 2, 60, .inr (.inl (u_1.2.2.1 0))))] H := hP
  have hD : va_D A [(a 7, .inr (6, [.ref (a 11), .int p0, .int p1])), (a 11, .inl (t 2, 60, .inr (.inl (u_1.2.2.1 0))))] := hD
  have hP9 := hP.sub (ws' := [(a 7, .inr (6, [.ref (a 11), .int p0, .int p1])), (a 11, .inl (t 2, 60, .inr (.inl (u_1.2.2.1 0))))]) [0, 1] rfl
  have hD9 := hD.sub (ws' := [(a 7, .inr (6, [.ref (a 11), .int p0, .int p1])), (a 11, .inl (t 2, 60, .inr (.inl (u_1.2.2.1 0))))]) [0, 1] (by decide) rfl
  exact W.vret hx hb hr (fun t9 ht hW => ⟨⟨(fun k => [p0, p1].getD k 0, fun k => [].getD k (fun _ => 0), fun k => [(u_1.2.2.1 0)].getD k (fun _ => 0), fun _ => 0), rfl, rp1, by rw [ht]; exact hP9, hD9⟩, hS.F ht⟩) hS.2.2 dX6_lay_18

set_option maxHeartbeats 4000000 in
set_option maxRecDepth 100000 in
theorem s_X6_cut_7 (l : Launch) (D : va_G) (t : Nat → ClassId) (a : Nat → Nat) (v7_1 : Int32) (v7_2 : Int32) (p0 : Int64) (r7_2 : rg 0 60 v7_2) : Met l yX6_cut (wd yX6_cut cX6_cut 3 (some .long)) (RM 0 0 0) (PreP D (TY t) [.ref (a 7), .long p0] [(a 7, .inr (6, [.ref (a 11), .int v7_1, .int v7_2]))]) (QPl (fun _ => True)) 0 0 NoF := by
  refine Met.ofW (cc := cX6_cut) (maxL := 3) (ret := (some .long)) (by decide) rfl ?_
  intro p e s m args below meth c s₁ B hml hv
  obtain ⟨rfl, hP, hK, hN⟩ := hv
  have hx := B.exec
  have hb := B.bytes
  have hr := B.returns
  have hts : ∀ w ∈ TB, w.before _ s = true := fun w h => atoms_spec (ws := wd yX6_cut cX6_cut 3 (some .long)) B.pre w (List.mem_cons_of_mem _ h)
  have hown : s.vm.findClass RX6 = some m.cls := findClass_of_methodNamed B.named
  have hlocks := B.notSynchronized
  have hF : CallFix p m c cX6_cut 3 s _ TB RX6 := ⟨hx, hb, hml, hown, hts⟩
  have hl := lv_entry ([.ref (a 7), .long p0]) (n := 3) (Nat.le_of_ble_eq_true rfl)
  rw [lg_entry_eq]
  generalize (lg_sl ([.ref (a 7), .long p0]) ++ List.replicate (3 - (lg_sl ([.ref (a 7), .long p0])).length) Slot.unset).toArray = ls at hl ⊢
  have hl : lv_has ls 3 [(0, .ref (a 7)), (1, .long p0)] := hl
  have hS : va_S NoF s.heap s.heap [] := va_S.rf
  have hP : va_P D classes [(a 7, .inr (6, [.ref (a 11), .int v7_1, .int v7_2]))] s.heap := hP
  refine lv_aload_n hx hb dX6_cut_0 rfl (lv_at hl 0 rfl) ?_
  refine va_get (D := D) (ci := 6) (v := .int v7_1) (C := RX6) (T := TX6) (N := 3) hx hb hts iX6 hown hK hP 0 rfl rfl 1 (by decide) (hts _ m_420) (fun _ h9 => h9) rfl dX6_cut_1 ?_
  by_cases s_1 : v7_1 = 0
  · refine x_seti 0 s_1 ?_
    refine lv_tableIn (off := 28) (tgt := 32) hx hb dX6_cut_4 (by decide) (by decide) rfl (by decide) ?_
    refine lv_lload_n hx hb dX6_cut_32 rfl (lv_at hl 1 rfl) ?_
    refine lv_l2i hx hb dX6_cut_33 rfl ?_
    refine lv_topi (fun x_2 ex_2 => ?_)
    refine lv_i2b hx hb dX6_cut_34 rfl ?_
    refine lv_topi (fun x_3 ex_3 => ?_)
    refine lv_i2l hx hb dX6_cut_35 rfl ?_
    exact W.lret (v := (x_3).toInt64) hx hb hr (fun t9 ht hW => ⟨⟨(x_3).toInt64, (), rfl, trivial, trivial⟩, hS.F ht⟩) hS.2.2 dX6_cut_36
  · by_cases s_4 : v7_1 = 1
    · refine x_seti 1 s_4 ?_
      refine lv_tableIn (off := 33) (tgt := 37) hx hb dX6_cut_4 (by decide) (by decide) rfl (by decide) ?_
      refine lv_lload_n hx hb dX6_cut_37 rfl (lv_at hl 1 rfl) ?_
      refine lv_l2i hx hb dX6_cut_38 rfl ?_
      refine lv_topi (fun x_5 ex_5 => ?_)
      refine lv_i2s hx hb dX6_cut_39 rfl ?_
      refine lv_topi (fun x_6 ex_6 => ?_)
      refine lv_i2l hx hb dX6_cut_40 rfl ?_
      exact W.lret (v := (x_6).toInt64) hx hb hr (fun t9 ht hW => ⟨⟨(x_6).toInt64, (), rfl, trivial, trivial⟩, hS.F ht⟩) hS.2.2 dX6_cut_41
    · by_cases s_7 : v7_1 = 2
      · refine x_seti 2 s_7 ?_
        refine lv_tableIn (off := 38) (tgt := 42) hx hb dX6_cut_4 (by decide) (by decide) rfl (by decide) ?_
        refine lv_lload_n hx hb dX6_cut_42 rfl (lv_at hl 1 rfl) ?_
        refine lv_l2i hx hb dX6_cut_43 rfl ?_
        refine lv_topi (fun x_8 ex_8 => ?_)
        refine lv_i2l hx hb dX6_cut_44 rfl ?_
        exact W.lret (v := (x_8).toInt64) hx hb hr (fun t9 ht hW => ⟨⟨(x_8).toInt64, (), rfl, trivial, trivial⟩, hS.F ht⟩) hS.2.2 dX6_cut_45
      · refine lv_tableOut (tgt := 46) hx hb dX6_cut_4 (by have q0 := c_ne s_1 (k := 0) (by decide); have q1 := c_ne s_4 (k := 1) (by decide); have q2 := c_ne s_7 (k := 2) (by decide); omega) (by decide) ?_
        refine lv_lload_n hx hb dX6_cut_46 rfl (lv_at hl 1 rfl) ?_
        exact W.lret (v := p0) hx hb hr (fun t9 ht hW => ⟨⟨p0, (), rfl, trivial, trivial⟩, hS.F ht⟩) hS.2.2 dX6_cut_47

set_option maxHeartbeats 4000000 in
set_option maxRecDepth 100000 in
theorem s_X6_set_7 (l : Launch) (D : va_G) (t : Nat → ClassId) (a : Nat → Nat) (v7_1 : Int32) (v7_2 : Int32) (g11 : Nat → Int64) (p0 : Int32) (p1 : Int64) (r7_2 : rg 0 60 v7_2) (rp0 : rg 0 59 p0) (sz : Nat) : Met l yX6_set (wd yX6_set cX6_set 4 none) (RM 1 0 0) (PreW D (TY t) [.ref (a 7), .int p0, .long p1] [(a 7, .inr (6, [.ref (a 11), .int v7_1, .int v7_2])), (a 11, .inl (t 2, 60, .inr (.inl g11)))] sz) (va_Qv (fun (_ : US) => True) (fun (u : US) t9 => va_P D classes ((fun u : US => [(a 7, .inr (6, [.ref (a 11), .int v7_1, .int v7_2])), (a 11, .inl (t 2, 60, .inr (.inl (u.2.2.1 0))))]) u) t9.heap ∧ va_D (va_A [(a 7, .inr (6, [.ref (a 11), .int v7_1, .int v7_2])), (a 11, .inl (t 2, 60, .inr (.inl g11)))] sz) ((fun u : US => [(a 7, .inr (6, [.ref (a 11), .int v7_1, .int v7_2])), (a 11, .inl (t 2, 60, .inr (.inl (u.2.2.1 0))))]) u)) (va_A [(a 7, .inr (6, [.ref (a 11), .int v7_1, .int v7_2])), (a 11, .inl (t 2, 60, .inr (.inl g11)))] sz)) 0 0 (va_A [(a 7, .inr (6, [.ref (a 11), .int v7_1, .int v7_2])), (a 11, .inl (t 2, 60, .inr (.inl g11)))] sz) := by
  refine Met.ofW (cc := cX6_set) (maxL := 4) (ret := none) (by decide) rfl ?_
  intro p e s m args below meth c s₁ B hml hv
  obtain ⟨rfl, hsz, hP, hK, hD0, hN⟩ := hv
  have hx := B.exec
  have hb := B.bytes
  have hr := B.returns
  have hts : ∀ w ∈ TB, w.before _ s = true := fun w h => atoms_spec (ws := wd yX6_set cX6_set 4 none) B.pre w (List.mem_cons_of_mem _ h)
  have hown : s.vm.findClass RX6 = some m.cls := findClass_of_methodNamed B.named
  have hlocks := B.notSynchronized
  have hF : CallFix p m c cX6_set 4 s _ TB RX6 := ⟨hx, hb, hml, hown, hts⟩
  have hl := lv_entry ([.ref (a 7), .int p0, .long p1]) (n := 4) (Nat.le_of_ble_eq_true rfl)
  rw [lg_entry_eq]
  generalize (lg_sl ([.ref (a 7), .int p0, .long p1]) ++ List.replicate (4 - (lg_sl ([.ref (a 7), .int p0, .long p1])).length) Slot.unset).toArray = ls at hl ⊢
  have hl : lv_has ls 4 [(0, .ref (a 7)), (1, .int p0), (2, .long p1)] := hl
  subst hsz
  have hD := hD0.self (sz := s.heap.size)
  generalize hAe : va_A [(a 7, .inr (6, [.ref (a 11), .int v7_1, .int v7_2])), (a 11, .inl (t 2, 60, .inr (.inl g11)))] s.heap.size = A at hD ⊢
  have hA : ∀ q : Nat, s.heap.size ≤ q → A q := fun q h => by rw [← hAe]; exact Or.inr h
  have hS : va_S A s.heap s.heap [] := va_S.rf
  have hP : va_P D classes [(a 7, .inr (6, [.ref (a 11), .int v7_1, .int v7_2])), (a 11, .inl (t 2, 60, .inr (.inl g11)))] s.heap := hP
  refine lv_aload_n hx hb dX6_set_0 rfl (lv_at hl 0 rfl) ?_
  refine va_get (D := D) (ci := 6) (v := .ref (a 11)) (C := RX6) (T := TX6) (N := 3) hx hb hts iX6 hown hK hP 0 rfl rfl 0 (by decide) (hts _ m_417) (fun _ h9 => h9) rfl dX6_set_1 ?_
  refine lv_iload_n hx hb dX6_set_4 rfl (lv_at hl 1 rfl) ?_
  refine lv_aload_n hx hb dX6_set_5 rfl (lv_at hl 0 rfl) ?_
  refine lv_lload_n hx hb dX6_set_6 rfl (lv_at hl 2 rfl) ?_
  refine y_pVl hF (s_X6_cut_7 l D t a v7_1 v7_2 p1 r7_2) m_1325 m_1327 m_s36 m_12 m_1328 hd_X6_cut ⟨Nat.le_of_ble_eq_true rfl, Nat.le_of_ble_eq_true rfl⟩ hK hN hP hS [0] rfl 0 (ci := 6) rfl rfl rfl hl.1 rfl (Nat.le_of_ble_eq_true rfl) dX6_set_7 ⟨Nat.zero_le _, Nat.zero_le _⟩ (fun r_1 H locs hr_1 hP hS => ?_)
  refine x_last hx hb hK hP hD hS 1 2 rfl rfl (in_rg rp0 (by decide) (by decide)) dX6_set_10 (fun g_2 H locs hP hD hS => ?_)
  have hP : va_P D classes [(a 7, .inr (6, [.ref (a 11), .int v7_1, .int v7_2])), (a 11, .inl (t 2, 60, .inr (.inl g_2)))] H := hP
  have hD : va_D A [(a 7, .inr (6, [.ref (a 11), .int v7_1, .int v7_2])), (a 11, .inl (t 2, 60, .inr (.inl g_2)))] := hD
  have hP9 := hP.sub (ws' := [(a 7, .inr (6, [.ref (a 11), .int v7_1, .int v7_2])), (a 11, .inl (t 2, 60, .inr (.inl g_2)))]) [0, 1] rfl
  have hD9 := hD.sub (ws' := [(a 7, .inr (6, [.ref (a 11), .int v7_1, .int v7_2])), (a 11, .inl (t 2, 60, .inr (.inl g_2)))]) [0, 1] (by decide) rfl
  exact W.vret hx hb hr (fun t9 ht hW => ⟨⟨(fun k => [].getD k 0, fun k => [].getD k (fun _ => 0), fun k => [g_2].getD k (fun _ => 0), fun _ => 0), rfl, trivial, by rw [ht]; exact hP9, hD9⟩, hS.F ht⟩) hS.2.2 dX6_set_11

set_option maxHeartbeats 4000000 in
set_option maxRecDepth 100000 in
theorem s_X6_reaches_7 (l : Launch) (D : va_G) (t : Nat → ClassId) (a : Nat → Nat) (v7_1 : Int32) (v7_2 : Int32) (p0 : Int32) (p1 : Int32) (r7_2 : rg 0 60 v7_2) : Met l yX6_reaches (wd yX6_reaches cX6_reaches 3 (some .boolean)) (RM 0 0 0) (PreP D (TY t) [.ref (a 7), .int p0, .int p1] [(a 7, .inr (6, [.ref (a 11), .int v7_1, .int v7_2]))]) (QP (fun r => rg 0 1 r ∧ (r = 0 ∨ (0 ≤ p0.toInt ∧ 0 ≤ p1.toInt ∧ p0.toInt + p1.toInt ≤ v7_2.toInt)))) 0 0 NoF := by
  refine Met.ofW (cc := cX6_reaches) (maxL := 3) (ret := (some .boolean)) (by decide) rfl ?_
  intro p e s m args below meth c s₁ B hml hv
  obtain ⟨rfl, hP, hK, hN⟩ := hv
  have hx := B.exec
  have hb := B.bytes
  have hr := B.returns
  have hts : ∀ w ∈ TB, w.before _ s = true := fun w h => atoms_spec (ws := wd yX6_reaches cX6_reaches 3 (some .boolean)) B.pre w (List.mem_cons_of_mem _ h)
  have hown : s.vm.findClass RX6 = some m.cls := findClass_of_methodNamed B.named
  have hlocks := B.notSynchronized
  have hF : CallFix p m c cX6_reaches 3 s _ TB RX6 := ⟨hx, hb, hml, hown, hts⟩
  have hl := lv_entry ([.ref (a 7), .int p0, .int p1]) (n := 3) (Nat.le_of_ble_eq_true rfl)
  rw [lg_entry_eq]
  generalize (lg_sl ([.ref (a 7), .int p0, .int p1]) ++ List.replicate (3 - (lg_sl ([.ref (a 7), .int p0, .int p1])).length) Slot.unset).toArray = ls at hl ⊢
  have hl : lv_has ls 3 [(0, .ref (a 7)), (1, .int p0), (2, .int p1)] := hl
  have hS : va_S NoF s.heap s.heap [] := va_S.rf
  have hP : va_P D classes [(a 7, .inr (6, [.ref (a 11), .int v7_1, .int v7_2]))] s.heap := hP
  refine lv_iload_n hx hb dX6_reaches_0 rfl (lv_at hl 1 rfl) ?_
  refine lv_if_lt (tgt := 26) hx hb dX6_reaches_1 (by decide) (fun c_1 => ?_) (fun c_1 => ?_)
  · skip
    have zc_2 : (0 : Int32).toInt = 0 := rfl
    have tc_1 := t_lt c_1
    have h_3 : rg (-2147483648) (-1) p0 := ⟨((rg_any p0)).1, Int.le_trans (c_lt c_1 (rg_c (x := 0) (k := 0) (by decide))) (by decide)⟩
    refine lv_iconst (v := 0) hx hb dX6_reaches_26 (by decide) ?_
    exact W.zret (v := 0) hx hb hr rfl (fun t9 ht hW => ⟨⟨0, (), rfl, ⟨(rg_w (c := 0) (d := 1) (rg_c (x := 0) (k := 0) (by decide)) (by decide) (by decide)), (Or.inl rfl)⟩, trivial⟩, hS.F ht⟩) hS.2.2 dX6_reaches_27
  · skip
    have zc_4 : (0 : Int32).toInt = 0 := rfl
    have tc_1 := t_nlt c_1
    have h_5 : rg 0 2147483647 p0 := ⟨Int.le_trans (by decide) (c_nlt c_1 (rg_c (x := 0) (k := 0) (by decide))), ((rg_any p0)).2⟩
    refine lv_iload_n hx hb dX6_reaches_4 rfl (lv_at hl 2 rfl) ?_
    refine lv_if_lt (tgt := 26) hx hb dX6_reaches_5 (by decide) (fun c_6 => ?_) (fun c_6 => ?_)
    · skip
      have zc_7 : (0 : Int32).toInt = 0 := rfl
      have tc_6 := t_lt c_6
      have h_8 : rg (-2147483648) (-1) p1 := ⟨((rg_any p1)).1, Int.le_trans (c_lt c_6 (rg_c (x := 0) (k := 0) (by decide))) (by decide)⟩
      refine lv_iconst (v := 0) hx hb dX6_reaches_26 (by decide) ?_
      exact W.zret (v := 0) hx hb hr rfl (fun t9 ht hW => ⟨⟨0, (), rfl, ⟨(rg_w (c := 0) (d := 1) (rg_c (x := 0) (k := 0) (by decide)) (by decide) (by decide)), (Or.inl rfl)⟩, trivial⟩, hS.F ht⟩) hS.2.2 dX6_reaches_27
    · skip
      have zc_9 : (0 : Int32).toInt = 0 := rfl
      have tc_6 := t_nlt c_6
      have h_10 : rg 0 2147483647 p1 := ⟨Int.le_trans (by decide) (c_nlt c_6 (rg_c (x := 0) (k := 0) (by decide))), ((rg_any p1)).2⟩
      refine lv_iload_n hx hb dX6_reaches_8 rfl (lv_at hl 1 rfl) ?_
      refine lv_i2l hx hb dX6_reaches_9 rfl ?_
      refine lv_iload_n hx hb dX6_reaches_10 rfl (lv_at hl 2 rfl) ?_
      refine lv_i2l hx hb dX6_reaches_11 rfl ?_
      refine lv_ladd hx hb dX6_reaches_12 ?_
      refine lv_topl (fun x_11 ex_11 => ?_)
      refine lv_aload_n hx hb dX6_reaches_13 rfl (lv_at hl 0 rfl) ?_
      refine va_get (D := D) (ci := 6) (v := .int v7_2) (C := RX6) (T := TX6) (N := 3) hx hb hts iX6 hown hK hP 0 rfl rfl 2 (by decide) (hts _ m_423) (fun _ h9 => h9) rfl dX6_reaches_14 ?_
      refine lv_i2l hx hb dX6_reaches_17 rfl ?_
      refine W.lcmp hx hb dX6_reaches_18 ?_
      refine lv_topi (fun x_12 ex_12 => ?_)
      refine lv_if_gt (tgt := 26) hx hb dX6_reaches_19 (by decide) (fun c_13 => ?_) (fun c_13 => ?_)
      · skip
        have zc_14 : (0 : Int32).toInt = 0 := rfl
        have tc_13 := t_lt c_13
        have h_15 : rg 1 2147483647 x_12 := ⟨Int.le_trans (by decide) (c_ltR c_13 (rg_c (x := 0) (k := 0) (by decide))), ((rg_any x_12)).2⟩
        refine lv_iconst (v := 0) hx hb dX6_reaches_26 (by decide) ?_
        exact W.zret (v := 0) hx hb hr rfl (fun t9 ht hW => ⟨⟨0, (), rfl, ⟨(rg_w (c := 0) (d := 1) (rg_c (x := 0) (k := 0) (by decide)) (by decide) (by decide)), (Or.inl rfl)⟩, trivial⟩, hS.F ht⟩) hS.2.2 dX6_reaches_27
      · skip
        have zc_16 : (0 : Int32).toInt = 0 := rfl
        have tc_13 := t_nlt c_13
        have h_17 : rg (-2147483648) 0 x_12 := ⟨((rg_any x_12)).1, Int.le_trans (c_nltR c_13 (rg_c (x := 0) (k := 0) (by decide))) (by decide)⟩
        refine lv_iconst (v := 1) hx hb dX6_reaches_22 (by decide) ?_
        refine lv_goto (tgt := 27) hx hb dX6_reaches_23 (by decide) ?_
        exact W.zret (v := 1) hx hb hr rfl (fun t9 ht hW => ⟨⟨1, (), rfl, ⟨(rg_w (c := 0) (d := 1) (rg_c (x := 1) (k := 1) (by decide)) (by decide) (by decide)), (Or.inr ⟨by have z0 := zt0; omega, by have z0 := zt0; omega, lc_le ex_11 ex_12 (by first | exact c_13 | exact t_gtn c_13)⟩)⟩, trivial⟩, hS.F ht⟩) hS.2.2 dX6_reaches_27

set_option maxHeartbeats 4000000 in
set_option maxRecDepth 100000 in
theorem s_X6_isNothing_8 (l : Launch) (D : va_G) (t : Nat → ClassId) (a : Nat → Nat) (v8_1 : Int32) (v8_2 : Int32) (r8_2 : rg 0 60 v8_2) : Met l yX6_isNothing (wd yX6_isNothing cX6_isNothing 1 (some .boolean)) (RM 0 0 0) (PreP D (TY t) [.ref (a 8)] [(a 8, .inr (6, [.ref (a 12), .int v8_1, .int v8_2]))]) (QP (fun r => rg 0 1 r)) 0 0 NoF := by
  refine Met.ofW (cc := cX6_isNothing) (maxL := 1) (ret := (some .boolean)) (by decide) rfl ?_
  intro p e s m args below meth c s₁ B hml hv
  obtain ⟨rfl, hP, hK, hN⟩ := hv
  have hx := B.exec
  have hb := B.bytes
  have hr := B.returns
  have hts : ∀ w ∈ TB, w.before _ s = true := fun w h => atoms_spec (ws := wd yX6_isNothing cX6_isNothing 1 (some .boolean)) B.pre w (List.mem_cons_of_mem _ h)
  have hown : s.vm.findClass RX6 = some m.cls := findClass_of_methodNamed B.named
  have hlocks := B.notSynchronized
  have hF : CallFix p m c cX6_isNothing 1 s _ TB RX6 := ⟨hx, hb, hml, hown, hts⟩
  have hl := lv_entry ([.ref (a 8)]) (n := 1) (Nat.le_of_ble_eq_true rfl)
  rw [lg_entry_eq]
  generalize (lg_sl ([.ref (a 8)]) ++ List.replicate (1 - (lg_sl ([.ref (a 8)])).length) Slot.unset).toArray = ls at hl ⊢
  have hl : lv_has ls 1 [(0, .ref (a 8))] := hl
  have hS : va_S NoF s.heap s.heap [] := va_S.rf
  have hP : va_P D classes [(a 8, .inr (6, [.ref (a 12), .int v8_1, .int v8_2]))] s.heap := hP
  refine lv_aload_n hx hb dX6_isNothing_0 rfl (lv_at hl 0 rfl) ?_
  refine va_get (D := D) (ci := 6) (v := .int v8_1) (C := RX6) (T := TX6) (N := 3) hx hb hts iX6 hown hK hP 0 rfl rfl 1 (by decide) (hts _ m_420) (fun _ h9 => h9) rfl dX6_isNothing_1 ?_
  refine lv_iconst (v := (-1)) hx hb dX6_isNothing_4 (by decide) ?_
  refine lv_icmp_ne (tgt := 12) hx hb dX6_isNothing_5 (by decide) (fun c_1 => ?_) (fun c_1 => ?_)
  · skip
    refine lv_iconst (v := 0) hx hb dX6_isNothing_12 (by decide) ?_
    exact W.zret (v := 0) hx hb hr rfl (fun t9 ht hW => ⟨⟨0, (), rfl, (rg_w (c := 0) (d := 1) (rg_c (x := 0) (k := 0) (by decide)) (by decide) (by decide)), trivial⟩, hS.F ht⟩) hS.2.2 dX6_isNothing_13
  · skip
    have h_2 : rg (-1) (-1) v8_1 := rg_eq c_1 (rg_c (x := (-1)) (k := (-1)) (by decide))
    refine lv_iconst (v := 1) hx hb dX6_isNothing_8 (by decide) ?_
    refine lv_goto (tgt := 13) hx hb dX6_isNothing_9 (by decide) ?_
    exact W.zret (v := 1) hx hb hr rfl (fun t9 ht hW => ⟨⟨1, (), rfl, (rg_w (c := 0) (d := 1) (rg_c (x := 1) (k := 1) (by decide)) (by decide) (by decide)), trivial⟩, hS.F ht⟩) hS.2.2 dX6_isNothing_13

set_option maxHeartbeats 4000000 in
set_option maxRecDepth 100000 in
theorem s_X6_lay_8 (l : Launch) (D : va_G) (t : Nat → ClassId) (a : Nat → Nat) (v8_1 : Int32) (v8_2 : Int32) (g12 : Nat → Int64) (p0 : Int32) (p1 : Int32) (r8_2 : rg 0 60 v8_2) (rp0 : rg 0 3 p0) (rp1 : rg 0 60 p1) (sz : Nat) : Met l yX6_lay (wd yX6_lay cX6_lay 3 none) (RM 1 0 0) (PreW D (TY t) [.ref (a 8), .int p0, .int p1] [(a 8, .inr (6, [.ref (a 12), .int v8_1, .int v8_2])), (a 12, .inl (t 2, 60, .inr (.inl g12)))] sz) (va_Qv (fun (u : US) => rg 0 60 (u.1 1)) (fun (u : US) t9 => va_P D classes ((fun u : US => [(a 8, .inr (6, [.ref (a 12), .int (u.1 0), .int (u.1 1)])), (a 12, .inl (t 2, 60, .inr (.inl (u.2.2.1 0))))]) u) t9.heap ∧ va_D (va_A [(a 8, .inr (6, [.ref (a 12), .int v8_1, .int v8_2])), (a 12, .inl (t 2, 60, .inr (.inl g12)))] sz) ((fun u : US => [(a 8, .inr (6, [.ref (a 12), .int (u.1 0), .int (u.1 1)])), (a 12, .inl (t 2, 60, .inr (.inl (u.2.2.1 0))))]) u)) (va_A [(a 8, .inr (6, [.ref (a 12), .int v8_1, .int v8_2])), (a 12, .inl (t 2, 60, .inr (.inl g12)))] sz)) 0 0 (va_A [(a 8, .inr (6, [.ref (a 12), .int v8_1, .int v8_2])), (a 12, .inl (t 2, 60, .inr (.inl g12)))] sz) := by
  refine Met.ofW (cc := cX6_lay) (maxL := 3) (ret := none) (by decide) rfl ?_
  intro p e s m args below meth c s₁ B hml hv
  obtain ⟨rfl, hsz, hP, hK, hD0, hN⟩ := hv
  have hx := B.exec
  have hb := B.bytes
  have hr := B.returns
  have hts : ∀ w ∈ TB, w.before _ s = true := fun w h => atoms_spec (ws := wd yX6_lay cX6_lay 3 none) B.pre w (List.mem_cons_of_mem _ h)
  have hown : s.vm.findClass RX6 = some m.cls := findClass_of_methodNamed B.named
  have hlocks := B.notSynchronized
  have hF : CallFix p m c cX6_lay 3 s _ TB RX6 := ⟨hx, hb, hml, hown, hts⟩
  have hl := lv_entry ([.ref (a 8), .int p0, .int p1]) (n := 3) (Nat.le_of_ble_eq_true rfl)
  rw [lg_entry_eq]
  generalize (lg_sl ([.ref (a 8), .int p0, .int p1]) ++ List.replicate (3 - (lg_sl ([.ref (a 8), .int p0, .int p1])).length) Slot.unset).toArray = ls at hl ⊢
  have hl : lv_has ls 3 [(0, .ref (a 8)), (1, .int p0), (2, .int p1)] := hl
  subst hsz
  have hD := hD0.self (sz := s.heap.size)
  generalize hAe : va_A [(a 8, .inr (6, [.ref (a 12), .int v8_1, .int v8_2])), (a 12, .inl (t 2, 60, .inr (.inl g12)))] s.heap.size = A at hD ⊢
  have hA : ∀ q : Nat, s.heap.size ≤ q → A q := fun q h => by rw [← hAe]; exact Or.inr h
  have hS : va_S A s.heap s.heap [] := va_S.rf
  have hP : va_P D classes [(a 8, .inr (6, [.ref (a 12), .int v8_1, .int v8_2])), (a 12, .inl (t 2, 60, .inr (.inl g12)))] s.heap := hP
  refine lv_aload_n hx hb dX6_lay_0 rfl (lv_at hl 0 rfl) ?_
  refine lv_iload_n hx hb dX6_lay_1 rfl (lv_at hl 1 rfl) ?_
  refine va_put (D := D) (ci := 6) (v := .int p0) (ty := .int) (C := RX6) (T := TX6) (N := 3) hx hb hts iX6 tyX6 tyX6_ok nmX6 hown hK hP hD hS 0 rfl rfl 1 (by decide) (hts _ m_420) (fun _ h9 => h9) rfl (tyX6_ok 1 (by decide)) rfl rfl (Nat.le_of_ble_eq_true rfl) dX6_lay_2 (fun H locs hP hD hS => ?_)
  have hP : va_P D classes [(a 8, .inr (6, [.ref (a 12), .int p0, .int v8_2])), (a 12, .inl (t 2, 60, .inr (.inl g12)))] H := hP
  have hD : va_D A [(a 8, .inr (6, [.ref (a 12), .int p0, .int v8_2])), (a 12, .inl (t 2, 60, .inr (.inl g12)))] := hD
  refine lv_aload_n hx hb dX6_lay_5 rfl (lv_at hl 0 rfl) ?_
  refine lv_iload_n hx hb dX6_lay_6 rfl (lv_at hl 2 rfl) ?_
  refine va_put (D := D) (ci := 6) (v := .int p1) (ty := .int) (C := RX6) (T := TX6) (N := 3) hx hb hts iX6 tyX6 tyX6_ok nmX6 hown hK hP hD hS 0 rfl rfl 2 (by decide) (hts _ m_423) (fun _ h9 => h9) rfl (tyX6_ok 2 (by decide)) rfl rfl (Nat.le_of_ble_eq_true rfl) dX6_lay_7 (fun H locs hP hD hS => ?_)
  have hP : va_P D classes [(a 8, .inr (6, [.ref (a 12), .int p0, .int p1])), (a 12, .inl (t 2, 60, .inr (.inl g12)))] H := hP
  have hD : va_D A [(a 8, .inr (6, [.ref (a 12), .int p0, .int p1])), (a 12, .inl (t 2, 60, .inr (.inl g12)))] := hD
  refine lv_aload_n hx hb dX6_lay_10 rfl (lv_at hl 0 rfl) ?_
  refine va_get (D := D) (ci := 6) (v := .ref (a 12)) (C := RX6) (T := TX6) (N := 3) hx hb hts iX6 hown hK hP 0 rfl rfl 0 (by decide) (hts _ m_417) (fun _ h9 => h9) rfl dX6_lay_11 ?_
  refine lv_lconst (v := 0) hx hb dX6_lay_14 rfl ?_
  refine y_wS (wr := [(a 8, .inr (6, [.ref (a 12), .int p0, .int p1]))]) hF (s_fillJ_12 l D t a g12 0 H.size) m_1314 m_1315 m_14 m_1316 hd_J7_fill_d0a16 ⟨Nat.le_of_ble_eq_true rfl, Nat.le_of_ble_eq_true rfl⟩ hK hN hP hD hS hA [1] [0] rfl rfl (by decide) (by decide) (by decide) hl.1 rfl (Nat.le_of_ble_eq_true rfl) dX6_lay_15 ⟨Nat.zero_le _, Nat.zero_le _⟩ (fun u_1 H locs hu_1 hP hD hS => ?_)
  have hP : va_P D classes [(a 8, .inr (6, [.ref (a 12), .int p0, .int p1])), (a 12, .inl (t 2, 60, .inr (.inl (u_1.2.2.1 0))))] H := hP
  have hD : va_D A [(a 8, .inr (6, [.ref (a 12), .int p0, .int p1])), (a 12, .inl (t 2, 60, .inr (.inl (u_1.2.2.1 0))))] := hD
  have hP9 := hP.sub (ws' := [(a 8, .inr (6, [.ref (a 12), .int p0, .int p1])), (a 12, .inl (t 2, 60, .inr (.inl (u_1.2.2.1 0))))]) [0, 1] rfl
  have hD9 := hD.sub (ws' := [(a 8, .inr (6, [.ref (a 12), .int p0, .int p1])), (a 12, .inl (t 2, 60, .inr (.inl (u_1.2.2.1 0))))]) [0, 1] (by decide) rfl
  exact W.vret hx hb hr (fun t9 ht hW => ⟨⟨(fun k => [p0, p1].getD k 0, fun k => [].getD k (fun _ => 0), fun k => [(u_1.2.2.1 0)].getD k (fun _ => 0), fun _ => 0), rfl, rp1, by rw [ht]; exact hP9, hD9⟩, hS.F ht⟩) hS.2.2 dX6_lay_18

set_option maxHeartbeats 4000000 in
set_option maxRecDepth 100000 in
theorem s_X6_cut_8 (l : Launch) (D : va_G) (t : Nat → ClassId) (a : Nat → Nat) (v8_1 : Int32) (v8_2 : Int32) (p0 : Int64) (r8_2 : rg 0 60 v8_2) : Met l yX6_cut (wd yX6_cut cX6_cut 3 (some .long)) (RM 0 0 0) (PreP D (TY t) [.ref (a 8), .long p0] [(a 8, .inr (6, [.ref (a 12), .int v8_1, .int v8_2]))]) (QPl (fun _ => True)) 0 0 NoF := by
  refine Met.ofW (cc := cX6_cut) (maxL := 3) (ret := (some .long)) (by decide) rfl ?_
  intro p e s m args below meth c s₁ B hml hv
  obtain ⟨rfl, hP, hK, hN⟩ := hv
  have hx := B.exec
  have hb := B.bytes
  have hr := B.returns
  have hts : ∀ w ∈ TB, w.before _ s = true := fun w h => atoms_spec (ws := wd yX6_cut cX6_cut 3 (some .long)) B.pre w (List.mem_cons_of_mem _ h)
  have hown : s.vm.findClass RX6 = some m.cls := findClass_of_methodNamed B.named
  have hlocks := B.notSynchronized
  have hF : CallFix p m c cX6_cut 3 s _ TB RX6 := ⟨hx, hb, hml, hown, hts⟩
  have hl := lv_entry ([.ref (a 8), .long p0]) (n := 3) (Nat.le_of_ble_eq_true rfl)
  rw [lg_entry_eq]
  generalize (lg_sl ([.ref (a 8), .long p0]) ++ List.replicate (3 - (lg_sl ([.ref (a 8), .long p0])).length) Slot.unset).toArray = ls at hl ⊢
  have hl : lv_has ls 3 [(0, .ref (a 8)), (1, .long p0)] := hl
  have hS : va_S NoF s.heap s.heap [] := va_S.rf
  have hP : va_P D classes [(a 8, .inr (6, [.ref (a 12), .int v8_1, .int v8_2]))] s.heap := hP
  refine lv_aload_n hx hb dX6_cut_0 rfl (lv_at hl 0 rfl) ?_
  refine va_get (D := D) (ci := 6) (v := .int v8_1) (C := RX6) (T := TX6) (N := 3) hx hb hts iX6 hown hK hP 0 rfl rfl 1 (by decide) (hts _ m_420) (fun _ h9 => h9) rfl dX6_cut_1 ?_
  by_cases s_1 : v8_1 = 0
  · refine x_seti 0 s_1 ?_
    refine lv_tableIn (off := 28) (tgt := 32) hx hb dX6_cut_4 (by decide) (by decide) rfl (by decide) ?_
    refine lv_lload_n hx hb dX6_cut_32 rfl (lv_at hl 1 rfl) ?_
    refine lv_l2i hx hb dX6_cut_33 rfl ?_
    refine lv_topi (fun x_2 ex_2 => ?_)
    refine lv_i2b hx hb dX6_cut_34 rfl ?_
    refine lv_topi (fun x_3 ex_3 => ?_)
    refine lv_i2l hx hb dX6_cut_35 rfl ?_
    exact W.lret (v := (x_3).toInt64) hx hb hr (fun t9 ht hW => ⟨⟨(x_3).toInt64, (), rfl, trivial, trivial⟩, hS.F ht⟩) hS.2.2 dX6_cut_36
  · by_cases s_4 : v8_1 = 1
    · refine x_seti 1 s_4 ?_
      refine lv_tableIn (off := 33) (tgt := 37) hx hb dX6_cut_4 (by decide) (by decide) rfl (by decide) ?_
      refine lv_lload_n hx hb dX6_cut_37 rfl (lv_at hl 1 rfl) ?_
      refine lv_l2i hx hb dX6_cut_38 rfl ?_
      refine lv_topi (fun x_5 ex_5 => ?_)
      refine lv_i2s hx hb dX6_cut_39 rfl ?_
      refine lv_topi (fun x_6 ex_6 => ?_)
      refine lv_i2l hx hb dX6_cut_40 rfl ?_
      exact W.lret (v := (x_6).toInt64) hx hb hr (fun t9 ht hW => ⟨⟨(x_6).toInt64, (), rfl, trivial, trivial⟩, hS.F ht⟩) hS.2.2 dX6_cut_41
    · by_cases s_7 : v8_1 = 2
      · refine x_seti 2 s_7 ?_
        refine lv_tableIn (off := 38) (tgt := 42) hx hb dX6_cut_4 (by decide) (by decide) rfl (by decide) ?_
        refine lv_lload_n hx hb dX6_cut_42 rfl (lv_at hl 1 rfl) ?_
        refine lv_l2i hx hb dX6_cut_43 rfl ?_
        refine lv_topi (fun x_8 ex_8 => ?_)
        refine lv_i2l hx hb dX6_cut_44 rfl ?_
        exact W.lret (v := (x_8).toInt64) hx hb hr (fun t9 ht hW => ⟨⟨(x_8).toInt64, (), rfl, trivial, trivial⟩, hS.F ht⟩) hS.2.2 dX6_cut_45
      · refine lv_tableOut (tgt := 46) hx hb dX6_cut_4 (by have q0 := c_ne s_1 (k := 0) (by decide); have q1 := c_ne s_4 (k := 1) (by decide); have q2 := c_ne s_7 (k := 2) (by decide); omega) (by decide) ?_
        refine lv_lload_n hx hb dX6_cut_46 rfl (lv_at hl 1 rfl) ?_
        exact W.lret (v := p0) hx hb hr (fun t9 ht hW => ⟨⟨p0, (), rfl, trivial, trivial⟩, hS.F ht⟩) hS.2.2 dX6_cut_47

set_option maxHeartbeats 4000000 in
set_option maxRecDepth 100000 in
theorem s_X6_set_8 (l : Launch) (D : va_G) (t : Nat → ClassId) (a : Nat → Nat) (v8_1 : Int32) (v8_2 : Int32) (g12 : Nat → Int64) (p0 : Int32) (p1 : Int64) (r8_2 : rg 0 60 v8_2) (rp0 : rg 0 59 p0) (sz : Nat) : Met l yX6_set (wd yX6_set cX6_set 4 none) (RM 1 0 0) (PreW D (TY t) [.ref (a 8), .int p0, .long p1] [(a 8, .inr (6, [.ref (a 12), .int v8_1, .int v8_2])), (a 12, .inl (t 2, 60, .inr (.inl g12)))] sz) (va_Qv (fun (_ : US) => True) (fun (u : US) t9 => va_P D classes ((fun u : US => [(a 8, .inr (6, [.ref (a 12), .int v8_1, .int v8_2])), (a 12, .inl (t 2, 60, .inr (.inl (u.2.2.1 0))))]) u) t9.heap ∧ va_D (va_A [(a 8, .inr (6, [.ref (a 12), .int v8_1, .int v8_2])), (a 12, .inl (t 2, 60, .inr (.inl g12)))] sz) ((fun u : US => [(a 8, .inr (6, [.ref (a 12), .int v8_1, .int v8_2])), (a 12, .inl (t 2, 60, .inr (.inl (u.2.2.1 0))))]) u)) (va_A [(a 8, .inr (6, [.ref (a 12), .int v8_1, .int v8_2])), (a 12, .inl (t 2, 60, .inr (.inl g12)))] sz)) 0 0 (va_A [(a 8, .inr (6, [.ref (a 12), .int v8_1, .int v8_2])), (a 12, .inl (t 2, 60, .inr (.inl g12)))] sz) := by
  refine Met.ofW (cc := cX6_set) (maxL := 4) (ret := none) (by decide) rfl ?_
  intro p e s m args below meth c s₁ B hml hv
  obtain ⟨rfl, hsz, hP, hK, hD0, hN⟩ := hv
  have hx := B.exec
  have hb := B.bytes
  have hr := B.returns
  have hts : ∀ w ∈ TB, w.before _ s = true := fun w h => atoms_spec (ws := wd yX6_set cX6_set 4 none) B.pre w (List.mem_cons_of_mem _ h)
  have hown : s.vm.findClass RX6 = some m.cls := findClass_of_methodNamed B.named
  have hlocks := B.notSynchronized
  have hF : CallFix p m c cX6_set 4 s _ TB RX6 := ⟨hx, hb, hml, hown, hts⟩
  have hl := lv_entry ([.ref (a 8), .int p0, .long p1]) (n := 4) (Nat.le_of_ble_eq_true rfl)
  rw [lg_entry_eq]
  generalize (lg_sl ([.ref (a 8), .int p0, .long p1]) ++ List.replicate (4 - (lg_sl ([.ref (a 8), .int p0, .long p1])).length) Slot.unset).toArray = ls at hl ⊢
  have hl : lv_has ls 4 [(0, .ref (a 8)), (1, .int p0), (2, .long p1)] := hl
  subst hsz
  have hD := hD0.self (sz := s.heap.size)
  generalize hAe : va_A [(a 8, .inr (6, [.ref (a 12), .int v8_1, .int v8_2])), (a 12, .inl (t 2, 60, .inr (.inl g12)))] s.heap.size = A at hD ⊢
  have hA : ∀ q : Nat, s.heap.size ≤ q → A q := fun q h => by rw [← hAe]; exact Or.inr h
  have hS : va_S A s.heap s.heap [] := va_S.rf
  have hP : va_P D classes [(a 8, .inr (6, [.ref (a 12), .int v8_1, .int v8_2])), (a 12, .inl (t 2, 60, .inr (.inl g12)))] s.heap := hP
  refine lv_aload_n hx hb dX6_set_0 rfl (lv_at hl 0 rfl) ?_
  refine va_get (D := D) (ci := 6) (v := .ref (a 12)) (C := RX6) (T := TX6) (N := 3) hx hb hts iX6 hown hK hP 0 rfl rfl 0 (by decide) (hts _ m_417) (fun _ h9 => h9) rfl dX6_set_1 ?_
  refine lv_iload_n hx hb dX6_set_4 rfl (lv_at hl 1 rfl) ?_
  refine lv_aload_n hx hb dX6_set_5 rfl (lv_at hl 0 rfl) ?_
  refine lv_lload_n hx hb dX6_set_6 rfl (lv_at hl 2 rfl) ?_
  refine y_pVl hF (s_X6_cut_8 l D t a v8_1 v8_2 p1 r8_2) m_1325 m_1327 m_s36 m_12 m_1328 hd_X6_cut ⟨Nat.le_of_ble_eq_true rfl, Nat.le_of_ble_eq_true rfl⟩ hK hN hP hS [0] rfl 0 (ci := 6) rfl rfl rfl hl.1 rfl (Nat.le_of_ble_eq_true rfl) dX6_set_7 ⟨Nat.zero_le _, Nat.zero_le _⟩ (fun r_1 H locs hr_1 hP hS => ?_)
  refine x_last hx hb hK hP hD hS 1 2 rfl rfl (in_rg rp0 (by decide) (by decide)) dX6_set_10 (fun g_2 H locs hP hD hS => ?_)
  have hP : va_P D classes [(a 8, .inr (6, [.ref (a 12), .int v8_1, .int v8_2])), (a 12, .inl (t 2, 60, .inr (.inl g_2)))] H := hP
  have hD : va_D A [(a 8, .inr (6, [.ref (a 12), .int v8_1, .int v8_2])), (a 12, .inl (t 2, 60, .inr (.inl g_2)))] := hD
  have hP9 := hP.sub (ws' := [(a 8, .inr (6, [.ref (a 12), .int v8_1, .int v8_2])), (a 12, .inl (t 2, 60, .inr (.inl g_2)))]) [0, 1] rfl
  have hD9 := hD.sub (ws' := [(a 8, .inr (6, [.ref (a 12), .int v8_1, .int v8_2])), (a 12, .inl (t 2, 60, .inr (.inl g_2)))]) [0, 1] (by decide) rfl
  exact W.vret hx hb hr (fun t9 ht hW => ⟨⟨(fun k => [].getD k 0, fun k => [].getD k (fun _ => 0), fun k => [g_2].getD k (fun _ => 0), fun _ => 0), rfl, trivial, by rw [ht]; exact hP9, hD9⟩, hS.F ht⟩) hS.2.2 dX6_set_11

set_option maxHeartbeats 4000000 in
set_option maxRecDepth 100000 in
theorem s_X6_reaches_8 (l : Launch) (D : va_G) (t : Nat → ClassId) (a : Nat → Nat) (v8_1 : Int32) (v8_2 : Int32) (p0 : Int32) (p1 : Int32) (r8_2 : rg 0 60 v8_2) : Met l yX6_reaches (wd yX6_reaches cX6_reaches 3 (some .boolean)) (RM 0 0 0) (PreP D (TY t) [.ref (a 8), .int p0, .int p1] [(a 8, .inr (6, [.ref (a 12), .int v8_1, .int v8_2]))]) (QP (fun r => rg 0 1 r ∧ (r = 0 ∨ (0 ≤ p0.toInt ∧ 0 ≤ p1.toInt ∧ p0.toInt + p1.toInt ≤ v8_2.toInt)))) 0 0 NoF := by
  refine Met.ofW (cc := cX6_reaches) (maxL := 3) (ret := (some .boolean)) (by decide) rfl ?_
  intro p e s m args below meth c s₁ B hml hv
  obtain ⟨rfl, hP, hK, hN⟩ := hv
  have hx := B.exec
  have hb := B.bytes
  have hr := B.returns
  have hts : ∀ w ∈ TB, w.before _ s = true := fun w h => atoms_spec (ws := wd yX6_reaches cX6_reaches 3 (some .boolean)) B.pre w (List.mem_cons_of_mem _ h)
  have hown : s.vm.findClass RX6 = some m.cls := findClass_of_methodNamed B.named
  have hlocks := B.notSynchronized
  have hF : CallFix p m c cX6_reaches 3 s _ TB RX6 := ⟨hx, hb, hml, hown, hts⟩
  have hl := lv_entry ([.ref (a 8), .int p0, .int p1]) (n := 3) (Nat.le_of_ble_eq_true rfl)
  rw [lg_entry_eq]
  generalize (lg_sl ([.ref (a 8), .int p0, .int p1]) ++ List.replicate (3 - (lg_sl ([.ref (a 8), .int p0, .int p1])).length) Slot.unset).toArray = ls at hl ⊢
  have hl : lv_has ls 3 [(0, .ref (a 8)), (1, .int p0), (2, .int p1)] := hl
  have hS : va_S NoF s.heap s.heap [] := va_S.rf
  have hP : va_P D classes [(a 8, .inr (6, [.ref (a 12), .int v8_1, .int v8_2]))] s.heap := hP
  refine lv_iload_n hx hb dX6_reaches_0 rfl (lv_at hl 1 rfl) ?_
  refine lv_if_lt (tgt := 26) hx hb dX6_reaches_1 (by decide) (fun c_1 => ?_) (fun c_1 => ?_)
  · skip
    have zc_2 : (0 : Int32).toInt = 0 := rfl
    have tc_1 := t_lt c_1
    have h_3 : rg (-2147483648) (-1) p0 := ⟨((rg_any p0)).1, Int.le_trans (c_lt c_1 (rg_c (x := 0) (k := 0) (by decide))) (by decide)⟩
    refine lv_iconst (v := 0) hx hb dX6_reaches_26 (by decide) ?_
    exact W.zret (v := 0) hx hb hr rfl (fun t9 ht hW => ⟨⟨0, (), rfl, ⟨(rg_w (c := 0) (d := 1) (rg_c (x := 0) (k := 0) (by decide)) (by decide) (by decide)), (Or.inl rfl)⟩, trivial⟩, hS.F ht⟩) hS.2.2 dX6_reaches_27
  · skip
    have zc_4 : (0 : Int32).toInt = 0 := rfl
    have tc_1 := t_nlt c_1
    have h_5 : rg 0 2147483647 p0 := ⟨Int.le_trans (by decide) (c_nlt c_1 (rg_c (x := 0) (k := 0) (by decide))), ((rg_any p0)).2⟩
    refine lv_iload_n hx hb dX6_reaches_4 rfl (lv_at hl 2 rfl) ?_
    refine lv_if_lt (tgt := 26) hx hb dX6_reaches_5 (by decide) (fun c_6 => ?_) (fun c_6 => ?_)
    · skip
      have zc_7 : (0 : Int32).toInt = 0 := rfl
      have tc_6 := t_lt c_6
      have h_8 : rg (-2147483648) (-1) p1 := ⟨((rg_any p1)).1, Int.le_trans (c_lt c_6 (rg_c (x := 0) (k := 0) (by decide))) (by decide)⟩
      refine lv_iconst (v := 0) hx hb dX6_reaches_26 (by decide) ?_
      exact W.zret (v := 0) hx hb hr rfl (fun t9 ht hW => ⟨⟨0, (), rfl, ⟨(rg_w (c := 0) (d := 1) (rg_c (x := 0) (k := 0) (by decide)) (by decide) (by decide)), (Or.inl rfl)⟩, trivial⟩, hS.F ht⟩) hS.2.2 dX6_reaches_27
    · skip
      have zc_9 : (0 : Int32).toInt = 0 := rfl
      have tc_6 := t_nlt c_6
      have h_10 : rg 0 2147483647 p1 := ⟨Int.le_trans (by decide) (c_nlt c_6 (rg_c (x := 0) (k := 0) (by decide))), ((rg_any p1)).2⟩
      refine lv_iload_n hx hb dX6_reaches_8 rfl (lv_at hl 1 rfl) ?_
      refine lv_i2l hx hb dX6_reaches_9 rfl ?_
      refine lv_iload_n hx hb dX6_reaches_10 rfl (lv_at hl 2 rfl) ?_
      refine lv_i2l hx hb dX6_reaches_11 rfl ?_
      refine lv_ladd hx hb dX6_reaches_12 ?_
      refine lv_topl (fun x_11 ex_11 => ?_)
      refine lv_aload_n hx hb dX6_reaches_13 rfl (lv_at hl 0 rfl) ?_
      refine va_get (D := D) (ci := 6) (v := .int v8_2) (C := RX6) (T := TX6) (N := 3) hx hb hts iX6 hown hK hP 0 rfl rfl 2 (by decide) (hts _ m_423) (fun _ h9 => h9) rfl dX6_reaches_14 ?_
      refine lv_i2l hx hb dX6_reaches_17 rfl ?_
      refine W.lcmp hx hb dX6_reaches_18 ?_
      refine lv_topi (fun x_12 ex_12 => ?_)
      refine lv_if_gt (tgt := 26) hx hb dX6_reaches_19 (by decide) (fun c_13 => ?_) (fun c_13 => ?_)
      · skip
        have zc_14 : (0 : Int32).toInt = 0 := rfl
        have tc_13 := t_lt c_13
        have h_15 : rg 1 2147483647 x_12 := ⟨Int.le_trans (by decide) (c_ltR c_13 (rg_c (x := 0) (k := 0) (by decide))), ((rg_any x_12)).2⟩
        refine lv_iconst (v := 0) hx hb dX6_reaches_26 (by decide) ?_
        exact W.zret (v := 0) hx hb hr rfl (fun t9 ht hW => ⟨⟨0, (), rfl, ⟨(rg_w (c := 0) (d := 1) (rg_c (x := 0) (k := 0) (by decide)) (by decide) (by decide)), (Or.inl rfl)⟩, trivial⟩, hS.F ht⟩) hS.2.2 dX6_reaches_27
      · skip
        have zc_16 : (0 : Int32).toInt = 0 := rfl
        have tc_13 := t_nlt c_13
        have h_17 : rg (-2147483648) 0 x_12 := ⟨((rg_any x_12)).1, Int.le_trans (c_nltR c_13 (rg_c (x := 0) (k := 0) (by decide))) (by decide)⟩
        refine lv_iconst (v := 1) hx hb dX6_reaches_22 (by decide) ?_
        refine lv_goto (tgt := 27) hx hb dX6_reaches_23 (by decide) ?_
        exact W.zret (v := 1) hx hb hr rfl (fun t9 ht hW => ⟨⟨1, (), rfl, ⟨(rg_w (c := 0) (d := 1) (rg_c (x := 1) (k := 1) (by decide)) (by decide) (by decide)), (Or.inr ⟨by have z0 := zt0; omega, by have z0 := zt0; omega, lc_le ex_11 ex_12 (by first | exact c_13 | exact t_gtn c_13)⟩)⟩, trivial⟩, hS.F ht⟩) hS.2.2 dX6_reaches_27

