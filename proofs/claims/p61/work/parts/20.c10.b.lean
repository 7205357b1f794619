set_option maxHeartbeats 4000000 in
set_option maxRecDepth 100000 in
theorem s_X2_takers (l : Launch) (D : va_G) (t : Nat → ClassId) (a : Nat → Nat) (v14_1 : Int32) (v14_2 : Int32) (v14_3 : Int32) (v14_6 : Int32) (v14_8 : Int32) (v14_9 : Int32) (v14_10 : Int32) (v14_11 : Int32) (v14_12 : Int32) (v40_0 : Int32) (v40_1 : Int32) (v40_2 : Int32) (v40_3 : Int32) (v40_4 : Int32) (v40_5 : Int32) (v40_6 : Int32) (v40_7 : Int32) (f42 : Nat → Int32) (f43 : Nat → Int32) (f45 : Nat → Int32) (f46 : Nat → Int32) (f47 : Nat → Int32) (f49 : Nat → Int32) (v54_0 : Int32) (v54_1 : Int32) (v54_2 : Int32) (f120 : Nat → Int32) (f121 : Nat → Int32) (f122 : Nat → Int32) (r14_8 : rg 0 9 v14_8) (r14_9 : rg (-1) 8 v14_9) (r40_1 : rg 0 8 v40_1) (r40_5 : rg 0 4 v40_5) (r40_6 : rg 0 9 v40_6) (r40_7 : rg 0 9 v40_7) (q43 : ∀ j, j < 9 → rg 0 3 (f43 j)) (r54_0 : rg 0 60 v54_0) (sz : Nat) : Met l yX2_takers (wd yX2_takers cX2_takers 4 (some .int)) (RM 6 0 0) (PreW D (TY t) [.ref (a 14)] [(a 14, .inr (2, [.ref (a 40), .int v14_1, .int v14_2, .int v14_3, .ref (a 120), .ref (a 121), .int v14_6, .ref (a 122), .int v14_8, .int v14_9, .int v14_10, .int v14_11, .int v14_12])), (a 40, .inr (0, [.int v40_0, .int v40_1, .int v40_2, .int v40_3, .int v40_4, .int v40_5, .int v40_6, .int v40_7, .ref (a 41), .ref (a 42), .ref (a 43), .ref (a 44), .ref (a 45), .ref (a 46), .ref (a 47), .ref (a 48), .ref (a 49), .ref (a 50), .ref (a 54)])), (a 42, .inl (t 0, 9, .inl f42)), (a 43, .inl (t 0, 9, .inl f43)), (a 45, .inl (t 0, 9, .inl f45)), (a 46, .inl (t 0, 9, .inl f46)), (a 47, .inl (t 0, 9, .inl f47)), (a 49, .inl (t 0, 9, .inl f49)), (a 54, .inr (9, [.int v54_0, .int v54_1, .int v54_2, .ref (a 55), .ref (a 56), .ref (a 57), .ref (a 58)])), (a 120, .inl (t 0, 81, .inl f120)), (a 121, .inl (t 0, 9, .inl f121)), (a 122, .inl (t 0, 9, .inl f122))] sz) (va_Qi (fun (r : Int32) (u : US) => rg 0 511 r ∧ rg 0 9 (u.1 4) ∧ rg (-1) 8 (u.1 5)) (fun (u : US) t9 => va_P D classes ((fun u : US => [(a 14, .inr (2, [.ref (a 40), .int (u.1 0), .int (u.1 1), .int (u.1 2), .ref (a 120), .ref (a 121), .int (u.1 3), .ref (a 122), .int (u.1 4), .int (u.1 5), .int (u.1 6), .int v14_11, .int v14_12])), (a 40, .inr (0, [.int v40_0, .int v40_1, .int v40_2, .int v40_3, .int v40_4, .int v40_5, .int v40_6, .int v40_7, .ref (a 41), .ref (a 42), .ref (a 43), .ref (a 44), .ref (a 45), .ref (a 46), .ref (a 47), .ref (a 48), .ref (a 49), .ref (a 50), .ref (a 54)])), (a 42, .inl (t 0, 9, .inl f42)), (a 43, .inl (t 0, 9, .inl f43)), (a 45, .inl (t 0, 9, .inl f45)), (a 46, .inl (t 0, 9, .inl f46)), (a 47, .inl (t 0, 9, .inl f47)), (a 49, .inl (t 0, 9, .inl f49)), (a 54, .inr (9, [.int v54_0, .int v54_1, .int v54_2, .ref (a 55), .ref (a 56), .ref (a 57), .ref (a 58)])), (a 120, .inl (t 0, 81, .inl (u.2.1 0))), (a 121, .inl (t 0, 9, .inl (u.2.1 1))), (a 122, .inl (t 0, 9, .inl (u.2.1 2)))]) u) t9.heap ∧ va_D (va_A [(a 14, .inr (2, [.ref (a 40), .int v14_1, .int v14_2, .int v14_3, .ref (a 120), .ref (a 121), .int v14_6, .ref (a 122), .int v14_8, .int v14_9, .int v14_10, .int v14_11, .int v14_12])), (a 40, .inr (0, [.int v40_0, .int v40_1, .int v40_2, .int v40_3, .int v40_4, .int v40_5, .int v40_6, .int v40_7, .ref (a 41), .ref (a 42), .ref (a 43), .ref (a 44), .ref (a 45), .ref (a 46), .ref (a 47), .ref (a 48), .ref (a 49), .ref (a 50), .ref (a 54)])), (a 42, .inl (t 0, 9, .inl f42)), (a 43, .inl (t 0, 9, .inl f43)), (a 45, .inl (t 0, 9, .inl f45)), (a 46, .inl (t 0, 9, .inl f46)), (a 47, .inl (t 0, 9, .inl f47)), (a 49, .inl (t 0, 9, .inl f49)), (a 54, .inr (9, [.int v54_0, .int v54_1, .int v54_2, .ref (a 55), .ref (a 56), .ref (a 57), .ref (a 58)])), (a 120, .inl (t 0, 81, .inl f120)), (a 121, .inl (t 0, 9, .inl f121)), (a 122, .inl (t 0, 9, .inl f122))] sz) ((fun u : US => [(a 14, .inr (2, [.ref (a 40), .int (u.1 0), .int (u.1 1), .int (u.1 2), .ref (a 120), .ref (a 121), .int (u.1 3), .ref (a 122), .int (u.1 4), .int (u.1 5), .int (u.1 6), .int v14_11, .int v14_12])), (a 40, .inr (0, [.int v40_0, .int v40_1, .int v40_2, .int v40_3, .int v40_4, .int v40_5, .int v40_6, .int v40_7, .ref (a 41), .ref (a 42), .ref (a 43), .ref (a 44), .ref (a 45), .ref (a 46), .ref (a 47), .ref (a 48), .ref (a 49), .ref (a 50), .ref (a 54)])), (a 42, .inl (t 0, 9, .inl f42)), (a 43, .inl (t 0, 9, .inl f43)), (a 45, .inl (t 0, 9, .inl f45)), (a 46, .inl (t 0, 9, .inl f46)), (a 47, .inl (t 0, 9, .inl f47)), (a 49, .inl (t 0, 9, .inl f49)), (a 54, .inr (9, [.int v54_0, .int v54_1, .int v54_2, .ref (a 55), .ref (a 56), .ref (a 57), .ref (a 58)])), (a 120, .inl (t 0, 81, .inl (u.2.1 0))), (a 121, .inl (t 0, 9, .inl (u.2.1 1))), (a 122, .inl (t 0, 9, .inl (u.2.1 2)))]) u)) (va_A [(a 14, .inr (2, [.ref (a 40), .int v14_1, .int v14_2, .int v14_3, .ref (a 120), .ref (a 121), .int v14_6, .ref (a 122), .int v14_8, .int v14_9, .int v14_10, .int v14_11, .int v14_12])), (a 40, .inr (0, [.int v40_0, .int v40_1, .int v40_2, .int v40_3, .int v40_4, .int v40_5, .int v40_6, .int v40_7, .ref (a 41), .ref (a 42), .ref (a 43), .ref (a 44), .ref (a 45), .ref (a 46), .ref (a 47), .ref (a 48), .ref (a 49), .ref (a 50), .ref (a 54)])), (a 42, .inl (t 0, 9, .inl f42)), (a 43, .inl (t 0, 9, .inl f43)), (a 45, .inl (t 0, 9, .inl f45)), (a 46, .inl (t 0, 9, .inl f46)), (a 47, .inl (t 0, 9, .inl f47)), (a 49, .inl (t 0, 9, .inl f49)), (a 54, .inr (9, [.int v54_0, .int v54_1, .int v54_2, .ref (a 55), .ref (a 56), .ref (a 57), .ref (a 58)])), (a 120, .inl (t 0, 81, .inl f120)), (a 121, .inl (t 0, 9, .inl f121)), (a 122, .inl (t 0, 9, .inl f122))] sz)) 0 0 (va_A [(a 14, .inr (2, [.ref (a 40), .int v14_1, .int v14_2, .int v14_3, .ref (a 120), .ref (a 121), .int v14_6, .ref (a 122), .int v14_8, .int v14_9, .int v14_10, .int v14_11, .int v14_12])), (a 40, .inr (0, [.int v40_0, .int v40_1, .int v40_2, .int v40_3, .int v40_4, .int v40_5, .int v40_6, .int v40_7, .ref (a 41), .ref (a 42), .ref (a 43), .ref (a 44), .ref (a 45), .ref (a 46), .ref (a 47), .ref (a 48), .ref (a 49), .ref (a 50), .ref (a 54)])), (a 42, .inl (t 0, 9, .inl f42)), (a 43, .inl (t 0, 9, .inl f43)), (a 45, .inl (t 0, 9, .inl f45)), (a 46, .inl (t 0, 9, .inl f46)), (a 47, .inl (t 0, 9, .inl f47)), (a 49, .inl (t 0, 9, .inl f49)), (a 54, .inr (9, [.int v54_0, .int v54_1, .int v54_2, .ref (a 55), .ref (a 56), .ref (a 57), .ref (a 58)])), (a 120, .inl (t 0, 81, .inl f120)), (a 121, .inl (t 0, 9, .inl f121)), (a 122, .inl (t 0, 9, .inl f122))] sz) := by
  refine Met.ofW (cc := cX2_takers) (maxL := 4) (ret := (some .int)) (by decide) rfl ?_
  intro p e s m args below meth c s₁ B hml hv
  obtain ⟨rfl, hsz, hP, hK, hD0, hN⟩ := hv
  have hx := B.exec
  have hb := B.bytes
  have hr := B.returns
  have hts : ∀ w ∈ TB, w.before _ s = true := fun w h => atoms_spec (ws := wd yX2_takers cX2_takers 4 (some .int)) B.pre w (List.mem_cons_of_mem _ h)
  have hown : s.vm.findClass RX2 = some m.cls := findClass_of_methodNamed B.named
  have hlocks := B.notSynchronized
  have hF : CallFix p m c cX2_takers 4 s _ TB RX2 := ⟨hx, hb, hml, hown, hts⟩
  have hl := lv_entry ([.ref (a 14)]) (n := 4) (Nat.le_of_ble_eq_true rfl)
  rw [lg_entry_eq]
  generalize (lg_sl ([.ref (a 14)]) ++ List.replicate (4 - (lg_sl ([.ref (a 14)])).length) Slot.unset).toArray = ls at hl ⊢
  have hl : lv_has ls 4 [(0, .ref (a 14))] := hl
  subst hsz
  have hD := hD0.self (sz := s.heap.size)
  generalize hAe : va_A [(a 14, .inr (2, [.ref (a 40), .int v14_1, .int v14_2, .int v14_3, .ref (a 120), .ref (a 121), .int v14_6, .ref (a 122), .int v14_8, .int v14_9, .int v14_10, .int v14_11, .int v14_12])), (a 40, .inr (0, [.int v40_0, .int v40_1, .int v40_2, .int v40_3, .int v40_4, .int v40_5, .int v40_6, .int v40_7, .ref (a 41), .ref (a 42), .ref (a 43), .ref (a 44), .ref (a 45), .ref (a 46), .ref (a 47), .ref (a 48), .ref (a 49), .ref (a 50), .ref (a 54)])), (a 42, .inl (t 0, 9, .inl f42)), (a 43, .inl (t 0, 9, .inl f43)), (a 45, .inl (t 0, 9, .inl f45)), (a 46, .inl (t 0, 9, .inl f46)), (a 47, .inl (t 0, 9, .inl f47)), (a 49, .inl (t 0, 9, .inl f49)), (a 54, .inr (9, [.int v54_0, .int v54_1, .int v54_2, .ref (a 55), .ref (a 56), .ref (a 57), .ref (a 58)])), (a 120, .inl (t 0, 81, .inl f120)), (a 121, .inl (t 0, 9, .inl f121)), (a 122, .inl (t 0, 9, .inl f122))] s.heap.size = A at hD ⊢
  have hA : ∀ q : Nat, s.heap.size ≤ q → A q := fun q h => by rw [← hAe]; exact Or.inr h
  have hS : va_S A s.heap s.heap [] := va_S.rf
  have hP : va_P D classes [(a 14, .inr (2, [.ref (a 40), .int v14_1, .int v14_2, .int v14_3, .ref (a 120), .ref (a 121), .int v14_6, .ref (a 122), .int v14_8, .int v14_9, .int v14_10, .int v14_11, .int v14_12])), (a 40, .inr (0, [.int v40_0, .int v40_1, .int v40_2, .int v40_3, .int v40_4, .int v40_5, .int v40_6, .int v40_7, .ref (a 41), .ref (a 42), .ref (a 43), .ref (a 44), .ref (a 45), .ref (a 46), .ref (a 47), .ref (a 48), .ref (a 49), .ref (a 50), .ref (a 54)])), (a 42, .inl (t 0, 9, .inl f42)), (a 43, .inl (t 0, 9, .inl f43)), (a 45, .inl (t 0, 9, .inl f45)), (a 46, .inl (t 0, 9, .inl f46)), (a 47, .inl (t 0, 9, .inl f47)), (a 49, .inl (t 0, 9, .inl f49)), (a 54, .inr (9, [.int v54_0, .int v54_1, .int v54_2, .ref (a 55), .ref (a 56), .ref (a 57), .ref (a 58)])), (a 120, .inl (t 0, 81, .inl f120)), (a 121, .inl (t 0, 9, .inl f121)), (a 122, .inl (t 0, 9, .inl f122))] s.heap := hP
  refine lv_iconst (v := 0) hx hb dX2_takers_0 (by decide) ?_
  refine lv_istore_n (lv' := [(1, .int 0), (0, .ref (a 14))]) hx hb dX2_takers_1 rfl hl (by decide) rfl (fun ls hl => ?_)
  refine lv_iconst (v := 0) hx hb dX2_takers_2 (by decide) ?_
  refine lv_istore_n (lv' := [(2, .int 0), (1, .int 0), (0, .ref (a 14))]) hx hb dX2_takers_3 rfl hl (by decide) rfl (fun ls hl => ?_)
  refine loopW (α := US) (fun n y_1 H locs ls => 4 < (y_1.1 0).toInt + (n : Int) ∧ rg 0 4 (y_1.1 0) ∧ rg 0 511 (y_1.1 1) ∧ rg 0 9 (y_1.1 6) ∧ rg (-1) 8 (y_1.1 7) ∧ va_P D classes [(a 14, .inr (2, [.ref (a 40), .int (y_1.1 2), .int (y_1.1 3), .int (y_1.1 4), .ref (a 120), .ref (a 121), .int (y_1.1 5), .ref (a 122), .int (y_1.1 6), .int (y_1.1 7), .int (y_1.1 8), .int v14_11, .int v14_12])), (a 40, .inr (0, [.int v40_0, .int v40_1, .int v40_2, .int v40_3, .int v40_4, .int v40_5, .int v40_6, .int v40_7, .ref (a 41), .ref (a 42), .ref (a 43), .ref (a 44), .ref (a 45), .ref (a 46), .ref (a 47), .ref (a 48), .ref (a 49), .ref (a 50), .ref (a 54)])), (a 42, .inl (t 0, 9, .inl f42)), (a 43, .inl (t 0, 9, .inl f43)), (a 45, .inl (t 0, 9, .inl f45)), (a 46, .inl (t 0, 9, .inl f46)), (a 47, .inl (t 0, 9, .inl f47)), (a 49, .inl (t 0, 9, .inl f49)), (a 54, .inr (9, [.int v54_0, .int v54_1, .int v54_2, .ref (a 55), .ref (a 56), .ref (a 57), .ref (a 58)])), (a 120, .inl (t 0, 81, .inl (y_1.2.1 0))), (a 121, .inl (t 0, 9, .inl (y_1.2.1 1))), (a 122, .inl (t 0, 9, .inl (y_1.2.1 2)))] H ∧ va_D A [(a 14, .inr (2, [.ref (a 40), .int (y_1.1 2), .int (y_1.1 3), .int (y_1.1 4), .ref (a 120), .ref (a 121), .int (y_1.1 5), .ref (a 122), .int (y_1.1 6), .int (y_1.1 7), .int (y_1.1 8), .int v14_11, .int v14_12])), (a 40, .inr (0, [.int v40_0, .int v40_1, .int v40_2, .int v40_3, .int v40_4, .int v40_5, .int v40_6, .int v40_7, .ref (a 41), .ref (a 42), .ref (a 43), .ref (a 44), .ref (a 45), .ref (a 46), .ref (a 47), .ref (a 48), .ref (a 49), .ref (a 50), .ref (a 54)])), (a 42, .inl (t 0, 9, .inl f42)), (a 43, .inl (t 0, 9, .inl f43)), (a 45, .inl (t 0, 9, .inl f45)), (a 46, .inl (t 0, 9, .inl f46)), (a 47, .inl (t 0, 9, .inl f47)), (a 49, .inl (t 0, 9, .inl f49)), (a 54, .inr (9, [.int v54_0, .int v54_1, .int v54_2, .ref (a 55), .ref (a 56), .ref (a 57), .ref (a 58)])), (a 120, .inl (t 0, 81, .inl (y_1.2.1 0))), (a 121, .inl (t 0, 9, .inl (y_1.2.1 1))), (a 122, .inl (t 0, 9, .inl (y_1.2.1 2)))] ∧ va_S A s.heap H locs ∧ lv_has ls 4 [(2, .int (y_1.1 0)), (1, .int (y_1.1 1)), (0, .ref (a 14))]) 4 (fun y_1 => []) (fun _ _ _ _ h9 => m_0 h9.1 h9.2.1) (fun n ih_6 y_1 H locs ls hI => ?_) 5 (fun k => [0, 0, v14_1, v14_2, v14_3, v14_6, v14_8, v14_9, v14_10].getD k 0, fun k => [f120, f121, f122].getD k (fun _ => 0), fun k => [].getD k (fun _ => 0), fun k => [].getD k 0) ⟨(m_i (rg_c (x := 0) (k := 0) (by decide)) (by decide)), (rg_w (c := 0) (d := 4) (rg_c (x := 0) (k := 0) (by decide)) (by decide) (by decide)), (rg_w (c := 0) (d := 511) (rg_c (x := 0) (k := 0) (by decide)) (by decide) (by decide)), r14_8, r14_9, hP, hD, hS, (lv_sub hl [0, 1, 2] rfl)⟩
  obtain ⟨me_7, h_2, h_3, h_4, h_5, hP, hD, hS, hl⟩ := hI
  refine lv_iload_n hx hb dX2_takers_4 rfl (lv_at hl 0 rfl) ?_
  refine lv_aload_n hx hb dX2_takers_5 rfl (lv_at hl 2 rfl) ?_
  refine va_get (D := D) (ci := 2) (v := .ref (a 40)) (C := RX2) (T := TX2) (N := 13) hx hb hts iX2 hown hK hP 0 rfl rfl 0 (by decide) (hts _ m_275) (fun _ h9 => h9) rfl dX2_takers_6 ?_
  refine va_getN (D := D) (ci := 0) (v := .int v40_5) (C := RX0) (T := TX0) (N := 19) (host := "WordSeats") hx hb hts iX0 hown hK hP 1 rfl rfl 5 (by decide) (va_Nw.use rfl (hN _ n_138)) (fun _ h9 => h9) rfl dX2_takers_9 ?_
  refine lv_icmp_ge (tgt := 49) hx hb dX2_takers_12 (by decide) (fun c_8 => ?_) (fun c_8 => ?_)
  · skip
    refine lv_iload_n hx hb dX2_takers_49 rfl (lv_at hl 1 rfl) ?_
    have hP9 := hP.sub (ws' := [(a 14, .inr (2, [.ref (a 40), .int (y_1.1 2), .int (y_1.1 3), .int (y_1.1 4), .ref (a 120), .ref (a 121), .int (y_1.1 5), .ref (a 122), .int (y_1.1 6), .int (y_1.1 7), .int (y_1.1 8), .int v14_11, .int v14_12])), (a 40, .inr (0, [.int v40_0, .int v40_1, .int v40_2, .int v40_3, .int v40_4, .int v40_5, .int v40_6, .int v40_7, .ref (a 41), .ref (a 42), .ref (a 43), .ref (a 44), .ref (a 45), .ref (a 46), .ref (a 47), .ref (a 48), .ref (a 49), .ref (a 50), .ref (a 54)])), (a 42, .inl (t 0, 9, .inl f42)), (a 43, .inl (t 0, 9, .inl f43)), (a 45, .inl (t 0, 9, .inl f45)), (a 46, .inl (t 0, 9, .inl f46)), (a 47, .inl (t 0, 9, .inl f47)), (a 49, .inl (t 0, 9, .inl f49)), (a 54, .inr (9, [.int v54_0, .int v54_1, .int v54_2, .ref (a 55), .ref (a 56), .ref (a 57), .ref (a 58)])), (a 120, .inl (t 0, 81, .inl (y_1.2.1 0))), (a 121, .inl (t 0, 9, .inl (y_1.2.1 1))), (a 122, .inl (t 0, 9, .inl (y_1.2.1 2)))]) [0, 1, 2, 3, 4, 5, 6, 7, 8, 9, 10, 11] rfl
    have hD9 := hD.sub (ws' := [(a 14, .inr (2, [.ref (a 40), .int (y_1.1 2), .int (y_1.1 3), .int (y_1.1 4), .ref (a 120), .ref (a 121), .int (y_1.1 5), .ref (a 122), .int (y_1.1 6), .int (y_1.1 7), .int (y_1.1 8), .int v14_11, .int v14_12])), (a 40, .inr (0, [.int v40_0, .int v40_1, .int v40_2, .int v40_3, .int v40_4, .int v40_5, .int v40_6, .int v40_7, .ref (a 41), .ref (a 42), .ref (a 43), .ref (a 44), .ref (a 45), .ref (a 46), .ref (a 47), .ref (a 48), .ref (a 49), .ref (a 50), .ref (a 54)])), (a 42, .inl (t 0, 9, .inl f42)), (a 43, .inl (t 0, 9, .inl f43)), (a 45, .inl (t 0, 9, .inl f45)), (a 46, .inl (t 0, 9, .inl f46)), (a 47, .inl (t 0, 9, .inl f47)), (a 49, .inl (t 0, 9, .inl f49)), (a 54, .inr (9, [.int v54_0, .int v54_1, .int v54_2, .ref (a 55), .ref (a 56), .ref (a 57), .ref (a 58)])), (a 120, .inl (t 0, 81, .inl (y_1.2.1 0))), (a 121, .inl (t 0, 9, .inl (y_1.2.1 1))), (a 122, .inl (t 0, 9, .inl (y_1.2.1 2)))]) [0, 1, 2, 3, 4, 5, 6, 7, 8, 9, 10, 11] (by decide) rfl
    exact W.iret (v := (y_1.1 1)) hx hb hr (fun t9 ht hW => ⟨⟨(y_1.1 1), (fun k => [(y_1.1 2), (y_1.1 3), (y_1.1 4), (y_1.1 5), (y_1.1 6), (y_1.1 7), (y_1.1 8)].getD k 0, fun k => [(y_1.2.1 0), (y_1.2.1 1), (y_1.2.1 2)].getD k (fun _ => 0), fun k => [].getD k (fun _ => 0), fun _ => 0), rfl, ⟨h_3, h_4, h_5⟩, by rw [ht]; exact hP9, hD9⟩, hS.F ht⟩) hS.2.2 dX2_takers_50
  · skip
    have h_9 : rg 0 3 (y_1.1 0) := ⟨(h_2).1, Int.le_trans (c_nleR c_8 r40_5) (by decide)⟩
    have h_10 : rg 1 4 v40_5 := ⟨Int.le_trans (by decide) (c_nle c_8 h_2), (r40_5).2⟩
    refine lv_aload_n hx hb dX2_takers_15 rfl (lv_at hl 2 rfl) ?_
    refine lv_iload_n hx hb dX2_takers_16 rfl (lv_at hl 0 rfl) ?_
    refine lv_aload_n hx hb dX2_takers_17 rfl (lv_at hl 2 rfl) ?_
    refine va_get (D := D) (ci := 2) (v := .ref (a 40)) (C := RX2) (T := TX2) (N := 13) hx hb hts iX2 hown hK hP 0 rfl rfl 0 (by decide) (hts _ m_275) (fun _ h9 => h9) rfl dX2_takers_18 ?_
    refine va_getN (D := D) (ci := 0) (v := .int v40_2) (C := RX0) (T := TX0) (N := 19) (host := "WordSeats") hx hb hts iX0 hown hK hP 1 rfl rfl 2 (by decide) (va_Nw.use rfl (hN _ n_127)) (fun _ h9 => h9) rfl dX2_takers_21 ?_
    refine y_wVi (wr := []) hF (s_X2_takerIn l D t a (y_1.1 2) (y_1.1 3) (y_1.1 4) (y_1.1 5) (y_1.1 6) (y_1.1 7) (y_1.1 8) v14_11 v14_12 v40_0 v40_1 v40_2 v40_3 v40_4 v40_5 v40_6 v40_7 f42 f43 f45 f46 f47 f49 v54_0 v54_1 v54_2 (y_1.2.1 0) (y_1.2.1 1) (y_1.2.1 2) (y_1.1 0) v40_2 h_4 h_5 r40_1 (rg_w (c := 0) (d := 4) h_10 (by decide) (by decide)) r40_6 r40_7 q43 r54_0 H.size) m_916 m_846 m_847 m_7 m_848 hd_X2_takerIn ⟨Nat.le_of_ble_eq_true rfl, Nat.le_of_ble_eq_true rfl⟩ hK hN hP hD hS hA 0 (ci := 2) rfl rfl rfl [0, 1, 2, 3, 4, 5, 6, 7, 8, 9, 10, 11] [] rfl rfl (by decide) (by decide) (by decide) hl.1 rfl (Nat.le_of_ble_eq_true rfl) dX2_takers_24 ⟨Nat.zero_le _, Nat.zero_le _⟩ (fun r_12 u_11 H locs hu_11 hP hD hS => ?_)
    obtain ⟨hr_12, h_13, h_14⟩ := hu_11
    have hP : va_P D classes [(a 14, .inr (2, [.ref (a 40), .int (u_11.1 0), .int (u_11.1 1), .int (u_11.1 2), .ref (a 120), .ref (a 121), .int (u_11.1 3), .ref (a 122), .int (u_11.1 4), .int (u_11.1 5), .int (u_11.1 6), .int v14_11, .int v14_12])), (a 40, .inr (0, [.int v40_0, .int v40_1, .int v40_2, .int v40_3, .int v40_4, .int v40_5, .int v40_6, .int v40_7, .ref (a 41), .ref (a 42), .ref (a 43), .ref (a 44), .ref (a 45), .ref (a 46), .ref (a 47), .ref (a 48), .ref (a 49), .ref (a 50), .ref (a 54)])), (a 42, .inl (t 0, 9, .inl f42)), (a 43, .inl (t 0, 9, .inl f43)), (a 45, .inl (t 0, 9, .inl f45)), (a 46, .inl (t 0, 9, .inl f46)), (a 47, .inl (t 0, 9, .inl f47)), (a 49, .inl (t 0, 9, .inl f49)), (a 54, .inr (9, [.int v54_0, .int v54_1, .int v54_2, .ref (a 55), .ref (a 56), .ref (a 57), .ref (a 58)])), (a 120, .inl (t 0, 81, .inl (u_11.2.1 0))), (a 121, .inl (t 0, 9, .inl (u_11.2.1 1))), (a 122, .inl (t 0, 9, .inl (u_11.2.1 2)))] H := hP
    have hD : va_D A [(a 14, .inr (2, [.ref (a 40), .int (u_11.1 0), .int (u_11.1 1), .int (u_11.1 2), .ref (a 120), .ref (a 121), .int (u_11.1 3), .ref (a 122), .int (u_11.1 4), .int (u_11.1 5), .int (u_11.1 6), .int v14_11, .int v14_12])), (a 40, .inr (0, [.int v40_0, .int v40_1, .int v40_2, .int v40_3, .int v40_4, .int v40_5, .int v40_6, .int v40_7, .ref (a 41), .ref (a 42), .ref (a 43), .ref (a 44), .ref (a 45), .ref (a 46), .ref (a 47), .ref (a 48), .ref (a 49), .ref (a 50), .ref (a 54)])), (a 42, .inl (t 0, 9, .inl f42)), (a 43, .inl (t 0, 9, .inl f43)), (a 45, .inl (t 0, 9, .inl f45)), (a 46, .inl (t 0, 9, .inl f46)), (a 47, .inl (t 0, 9, .inl f47)), (a 49, .inl (t 0, 9, .inl f49)), (a 54, .inr (9, [.int v54_0, .int v54_1, .int v54_2, .ref (a 55), .ref (a 56), .ref (a 57), .ref (a 58)])), (a 120, .inl (t 0, 81, .inl (u_11.2.1 0))), (a 121, .inl (t 0, 9, .inl (u_11.2.1 1))), (a 122, .inl (t 0, 9, .inl (u_11.2.1 2)))] := hD
    refine lv_istore_n (lv' := [(3, .int r_12), (2, .int (y_1.1 0)), (1, .int (y_1.1 1)), (0, .ref (a 14))]) hx hb dX2_takers_27 rfl hl (by decide) rfl (fun ls hl => ?_)
    refine lv_iload_n hx hb dX2_takers_28 rfl (lv_at hl 2 rfl) ?_
    refine lv_iload_n hx hb dX2_takers_29 rfl (lv_at hl 0 rfl) ?_
    refine lv_iconst (v := (-1)) hx hb dX2_takers_30 (by decide) ?_
    refine lv_icmp_ne (tgt := 38) hx hb dX2_takers_31 (by decide) (fun c_15 => ?_) (fun c_15 => ?_)
    · skip
      have h_16 : rg 0 8 r_12 := rg_w (rg_neL hr_12 c_15 (by decide)) (by decide) (by decide)
      refine lv_iconst (v := 1) hx hb dX2_takers_38 (by decide) ?_
      refine lv_iload_n hx hb dX2_takers_39 rfl (lv_at hl 0 rfl) ?_
      refine lv_ishl hx hb dX2_takers_40 ?_
      refine lv_topi (fun x_17 ex_17 => ?_)
      have hx_17 : rg 1 256 x_17 := by rw [ex_17]; exact rg_shl1 (b := 8) h_16 (by decide) (by decide)
      refine lv_ior hx hb dX2_takers_41 ?_
      refine lv_topi (fun x_18 ex_18 => ?_)
      have hx_18 : rg 0 511 x_18 := by rw [ex_18]; exact rg_or (m := 9) h_3 (rg_w (c := 0) (d := 511) hx_17 (by decide) (by decide)) (by decide) (by decide)
      refine lv_istore_n (lv' := [(1, .int x_18), (3, .int r_12), (2, .int (y_1.1 0)), (0, .ref (a 14))]) hx hb dX2_takers_42 rfl hl (by decide) rfl (fun ls hl => ?_)
      obtain ⟨x_19, ex_19⟩ : ∃ y9 : Int32, y9 = (y_1.1 0) + 1 := ⟨_, rfl⟩
      have hx_19 : rg 1 4 x_19 := by rw [ex_19]; exact rg_add h_9 (rg_c (x := 1) (k := 1) (by decide)) (by decide) (by decide) (by decide) (by decide)
      have tx_19 : x_19.toInt = (y_1.1 0).toInt + 1 := by rw [ex_19]; exact inc_tk h_9 (by decide) (by decide) (by decide)
      refine lv_iinc (v := x_19) (lv' := [(2, .int x_19), (1, .int x_18), (3, .int r_12), (0, .ref (a 14))]) hx hb dX2_takers_43 hl (k := 2) rfl (by rw [ex_19]; rfl) (by decide) rfl (fun ls hl => ?_)
      refine lv_goto (tgt := 4) hx hb dX2_takers_46 (by decide) ?_
      exact ih_6 (fun k => [x_19, x_18, (u_11.1 0), (u_11.1 1), (u_11.1 2), (u_11.1 3), (u_11.1 4), (u_11.1 5), (u_11.1 6)].getD k 0, fun k => [(u_11.2.1 0), (u_11.2.1 1), (u_11.2.1 2)].getD k (fun _ => 0), fun k => [].getD k (fun _ => 0), fun k => [].getD k 0) _ _ ls ⟨(m_upk me_7 tx_19 (by decide)), (rg_w (c := 0) (d := 4) hx_19 (by decide) (by decide)), hx_18, h_13, h_14, hP, hD, hS, (lv_sub hl [0, 1, 3] rfl)⟩
    · skip
      have h_20 : rg (-1) (-1) r_12 := rg_eq c_15 (rg_c (x := (-1)) (k := (-1)) (by decide))
      refine lv_iconst (v := 0) hx hb dX2_takers_34 (by decide) ?_
      refine lv_goto (tgt := 41) hx hb dX2_takers_35 (by decide) ?_
      refine lv_ior hx hb dX2_takers_41 ?_
      refine lv_topi (fun x_21 ex_21 => ?_)
      have hx_21 : rg 0 511 x_21 := by rw [ex_21]; exact rg_or (m := 9) h_3 (rg_w (c := 0) (d := 511) (rg_c (x := 0) (k := 0) (by decide)) (by decide) (by decide)) (by decide) (by decide)
      refine lv_istore_n (lv' := [(1, .int x_21), (3, .int r_12), (2, .int (y_1.1 0)), (0, .ref (a 14))]) hx hb dX2_takers_42 rfl hl (by decide) rfl (fun ls hl => ?_)
      obtain ⟨x_22, ex_22⟩ : ∃ y9 : Int32, y9 = (y_1.1 0) + 1 := ⟨_, rfl⟩
      have hx_22 : rg 1 4 x_22 := by rw [ex_22]; exact rg_add h_9 (rg_c (x := 1) (k := 1) (by decide)) (by decide) (by decide) (by decide) (by decide)
      have tx_22 : x_22.toInt = (y_1.1 0).toInt + 1 := by rw [ex_22]; exact inc_tk h_9 (by decide) (by decide) (by decide)
      refine lv_iinc (v := x_22) (lv' := [(2, .int x_22), (1, .int x_21), (3, .int r_12), (0, .ref (a 14))]) hx hb dX2_takers_43 hl (k := 2) rfl (by rw [ex_22]; rfl) (by decide) rfl (fun ls hl => ?_)
      refine lv_goto (tgt := 4) hx hb dX2_takers_46 (by decide) ?_
      exact ih_6 (fun k => [x_22, x_21, (u_11.1 0), (u_11.1 1), (u_11.1 2), (u_11.1 3), (u_11.1 4), (u_11.1 5), (u_11.1 6)].getD k 0, fun k => [(u_11.2.1 0), (u_11.2.1 1), (u_11.2.1 2)].getD k (fun _ => 0), fun k => [].getD k (fun _ => 0), fun k => [].getD k 0) _ _ ls ⟨(m_upk me_7 tx_22 (by decide)), (rg_w (c := 0) (d := 4) hx_22 (by decide) (by decide)), hx_21, h_13, h_14, hP, hD, hS, (lv_sub hl [0, 1, 3] rfl)⟩

set_option maxHeartbeats 4000000 in
set_option maxRecDepth 100000 in
theorem s_X2_takerWithout (l : Launch) (D : va_G) (t : Nat → ClassId) (a : Nat → Nat) (v14_1 : Int32) (v14_2 : Int32) (v14_3 : Int32) (v14_6 : Int32) (v14_8 : Int32) (v14_9 : Int32) (v14_10 : Int32) (v14_11 : Int32) (v14_12 : Int32) (v40_0 : Int32) (v40_1 : Int32) (v40_2 : Int32) (v40_3 : Int32) (v40_4 : Int32) (v40_5 : Int32) (v40_6 : Int32) (v40_7 : Int32) (f42 : Nat → Int32) (f43 : Nat → Int32) (f45 : Nat → Int32) (f46 : Nat → Int32) (f47 : Nat → Int32) (f49 : Nat → Int32) (v54_0 : Int32) (v54_1 : Int32) (v54_2 : Int32) (f120 : Nat → Int32) (f121 : Nat → Int32) (f122 : Nat → Int32) (p0 : Int32) (r14_8 : rg 0 9 v14_8) (r14_9 : rg (-1) 8 v14_9) (r40_1 : rg 0 8 v40_1) (r40_5 : rg 0 4 v40_5) (r40_6 : rg 0 9 v40_6) (r40_7 : rg 0 9 v40_7) (q43 : ∀ j, j < 9 → rg 0 3 (f43 j)) (r54_0 : rg 0 60 v54_0) (rp0 : rg 0 8 p0) (sz : Nat) : Met l yX2_takerWithout (wd yX2_takerWithout cX2_takerWithout 2 (some .int)) (RM 5 0 0) (PreW D (TY t) [.ref (a 14), .int p0] [(a 14, .inr (2, [.ref (a 40), .int v14_1, .int v14_2, .int v14_3, .ref (a 120), .ref (a 121), .int v14_6, .ref (a 122), .int v14_8, .int v14_9, .int v14_10, .int v14_11, .int v14_12])), (a 40, .inr (0, [.int v40_0, .int v40_1, .int v40_2, .int v40_3, .int v40_4, .int v40_5, .int v40_6, .int v40_7, .ref (a 41), .ref (a 42), .ref (a 43), .ref (a 44), .ref (a 45), .ref (a 46), .ref (a 47), .ref (a 48), .ref (a 49), .ref (a 50), .ref (a 54)])), (a 42, .inl (t 0, 9, .inl f42)), (a 43, .inl (t 0, 9, .inl f43)), (a 45, .inl (t 0, 9, .inl f45)), (a 46, .inl (t 0, 9, .inl f46)), (a 47, .inl (t 0, 9, .inl f47)), (a 49, .inl (t 0, 9, .inl f49)), (a 54, .inr (9, [.int v54_0, .int v54_1, .int v54_2, .ref (a 55), .ref (a 56), .ref (a 57), .ref (a 58)])), (a 120, .inl (t 0, 81, .inl f120)), (a 121, .inl (t 0, 9, .inl f121)), (a 122, .inl (t 0, 9, .inl f122))] sz) (va_Qi (fun (r : Int32) (u : US) => rg (-1) 8 r ∧ rg 0 9 (u.1 4) ∧ rg (-1) 8 (u.1 5)) (fun (u : US) t9 => va_P D classes ((fun u : US => [(a 14, .inr (2, [.ref (a 40), .int (u.1 0), .int (u.1 1), .int (u.1 2), .ref (a 120), .ref (a 121), .int (u.1 3), .ref (a 122), .int (u.1 4), .int (u.1 5), .int (u.1 6), .int v14_11, .int v14_12])), (a 40, .inr (0, [.int v40_0, .int v40_1, .int v40_2, .int v40_3, .int v40_4, .int v40_5, .int v40_6, .int v40_7, .ref (a 41), .ref (a 42), .ref (a 43), .ref (a 44), .ref (a 45), .ref (a 46), .ref (a 47), .ref (a 48), .ref (a 49), .ref (a 50), .ref (a 54)])), (a 42, .inl (t 0, 9, .inl f42)), (a 43, .inl (t 0, 9, .inl f43)), (a 45, .inl (t 0, 9, .inl f45)), (a 46, .inl (t 0, 9, .inl f46)), (a 47, .inl (t 0, 9, .inl f47)), (a 49, .inl (t 0, 9, .inl f49)), (a 54, .inr (9, [.int v54_0, .int v54_1, .int v54_2, .ref (a 55), .ref (a 56), .ref (a 57), .ref (a 58)])), (a 120, .inl (t 0, 81, .inl (u.2.1 0))), (a 121, .inl (t 0, 9, .inl (u.2.1 1))), (a 122, .inl (t 0, 9, .inl (u.2.1 2)))]) u) t9.heap ∧ va_D (va_A [(a 14, .inr (2, [.ref (a 40), .int v14_1, .int v14_2, .int v14_3, .ref (a 120), .ref (a 121), .int v14_6, .ref (a 122), .int v14_8, .int v14_9, .int v14_10, .int v14_11, .int v14_12])), (a 40, .inr (0, [.int v40_0, .int v40_1, .int v40_2, .int v40_3, .int v40_4, .int v40_5, .int v40_6, .int v40_7, .ref (a 41), .ref (a 42), .ref (a 43), .ref (a 44), .ref (a 45), .ref (a 46), .ref (a 47), .ref (a 48), .ref (a 49), .ref (a 50), .ref (a 54)])), (a 42, .inl (t 0, 9, .inl f42)), (a 43, .inl (t 0, 9, .inl f43)), (a 45, .inl (t 0, 9, .inl f45)), (a 46, .inl (t 0, 9, .inl f46)), (a 47, .inl (t 0, 9, .inl f47)), (a 49, .inl (t 0, 9, .inl f49)), (a 54, .inr (9, [.int v54_0, .int v54_1, .int v54_2, .ref (a 55), .ref (a 56), .ref (a 57), .ref (a 58)])), (a 120, .inl (t 0, 81, .inl f120)), (a 121, .inl (t 0, 9, .inl f121)), (a 122, .inl (t 0, 9, .inl f122))] sz) ((fun u : US => [(a 14, .inr (2, [.ref (a 40), .int (u.1 0), .int (u.1 1), .int (u.1 2), .ref (a 120), .ref (a 121), .int (u.1 3), .ref (a 122), .int (u.1 4), .int (u.1 5), .int (u.1 6), .int v14_11, .int v14_12])), (a 40, .inr (0, [.int v40_0, .int v40_1, .int v40_2, .int v40_3, .int v40_4, .int v40_5, .int v40_6, .int v40_7, .ref (a 41), .ref (a 42), .ref (a 43), .ref (a 44), .ref (a 45), .ref (a 46), .ref (a 47), .ref (a 48), .ref (a 49), .ref (a 50), .ref (a 54)])), (a 42, .inl (t 0, 9, .inl f42)), (a 43, .inl (t 0, 9, .inl f43)), (a 45, .inl (t 0, 9, .inl f45)), (a 46, .inl (t 0, 9, .inl f46)), (a 47, .inl (t 0, 9, .inl f47)), (a 49, .inl (t 0, 9, .inl f49)), (a 54, .inr (9, [.int v54_0, .int v54_1, .int v54_2, .ref (a 55), .ref (a 56), .ref (a 57), .ref (a 58)])), (a 120, .inl (t 0, 81, .inl (u.2.1 0))), (a 121, .inl (t 0, 9, .inl (u.2.1 1))), (a 122, .inl (t 0, 9, .inl (u.2.1 2)))]) u)) (va_A [(a 14, .inr (2, [.ref (a 40), .int v14_1, .int v14_2, .int v14_3, .ref (a 120), .ref (a 121), .int v14_6, .ref (a 122), .int v14_8, .int v14_9, .int v14_10, .int v14_11, .int v14_12])), (a 40, .inr (0, [.int v40_0, .int v40_1, .int v40_2, .int v40_3, .int v40_4, .int v40_5, .int v40_6, .int v40_7, .ref (a 41), .ref (a 42), .ref (a 43), .ref (a 44), .ref (a 45), .ref (a 46), .ref (a 47), .ref (a 48), .ref (a 49), .ref (a 50), .ref (a 54)])), (a 42, .inl (t 0, 9, .inl f42)), (a 43, .inl (t 0, 9, .inl f43)), (a 45, .inl (t 0, 9, .inl f45)), (a 46, .inl (t 0, 9, .inl f46)), (a 47, .inl (t 0, 9, .inl f47)), (a 49, .inl (t 0, 9, .inl f49)), (a 54, .inr (9, [.int v54_0, .int v54_1, .int v54_2, .ref (a 55), .ref (a 56), .ref (a 57), .ref (a 58)])), (a 120, .inl (t 0, 81, .inl f120)), (a 121, .inl (t 0, 9, .inl f121)), (a 122, .inl (t 0, 9, .inl f122))] sz)) 0 0 (va_A [(a 14, .inr (2, [.ref (a 40), .int v14_1, .int v14_2, .int v14_3, .ref (a 120), .ref (a 121), .int v14_6, .ref (a 122), .int v14_8, .int v14_9, .int v14_10, .int v14_11, .int v14_12])), (a 40, .inr (0, [.int v40_0, .int v40_1, .int v40_2, .int v40_3, .int v40_4, .int v40_5, .int v40_6, .int v40_7, .ref (a 41), .ref (a 42), .ref (a 43), .ref (a 44), .ref (a 45), .ref (a 46), .ref (a 47), .ref (a 48), .ref (a 49), .ref (a 50), .ref (a 54)])), (a 42, .inl (t 0, 9, .inl f42)), (a 43, .inl (t 0, 9, .inl f43)), (a 45, .inl (t 0, 9, .inl f45)), (a 46, .inl (t 0, 9, .inl f46)), (a 47, .inl (t 0, 9, .inl f47)), (a 49, .inl (t 0, 9, .inl f49)), (a 54, .inr (9, [.int v54_0, .int v54_1, .int v54_2, .ref (a 55), .ref (a 56), .ref (a 57), .ref (a 58)])), (a 120, .inl (t 0, 81, .inl f120)), (a 121, .inl (t 0, 9, .inl f121)), (a 122, .inl (t 0, 9, .inl f122))] sz) := by
  refine Met.ofW (cc := cX2_takerWithout) (maxL := 2) (ret := (some .int)) (by decide) rfl ?_
  intro p e s m args below meth c s₁ B hml hv
  obtain ⟨rfl, hsz, hP, hK, hD0, hN⟩ := hv
  have hx := B.exec
  have hb := B.bytes
  have hr := B.returns
  have hts : ∀ w ∈ TB, w.before _ s = true := fun w h => atoms_spec (ws := wd yX2_takerWithout cX2_takerWithout 2 (some .int)) B.pre w (List.mem_cons_of_mem _ h)
  have hown : s.vm.findClass RX2 = some m.cls := findClass_of_methodNamed B.named
  have hlocks := B.notSynchronized
  have hF : CallFix p m c cX2_takerWithout 2 s _ TB RX2 := ⟨hx, hb, hml, hown, hts⟩
  have hl := lv_entry ([.ref (a 14), .int p0]) (n := 2) (Nat.le_of_ble_eq_true rfl)
  rw [lg_entry_eq]
  generalize (lg_sl ([.ref (a 14), .int p0]) ++ List.replicate (2 - (lg_sl ([.ref (a 14), .int p0])).length) Slot.unset).toArray = ls at hl ⊢
  have hl : lv_has ls 2 [(0, .ref (a 14)), (1, .int p0)] := hl
  subst hsz
  have hD := hD0.self (sz := s.heap.size)
  generalize hAe : va_A [(a 14, .inr (2, [.ref (a 40), .int v14_1, .int v14_2, .int v14_3, .ref (a 120), .ref (a 121), .int v14_6, .ref (a 122), .int v14_8, .int v14_9, .int v14_10, .int v14_11, .int v14_12])), (a 40, .inr (0, [.int v40_0, .int v40_1, .int v40_2, .int v40_3, .int v40_4, .int v40_5, .int v40_6, .int v40_7, .ref (a 41), .ref (a 42), .ref (a 43), .ref (a 44), .ref (a 45), .ref (a 46), .ref (a 47), .ref (a 48), .ref (a 49), .ref (a 50), .ref (a 54)])), (a 42, .inl (t 0, 9, .inl f42)), (a 43, .inl (t 0, 9, .inl f43)), (a 45, .inl (t 0, 9, .inl f45)), (a 46, .inl (t 0, 9, .inl f46)), (a 47, .inl (t 0, 9, .inl f47)), (a 49, .inl (t 0, 9, .inl f49)), (a 54, .inr (9, [.int v54_0, .int v54_1, .int v54_2, .ref (a 55), .ref (a 56), .ref (a 57), .ref (a 58)])), (a 120, .inl (t 0, 81, .inl f120)), (a 121, .inl (t 0, 9, .inl f121)), (a 122, .inl (t 0, 9, .inl f122))] s.heap.size = A at hD ⊢
  have hA : ∀ q : Nat, s.heap.size ≤ q → A q := fun q h => by rw [← hAe]; exact Or.inr h
  have hS : va_S A s.heap s.heap [] := va_S.rf
  have hP : va_P D classes [(a 14, .inr (2, [.ref (a 40), .int v14_1, .int v14_2, .int v14_3, .ref (a 120), .ref (a 121), .int v14_6, .ref (a 122), .int v14_8, .int v14_9, .int v14_10, .int v14_11, .int v14_12])), (a 40, .inr (0, [.int v40_0, .int v40_1, .int v40_2, .int v40_3, .int v40_4, .int v40_5, .int v40_6, .int v40_7, .ref (a 41), .ref (a 42), .ref (a 43), .ref (a 44), .ref (a 45), .ref (a 46), .ref (a 47), .ref (a 48), .ref (a 49), .ref (a 50), .ref (a 54)])), (a 42, .inl (t 0, 9, .inl f42)), (a 43, .inl (t 0, 9, .inl f43)), (a 45, .inl (t 0, 9, .inl f45)), (a 46, .inl (t 0, 9, .inl f46)), (a 47, .inl (t 0, 9, .inl f47)), (a 49, .inl (t 0, 9, .inl f49)), (a 54, .inr (9, [.int v54_0, .int v54_1, .int v54_2, .ref (a 55), .ref (a 56), .ref (a 57), .ref (a 58)])), (a 120, .inl (t 0, 81, .inl f120)), (a 121, .inl (t 0, 9, .inl f121)), (a 122, .inl (t 0, 9, .inl f122))] s.heap := hP
  refine lv_aload_n hx hb dX2_takerWithout_0 rfl (lv_at hl 0 rfl) ?_
  refine lv_aload_n hx hb dX2_takerWithout_1 rfl (lv_at hl 0 rfl) ?_
  refine va_get (D := D) (ci := 2) (v := .ref (a 40)) (C := RX2) (T := TX2) (N := 13) hx hb hts iX2 hown hK hP 0 rfl rfl 0 (by decide) (hts _ m_275) (fun _ h9 => h9) rfl dX2_takerWithout_2 ?_
  refine va_getN (D := D) (ci := 0) (v := .ref (a 43)) (C := RX0) (T := TX0) (N := 19) (host := "WordSeats") hx hb hts iX0 hown hK hP 1 rfl rfl 10 (by decide) (va_Nw.use rfl (hN _ n_163)) (fun _ h9 => h9) rfl dX2_takerWithout_5 ?_
  refine lv_iload_n hx hb dX2_takerWithout_8 rfl (lv_at hl 1 rfl) ?_
  refine va_iald hx hb hK hP 3 0 rfl rfl (in_rg rp0 (by decide) (by decide)) dX2_takerWithout_9 ?_
  refine lv_topi (fun x_1 ex_1 => ?_)
  have hx_1 : rg 0 3 x_1 := by rw [ex_1]; exact q43 _ (cl_rg rp0 (by decide) (by decide))
  refine y_wV (wr := [(a 121, .inl (t 0, 9, .inl f121)), (a 122, .inl (t 0, 9, .inl f122))]) hF (s_X2_open l D t a v14_1 v14_2 v14_3 v14_6 v14_8 v14_9 v14_10 v14_11 v14_12 v40_0 v40_1 v40_2 v40_3 v40_4 v40_5 v40_6 v40_7 f42 f43 f45 f46 f47 f49 v54_0 v54_1 v54_2 f120 x_1 r14_8 r14_9 r40_1 r40_5 r40_6 r40_7 q43 r54_0 s.heap.size) m_849 m_763 m_764 m_7 m_765 hd_X2_open ⟨Nat.le_of_ble_eq_true rfl, Nat.le_of_ble_eq_true rfl⟩ hK hN hP hD hS hA 0 (ci := 2) rfl rfl rfl [0, 1, 2, 3, 4, 5, 6, 7, 8, 9] [10, 11] rfl rfl (by decide) (by decide) (by decide) hl.1 rfl (Nat.le_of_ble_eq_true rfl) dX2_takerWithout_10 ⟨Nat.zero_le _, Nat.zero_le _⟩ (fun u_2 H locs hu_2 hP hD hS => ?_)
  have hP : va_P D classes [(a 121, .inl (t 0, 9, .inl f121)), (a 122, .inl (t 0, 9, .inl f122)), (a 14, .inr (2, [.ref (a 40), .int (u_2.1 0), .int (u_2.1 1), .int (u_2.1 2), .ref (a 120), .ref (a 121), .int v14_6, .ref (a 122), .int v14_8, .int v14_9, .int v14_10, .int v14_11, .int v14_12])), (a 40, .inr (0, [.int v40_0, .int v40_1, .int v40_2, .int v40_3, .int v40_4, .int v40_5, .int v40_6, .int v40_7, .ref (a 41), .ref (a 42), .ref (a 43), .ref (a 44), .ref (a 45), .ref (a 46), .ref (a 47), .ref (a 48), .ref (a 49), .ref (a 50), .ref (a 54)])), (a 42, .inl (t 0, 9, .inl f42)), (a 43, .inl (t 0, 9, .inl f43)), (a 45, .inl (t 0, 9, .inl f45)), (a 46, .inl (t 0, 9, .inl f46)), (a 47, .inl (t 0, 9, .inl f47)), (a 49, .inl (t 0, 9, .inl f49)), (a 54, .inr (9, [.int v54_0, .int v54_1, .int v54_2, .ref (a 55), .ref (a 56), .ref (a 57), .ref (a 58)])), (a 120, .inl (t 0, 81, .inl (u_2.2.1 0)))] H := hP
  have hD : va_D A [(a 121, .inl (t 0, 9, .inl f121)), (a 122, .inl (t 0, 9, .inl f122)), (a 14, .inr (2, [.ref (a 40), .int (u_2.1 0), .int (u_2.1 1), .int (u_2.1 2), .ref (a 120), .ref (a 121), .int v14_6, .ref (a 122), .int v14_8, .int v14_9, .int v14_10, .int v14_11, .int v14_12])), (a 40, .inr (0, [.int v40_0, .int v40_1, .int v40_2, .int v40_3, .int v40_4, .int v40_5, .int v40_6, .int v40_7, .ref (a 41), .ref (a 42), .ref (a 43), .ref (a 44), .ref (a 45), .ref (a 46), .ref (a 47), .ref (a 48), .ref (a 49), .ref (a 50), .ref (a 54)])), (a 42, .inl (t 0, 9, .inl f42)), (a 43, .inl (t 0, 9, .inl f43)), (a 45, .inl (t 0, 9, .inl f45)), (a 46, .inl (t 0, 9, .inl f46)), (a 47, .inl (t 0, 9, .inl f47)), (a 49, .inl (t 0, 9, .inl f49)), (a 54, .inr (9, [.int v54_0, .int v54_1, .int v54_2, .ref (a 55), .ref (a 56), .ref (a 57), .ref (a 58)])), (a 120, .inl (t 0, 81, .inl (u_2.2.1 0)))] := hD
  refine lv_aload_n hx hb dX2_takerWithout_13 rfl (lv_at hl 0 rfl) ?_
  refine lv_dup hx hb dX2_takerWithout_14 rfl ?_
  refine va_get (D := D) (ci := 2) (v := .int (u_2.1 0)) (C := RX2) (T := TX2) (N := 13) hx hb hts iX2 hown hK hP 2 rfl rfl 1 (by decide) (hts _ m_276) (fun _ h9 => h9) rfl dX2_takerWithout_15 ?_
  refine lv_iconst (v := 1) hx hb dX2_takerWithout_18 (by decide) ?_
  refine lv_iload_n hx hb dX2_takerWithout_19 rfl (lv_at hl 1 rfl) ?_
  refine lv_ishl hx hb dX2_takerWithout_20 ?_
  refine lv_topi (fun x_4 ex_4 => ?_)
  have hx_4 : rg 1 256 x_4 := by rw [ex_4]; exact rg_shl1 (b := 8) rp0 (by decide) (by decide)
  refine lv_iconst (v := (-1)) hx hb dX2_takerWithout_21 (by decide) ?_
  refine lv_ixor hx hb dX2_takerWithout_22 ?_
  refine lv_topi (fun x_5 ex_5 => ?_)
  refine lv_iand hx hb dX2_takerWithout_23 ?_
  refine lv_topi (fun x_6 ex_6 => ?_)
  refine va_put (D := D) (ci := 2) (v := .int x_6) (ty := .int) (C := RX2) (T := TX2) (N := 13) hx hb hts iX2 tyX2 tyX2_ok nmX2 hown hK hP hD hS 2 rfl rfl 1 (by decide) (hts _ m_276) (fun _ h9 => h9) rfl (tyX2_ok 1 (by decide)) rfl rfl (Nat.le_of_ble_eq_true rfl) dX2_takerWithout_24 (fun H locs hP hD hS => ?_)
  have hP : va_P D classes [(a 121, .inl (t 0, 9, .inl f121)), (a 122, .inl (t 0, 9, .inl f122)), (a 14, .inr (2, [.ref (a 40), .int x_6, .int (u_2.1 1), .int (u_2.1 2), .ref (a 120), .ref (a 121), .int v14_6, .ref (a 122), .int v14_8, .int v14_9, .int v14_10, .int v14_11, .int v14_12])), (a 40, .inr (0, [.int v40_0, .int v40_1, .int v40_2, .int v40_3, .int v40_4, .int v40_5, .int v40_6, .int v40_7, .ref (a 41), .ref (a 42), .ref (a 43), .ref (a 44), .ref (a 45), .ref (a 46), .ref (a 47), .ref (a 48), .ref (a 49), .ref (a 50), .ref (a 54)])), (a 42, .inl (t 0, 9, .inl f42)), (a 43, .inl (t 0, 9, .inl f43)), (a 45, .inl (t 0, 9, .inl f45)), (a 46, .inl (t 0, 9, .inl f46)), (a 47, .inl (t 0, 9, .inl f47)), (a 49, .inl (t 0, 9, .inl f49)), (a 54, .inr (9, [.int v54_0, .int v54_1, .int v54_2, .ref (a 55), .ref (a 56), .ref (a 57), .ref (a 58)])), (a 120, .inl (t 0, 81, .inl (u_2.2.1 0)))] H := hP
  have hD : va_D A [(a 121, .inl (t 0, 9, .inl f121)), (a 122, .inl (t 0, 9, .inl f122)), (a 14, .inr (2, [.ref (a 40), .int x_6, .int (u_2.1 1), .int (u_2.1 2), .ref (a 120), .ref (a 121), .int v14_6, .ref (a 122), .int v14_8, .int v14_9, .int v14_10, .int v14_11, .int v14_12])), (a 40, .inr (0, [.int v40_0, .int v40_1, .int v40_2, .int v40_3, .int v40_4, .int v40_5, .int v40_6, .int v40_7, .ref (a 41), .ref (a 42), .ref (a 43), .ref (a 44), .ref (a 45), .ref (a 46), .ref (a 47), .ref (a 48), .ref (a 49), .ref (a 50), .ref (a 54)])), (a 42, .inl (t 0, 9, .inl f42)), (a 43, .inl (t 0, 9, .inl f43)), (a 45, .inl (t 0, 9, .inl f45)), (a 46, .inl (t 0, 9, .inl f46)), (a 47, .inl (t 0, 9, .inl f47)), (a 49, .inl (t 0, 9, .inl f49)), (a 54, .inr (9, [.int v54_0, .int v54_1, .int v54_2, .ref (a 55), .ref (a 56), .ref (a 57), .ref (a 58)])), (a 120, .inl (t 0, 81, .inl (u_2.2.1 0)))] := hD
  refine lv_aload_n hx hb dX2_takerWithout_27 rfl (lv_at hl 0 rfl) ?_
  refine lv_aload_n hx hb dX2_takerWithout_28 rfl (lv_at hl 0 rfl) ?_
  refine va_get (D := D) (ci := 2) (v := .ref (a 40)) (C := RX2) (T := TX2) (N := 13) hx hb hts iX2 hown hK hP 2 rfl rfl 0 (by decide) (hts _ m_275) (fun _ h9 => h9) rfl dX2_takerWithout_29 ?_
  refine va_getN (D := D) (ci := 0) (v := .int v40_2) (C := RX0) (T := TX0) (N := 19) (host := "WordSeats") hx hb hts iX0 hown hK hP 3 rfl rfl 2 (by decide) (va_Nw.use rfl (hN _ n_127)) (fun _ h9 => h9) rfl dX2_takerWithout_32 ?_
  refine y_wV (wr := [(a 43, .inl (t 0, 9, .inl f43)), (a 45, .inl (t 0, 9, .inl f45)), (a 46, .inl (t 0, 9, .inl f46)), (a 49, .inl (t 0, 9, .inl f49)), (a 54, .inr (9, [.int v54_0, .int v54_1, .int v54_2, .ref (a 55), .ref (a 56), .ref (a 57), .ref (a 58)]))]) hF (s_X2_hold l D t a x_6 (u_2.1 1) (u_2.1 2) v14_6 v14_8 v14_9 v14_10 v14_11 v14_12 v40_0 v40_1 v40_2 v40_3 v40_4 v40_5 v40_6 v40_7 f42 f47 (u_2.2.1 0) f121 f122 v40_2 r14_8 r14_9 r40_1 r40_5 r40_6 r40_7 H.size) m_850 m_812 m_813 m_7 m_814 hd_X2_hold ⟨Nat.le_of_ble_eq_true rfl, Nat.le_of_ble_eq_true rfl⟩ hK hN hP hD hS hA 0 (ci := 2) rfl rfl rfl [2, 3, 4, 8, 11, 0, 1] [5, 6, 7, 9, 10] rfl rfl (by decide) (by decide) (by decide) hl.1 rfl (Nat.le_of_ble_eq_true rfl) dX2_takerWithout_35 ⟨Nat.zero_le _, Nat.zero_le _⟩ (fun u_7 H locs hu_7 hP hD hS => ?_)
  obtain ⟨h_9, h_10⟩ := hu_7
  have hP : va_P D classes [(a 43, .inl (t 0, 9, .inl f43)), (a 45, .inl (t 0, 9, .inl f45)), (a 46, .inl (t 0, 9, .inl f46)), (a 49, .inl (t 0, 9, .inl f49)), (a 54, .inr (9, [.int v54_0, .int v54_1, .int v54_2, .ref (a 55), .ref (a 56), .ref (a 57), .ref (a 58)])), (a 14, .inr (2, [.ref (a 40), .int x_6, .int (u_2.1 1), .int (u_2.1 2), .ref (a 120), .ref (a 121), .int (u_7.1 0), .ref (a 122), .int (u_7.1 1), .int (u_7.1 2), .int (u_7.1 3), .int v14_11, .int v14_12])), (a 40, .inr (0, [.int v40_0, .int v40_1, .int v40_2, .int v40_3, .int v40_4, .int v40_5, .int v40_6, .int v40_7, .ref (a 41), .ref (a 42), .ref (a 43), .ref (a 44), .ref (a 45), .ref (a 46), .ref (a 47), .ref (a 48), .ref (a 49), .ref (a 50), .ref (a 54)])), (a 42, .inl (t 0, 9, .inl f42)), (a 47, .inl (t 0, 9, .inl f47)), (a 120, .inl (t 0, 81, .inl (u_2.2.1 0))), (a 121, .inl (t 0, 9, .inl (u_7.2.1 0))), (a 122, .inl (t 0, 9, .inl (u_7.2.1 1)))] H := hP
  have hD : va_D A [(a 43, .inl (t 0, 9, .inl f43)), (a 45, .inl (t 0, 9, .inl f45)), (a 46, .inl (t 0, 9, .inl f46)), (a 49, .inl (t 0, 9, .inl f49)), (a 54, .inr (9, [.int v54_0, .int v54_1, .int v54_2, .ref (a 55), .ref (a 56), .ref (a 57), .ref (a 58)])), (a 14, .inr (2, [.ref (a 40), .int x_6, .int (u_2.1 1), .int (u_2.1 2), .ref (a 120), .ref (a 121), .int (u_7.1 0), .ref (a 122), .int (u_7.1 1), .int (u_7.1 2), .int (u_7.1 3), .int v14_11, .int v14_12])), (a 40, .inr (0, [.int v40_0, .int v40_1, .int v40_2, .int v40_3, .int v40_4, .int v40_5, .int v40_6, .int v40_7, .ref (a 41), .ref (a 42), .ref (a 43), .ref (a 44), .ref (a 45), .ref (a 46), .ref (a 47), .ref (a 48), .ref (a 49), .ref (a 50), .ref (a 54)])), (a 42, .inl (t 0, 9, .inl f42)), (a 47, .inl (t 0, 9, .inl f47)), (a 120, .inl (t 0, 81, .inl (u_2.2.1 0))), (a 121, .inl (t 0, 9, .inl (u_7.2.1 0))), (a 122, .inl (t 0, 9, .inl (u_7.2.1 1)))] := hD
  refine lv_aload_n hx hb dX2_takerWithout_38 rfl (lv_at hl 0 rfl) ?_
  refine y_pV hF (s_X2_taker l D t a x_6 (u_2.1 1) (u_2.1 2) (u_7.1 0) (u_7.1 1) (u_7.1 2) (u_7.1 3) v14_11 v14_12 v40_0 v40_1 v40_2 v40_3 v40_4 v40_5 v40_6 v40_7 h_9 h_10 r40_1 r40_5 r40_6 r40_7) m_851 m_852 m_853 m_7 m_854 hd_X2_taker ⟨Nat.le_of_ble_eq_true rfl, Nat.le_of_ble_eq_true rfl⟩ hK hN hP hS [5, 6] rfl 0 (ci := 2) rfl rfl rfl hl.1 rfl (Nat.le_of_ble_eq_true rfl) dX2_takerWithout_39 ⟨Nat.zero_le _, Nat.zero_le _⟩ (fun r_11 H locs hr_11 hP hS => ?_)
  have hP9 := hP.sub (ws' := [(a 14, .inr (2, [.ref (a 40), .int x_6, .int (u_2.1 1), .int (u_2.1 2), .ref (a 120), .ref (a 121), .int (u_7.1 0), .ref (a 122), .int (u_7.1 1), .int (u_7.1 2), .int (u_7.1 3), .int v14_11, .int v14_12])), (a 40, .inr (0, [.int v40_0, .int v40_1, .int v40_2, .int v40_3, .int v40_4, .int v40_5, .int v40_6, .int v40_7, .ref (a 41), .ref (a 42), .ref (a 43), .ref (a 44), .ref (a 45), .ref (a 46), .ref (a 47), .ref (a 48), .ref (a 49), .ref (a 50), .ref (a 54)])), (a 42, .inl (t 0, 9, .inl f42)), (a 43, .inl (t 0, 9, .inl f43)), (a 45, .inl (t 0, 9, .inl f45)), (a 46, .inl (t 0, 9, .inl f46)), (a 47, .inl (t 0, 9, .inl f47)), (a 49, .inl (t 0, 9, .inl f49)), (a 54, .inr (9, [.int v54_0, .int v54_1, .int v54_2, .ref (a 55), .ref (a 56), .ref (a 57), .ref (a 58)])), (a 120, .inl (t 0, 81, .inl (u_2.2.1 0))), (a 121, .inl (t 0, 9, .inl (u_7.2.1 0))), (a 122, .inl (t 0, 9, .inl (u_7.2.1 1)))]) [5, 6, 7, 0, 1, 2, 8, 3, 4, 9, 10, 11] rfl
  have hD9 := hD.sub (ws' := [(a 14, .inr (2, [.ref (a 40), .int x_6, .int (u_2.1 1), .int (u_2.1 2), .ref (a 120), .ref (a 121), .int (u_7.1 0), .ref (a 122), .int (u_7.1 1), .int (u_7.1 2), .int (u_7.1 3), .int v14_11, .int v14_12])), (a 40, .inr (0, [.int v40_0, .int v40_1, .int v40_2, .int v40_3, .int v40_4, .int v40_5, .int v40_6, .int v40_7, .ref (a 41), .ref (a 42), .ref (a 43), .ref (a 44), .ref (a 45), .ref (a 46), .ref (a 47), .ref (a 48), .ref (a 49), .ref (a 50), .ref (a 54)])), (a 42, .inl (t 0, 9, .inl f42)), (a 43, .inl (t 0, 9, .inl f43)), (a 45, .inl (t 0, 9, .inl f45)), (a 46, .inl (t 0, 9, .inl f46)), (a 47, .inl (t 0, 9, .inl f47)), (a 49, .inl (t 0, 9, .inl f49)), (a 54, .inr (9, [.int v54_0, .int v54_1, .int v54_2, .ref (a 55), .ref (a 56), .ref (a 57), .ref (a 58)])), (a 120, .inl (t 0, 81, .inl (u_2.2.1 0))), (a 121, .inl (t 0, 9, .inl (u_7.2.1 0))), (a 122, .inl (t 0, 9, .inl (u_7.2.1 1)))]) [5, 6, 7, 0, 1, 2, 8, 3, 4, 9, 10, 11] (by decide) rfl
  exact W.iret (v := r_11) hx hb hr (fun t9 ht hW => ⟨⟨r_11, (fun k => [x_6, (u_2.1 1), (u_2.1 2), (u_7.1 0), (u_7.1 1), (u_7.1 2), (u_7.1 3)].getD k 0, fun k => [(u_2.2.1 0), (u_7.2.1 0), (u_7.2.1 1)].getD k (fun _ => 0), fun k => [].getD k (fun _ => 0), fun _ => 0), rfl, ⟨hr_11, h_9, h_10⟩, by rw [ht]; exact hP9, hD9⟩, hS.F ht⟩) hS.2.2 dX2_takerWithout_42

set_option maxHeartbeats 4000000 in
set_option maxRecDepth 100000 in
theorem s_X2_comers (l : Launch) (D : va_G) (t : Nat → ClassId) (a : Nat → Nat) (v14_1 : Int32) (v14_2 : Int32) (v14_3 : Int32) (v14_6 : Int32) (v14_8 : Int32) (v14_9 : Int32) (v14_10 : Int32) (v14_11 : Int32) (v14_12 : Int32) (v40_0 : Int32) (v40_1 : Int32) (v40_2 : Int32) (v40_3 : Int32) (v40_4 : Int32) (v40_5 : Int32) (v40_6 : Int32) (v40_7 : Int32) (f48 : Nat → Int32) (p0 : Int32) (r14_8 : rg 0 9 v14_8) (r14_9 : rg (-1) 8 v14_9) (r40_1 : rg 0 8 v40_1) (r40_5 : rg 0 4 v40_5) (r40_6 : rg 0 9 v40_6) (r40_7 : rg 0 9 v40_7) : Met l yX2_comers (wd yX2_comers cX2_comers 6 (some .int)) (RM 0 0 0) (PreP D (TY t) [.ref (a 14), .int p0] [(a 14, .inr (2, [.ref (a 40), .int v14_1, .int v14_2, .int v14_3, .ref (a 120), .ref (a 121), .int v14_6, .ref (a 122), .int v14_8, .int v14_9, .int v14_10, .int v14_11, .int v14_12])), (a 40, .inr (0, [.int v40_0, .int v40_1, .int v40_2, .int v40_3, .int v40_4, .int v40_5, .int v40_6, .int v40_7, .ref (a 41), .ref (a 42), .ref (a 43), .ref (a 44), .ref (a 45), .ref (a 46), .ref (a 47), .ref (a 48), .ref (a 49), .ref (a 50), .ref (a 54)])), (a 48, .inl (t 0, 9, .inl f48))]) (QP (fun r => rg 0 511 r)) 0 0 NoF := by
  refine Met.ofW (cc := cX2_comers) (maxL := 6) (ret := (some .int)) (by decide) rfl ?_
  intro p e s m args below meth c s₁ B hml hv
  obtain ⟨rfl, hP, hK, hN⟩ := hv
  have hx := B.exec
  have hb := B.bytes
  have hr := B.returns
  have hts : ∀ w ∈ TB, w.before _ s = true := fun w h => atoms_spec (ws := wd yX2_comers cX2_comers 6 (some .int)) B.pre w (List.mem_cons_of_mem _ h)
  have hown : s.vm.findClass RX2 = some m.cls := findClass_of_methodNamed B.named
  have hlocks := B.notSynchronized
  have hF : CallFix p m c cX2_comers 6 s _ TB RX2 := ⟨hx, hb, hml, hown, hts⟩
  have hl := lv_entry ([.ref (a 14), .int p0]) (n := 6) (Nat.le_of_ble_eq_true rfl)
  rw [lg_entry_eq]
  generalize (lg_sl ([.ref (a 14), .int p0]) ++ List.replicate (6 - (lg_sl ([.ref (a 14), .int p0])).length) Slot.unset).toArray = ls at hl ⊢
  have hl : lv_has ls 6 [(0, .ref (a 14)), (1, .int p0)] := hl
  have hS : va_S NoF s.heap s.heap [] := va_S.rf
  have hP : va_P D classes [(a 14, .inr (2, [.ref (a 40), .int v14_1, .int v14_2, .int v14_3, .ref (a 120), .ref (a 121), .int v14_6, .ref (a 122), .int v14_8, .int v14_9, .int v14_10, .int v14_11, .int v14_12])), (a 40, .inr (0, [.int v40_0, .int v40_1, .int v40_2, .int v40_3, .int v40_4, .int v40_5, .int v40_6, .int v40_7, .ref (a 41), .ref (a 42), .ref (a 43), .ref (a 44), .ref (a 45), .ref (a 46), .ref (a 47), .ref (a 48), .ref (a 49), .ref (a 50), .ref (a 54)])), (a 48, .inl (t 0, 9, .inl f48))] s.heap := hP
  refine lv_iconst (v := 0) hx hb dX2_comers_0 (by decide) ?_
  refine lv_istore_n (lv' := [(2, .int 0), (0, .ref (a 14)), (1, .int p0)]) hx hb dX2_comers_1 rfl hl (by decide) rfl (fun ls hl => ?_)
  refine lv_iload_n hx hb dX2_comers_2 rfl (lv_at hl 2 rfl) ?_
  refine lv_i2l hx hb dX2_comers_3 rfl ?_
  refine lv_lstore_n (lv' := [(3, .long ((p0).toInt64)), (2, .int 0), (0, .ref (a 14)), (1, .int p0)]) hx hb dX2_comers_4 rfl hl (by decide) rfl (fun ls hl => ?_)
  refine lv_iconst (v := 0) hx hb dX2_comers_5 (by decide) ?_
  refine lv_istore (lv' := [(5, .int 0), (3, .long ((p0).toInt64)), (2, .int 0), (0, .ref (a 14)), (1, .int p0)]) hx hb dX2_comers_6 hl (by decide) rfl (fun ls hl => ?_)
  refine loopW (α := US) (fun n y_1 H locs ls => 9 < (y_1.1 0).toInt + (n : Int) ∧ rg 0 9 (y_1.1 0) ∧ rg 0 511 (y_1.1 1) ∧ va_P D classes [(a 14, .inr (2, [.ref (a 40), .int v14_1, .int v14_2, .int v14_3, .ref (a 120), .ref (a 121), .int v14_6, .ref (a 122), .int v14_8, .int v14_9, .int v14_10, .int v14_11, .int v14_12])), (a 40, .inr (0, [.int v40_0, .int v40_1, .int v40_2, .int v40_3, .int v40_4, .int v40_5, .int v40_6, .int v40_7, .ref (a 41), .ref (a 42), .ref (a 43), .ref (a 44), .ref (a 45), .ref (a 46), .ref (a 47), .ref (a 48), .ref (a 49), .ref (a 50), .ref (a 54)])), (a 48, .inl (t 0, 9, .inl f48))] H ∧ va_S NoF s.heap H locs ∧ lv_has ls 6 [(5, .int (y_1.1 0)), (3, .long (y_1.2.2.2 0)), (2, .int (y_1.1 1)), (0, .ref (a 14)), (1, .int p0)]) 8 (fun y_1 => []) (fun _ _ _ _ h9 => m_0 h9.1 h9.2.1) (fun n ih_4 y_1 H locs ls hI => ?_) 10 (fun k => [0, 0].getD k 0, fun k => [].getD k (fun _ => 0), fun k => [].getD k (fun _ => 0), fun k => [(p0).toInt64].getD k 0) ⟨(m_i (rg_c (x := 0) (k := 0) (by decide)) (by decide)), (rg_w (c := 0) (d := 9) (rg_c (x := 0) (k := 0) (by decide)) (by decide) (by decide)), (rg_w (c := 0) (d := 511) (rg_c (x := 0) (k := 0) (by decide)) (by decide) (by decide)), hP, hS, (lv_sub hl [0, 1, 2, 3, 4] rfl)⟩
  obtain ⟨me_5, h_2, h_3, hP, hS, hl⟩ := hI
  refine lv_iload hx hb dX2_comers_8 (lv_at hl 0 rfl) ?_
  refine lv_aload_n hx hb dX2_comers_10 rfl (lv_at hl 3 rfl) ?_
  refine va_get (D := D) (ci := 2) (v := .ref (a 40)) (C := RX2) (T := TX2) (N := 13) hx hb hts iX2 hown hK hP 0 rfl rfl 0 (by decide) (hts _ m_275) (fun _ h9 => h9) rfl dX2_comers_11 ?_
  refine va_getN (D := D) (ci := 0) (v := .int v40_7) (C := RX0) (T := TX0) (N := 19) (host := "WordSeats") hx hb hts iX0 hown hK hP 1 rfl rfl 7 (by decide) (va_Nw.use rfl (hN _ n_148)) (fun _ h9 => h9) rfl dX2_comers_14 ?_
  refine lv_icmp_ge (tgt := 71) hx hb dX2_comers_17 (by decide) (fun c_6 => ?_) (fun c_6 => ?_)
  · skip
    refine lv_iload_n hx hb dX2_comers_71 rfl (lv_at hl 2 rfl) ?_
    exact W.iret (v := (y_1.1 1)) hx hb hr (fun t9 ht hW => ⟨⟨(y_1.1 1), (), rfl, h_3, trivial⟩, hS.F ht⟩) hS.2.2 dX2_comers_72
  · skip
    have h_7 : rg 0 8 (y_1.1 0) := ⟨(h_2).1, Int.le_trans (c_nleR c_6 r40_7) (by decide)⟩
    have h_8 : rg 1 9 v40_7 := ⟨Int.le_trans (by decide) (c_nle c_6 h_2), (r40_7).2⟩
    refine lv_ldc2 (v := 1103515245) hx hb hown (hts _ m_1281) dX2_comers_20 ?_
    refine lv_lload_n hx hb dX2_comers_23 rfl (lv_at hl 1 rfl) ?_
    refine lv_lmul hx hb dX2_comers_24 ?_
    refine lv_topl (fun x_9 ex_9 => ?_)
    refine lv_ldc2 (v := 12345) hx hb hown (hts _ m_1282) dX2_comers_25 ?_
    refine lv_ladd hx hb dX2_comers_28 ?_
    refine lv_topl (fun x_10 ex_10 => ?_)
    refine lv_ldc2 (v := 2147483648) hx hb hown (hts _ m_1283) dX2_comers_29 ?_
    refine lv_lrem hx hb dX2_comers_32 (by decide) ?_
    refine lv_topl (fun x_11 ex_11 => ?_)
    refine lv_lstore_n (lv' := [(3, .long x_11), (5, .int (y_1.1 0)), (2, .int (y_1.1 1)), (0, .ref (a 14)), (1, .int p0)]) hx hb dX2_comers_33 rfl hl (by decide) rfl (fun ls hl => ?_)
    refine lv_lload_n hx hb dX2_comers_34 rfl (lv_at hl 0 rfl) ?_
    refine lv_ldc2 (v := 65536) hx hb hown (hts _ m_1284) dX2_comers_35 ?_
    refine lv_ldiv hx hb dX2_comers_38 (by decide) ?_
    refine lv_topl (fun x_12 ex_12 => ?_)
    refine lv_ldc2 (v := 100) hx hb hown (hts _ m_1285) dX2_comers_39 ?_
    refine lv_lrem hx hb dX2_comers_42 (by decide) ?_
    refine lv_topl (fun x_13 ex_13 => ?_)
    refine lv_aload_n hx hb dX2_comers_43 rfl (lv_at hl 3 rfl) ?_
    refine va_get (D := D) (ci := 2) (v := .ref (a 40)) (C := RX2) (T := TX2) (N := 13) hx hb hts iX2 hown hK hP 0 rfl rfl 0 (by decide) (hts _ m_275) (fun _ h9 => h9) rfl dX2_comers_44 ?_
    refine va_getN (D := D) (ci := 0) (v := .ref (a 48)) (C := RX0) (T := TX0) (N := 19) (host := "WordSeats") hx hb hts iX0 hown hK hP 1 rfl rfl 15 (by decide) (va_Nw.use rfl (hN _ n_181)) (fun _ h9 => h9) rfl dX2_comers_47 ?_
    refine lv_iload hx hb dX2_comers_50 (lv_at hl 1 rfl) ?_
    refine va_iald hx hb hK hP 2 0 rfl rfl (in_rg h_7 (by decide) (by decide)) dX2_comers_52 ?_
    refine lv_topi (fun x_14 ex_14 => ?_)
    refine lv_i2l hx hb dX2_comers_53 rfl ?_
    refine W.lcmp hx hb dX2_comers_54 ?_
    refine lv_topi (fun x_15 ex_15 => ?_)
    refine lv_if_ge (tgt := 65) hx hb dX2_comers_55 (by decide) (fun c_16 => ?_) (fun c_16 => ?_)
    · skip
      have h_17 : rg 0 2147483647 x_15 := ⟨Int.le_trans (by decide) (c_leR c_16 (rg_c (x := 0) (k := 0) (by decide))), ((rg_any x_15)).2⟩
      obtain ⟨x_18, ex_18⟩ : ∃ y9 : Int32, y9 = (y_1.1 0) + 1 := ⟨_, rfl⟩
      have hx_18 : rg 1 9 x_18 := by rw [ex_18]; exact rg_add h_7 (rg_c (x := 1) (k := 1) (by decide)) (by decide) (by decide) (by decide) (by decide)
      have tx_18 : x_18.toInt = (y_1.1 0).toInt + 1 := by rw [ex_18]; exact inc_tk h_7 (by decide) (by decide) (by decide)
      refine lv_iinc (v := x_18) (lv' := [(5, .int x_18), (3, .long x_11), (2, .int (y_1.1 1)), (0, .ref (a 14)), (1, .int p0)]) hx hb dX2_comers_65 hl (k := 1) rfl (by rw [ex_18]; rfl) (by decide) rfl (fun ls hl => ?_)
      refine lv_goto (tgt := 8) hx hb dX2_comers_68 (by decide) ?_
      exact ih_4 (fun k => [x_18, (y_1.1 1)].getD k 0, fun k => [].getD k (fun _ => 0), fun k => [].getD k (fun _ => 0), fun k => [x_11].getD k 0) _ _ ls ⟨(m_upk me_5 tx_18 (by decide)), (rg_w (c := 0) (d := 9) hx_18 (by decide) (by decide)), h_3, hP, hS, (lv_sub hl [0, 1, 2, 3, 4] rfl)⟩
    · skip
      have h_19 : rg (-2147483648) (-1) x_15 := ⟨((rg_any x_15)).1, Int.le_trans (c_nleR c_16 (rg_c (x := 0) (k := 0) (by decide))) (by decide)⟩
      refine lv_iload_n hx hb dX2_comers_58 rfl (lv_at hl 2 rfl) ?_
      refine lv_iconst (v := 1) hx hb dX2_comers_59 (by decide) ?_
      refine lv_iload hx hb dX2_comers_60 (lv_at hl 1 rfl) ?_
      refine lv_ishl hx hb dX2_comers_62 ?_
      refine lv_topi (fun x_20 ex_20 => ?_)
      have hx_20 : rg 1 256 x_20 := by rw [ex_20]; exact rg_shl1 (b := 8) h_7 (by decide) (by decide)
      refine lv_ior hx hb dX2_comers_63 ?_
      refine lv_topi (fun x_21 ex_21 => ?_)
      have hx_21 : rg 0 511 x_21 := by rw [ex_21]; exact rg_or (m := 9) h_3 (rg_w (c := 0) (d := 511) hx_20 (by decide) (by decide)) (by decide) (by decide)
      refine lv_istore_n (lv' := [(2, .int x_21), (3, .long x_11), (5, .int (y_1.1 0)), (0, .ref (a 14)), (1, .int p0)]) hx hb dX2_comers_64 rfl hl (by decide) rfl (fun ls hl => ?_)
      obtain ⟨x_22, ex_22⟩ : ∃ y9 : Int32, y9 = (y_1.1 0) + 1 := ⟨_, rfl⟩
      have hx_22 : rg 1 9 x_22 := by rw [ex_22]; exact rg_add h_7 (rg_c (x := 1) (k := 1) (by decide)) (by decide) (by decide) (by decide) (by decide)
      have tx_22 : x_22.toInt = (y_1.1 0).toInt + 1 := by rw [ex_22]; exact inc_tk h_7 (by decide) (by decide) (by decide)
      refine lv_iinc (v := x_22) (lv' := [(5, .int x_22), (2, .int x_21), (3, .long x_11), (0, .ref (a 14)), (1, .int p0)]) hx hb dX2_comers_65 hl (k := 2) rfl (by rw [ex_22]; rfl) (by decide) rfl (fun ls hl => ?_)
      refine lv_goto (tgt := 8) hx hb dX2_comers_68 (by decide) ?_
      exact ih_4 (fun k => [x_22, x_21].getD k 0, fun k => [].getD k (fun _ => 0), fun k => [].getD k (fun _ => 0), fun k => [x_11].getD k 0) _ _ ls ⟨(m_upk me_5 tx_22 (by decide)), (rg_w (c := 0) (d := 9) hx_22 (by decide) (by decide)), hx_21, hP, hS, (lv_sub hl [0, 2, 1, 3, 4] rfl)⟩

set_option maxHeartbeats 4000000 in
set_option maxRecDepth 100000 in
theorem s_X2_takerDrawn (l : Launch) (D : va_G) (t : Nat → ClassId) (a : Nat → Nat) (v14_1 : Int32) (v14_2 : Int32) (v14_3 : Int32) (v14_6 : Int32) (v14_8 : Int32) (v14_9 : Int32) (v14_10 : Int32) (v14_11 : Int32) (v14_12 : Int32) (v40_0 : Int32) (v40_1 : Int32) (v40_2 : Int32) (v40_3 : Int32) (v40_4 : Int32) (v40_5 : Int32) (v40_6 : Int32) (v40_7 : Int32) (f42 : Nat → Int32) (f43 : Nat → Int32) (f45 : Nat → Int32) (f46 : Nat → Int32) (f47 : Nat → Int32) (f48 : Nat → Int32) (f49 : Nat → Int32) (v54_0 : Int32) (v54_1 : Int32) (v54_2 : Int32) (f120 : Nat → Int32) (f121 : Nat → Int32) (f122 : Nat → Int32) (p0 : Int32) (p1 : Int32) (r14_8 : rg 0 9 v14_8) (r14_9 : rg (-1) 8 v14_9) (r40_1 : rg 0 8 v40_1) (r40_5 : rg 0 4 v40_5) (r40_6 : rg 0 9 v40_6) (r40_7 : rg 0 9 v40_7) (q43 : ∀ j, j < 9 → rg 0 3 (f43 j)) (r54_0 : rg 0 60 v54_0) (sz : Nat) : Met l yX2_takerDrawn (wd yX2_takerDrawn cX2_takerDrawn 3 (some .int)) (RM 5 0 0) (PreW D (TY t) [.ref (a 14), .int p0, .int p1] [(a 14, .inr (2, [.ref (a 40), .int v14_1, .int v14_2, .int v14_3, .ref (a 120), .ref (a 121), .int v14_6, .ref (a 122), .int v14_8, .int v14_9, .int v14_10, .int v14_11, .int v14_12])), (a 40, .inr (0, [.int v40_0, .int v40_1, .int v40_2, .int v40_3, .int v40_4, .int v40_5, .int v40_6, .int v40_7, .ref (a 41), .ref (a 42), .ref (a 43), .ref (a 44), .ref (a 45), .ref (a 46), .ref (a 47), .ref (a 48), .ref (a 49), .ref (a 50), .ref (a 54)])), (a 42, .inl (t 0, 9, .inl f42)), (a 43, .inl (t 0, 9, .inl f43)), (a 45, .inl (t 0, 9, .inl f45)), (a 46, .inl (t 0, 9, .inl f46)), (a 47, .inl (t 0, 9, .inl f47)), (a 48, .inl (t 0, 9, .inl f48)), (a 49, .inl (t 0, 9, .inl f49)), (a 54, .inr (9, [.int v54_0, .int v54_1, .int v54_2, .ref (a 55), .ref (a 56), .ref (a 57), .ref (a 58)])), (a 120, .inl (t 0, 81, .inl f120)), (a 121, .inl (t 0, 9, .inl f121)), (a 122, .inl (t 0, 9, .inl f122))] sz) (va_Qi (fun (r : Int32) (u : US) => rg (-1) 8 r ∧ rg 0 9 (u.1 4) ∧ rg (-1) 8 (u.1 5)) (fun (u : US) t9 => va_P D classes ((fun u : US => [(a 14, .inr (2, [.ref (a 40), .int (u.1 0), .int (u.1 1), .int (u.1 2), .ref (a 120), .ref (a 121), .int (u.1 3), .ref (a 122), .int (u.1 4), .int (u.1 5), .int (u.1 6), .int v14_11, .int v14_12])), (a 40, .inr (0, [.int v40_0, .int v40_1, .int v40_2, .int v40_3, .int v40_4, .int v40_5, .int v40_6, .int v40_7, .ref (a 41), .ref (a 42), .ref (a 43), .ref (a 44), .ref (a 45), .ref (a 46), .ref (a 47), .ref (a 48), .ref (a 49), .ref (a 50), .ref (a 54)])), (a 42, .inl (t 0, 9, .inl f42)), (a 43, .inl (t 0, 9, .inl f43)), (a 45, .inl (t 0, 9, .inl f45)), (a 46, .inl (t 0, 9, .inl f46)), (a 47, .inl (t 0, 9, .inl f47)), (a 48, .inl (t 0, 9, .inl f48)), (a 49, .inl (t 0, 9, .inl f49)), (a 54, .inr (9, [.int v54_0, .int v54_1, .int v54_2, .ref (a 55), .ref (a 56), .ref (a 57), .ref (a 58)])), (a 120, .inl (t 0, 81, .inl (u.2.1 0))), (a 121, .inl (t 0, 9, .inl (u.2.1 1))), (a 122, .inl (t 0, 9, .inl (u.2.1 2)))]) u) t9.heap ∧ va_D (va_A [(a 14, .inr (2, [.ref (a 40), .int v14_1, .int v14_2, .int v14_3, .ref (a 120), .ref (a 121), .int v14_6, .ref (a 122), .int v14_8, .int v14_9, .int v14_10, .int v14_11, .int v14_12])), (a 40, .inr (0, [.int v40_0, .int v40_1, .int v40_2, .int v40_3, .int v40_4, .int v40_5, .int v40_6, .int v40_7, .ref (a 41), .ref (a 42), .ref (a 43), .ref (a 44), .ref (a 45), .ref (a 46), .ref (a 47), .ref (a 48), .ref (a 49), .ref (a 50), .ref (a 54)])), (a 42, .inl (t 0, 9, .inl f42)), (a 43, .inl (t 0, 9, .inl f43)), (a 45, .inl (t 0, 9, .inl f45)), (a 46, .inl (t 0, 9, .inl f46)), (a 47, .inl (t 0, 9, .inl f47)), (a 48, .inl (t 0, 9, .inl f48)), (a 49, .inl (t 0, 9, .inl f49)), (a 54, .inr (9, [.int v54_0, .int v54_1, .int v54_2, .ref (a 55), .ref (a 56), .ref (a 57), .ref (a 58)])), (a 120, .inl (t 0, 81, .inl f120)), (a 121, .inl (t 0, 9, .inl f121)), (a 122, .inl (t 0, 9, .inl f122))] sz) ((fun u : US => [(a 14, .inr (2, [.ref (a 40), .int (u.1 0), .int (u.1 1), .int (u.1 2), .ref (a 120), .ref (a 121), .int (u.1 3), .ref (a 122), .int (u.1 4), .int (u.1 5), .int (u.1 6), .int v14_11, .int v14_12])), (a 40, .inr (0, [.int v40_0, .int v40_1, .int v40_2, .int v40_3, .int v40_4, .int v40_5, .int v40_6, .int v40_7, .ref (a 41), .ref (a 42), .ref (a 43), .ref (a 44), .ref (a 45), .ref (a 46), .ref (a 47), .ref (a 48), .ref (a 49), .ref (a 50), .ref (a 54)])), (a 42, .inl (t 0, 9, .inl f42)), (a 43, .inl (t 0, 9, .inl f43)), (a 45, .inl (t 0, 9, .inl f45)), (a 46, .inl (t 0, 9, .inl f46)), (a 47, .inl (t 0, 9, .inl f47)), (a 48, .inl (t 0, 9, .inl f48)), (a 49, .inl (t 0, 9, .inl f49)), (a 54, .inr (9, [.int v54_0, .int v54_1, .int v54_2, .ref (a 55), .ref (a 56), .ref (a 57), .ref (a 58)])), (a 120, .inl (t 0, 81, .inl (u.2.1 0))), (a 121, .inl (t 0, 9, .inl (u.2.1 1))), (a 122, .inl (t 0, 9, .inl (u.2.1 2)))]) u)) (va_A [(a 14, .inr (2, [.ref (a 40), .int v14_1, .int v14_2, .int v14_3, .ref (a 120), .ref (a 121), .int v14_6, .ref (a 122), .int v14_8, .int v14_9, .int v14_10, .int v14_11, .int v14_12])), (a 40, .inr (0, [.int v40_0, .int v40_1, .int v40_2, .int v40_3, .int v40_4, .int v40_5, .int v40_6, .int v40_7, .ref (a 41), .ref (a 42), .ref (a 43), .ref (a 44), .ref (a 45), .ref (a 46), .ref (a 47), .ref (a 48), .ref (a 49), .ref (a 50), .ref (a 54)])), (a 42, .inl (t 0, 9, .inl f42)), (a 43, .inl (t 0, 9, .inl f43)), (a 45, .inl (t 0, 9, .inl f45)), (a 46, .inl (t 0, 9, .inl f46)), (a 47, .inl (t 0, 9, .inl f47)), (a 48, .inl (t 0, 9, .inl f48)), (a 49, .inl (t 0, 9, .inl f49)), (a 54, .inr (9, [.int v54_0, .int v54_1, .int v54_2, .ref (a 55), .ref (a 56), .ref (a 57), .ref (a 58)])), (a 120, .inl (t 0, 81, .inl f120)), (a 121, .inl (t 0, 9, .inl f121)), (a 122, .inl (t 0, 9, .inl f122))] sz)) 0 0 (va_A [(a 14, .inr (2, [.ref (a 40), .int v14_1, .int v14_2, .int v14_3, .ref (a 120), .ref (a 121), .int v14_6, .ref (a 122), .int v14_8, .int v14_9, .int v14_10, .int v14_11, .int v14_12])), (a 40, .inr (0, [.int v40_0, .int v40_1, .int v40_2, .int v40_3, .int v40_4, .int v40_5, .int v40_6, .int v40_7, .ref (a 41), .ref (a 42), .ref (a 43), .ref (a 44), .ref (a 45), .ref (a 46), .ref (a 47), .ref (a 48), .ref (a 49), .ref (a 50), .ref (a 54)])), (a 42, .inl (t 0, 9, .inl f42)), (a 43, .inl (t 0, 9, .inl f43)), (a 45, .inl (t 0, 9, .inl f45)), (a 46, .inl (t 0, 9, .inl f46)), (a 47, .inl (t 0, 9, .inl f47)), (a 48, .inl (t 0, 9, .inl f48)), (a 49, .inl (t 0, 9, .inl f49)), (a 54, .inr (9, [.int v54_0, .int v54_1, .int v54_2, .ref (a 55), .ref (a 56), .ref (a 57), .ref (a 58)])), (a 120, .inl (t 0, 81, .inl f120)), (a 121, .inl (t 0, 9, .inl f121)), (a 122, .inl (t 0, 9, .inl f122))] sz) := by
  refine Met.ofW (cc := cX2_takerDrawn) (maxL := 3) (ret := (some .int)) (by decide) rfl ?_
  intro p e s m args below meth c s₁ B hml hv
  obtain ⟨rfl, hsz, hP, hK, hD0, hN⟩ := hv
  have hx := B.exec
  have hb := B.bytes
  have hr := B.returns
  have hts : ∀ w ∈ TB, w.before _ s = true := fun w h => atoms_spec (ws := wd yX2_takerDrawn cX2_takerDrawn 3 (some .int)) B.pre w (List.mem_cons_of_mem _ h)
  have hown : s.vm.findClass RX2 = some m.cls := findClass_of_methodNamed B.named
  have hlocks := B.notSynchronized
  have hF : CallFix p m c cX2_takerDrawn 3 s _ TB RX2 := ⟨hx, hb, hml, hown, hts⟩
  have hl := lv_entry ([.ref (a 14), .int p0, .int p1]) (n := 3) (Nat.le_of_ble_eq_true rfl)
  rw [lg_entry_eq]
  generalize (lg_sl ([.ref (a 14), .int p0, .int p1]) ++ List.replicate (3 - (lg_sl ([.ref (a 14), .int p0, .int p1])).length) Slot.unset).toArray = ls at hl ⊢
  have hl : lv_has ls 3 [(0, .ref (a 14)), (1, .int p0), (2, .int p1)] := hl
  subst hsz
  have hD := hD0.self (sz := s.heap.size)
  generalize hAe : va_A [(a 14, .inr (2, [.ref (a 40), .int v14_1, .int v14_2, .int v14_3, .ref (a 120), .ref (a 121), .int v14_6, .ref (a 122), .int v14_8, .int v14_9, .int v14_10, .int v14_11, .int v14_12])), (a 40, .inr (0, [.int v40_0, .int v40_1, .int v40_2, .int v40_3, .int v40_4, .int v40_5, .int v40_6, .int v40_7, .ref (a 41), .ref (a 42), .ref (a 43), .ref (a 44), .ref (a 45), .ref (a 46), .ref (a 47), .ref (a 48), .ref (a 49), .ref (a 50), .ref (a 54)])), (a 42, .inl (t 0, 9, .inl f42)), (a 43, .inl (t 0, 9, .inl f43)), (a 45, .inl (t 0, 9, .inl f45)), (a 46, .inl (t 0, 9, .inl f46)), (a 47, .inl (t 0, 9, .inl f47)), (a 48, .inl (t 0, 9, .inl f48)), (a 49, .inl (t 0, 9, .inl f49)), (a 54, .inr (9, [.int v54_0, .int v54_1, .int v54_2, .ref (a 55), .ref (a 56), .ref (a 57), .ref (a 58)])), (a 120, .inl (t 0, 81, .inl f120)), (a 121, .inl (t 0, 9, .inl f121)), (a 122, .inl (t 0, 9, .inl f122))] s.heap.size = A at hD ⊢
  have hA : ∀ q : Nat, s.heap.size ≤ q → A q := fun q h => by rw [← hAe]; exact Or.inr h
  have hS : va_S A s.heap s.heap [] := va_S.rf
  have hP : va_P D classes [(a 14, .inr (2, [.ref (a 40), .int v14_1, .int v14_2, .int v14_3, .ref (a 120), .ref (a 121), .int v14_6, .ref (a 122), .int v14_8, .int v14_9, .int v14_10, .int v14_11, .int v14_12])), (a 40, .inr (0, [.int v40_0, .int v40_1, .int v40_2, .int v40_3, .int v40_4, .int v40_5, .int v40_6, .int v40_7, .ref (a 41), .ref (a 42), .ref (a 43), .ref (a 44), .ref (a 45), .ref (a 46), .ref (a 47), .ref (a 48), .ref (a 49), .ref (a 50), .ref (a 54)])), (a 42, .inl (t 0, 9, .inl f42)), (a 43, .inl (t 0, 9, .inl f43)), (a 45, .inl (t 0, 9, .inl f45)), (a 46, .inl (t 0, 9, .inl f46)), (a 47, .inl (t 0, 9, .inl f47)), (a 48, .inl (t 0, 9, .inl f48)), (a 49, .inl (t 0, 9, .inl f49)), (a 54, .inr (9, [.int v54_0, .int v54_1, .int v54_2, .ref (a 55), .ref (a 56), .ref (a 57), .ref (a 58)])), (a 120, .inl (t 0, 81, .inl f120)), (a 121, .inl (t 0, 9, .inl f121)), (a 122, .inl (t 0, 9, .inl f122))] s.heap := hP
  refine lv_aload_n hx hb dX2_takerDrawn_0 rfl (lv_at hl 0 rfl) ?_
  refine lv_iload_n hx hb dX2_takerDrawn_1 rfl (lv_at hl 2 rfl) ?_
  refine y_wV (wr := [(a 48, .inl (t 0, 9, .inl f48)), (a 121, .inl (t 0, 9, .inl f121)), (a 122, .inl (t 0, 9, .inl f122))]) hF (s_X2_open l D t a v14_1 v14_2 v14_3 v14_6 v14_8 v14_9 v14_10 v14_11 v14_12 v40_0 v40_1 v40_2 v40_3 v40_4 v40_5 v40_6 v40_7 f42 f43 f45 f46 f47 f49 v54_0 v54_1 v54_2 f120 p1 r14_8 r14_9 r40_1 r40_5 r40_6 r40_7 q43 r54_0 s.heap.size) m_849 m_763 m_764 m_7 m_765 hd_X2_open ⟨Nat.le_of_ble_eq_true rfl, Nat.le_of_ble_eq_true rfl⟩ hK hN hP hD hS hA 0 (ci := 2) rfl rfl rfl [0, 1, 2, 3, 4, 5, 6, 8, 9, 10] [7, 11, 12] rfl rfl (by decide) (by decide) (by decide) hl.1 rfl (Nat.le_of_ble_eq_true rfl) dX2_takerDrawn_2 ⟨Nat.zero_le _, Nat.zero_le _⟩ (fun u_1 H locs hu_1 hP hD hS => ?_)
  have hP : va_P D classes [(a 48, .inl (t 0, 9, .inl f48)), (a 121, .inl (t 0, 9, .inl f121)), (a 122, .inl (t 0, 9, .inl f122)), (a 14, .inr (2, [.ref (a 40), .int (u_1.1 0), .int (u_1.1 1), .int (u_1.1 2), .ref (a 120), .ref (a 121), .int v14_6, .ref (a 122), .int v14_8, .int v14_9, .int v14_10, .int v14_11, .int v14_12])), (a 40, .inr (0, [.int v40_0, .int v40_1, .int v40_2, .int v40_3, .int v40_4, .int v40_5, .int v40_6, .int v40_7, .ref (a 41), .ref (a 42), .ref (a 43), .ref (a 44), .ref (a 45), .ref (a 46), .ref (a 47), .ref (a 48), .ref (a 49), .ref (a 50), .ref (a 54)])), (a 42, .inl (t 0, 9, .inl f42)), (a 43, .inl (t 0, 9, .inl f43)), (a 45, .inl (t 0, 9, .inl f45)), (a 46, .inl (t 0, 9, .inl f46)), (a 47, .inl (t 0, 9, .inl f47)), (a 49, .inl (t 0, 9, .inl f49)), (a 54, .inr (9, [.int v54_0, .int v54_1, .int v54_2, .ref (a 55), .ref (a 56), .ref (a 57), .ref (a 58)])), (a 120, .inl (t 0, 81, .inl (u_1.2.1 0)))] H := hP
  have hD : va_D A [(a 48, .inl (t 0, 9, .inl f48)), (a 121, .inl (t 0, 9, .inl f121)), (a 122, .inl (t 0, 9, .inl f122)), (a 14, .inr (2, [.ref (a 40), .int (u_1.1 0), .int (u_1.1 1), .int (u_1.1 2), .ref (a 120), .ref (a 121), .int v14_6, .ref (a 122), .int v14_8, .int v14_9, .int v14_10, .int v14_11, .int v14_12])), (a 40, .inr (0, [.int v40_0, .int v40_1, .int v40_2, .int v40_3, .int v40_4, .int v40_5, .int v40_6, .int v40_7, .ref (a 41), .ref (a 42), .ref (a 43), .ref (a 44), .ref (a 45), .ref (a 46), .ref (a 47), .ref (a 48), .ref (a 49), .ref (a 50), .ref (a 54)])), (a 42, .inl (t 0, 9, .inl f42)), (a 43, .inl (t 0, 9, .inl f43)), (a 45, .inl (t 0, 9, .inl f45)), (a 46, .inl (t 0, 9, .inl f46)), (a 47, .inl (t 0, 9, .inl f47)), (a 49, .inl (t 0, 9, .inl f49)), (a 54, .inr (9, [.int v54_0, .int v54_1, .int v54_2, .ref (a 55), .ref (a 56), .ref (a 57), .ref (a 58)])), (a 120, .inl (t 0, 81, .inl (u_1.2.1 0)))] := hD
  refine lv_aload_n hx hb dX2_takerDrawn_5 rfl (lv_at hl 0 rfl) ?_
  refine lv_dup hx hb dX2_takerDrawn_6 rfl ?_
  refine va_get (D := D) (ci := 2) (v := .int (u_1.1 1)) (C := RX2) (T := TX2) (N := 13) hx hb hts iX2 hown hK hP 3 rfl rfl 2 (by decide) (hts _ m_279) (fun _ h9 => h9) rfl dX2_takerDrawn_7 ?_
  refine lv_aload_n hx hb dX2_takerDrawn_10 rfl (lv_at hl 0 rfl) ?_
  refine lv_iload_n hx hb dX2_takerDrawn_11 rfl (lv_at hl 1 rfl) ?_
  refine y_pV hF (s_X2_comers l D t a (u_1.1 0) (u_1.1 1) (u_1.1 2) v14_6 v14_8 v14_9 v14_10 v14_11 v14_12 v40_0 v40_1 v40_2 v40_3 v40_4 v40_5 v40_6 v40_7 f48 p0 r14_8 r14_9 r40_1 r40_5 r40_6 r40_7) m_1277 m_1279 m_s34 m_7 m_1280 hd_X2_comers ⟨Nat.le_of_ble_eq_true rfl, Nat.le_of_ble_eq_true rfl⟩ hK hN hP hS [3, 4, 0] rfl 0 (ci := 2) rfl rfl rfl hl.1 rfl (Nat.le_of_ble_eq_true rfl) dX2_takerDrawn_12 ⟨Nat.zero_le _, Nat.zero_le _⟩ (fun r_3 H locs hr_3 hP hS => ?_)
  refine lv_iand hx hb dX2_takerDrawn_15 ?_
  refine lv_topi (fun x_4 ex_4 => ?_)
  have hx_4 : rg 0 511 x_4 := by rw [ex_4]; exact rg_and hr_3
  refine va_put (D := D) (ci := 2) (v := .int x_4) (ty := .int) (C := RX2) (T := TX2) (N := 13) hx hb hts iX2 tyX2 tyX2_ok nmX2 hown hK hP hD hS 3 rfl rfl 2 (by decide) (hts _ m_279) (fun _ h9 => h9) rfl (tyX2_ok 2 (by decide)) rfl rfl (Nat.le_of_ble_eq_true rfl) dX2_takerDrawn_16 (fun H locs hP hD hS => ?_)
  have hP : va_P D classes [(a 48, .inl (t 0, 9, .inl f48)), (a 121, .inl (t 0, 9, .inl f121)), (a 122, .inl (t 0, 9, .inl f122)), (a 14, .inr (2, [.ref (a 40), .int (u_1.1 0), .int x_4, .int (u_1.1 2), .ref (a 120), .ref (a 121), .int v14_6, .ref (a 122), .int v14_8, .int v14_9, .int v14_10, .int v14_11, .int v14_12])), (a 40, .inr (0, [.int v40_0, .int v40_1, .int v40_2, .int v40_3, .int v40_4, .int v40_5, .int v40_6, .int v40_7, .ref (a 41), .ref (a 42), .ref (a 43), .ref (a 44), .ref (a 45), .ref (a 46), .ref (a 47), .ref (a 48), .ref (a 49), .ref (a 50), .ref (a 54)])), (a 42, .inl (t 0, 9, .inl f42)), (a 43, .inl (t 0, 9, .inl f43)), (a 45, .inl (t 0, 9, .inl f45)), (a 46, .inl (t 0, 9, .inl f46)), (a 47, .inl (t 0, 9, .inl f47)), (a 49, .inl (t 0, 9, .inl f49)), (a 54, .inr (9, [.int v54_0, .int v54_1, .int v54_2, .ref (a 55), .ref (a 56), .ref (a 57), .ref (a 58)])), (a 120, .inl (t 0, 81, .inl (u_1.2.1 0)))] H := hP
  have hD : va_D A [(a 48, .inl (t 0, 9, .inl f48)), (a 121, .inl (t 0, 9, .inl f121)), (a 122, .inl (t 0, 9, .inl f122)), (a 14, .inr (2, [.ref (a 40), .int (u_1.1 0), .int x_4, .int (u_1.1 2), .ref (a 120), .ref (a 121), .int v14_6, .ref (a 122), .int v14_8, .int v14_9, .int v14_10, .int v14_11, .int v14_12])), (a 40, .inr (0, [.int v40_0, .int v40_1, .int v40_2, .int v40_3, .int v40_4, .int v40_5, .int v40_6, .int v40_7, .ref (a 41), .ref (a 42), .ref (a 43), .ref (a 44), .ref (a 45), .ref (a 46), .ref (a 47), .ref (a 48), .ref (a 49), .ref (a 50), .ref (a 54)])), (a 42, .inl (t 0, 9, .inl f42)), (a 43, .inl (t 0, 9, .inl f43)), (a 45, .inl (t 0, 9, .inl f45)), (a 46, .inl (t 0, 9, .inl f46)), (a 47, .inl (t 0, 9, .inl f47)), (a 49, .inl (t 0, 9, .inl f49)), (a 54, .inr (9, [.int v54_0, .int v54_1, .int v54_2, .ref (a 55), .ref (a 56), .ref (a 57), .ref (a 58)])), (a 120, .inl (t 0, 81, .inl (u_1.2.1 0)))] := hD
  refine lv_aload_n hx hb dX2_takerDrawn_19 rfl (lv_at hl 0 rfl) ?_
  refine lv_aload_n hx hb dX2_takerDrawn_20 rfl (lv_at hl 0 rfl) ?_
  refine va_get (D := D) (ci := 2) (v := .ref (a 40)) (C := RX2) (T := TX2) (N := 13) hx hb hts iX2 hown hK hP 3 rfl rfl 0 (by decide) (hts _ m_275) (fun _ h9 => h9) rfl dX2_takerDrawn_21 ?_
  refine va_getN (D := D) (ci := 0) (v := .int v40_2) (C := RX0) (T := TX0) (N := 19) (host := "WordSeats") hx hb hts iX0 hown hK hP 4 rfl rfl 2 (by decide) (va_Nw.use rfl (hN _ n_127)) (fun _ h9 => h9) rfl dX2_takerDrawn_24 ?_
  refine y_wV (wr := [(a 48, .inl (t 0, 9, .inl f48)), (a 43, .inl (t 0, 9, .inl f43)), (a 45, .inl (t 0, 9, .inl f45)), (a 46, .inl (t 0, 9, .inl f46)), (a 49, .inl (t 0, 9, .inl f49)), (a 54, .inr (9, [.int v54_0, .int v54_1, .int v54_2, .ref (a 55), .ref (a 56), .ref (a 57), .ref (a 58)]))]) hF (s_X2_hold l D t a (u_1.1 0) x_4 (u_1.1 2) v14_6 v14_8 v14_9 v14_10 v14_11 v14_12 v40_0 v40_1 v40_2 v40_3 v40_4 v40_5 v40_6 v40_7 f42 f47 (u_1.2.1 0) f121 f122 v40_2 r14_8 r14_9 r40_1 r40_5 r40_6 r40_7 H.size) m_850 m_812 m_813 m_7 m_814 hd_X2_hold ⟨Nat.le_of_ble_eq_true rfl, Nat.le_of_ble_eq_true rfl⟩ hK hN hP hD hS hA 0 (ci := 2) rfl rfl rfl [3, 4, 5, 9, 12, 1, 2] [0, 6, 7, 8, 10, 11] rfl rfl (by decide) (by decide) (by decide) hl.1 rfl (Nat.le_of_ble_eq_true rfl) dX2_takerDrawn_27 ⟨Nat.zero_le _, Nat.zero_le _⟩ (fun u_5 H locs hu_5 hP hD hS => ?_)
  obtain ⟨h_7, h_8⟩ := hu_5
  have hP : va_P D classes [(a 48, .inl (t 0, 9, .inl f48)), (a 43, .inl (t 0, 9, .inl f43)), (a 45, .inl (t 0, 9, .inl f45)), (a 46, .inl (t 0, 9, .inl f46)), (a 49, .inl (t 0, 9, .inl f49)), (a 54, .inr (9, [.int v54_0, .int v54_1, .int v54_2, .ref (a 55), .ref (a 56), .ref (a 57), .ref (a 58)])), (a 14, .inr (2, [.ref (a 40), .int (u_1.1 0), .int x_4, .int (u_1.1 2), .ref (a 120), .ref (a 121), .int (u_5.1 0), .ref (a 122), .int (u_5.1 1), .int (u_5.1 2), .int (u_5.1 3), .int v14_11, .int v14_12])), (a 40, .inr (0, [.int v40_0, .int v40_1, .int v40_2, .int v40_3, .int v40_4, .int v40_5, .int v40_6, .int v40_7, .ref (a 41), .ref (a 42), .ref (a 43), .ref (a 44), .ref (a 45), .ref (a 46), .ref (a 47), .ref (a 48), .ref (a 49), .ref (a 50), .ref (a 54)])), (a 42, .inl (t 0, 9, .inl f42)), (a 47, .inl (t 0, 9, .inl f47)), (a 120, .inl (t 0, 81, .inl (u_1.2.1 0))), (a 121, .inl (t 0, 9, .inl (u_5.2.1 0))), (a 122, .inl (t 0, 9, .inl (u_5.2.1 1)))] H := hP
  have hD : va_D A [(a 48, .inl (t 0, 9, .inl f48)), (a 43, .inl (t 0, 9, .inl f43)), (a 45, .inl (t 0, 9, .inl f45)), (a 46, .inl (t 0, 9, .inl f46)), (a 49, .inl (t 0, 9, .inl f49)), (a 54, .inr (9, [.int v54_0, .int v54_1, .int v54_2, .ref (a 55), .ref (a 56), .ref (a 57), .ref (a 58)])), (a 14, .inr (2, [.ref (a 40), .int (u_1.1 0), .int x_4, .int (u_1.1 2), .ref (a 120), .ref (a 121), .int (u_5.1 0), .ref (a 122), .int (u_5.1 1), .int (u_5.1 2), .int (u_5.1 3), .int v14_11, .int v14_12])), (a 40, .inr (0, [.int v40_0, .int v40_1, .int v40_2, .int v40_3, .int v40_4, .int v40_5, .int v40_6, .int v40_7, .ref (a 41), .ref (a 42), .ref (a 43), .ref (a 44), .ref (a 45), .ref (a 46), .ref (a 47), .ref (a 48), .ref (a 49), .ref (a 50), .ref (a 54)])), (a 42, .inl (t 0, 9, .inl f42)), (a 47, .inl (t 0, 9, .inl f47)), (a 120, .inl (t 0, 81, .inl (u_1.2.1 0))), (a 121, .inl (t 0, 9, .inl (u_5.2.1 0))), (a 122, .inl (t 0, 9, .inl (u_5.2.1 1)))] := hD
  refine lv_aload_n hx hb dX2_takerDrawn_30 rfl (lv_at hl 0 rfl) ?_
  refine y_pV hF (s_X2_taker l D t a (u_1.1 0) x_4 (u_1.1 2) (u_5.1 0) (u_5.1 1) (u_5.1 2) (u_5.1 3) v14_11 v14_12 v40_0 v40_1 v40_2 v40_3 v40_4 v40_5 v40_6 v40_7 h_7 h_8 r40_1 r40_5 r40_6 r40_7) m_851 m_852 m_853 m_7 m_854 hd_X2_taker ⟨Nat.le_of_ble_eq_true rfl, Nat.le_of_ble_eq_true rfl⟩ hK hN hP hS [6, 7] rfl 0 (ci := 2) rfl rfl rfl hl.1 rfl (Nat.le_of_ble_eq_true rfl) dX2_takerDrawn_31 ⟨Nat.zero_le _, Nat.zero_le _⟩ (fun r_9 H locs hr_9 hP hS => ?_)
  have hP9 := hP.sub (ws' := [(a 14, .inr (2, [.ref (a 40), .int (u_1.1 0), .int x_4, .int (u_1.1 2), .ref (a 120), .ref (a 121), .int (u_5.1 0), .ref (a 122), .int (u_5.1 1), .int (u_5.1 2), .int (u_5.1 3), .int v14_11, .int v14_12])), (a 40, .inr (0, [.int v40_0, .int v40_1, .int v40_2, .int v40_3, .int v40_4, .int v40_5, .int v40_6, .int v40_7, .ref (a 41), .ref (a 42), .ref (a 43), .ref (a 44), .ref (a 45), .ref (a 46), .ref (a 47), .ref (a 48), .ref (a 49), .ref (a 50), .ref (a 54)])), (a 42, .inl (t 0, 9, .inl f42)), (a 43, .inl (t 0, 9, .inl f43)), (a 45, .inl (t 0, 9, .inl f45)), (a 46, .inl (t 0, 9, .inl f46)), (a 47, .inl (t 0, 9, .inl f47)), (a 48, .inl (t 0, 9, .inl f48)), (a 49, .inl (t 0, 9, .inl f49)), (a 54, .inr (9, [.int v54_0, .int v54_1, .int v54_2, .ref (a 55), .ref (a 56), .ref (a 57), .ref (a 58)])), (a 120, .inl (t 0, 81, .inl (u_1.2.1 0))), (a 121, .inl (t 0, 9, .inl (u_5.2.1 0))), (a 122, .inl (t 0, 9, .inl (u_5.2.1 1)))]) [6, 7, 8, 1, 2, 3, 9, 0, 4, 5, 10, 11, 12] rfl
  have hD9 := hD.sub (ws' := [(a 14, .inr (2, [.ref (a 40), .int (u_1.1 0), .int x_4, .int (u_1.1 2), .ref (a 120), .ref (a 121), .int (u_5.1 0), .ref (a 122), .int (u_5.1 1), .int (u_5.1 2), .int (u_5.1 3), .int v14_11, .int v14_12])), (a 40, .inr (0, [.int v40_0, .int v40_1, .int v40_2, .int v40_3, .int v40_4, .int v40_5, .int v40_6, .int v40_7, .ref (a 41), .ref (a 42), .ref (a 43), .ref (a 44), .ref (a 45), .ref (a 46), .ref (a 47), .ref (a 48), .ref (a 49), .ref (a 50), .ref (a 54)])), (a 42, .inl (t 0, 9, .inl f42)), (a 43, .inl (t 0, 9, .inl f43)), (a 45, .inl (t 0, 9, .inl f45)), (a 46, .inl (t 0, 9, .inl f46)), (a 47, .inl (t 0, 9, .inl f47)), (a 48, .inl (t 0, 9, .inl f48)), (a 49, .inl (t 0, 9, .inl f49)), (a 54, .inr (9, [.int v54_0, .int v54_1, .int v54_2, .ref (a 55), .ref (a 56), .ref (a 57), .ref (a 58)])), (a 120, .inl (t 0, 81, .inl (u_1.2.1 0))), (a 121, .inl (t 0, 9, .inl (u_5.2.1 0))), (a 122, .inl (t 0, 9, .inl (u_5.2.1 1)))]) [6, 7, 8, 1, 2, 3, 9, 0, 4, 5, 10, 11, 12] (by decide) rfl
  exact W.iret (v := r_9) hx hb hr (fun t9 ht hW => ⟨⟨r_9, (fun k => [(u_1.1 0), x_4, (u_1.1 2), (u_5.1 0), (u_5.1 1), (u_5.1 2), (u_5.1 3)].getD k 0, fun k => [(u_1.2.1 0), (u_5.2.1 0), (u_5.2.1 1)].getD k (fun _ => 0), fun k => [].getD k (fun _ => 0), fun _ => 0), rfl, ⟨hr_9, h_7, h_8⟩, by rw [ht]; exact hP9, hD9⟩, hS.F ht⟩) hS.2.2 dX2_takerDrawn_34

set_option maxHeartbeats 4000000 in
set_option maxRecDepth 100000 in
theorem s_X2_spoiling (l : Launch) (D : va_G) (t : Nat → ClassId) (a : Nat → Nat) (v14_1 : Int32) (v14_2 : Int32) (v14_3 : Int32) (v14_6 : Int32) (v14_8 : Int32) (v14_9 : Int32) (v14_10 : Int32) (v14_11 : Int32) (v14_12 : Int32) (v40_0 : Int32) (v40_1 : Int32) (v40_2 : Int32) (v40_3 : Int32) (v40_4 : Int32) (v40_5 : Int32) (v40_6 : Int32) (v40_7 : Int32) (f42 : Nat → Int32) (f43 : Nat → Int32) (f45 : Nat → Int32) (f46 : Nat → Int32) (f47 : Nat → Int32) (f49 : Nat → Int32) (v54_0 : Int32) (v54_1 : Int32) (v54_2 : Int32) (f120 : Nat → Int32) (f121 : Nat → Int32) (f122 : Nat → Int32) (r14_8 : rg 0 9 v14_8) (r14_9 : rg (-1) 8 v14_9) (r40_1 : rg 0 8 v40_1) (r40_5 : rg 0 4 v40_5) (r40_6 : rg 0 9 v40_6) (r40_7 : rg 0 9 v40_7) (q43 : ∀ j, j < 9 → rg 0 3 (f43 j)) (r54_0 : rg 0 60 v54_0) (sz : Nat) : Met l yX2_spoiling (wd yX2_spoiling cX2_spoiling 5 (some .int)) (RM 6 0 0) (PreW D (TY t) [.ref (a 14)] [(a 14, .inr (2, [.ref (a 40), .int v14_1, .int v14_2, .int v14_3, .ref (a 120), .ref (a 121), .int v14_6, .ref (a 122), .int v14_8, .int v14_9, .int v14_10, .int v14_11, .int v14_12])), (a 40, .inr (0, [.int v40_0, .int v40_1, .int v40_2, .int v40_3, .int v40_4, .int v40_5, .int v40_6, .int v40_7, .ref (a 41), .ref (a 42), .ref (a 43), .ref (a 44), .ref (a 45), .ref (a 46), .ref (a 47), .ref (a 48), .ref (a 49), .ref (a 50), .ref (a 54)])), (a 42, .inl (t 0, 9, .inl f42)), (a 43, .inl (t 0, 9, .inl f43)), (a 45, .inl (t 0, 9, .inl f45)), (a 46, .inl (t 0, 9, .inl f46)), (a 47, .inl (t 0, 9, .inl f47)), (a 49, .inl (t 0, 9, .inl f49)), (a 54, .inr (9, [.int v54_0, .int v54_1, .int v54_2, .ref (a 55), .ref (a 56), .ref (a 57), .ref (a 58)])), (a 120, .inl (t 0, 81, .inl f120)), (a 121, .inl (t 0, 9, .inl f121)), (a 122, .inl (t 0, 9, .inl f122))] sz) (va_Qi (fun (r : Int32) (u : US) => rg 0 511 r ∧ rg 0 9 (u.1 4) ∧ rg (-1) 8 (u.1 5)) (fun (u : US) t9 => va_P D classes ((fun u : US => [(a 14, .inr (2, [.ref (a 40), .int (u.1 0), .int (u.1 1), .int (u.1 2), .ref (a 120), .ref (a 121), .int (u.1 3), .ref (a 122), .int (u.1 4), .int (u.1 5), .int (u.1 6), .int v14_11, .int v14_12])), (a 40, .inr (0, [.int v40_0, .int v40_1, .int v40_2, .int v40_3, .int v40_4, .int v40_5, .int v40_6, .int v40_7, .ref (a 41), .ref (a 42), .ref (a 43), .ref (a 44), .ref (a 45), .ref (a 46), .ref (a 47), .ref (a 48), .ref (a 49), .ref (a 50), .ref (a 54)])), (a 42, .inl (t 0, 9, .inl f42)), (a 43, .inl (t 0, 9, .inl f43)), (a 45, .inl (t 0, 9, .inl f45)), (a 46, .inl (t 0, 9, .inl f46)), (a 47, .inl (t 0, 9, .inl f47)), (a 49, .inl (t 0, 9, .inl f49)), (a 54, .inr (9, [.int v54_0, .int v54_1, .int v54_2, .ref (a 55), .ref (a 56), .ref (a 57), .ref (a 58)])), (a 120, .inl (t 0, 81, .inl (u.2.1 0))), (a 121, .inl (t 0, 9, .inl (u.2.1 1))), (a 122, .inl (t 0, 9, .inl (u.2.1 2)))]) u) t9.heap ∧ va_D (va_A [(a 14, .inr (2, [.ref (a 40), .int v14_1, .int v14_2, .int v14_3, .ref (a 120), .ref (a 121), .int v14_6, .ref (a 122), .int v14_8, .int v14_9, .int v14_10, .int v14_11, .int v14_12])), (a 40, .inr (0, [.int v40_0, .int v40_1, .int v40_2, .int v40_3, .int v40_4, .int v40_5, .int v40_6, .int v40_7, .ref (a 41), .ref (a 42), .ref (a 43), .ref (a 44), .ref (a 45), .ref (a 46), .ref (a 47), .ref (a 48), .ref (a 49), .ref (a 50), .ref (a 54)])), (a 42, .inl (t 0, 9, .inl f42)), (a 43, .inl (t 0, 9, .inl f43)), (a 45, .inl (t 0, 9, .inl f45)), (a 46, .inl (t 0, 9, .inl f46)), (a 47, .inl (t 0, 9, .inl f47)), (a 49, .inl (t 0, 9, .inl f49)), (a 54, .inr (9, [.int v54_0, .int v54_1, .int v54_2, .ref (a 55), .ref (a 56), .ref (a 57), .ref (a 58)])), (a 120, .inl (t 0, 81, .inl f120)), (a 121, .inl (t 0, 9, .inl f121)), (a 122, .inl (t 0, 9, .inl f122))] sz) ((fun u : US => [(a 14, .inr (2, [.ref (a 40), .int (u.1 0), .int (u.1 1), .int (u.1 2), .ref (a 120), .ref (a 121), .int (u.1 3), .ref (a 122), .int (u.1 4), .int (u.1 5), .int (u.1 6), .int v14_11, .int v14_12])), (a 40, .inr (0, [.int v40_0, .int v40_1, .int v40_2, .int v40_3, .int v40_4, .int v40_5, .int v40_6, .int v40_7, .ref (a 41), .ref (a 42), .ref (a 43), .ref (a 44), .ref (a 45), .ref (a 46), .ref (a 47), .ref (a 48), .ref (a 49), .ref (a 50), .ref (a 54)])), (a 42, .inl (t 0, 9, .inl f42)), (a 43, .inl (t 0, 9, .inl f43)), (a 45, .inl (t 0, 9, .inl f45)), (a 46, .inl (t 0, 9, .inl f46)), (a 47, .inl (t 0, 9, .inl f47)), (a 49, .inl (t 0, 9, .inl f49)), (a 54, .inr (9, [.int v54_0, .int v54_1, .int v54_2, .ref (a 55), .ref (a 56), .ref (a 57), .ref (a 58)])), (a 120, .inl (t 0, 81, .inl (u.2.1 0))), (a 121, .inl (t 0, 9, .inl (u.2.1 1))), (a 122, .inl (t 0, 9, .inl (u.2.1 2)))]) u)) (va_A [(a 14, .inr (2, [.ref (a 40), .int v14_1, .int v14_2, .int v14_3, .ref (a 120), .ref (a 121), .int v14_6, .ref (a 122), .int v14_8, .int v14_9, .int v14_10, .int v14_11, .int v14_12])), (a 40, .inr (0, [.int v40_0, .int v40_1, .int v40_2, .int v40_3, .int v40_4, .int v40_5, .int v40_6, .int v40_7, .ref (a 41), .ref (a 42), .ref (a 43), .ref (a 44), .ref (a 45), .ref (a 46), .ref (a 47), .ref (a 48), .ref (a 49), .ref (a 50), .ref (a 54)])), (a 42, .inl (t 0, 9, .inl f42)), (a 43, .inl (t 0, 9, .inl f43)), (a 45, .inl (t 0, 9, .inl f45)), (a 46, .inl (t 0, 9, .inl f46)), (a 47, .inl (t 0, 9, .inl f47)), (a 49, .inl (t 0, 9, .inl f49)), (a 54, .inr (9, [.int v54_0, .int v54_1, .int v54_2, .ref (a 55), .ref (a 56), .ref (a 57), .ref (a 58)])), (a 120, .inl (t 0, 81, .inl f120)), (a 121, .inl (t 0, 9, .inl f121)), (a 122, .inl (t 0, 9, .inl f122))] sz)) 0 0 (va_A [(a 14, .inr (2, [.ref (a 40), .int v14_1, .int v14_2, .int v14_3, .ref (a 120), .ref (a 121), .int v14_6, .ref (a 122), .int v14_8, .int v14_9, .int v14_10, .int v14_11, .int v14_12])), (a 40, .inr (0, [.int v40_0, .int v40_1, .int v40_2, .int v40_3, .int v40_4, .int v40_5, .int v40_6, .int v40_7, .ref (a 41), .ref (a 42), .ref (a 43), .ref (a 44), .ref (a 45), .ref (a 46), .ref (a 47), .ref (a 48), .ref (a 49), .ref (a 50), .ref (a 54)])), (a 42, .inl (t 0, 9, .inl f42)), (a 43, .inl (t 0, 9, .inl f43)), (a 45, .inl (t 0, 9, .inl f45)), (a 46, .inl (t 0, 9, .inl f46)), (a 47, .inl (t 0, 9, .inl f47)), (a 49, .inl (t 0, 9, .inl f49)), (a 54, .inr (9, [.int v54_0, .int v54_1, .int v54_2, .ref (a 55), .ref (a 56), .ref (a 57), .ref (a 58)])), (a 120, .inl (t 0, 81, .inl f120)), (a 121, .inl (t 0, 9, .inl f121)), (a 122, .inl (t 0, 9, .inl f122))] sz) := by
  refine Met.ofW (cc := cX2_spoiling) (maxL := 5) (ret := (some .int)) (by decide) rfl ?_
  intro p e s m args below meth c s₁ B hml hv
  obtain ⟨rfl, hsz, hP, hK, hD0, hN⟩ := hv
  have hx := B.exec
  have hb := B.bytes
  have hr := B.returns
  have hts : ∀ w ∈ TB, w.before _ s = true := fun w h => atoms_spec (ws := wd yX2_spoiling cX2_spoiling 5 (some .int)) B.pre w (List.mem_cons_of_mem _ h)
  have hown : s.vm.findClass RX2 = some m.cls := findClass_of_methodNamed B.named
  have hlocks := B.notSynchronized
  have hF : CallFix p m c cX2_spoiling 5 s _ TB RX2 := ⟨hx, hb, hml, hown, hts⟩
  have hl := lv_entry ([.ref (a 14)]) (n := 5) (Nat.le_of_ble_eq_true rfl)
  rw [lg_entry_eq]
  generalize (lg_sl ([.ref (a 14)]) ++ List.replicate (5 - (lg_sl ([.ref (a 14)])).length) Slot.unset).toArray = ls at hl ⊢
  have hl : lv_has ls 5 [(0, .ref (a 14))] := hl
  subst hsz
  have hD := hD0.self (sz := s.heap.size)
  generalize hAe : va_A [(a 14, .inr (2, [.ref (a 40), .int v14_1, .int v14_2, .int v14_3, .ref (a 120), .ref (a 121), .int v14_6, .ref (a 122), .int v14_8, .int v14_9, .int v14_10, .int v14_11, .int v14_12])), (a 40, .inr (0, [.int v40_0, .int v40_1, .int v40_2, .int v40_3, .int v40_4, .int v40_5, .int v40_6, .int v40_7, .ref (a 41), .ref (a 42), .ref (a 43), .ref (a 44), .ref (a 45), .ref (a 46), .ref (a 47), .ref (a 48), .ref (a 49), .ref (a 50), .ref (a 54)])), (a 42, .inl (t 0, 9, .inl f42)), (a 43, .inl (t 0, 9, .inl f43)), (a 45, .inl (t 0, 9, .inl f45)), (a 46, .inl (t 0, 9, .inl f46)), (a 47, .inl (t 0, 9, .inl f47)), (a 49, .inl (t 0, 9, .inl f49)), (a 54, .inr (9, [.int v54_0, .int v54_1, .int v54_2, .ref (a 55), .ref (a 56), .ref (a 57), .ref (a 58)])), (a 120, .inl (t 0, 81, .inl f120)), (a 121, .inl (t 0, 9, .inl f121)), (a 122, .inl (t 0, 9, .inl f122))] s.heap.size = A at hD ⊢
  have hA : ∀ q : Nat, s.heap.size ≤ q → A q := fun q h => by rw [← hAe]; exact Or.inr h
  have hS : va_S A s.heap s.heap [] := va_S.rf
  have hP : va_P D classes [(a 14, .inr (2, [.ref (a 40), .int v14_1, .int v14_2, .int v14_3, .ref (a 120), .ref (a 121), .int v14_6, .ref (a 122), .int v14_8, .int v14_9, .int v14_10, .int v14_11, .int v14_12])), (a 40, .inr (0, [.int v40_0, .int v40_1, .int v40_2, .int v40_3, .int v40_4, .int v40_5, .int v40_6, .int v40_7, .ref (a 41), .ref (a 42), .ref (a 43), .ref (a 44), .ref (a 45), .ref (a 46), .ref (a 47), .ref (a 48), .ref (a 49), .ref (a 50), .ref (a 54)])), (a 42, .inl (t 0, 9, .inl f42)), (a 43, .inl (t 0, 9, .inl f43)), (a 45, .inl (t 0, 9, .inl f45)), (a 46, .inl (t 0, 9, .inl f46)), (a 47, .inl (t 0, 9, .inl f47)), (a 49, .inl (t 0, 9, .inl f49)), (a 54, .inr (9, [.int v54_0, .int v54_1, .int v54_2, .ref (a 55), .ref (a 56), .ref (a 57), .ref (a 58)])), (a 120, .inl (t 0, 81, .inl f120)), (a 121, .inl (t 0, 9, .inl f121)), (a 122, .inl (t 0, 9, .inl f122))] s.heap := hP
  refine lv_iconst (v := 0) hx hb dX2_spoiling_0 (by decide) ?_
  refine lv_istore_n (lv' := [(1, .int 0), (0, .ref (a 14))]) hx hb dX2_spoiling_1 rfl hl (by decide) rfl (fun ls hl => ?_)
  refine lv_iconst (v := 0) hx hb dX2_spoiling_2 (by decide) ?_
  refine lv_istore_n (lv' := [(2, .int 0), (1, .int 0), (0, .ref (a 14))]) hx hb dX2_spoiling_3 rfl hl (by decide) rfl (fun ls hl => ?_)
  refine loopW (α := US) (fun n y_1 H locs ls => 9 < (y_1.1 0).toInt + (n : Int) ∧ rg 0 9 (y_1.1 0) ∧ rg 0 511 (y_1.1 1) ∧ rg 0 9 (y_1.1 6) ∧ rg (-1) 8 (y_1.1 7) ∧ va_P D classes [(a 14, .inr (2, [.ref (a 40), .int (y_1.1 2), .int (y_1.1 3), .int (y_1.1 4), .ref (a 120), .ref (a 121), .int (y_1.1 5), .ref (a 122), .int (y_1.1 6), .int (y_1.1 7), .int (y_1.1 8), .int v14_11, .int v14_12])), (a 40, .inr (0, [.int v40_0, .int v40_1, .int v40_2, .int v40_3, .int v40_4, .int v40_5, .int v40_6, .int v40_7, .ref (a 41), .ref (a 42), .ref (a 43), .ref (a 44), .ref (a 45), .ref (a 46), .ref (a 47), .ref (a 48), .ref (a 49), .ref (a 50), .ref (a 54)])), (a 42, .inl (t 0, 9, .inl f42)), (a 43, .inl (t 0, 9, .inl f43)), (a 45, .inl (t 0, 9, .inl f45)), (a 46, .inl (t 0, 9, .inl f46)), (a 47, .inl (t 0, 9, .inl f47)), (a 49, .inl (t 0, 9, .inl f49)), (a 54, .inr (9, [.int v54_0, .int v54_1, .int v54_2, .ref (a 55), .ref (a 56), .ref (a 57), .ref (a 58)])), (a 120, .inl (t 0, 81, .inl (y_1.2.1 0))), (a 121, .inl (t 0, 9, .inl (y_1.2.1 1))), (a 122, .inl (t 0, 9, .inl (y_1.2.1 2)))] H ∧ va_D A [(a 14, .inr (2, [.ref (a 40), .int (y_1.1 2), .int (y_1.1 3), .int (y_1.1 4), .ref (a 120), .ref (a 121), .int (y_1.1 5), .ref (a 122), .int (y_1.1 6), .int (y_1.1 7), .int (y_1.1 8), .int v14_11, .int v14_12])), (a 40, .inr (0, [.int v40_0, .int v40_1, .int v40_2, .int v40_3, .int v40_4, .int v40_5, .int v40_6, .int v40_7, .ref (a 41), .ref (a 42), .ref (a 43), .ref (a 44), .ref (a 45), .ref (a 46), .ref (a 47), .ref (a 48), .ref (a 49), .ref (a 50), .ref (a 54)])), (a 42, .inl (t 0, 9, .inl f42)), (a 43, .inl (t 0, 9, .inl f43)), (a 45, .inl (t 0, 9, .inl f45)), (a 46, .inl (t 0, 9, .inl f46)), (a 47, .inl (t 0, 9, .inl f47)), (a 49, .inl (t 0, 9, .inl f49)), (a 54, .inr (9, [.int v54_0, .int v54_1, .int v54_2, .ref (a 55), .ref (a 56), .ref (a 57), .ref (a 58)])), (a 120, .inl (t 0, 81, .inl (y_1.2.1 0))), (a 121, .inl (t 0, 9, .inl (y_1.2.1 1))), (a 122, .inl (t 0, 9, .inl (y_1.2.1 2)))] ∧ va_S A s.heap H locs ∧ lv_has ls 5 [(2, .int (y_1.1 0)), (1, .int (y_1.1 1)), (0, .ref (a 14))]) 4 (fun y_1 => []) (fun _ _ _ _ h9 => m_0 h9.1 h9.2.1) (fun n ih_6 y_1 H locs ls hI => ?_) 10 (fun k => [0, 0, v14_1, v14_2, v14_3, v14_6, v14_8, v14_9, v14_10].getD k 0, fun k => [f120, f121, f122].getD k (fun _ => 0), fun k => [].getD k (fun _ => 0), fun k => [].getD k 0) ⟨(m_i (rg_c (x := 0) (k := 0) (by decide)) (by decide)), (rg_w (c := 0) (d := 9) (rg_c (x := 0) (k := 0) (by decide)) (by decide) (by decide)), (rg_w (c := 0) (d := 511) (rg_c (x := 0) (k := 0) (by decide)) (by decide) (by decide)), r14_8, r14_9, hP, hD, hS, (lv_sub hl [0, 1, 2] rfl)⟩
  obtain ⟨me_7, h_2, h_3, h_4, h_5, hP, hD, hS, hl⟩ := hI
  refine lv_iload_n hx hb dX2_spoiling_4 rfl (lv_at hl 0 rfl) ?_
  refine lv_aload_n hx hb dX2_spoiling_5 rfl (lv_at hl 2 rfl) ?_
  refine va_get (D := D) (ci := 2) (v := .ref (a 40)) (C := RX2) (T := TX2) (N := 13) hx hb hts iX2 hown hK hP 0 rfl rfl 0 (by decide) (hts _ m_275) (fun _ h9 => h9) rfl dX2_spoiling_6 ?_
  refine va_getN (D := D) (ci := 0) (v := .int v40_6) (C := RX0) (T := TX0) (N := 19) (host := "WordSeats") hx hb hts iX0 hown hK hP 1 rfl rfl 6 (by decide) (va_Nw.use rfl (hN _ n_144)) (fun _ h9 => h9) rfl dX2_spoiling_9 ?_
  refine lv_icmp_ge (tgt := 89) hx hb dX2_spoiling_12 (by decide) (fun c_8 => ?_) (fun c_8 => ?_)
  · skip
    refine lv_iload_n hx hb dX2_spoiling_89 rfl (lv_at hl 1 rfl) ?_
    have hP9 := hP.sub (ws' := [(a 14, .inr (2, [.ref (a 40), .int (y_1.1 2), .int (y_1.1 3), .int (y_1.1 4), .ref (a 120), .ref (a 121), .int (y_1.1 5), .ref (a 122), .int (y_1.1 6), .int (y_1.1 7), .int (y_1.1 8), .int v14_11, .int v14_12])), (a 40, .inr (0, [.int v40_0, .int v40_1, .int v40_2, .int v40_3, .int v40_4, .int v40_5, .int v40_6, .int v40_7, .ref (a 41), .ref (a 42), .ref (a 43), .ref (a 44), .ref (a 45), .ref (a 46), .ref (a 47), .ref (a 48), .ref (a 49), .ref (a 50), .ref (a 54)])), (a 42, .inl (t 0, 9, .inl f42)), (a 43, .inl (t 0, 9, .inl f43)), (a 45, .inl (t 0, 9, .inl f45)), (a 46, .inl (t 0, 9, .inl f46)), (a 47, .inl (t 0, 9, .inl f47)), (a 49, .inl (t 0, 9, .inl f49)), (a 54, .inr (9, [.int v54_0, .int v54_1, .int v54_2, .ref (a 55), .ref (a 56), .ref (a 57), .ref (a 58)])), (a 120, .inl (t 0, 81, .inl (y_1.2.1 0))), (a 121, .inl (t 0, 9, .inl (y_1.2.1 1))), (a 122, .inl (t 0, 9, .inl (y_1.2.1 2)))]) [0, 1, 2, 3, 4, 5, 6, 7, 8, 9, 10, 11] rfl
    have hD9 := hD.sub (ws' := [(a 14, .inr (2, [.ref (a 40), .int (y_1.1 2), .int (y_1.1 3), .int (y_1.1 4), .ref (a 120), .ref (a 121), .int (y_1.1 5), .ref (a 122), .int (y_1.1 6), .int (y_1.1 7), .int (y_1.1 8), .int v14_11, .int v14_12])), (a 40, .inr (0, [.int v40_0, .int v40_1, .int v40_2, .int v40_3, .int v40_4, .int v40_5, .int v40_6, .int v40_7, .ref (a 41), .ref (a 42), .ref (a 43), .ref (a 44), .ref (a 45), .ref (a 46), .ref (a 47), .ref (a 48), .ref (a 49), .ref (a 50), .ref (a 54)])), (a 42, .inl (t 0, 9, .inl f42)), (a 43, .inl (t 0, 9, .inl f43)), (a 45, .inl (t 0, 9, .inl f45)), (a 46, .inl (t 0, 9, .inl f46)), (a 47, .inl (t 0, 9, .inl f47)), (a 49, .inl (t 0, 9, .inl f49)), (a 54, .inr (9, [.int v54_0, .int v54_1, .int v54_2, .ref (a 55), .ref (a 56), .ref (a 57), .ref (a 58)])), (a 120, .inl (t 0, 81, .inl (y_1.2.1 0))), (a 121, .inl (t 0, 9, .inl (y_1.2.1 1))), (a 122, .inl (t 0, 9, .inl (y_1.2.1 2)))]) [0, 1, 2, 3, 4, 5, 6, 7, 8, 9, 10, 11] (by decide) rfl
    exact W.iret (v := (y_1.1 1)) hx hb hr (fun t9 ht hW => ⟨⟨(y_1.1 1), (fun k => [(y_1.1 2), (y_1.1 3), (y_1.1 4), (y_1.1 5), (y_1.1 6), (y_1.1 7), (y_1.1 8)].getD k 0, fun k => [(y_1.2.1 0), (y_1.2.1 1), (y_1.2.1 2)].getD k (fun _ => 0), fun k => [].getD k (fun _ => 0), fun _ => 0), rfl, ⟨h_3, h_4, h_5⟩, by rw [ht]; exact hP9, hD9⟩, hS.F ht⟩) hS.2.2 dX2_spoiling_90
  · skip
    have h_9 : rg 0 8 (y_1.1 0) := ⟨(h_2).1, Int.le_trans (c_nleR c_8 r40_6) (by decide)⟩
    have h_10 : rg 1 9 v40_6 := ⟨Int.le_trans (by decide) (c_nle c_8 h_2), (r40_6).2⟩
    refine lv_aload_n hx hb dX2_spoiling_15 rfl (lv_at hl 2 rfl) ?_
    refine va_get (D := D) (ci := 2) (v := .ref (a 40)) (C := RX2) (T := TX2) (N := 13) hx hb hts iX2 hown hK hP 0 rfl rfl 0 (by decide) (hts _ m_275) (fun _ h9 => h9) rfl dX2_spoiling_16 ?_
    refine va_getN (D := D) (ci := 0) (v := .ref (a 54)) (C := RX0) (T := TX0) (N := 19) (host := "WordSeats") hx hb hts iX0 hown hK hP 1 rfl rfl 18 (by decide) (va_Nw.use rfl (hN _ n_193)) (fun _ h9 => h9) rfl dX2_spoiling_19 ?_
    refine va_getN (D := D) (ci := 9) (v := .int v54_2) (C := RX9) (T := TX9) (N := 7) (host := "WordSeats") hx hb hts iX9 hown hK hP 8 rfl rfl 2 (by decide) (va_Nw.use rfl (hN _ n_95)) (fun _ h9 => h9) rfl dX2_spoiling_22 ?_
    refine lv_iload_n hx hb dX2_spoiling_25 rfl (lv_at hl 0 rfl) ?_
    refine y_pSN hF (s_X11_holds l D t a v54_2 (y_1.1 0)) n_771 m_707 m_1 m_708 hd_X11_holds ⟨Nat.le_of_ble_eq_true rfl, Nat.le_of_ble_eq_true rfl⟩ hK hN hP hS [] rfl hl.1 rfl (Nat.le_of_ble_eq_true rfl) dX2_spoiling_26 ⟨Nat.zero_le _, Nat.zero_le _⟩ (fun r_11 H locs hr_11 hP hS => ?_)
    refine lv_if_ne (tgt := 83) hx hb dX2_spoiling_29 (by decide) (fun c_12 => ?_) (fun c_12 => ?_)
    · skip
      have h_13 : rg 1 1 r_11 := rg_w (rg_neL hr_11 c_12 (by decide)) (by decide) (by decide)
      obtain ⟨x_14, ex_14⟩ : ∃ y9 : Int32, y9 = (y_1.1 0) + 1 := ⟨_, rfl⟩
      have hx_14 : rg 1 9 x_14 := by rw [ex_14]; exact rg_add h_9 (rg_c (x := 1) (k := 1) (by decide)) (by decide) (by decide) (by decide) (by decide)
      have tx_14 : x_14.toInt = (y_1.1 0).toInt + 1 := by rw [ex_14]; exact inc_tk h_9 (by decide) (by decide) (by decide)
      refine lv_iinc (v := x_14) (lv' := [(2, .int x_14), (1, .int (y_1.1 1)), (0, .ref (a 14))]) hx hb dX2_spoiling_83 hl (k := 0) rfl (by rw [ex_14]; rfl) (by decide) rfl (fun ls hl => ?_)
      refine lv_goto (tgt := 4) hx hb dX2_spoiling_86 (by decide) ?_
      exact ih_6 (fun k => [x_14, (y_1.1 1), (y_1.1 2), (y_1.1 3), (y_1.1 4), (y_1.1 5), (y_1.1 6), (y_1.1 7), (y_1.1 8)].getD k 0, fun k => [(y_1.2.1 0), (y_1.2.1 1), (y_1.2.1 2)].getD k (fun _ => 0), fun k => [].getD k (fun _ => 0), fun k => [].getD k 0) _ _ ls ⟨(m_upk me_7 tx_14 (by decide)), (rg_w (c := 0) (d := 9) hx_14 (by decide) (by decide)), h_3, h_4, h_5, hP, hD, hS, (lv_sub hl [0, 1, 2] rfl)⟩
    · skip
      have h_15 : rg 0 0 r_11 := rg_eq c_12 (rg_c (x := 0) (k := 0) (by decide))
      refine lv_aload_n hx hb dX2_spoiling_32 rfl (lv_at hl 2 rfl) ?_
      refine lv_aload_n hx hb dX2_spoiling_33 rfl (lv_at hl 2 rfl) ?_
      refine va_get (D := D) (ci := 2) (v := .ref (a 40)) (C := RX2) (T := TX2) (N := 13) hx hb hts iX2 hown hK hP 0 rfl rfl 0 (by decide) (hts _ m_275) (fun _ h9 => h9) rfl dX2_spoiling_34 ?_
      refine va_getN (D := D) (ci := 0) (v := .ref (a 43)) (C := RX0) (T := TX0) (N := 19) (host := "WordSeats") hx hb hts iX0 hown hK hP 1 rfl rfl 10 (by decide) (va_Nw.use rfl (hN _ n_163)) (fun _ h9 => h9) rfl dX2_spoiling_37 ?_
      refine lv_iload_n hx hb dX2_spoiling_40 rfl (lv_at hl 0 rfl) ?_
      refine va_iald hx hb hK hP 3 0 rfl rfl (in_rg h_9 (by decide) (by decide)) dX2_spoiling_41 ?_
      refine lv_topi (fun x_16 ex_16 => ?_)
      have hx_16 : rg 0 3 x_16 := by rw [ex_16]; exact q43 _ (cl_rg h_9 (by decide) (by decide))
      refine lv_aload_n hx hb dX2_spoiling_42 rfl (lv_at hl 2 rfl) ?_
      refine va_get (D := D) (ci := 2) (v := .ref (a 40)) (C := RX2) (T := TX2) (N := 13) hx hb hts iX2 hown hK hP 0 rfl rfl 0 (by decide) (hts _ m_275) (fun _ h9 => h9) rfl dX2_spoiling_43 ?_
      refine va_getN (D := D) (ci := 0) (v := .int v40_2) (C := RX0) (T := TX0) (N := 19) (host := "WordSeats") hx hb hts iX0 hown hK hP 1 rfl rfl 2 (by decide) (va_Nw.use rfl (hN _ n_127)) (fun _ h9 => h9) rfl dX2_spoiling_46 ?_
      refine y_wVi (wr := []) hF (s_X2_takerIn l D t a (y_1.1 2) (y_1.1 3) (y_1.1 4) (y_1.1 5) (y_1.1 6) (y_1.1 7) (y_1.1 8) v14_11 v14_12 v40_0 v40_1 v40_2 v40_3 v40_4 v40_5 v40_6 v40_7 f42 f43 f45 f46 f47 f49 v54_0 v54_1 v54_2 (y_1.2.1 0) (y_1.2.1 1) (y_1.2.1 2) x_16 v40_2 h_4 h_5 r40_1 r40_5 (rg_w (c := 0) (d := 9) h_10 (by decide) (by decide)) r40_7 q43 r54_0 H.size) m_916 m_846 m_847 m_7 m_848 hd_X2_takerIn ⟨Nat.le_of_ble_eq_true rfl, Nat.le_of_ble_eq_true rfl⟩ hK hN hP hD hS hA 0 (ci := 2) rfl rfl rfl [0, 1, 2, 3, 4, 5, 6, 7, 8, 9, 10, 11] [] rfl rfl (by decide) (by decide) (by decide) hl.1 rfl (Nat.le_of_ble_eq_true rfl) dX2_spoiling_49 ⟨Nat.zero_le _, Nat.zero_le _⟩ (fun r_18 u_17 H locs hu_17 hP hD hS => ?_)
      obtain ⟨hr_18, h_19, h_20⟩ := hu_17
      have hP : va_P D classes [(a 14, .inr (2, [.ref (a 40), .int (u_17.1 0), .int (u_17.1 1), .int (u_17.1 2), .ref (a 120), .ref (a 121), .int (u_17.1 3), .ref (a 122), .int (u_17.1 4), .int (u_17.1 5), .int (u_17.1 6), .int v14_11, .int v14_12])), (a 40, .inr (0, [.int v40_0, .int v40_1, .int v40_2, .int v40_3, .int v40_4, .int v40_5, .int v40_6, .int v40_7, .ref (a 41), .ref (a 42), .ref (a 43), .ref (a 44), .ref (a 45), .ref (a 46), .ref (a 47), .ref (a 48), .ref (a 49), .ref (a 50), .ref (a 54)])), (a 42, .inl (t 0, 9, .inl f42)), (a 43, .inl (t 0, 9, .inl f43)), (a 45, .inl (t 0, 9, .inl f45)), (a 46, .inl (t 0, 9, .inl f46)), (a 47, .inl (t 0, 9, .inl f47)), (a 49, .inl (t 0, 9, .inl f49)), (a 54, .inr (9, [.int v54_0, .int v54_1, .int v54_2, .ref (a 55), .ref (a 56), .ref (a 57), .ref (a 58)])), (a 120, .inl (t 0, 81, .inl (u_17.2.1 0))), (a 121, .inl (t 0, 9, .inl (u_17.2.1 1))), (a 122, .inl (t 0, 9, .inl (u_17.2.1 2)))] H := hP
      have hD : va_D A [(a 14, .inr (2, [.ref (a 40), .int (u_17.1 0), .int (u_17.1 1), .int (u_17.1 2), .ref (a 120), .ref (a 121), .int (u_17.1 3), .ref (a 122), .int (u_17.1 4), .int (u_17.1 5), .int (u_17.1 6), .int v14_11, .int v14_12])), (a 40, .inr (0, [.int v40_0, .int v40_1, .int v40_2, .int v40_3, .int v40_4, .int v40_5, .int v40_6, .int v40_7, .ref (a 41), .ref (a 42), .ref (a 43), .ref (a 44), .ref (a 45), .ref (a 46), .ref (a 47), .ref (a 48), .ref (a 49), .ref (a 50), .ref (a 54)])), (a 42, .inl (t 0, 9, .inl f42)), (a 43, .inl (t 0, 9, .inl f43)), (a 45, .inl (t 0, 9, .inl f45)), (a 46, .inl (t 0, 9, .inl f46)), (a 47, .inl (t 0, 9, .inl f47)), (a 49, .inl (t 0, 9, .inl f49)), (a 54, .inr (9, [.int v54_0, .int v54_1, .int v54_2, .ref (a 55), .ref (a 56), .ref (a 57), .ref (a 58)])), (a 120, .inl (t 0, 81, .inl (u_17.2.1 0))), (a 121, .inl (t 0, 9, .inl (u_17.2.1 1))), (a 122, .inl (t 0, 9, .inl (u_17.2.1 2)))] := hD
      refine lv_istore_n (lv' := [(3, .int r_18), (2, .int (y_1.1 0)), (1, .int (y_1.1 1)), (0, .ref (a 14))]) hx hb dX2_spoiling_52 rfl hl (by decide) rfl (fun ls hl => ?_)
      refine lv_aload_n hx hb dX2_spoiling_53 rfl (lv_at hl 3 rfl) ?_
      refine lv_iload_n hx hb dX2_spoiling_54 rfl (lv_at hl 1 rfl) ?_
      refine y_wVi (wr := []) hF (s_X2_takerWithout l D t a (u_17.1 0) (u_17.1 1) (u_17.1 2) (u_17.1 3) (u_17.1 4) (u_17.1 5) (u_17.1 6) v14_11 v14_12 v40_0 v40_1 v40_2 v40_3 v40_4 v40_5 v40_6 v40_7 f42 f43 f45 f46 f47 f49 v54_0 v54_1 v54_2 (u_17.2.1 0) (u_17.2.1 1) (u_17.2.1 2) (y_1.1 0) h_19 h_20 r40_1 r40_5 (rg_w (c := 0) (d := 9) h_10 (by decide) (by decide)) r40_7 q43 r54_0 h_9 H.size) m_917 m_905 m_906 m_7 m_907 hd_X2_takerWithout ⟨Nat.le_of_ble_eq_true rfl, Nat.le_of_ble_eq_true rfl⟩ hK hN hP hD hS hA 0 (ci := 2) rfl rfl rfl [0, 1, 2, 3, 4, 5, 6, 7, 8, 9, 10, 11] [] rfl rfl (by decide) (by decide) (by decide) hl.1 rfl (Nat.le_of_ble_eq_true rfl) dX2_spoiling_55 ⟨Nat.zero_le _, Nat.zero_le _⟩ (fun r_22 u_21 H locs hu_21 hP hD hS => ?_)
      obtain ⟨hr_22, h_23, h_24⟩ := hu_21
      have hP : va_P D classes [(a 14, .inr (2, [.ref (a 40), .int (u_21.1 0), .int (u_21.1 1), .int (u_21.1 2), .ref (a 120), .ref (a 121), .int (u_21.1 3), .ref (a 122), .int (u_21.1 4), .int (u_21.1 5), .int (u_21.1 6), .int v14_11, .int v14_12])), (a 40, .inr (0, [.int v40_0, .int v40_1, .int v40_2, .int v40_3, .int v40_4, .int v40_5, .int v40_6, .int v40_7, .ref (a 41), .ref (a 42), .ref (a 43), .ref (a 44), .ref (a 45), .ref (a 46), .ref (a 47), .ref (a 48), .ref (a 49), .ref (a 50), .ref (a 54)])), (a 42, .inl (t 0, 9, .inl f42)), (a 43, .inl (t 0, 9, .inl f43)), (a 45, .inl (t 0, 9, .inl f45)), (a 46, .inl (t 0, 9, .inl f46)), (a 47, .inl (t 0, 9, .inl f47)), (a 49, .inl (t 0, 9, .inl f49)), (a 54, .inr (9, [.int v54_0, .int v54_1, .int v54_2, .ref (a 55), .ref (a 56), .ref (a 57), .ref (a 58)])), (a 120, .inl (t 0, 81, .inl (u_21.2.1 0))), (a 121, .inl (t 0, 9, .inl (u_21.2.1 1))), (a 122, .inl (t 0, 9, .inl (u_21.2.1 2)))] H := hP
      have hD : va_D A [(a 14, .inr (2, [.ref (a 40), .int (u_21.1 0), .int (u_21.1 1), .int (u_21.1 2), .ref (a 120), .ref (a 121), .int (u_21.1 3), .ref (a 122), .int (u_21.1 4), .int (u_21.1 5), .int (u_21.1 6), .int v14_11, .int v14_12])), (a 40, .inr (0, [.int v40_0, .int v40_1, .int v40_2, .int v40_3, .int v40_4, .int v40_5, .int v40_6, .int v40_7, .ref (a 41), .ref (a 42), .ref (a 43), .ref (a 44), .ref (a 45), .ref (a 46), .ref (a 47), .ref (a 48), .ref (a 49), .ref (a 50), .ref (a 54)])), (a 42, .inl (t 0, 9, .inl f42)), (a 43, .inl (t 0, 9, .inl f43)), (a 45, .inl (t 0, 9, .inl f45)), (a 46, .inl (t 0, 9, .inl f46)), (a 47, .inl (t 0, 9, .inl f47)), (a 49, .inl (t 0, 9, .inl f49)), (a 54, .inr (9, [.int v54_0, .int v54_1, .int v54_2, .ref (a 55), .ref (a 56), .ref (a 57), .ref (a 58)])), (a 120, .inl (t 0, 81, .inl (u_21.2.1 0))), (a 121, .inl (t 0, 9, .inl (u_21.2.1 1))), (a 122, .inl (t 0, 9, .inl (u_21.2.1 2)))] := hD
      refine lv_istore (lv' := [(4, .int r_22), (3, .int r_18), (2, .int (y_1.1 0)), (1, .int (y_1.1 1)), (0, .ref (a 14))]) hx hb dX2_spoiling_58 hl (by decide) rfl (fun ls hl => ?_)
      refine lv_iload_n hx hb dX2_spoiling_60 rfl (lv_at hl 1 rfl) ?_
      refine lv_iload_n hx hb dX2_spoiling_61 rfl (lv_at hl 2 rfl) ?_
      refine lv_icmp_eq (tgt := 83) hx hb dX2_spoiling_62 (by decide) (fun c_25 => ?_) (fun c_25 => ?_)
      · skip
        have h_26 : rg 0 8 r_18 := rg_eq c_25 h_9
        obtain ⟨x_27, ex_27⟩ : ∃ y9 : Int32, y9 = (y_1.1 0) + 1 := ⟨_, rfl⟩
        have hx_27 : rg 1 9 x_27 := by rw [ex_27]; exact rg_add h_9 (rg_c (x := 1) (k := 1) (by decide)) (by decide) (by decide) (by decide) (by decide)
        have tx_27 : x_27.toInt = (y_1.1 0).toInt + 1 := by rw [ex_27]; exact inc_tk h_9 (by decide) (by decide) (by decide)
        refine lv_iinc (v := x_27) (lv' := [(2, .int x_27), (4, .int r_22), (3, .int r_18), (1, .int (y_1.1 1)), (0, .ref (a 14))]) hx hb dX2_spoiling_83 hl (k := 2) rfl (by rw [ex_27]; rfl) (by decide) rfl (fun ls hl => ?_)
        refine lv_goto (tgt := 4) hx hb dX2_spoiling_86 (by decide) ?_
        exact ih_6 (fun k => [x_27, (y_1.1 1), (u_21.1 0), (u_21.1 1), (u_21.1 2), (u_21.1 3), (u_21.1 4), (u_21.1 5), (u_21.1 6)].getD k 0, fun k => [(u_21.2.1 0), (u_21.2.1 1), (u_21.2.1 2)].getD k (fun _ => 0), fun k => [].getD k (fun _ => 0), fun k => [].getD k 0) _ _ ls ⟨(m_upk me_7 tx_27 (by decide)), (rg_w (c := 0) (d := 9) hx_27 (by decide) (by decide)), h_3, h_23, h_24, hP, hD, hS, (lv_sub hl [0, 3, 4] rfl)⟩
      · skip
        refine lv_iload hx hb dX2_spoiling_65 (lv_at hl 0 rfl) ?_
        refine lv_iload_n hx hb dX2_spoiling_67 rfl (lv_at hl 1 rfl) ?_
        refine lv_icmp_eq (tgt := 83) hx hb dX2_spoiling_68 (by decide) (fun c_28 => ?_) (fun c_28 => ?_)
        · skip
          obtain ⟨x_29, ex_29⟩ : ∃ y9 : Int32, y9 = (y_1.1 0) + 1 := ⟨_, rfl⟩
          have hx_29 : rg 1 9 x_29 := by rw [ex_29]; exact rg_add h_9 (rg_c (x := 1) (k := 1) (by decide)) (by decide) (by decide) (by decide) (by decide)
          have tx_29 : x_29.toInt = (y_1.1 0).toInt + 1 := by rw [ex_29]; exact inc_tk h_9 (by decide) (by decide) (by decide)
          refine lv_iinc (v := x_29) (lv' := [(2, .int x_29), (4, .int r_22), (3, .int r_18), (1, .int (y_1.1 1)), (0, .ref (a 14))]) hx hb dX2_spoiling_83 hl (k := 2) rfl (by rw [ex_29]; rfl) (by decide) rfl (fun ls hl => ?_)
          refine lv_goto (tgt := 4) hx hb dX2_spoiling_86 (by decide) ?_
          exact ih_6 (fun k => [x_29, (y_1.1 1), (u_21.1 0), (u_21.1 1), (u_21.1 2), (u_21.1 3), (u_21.1 4), (u_21.1 5), (u_21.1 6)].getD k 0, fun k => [(u_21.2.1 0), (u_21.2.1 1), (u_21.2.1 2)].getD k (fun _ => 0), fun k => [].getD k (fun _ => 0), fun k => [].getD k 0) _ _ ls ⟨(m_upk me_7 tx_29 (by decide)), (rg_w (c := 0) (d := 9) hx_29 (by decide) (by decide)), h_3, h_23, h_24, hP, hD, hS, (lv_sub hl [0, 3, 4] rfl)⟩
        · skip
          refine lv_iload hx hb dX2_spoiling_71 (lv_at hl 0 rfl) ?_
          refine lv_iconst (v := (-1)) hx hb dX2_spoiling_73 (by decide) ?_
          refine lv_icmp_eq (tgt := 83) hx hb dX2_spoiling_74 (by decide) (fun c_30 => ?_) (fun c_30 => ?_)
          · skip
            have h_31 : rg (-1) (-1) r_22 := rg_eq c_30 (rg_c (x := (-1)) (k := (-1)) (by decide))
            obtain ⟨x_32, ex_32⟩ : ∃ y9 : Int32, y9 = (y_1.1 0) + 1 := ⟨_, rfl⟩
            have hx_32 : rg 1 9 x_32 := by rw [ex_32]; exact rg_add h_9 (rg_c (x := 1) (k := 1) (by decide)) (by decide) (by decide) (by decide) (by decide)
            have tx_32 : x_32.toInt = (y_1.1 0).toInt + 1 := by rw [ex_32]; exact inc_tk h_9 (by decide) (by decide) (by decide)
            refine lv_iinc (v := x_32) (lv' := [(2, .int x_32), (4, .int r_22), (3, .int r_18), (1, .int (y_1.1 1)), (0, .ref (a 14))]) hx hb dX2_spoiling_83 hl (k := 2) rfl (by rw [ex_32]; rfl) (by decide) rfl (fun ls hl => ?_)
            refine lv_goto (tgt := 4) hx hb dX2_spoiling_86 (by decide) ?_
            exact ih_6 (fun k => [x_32, (y_1.1 1), (u_21.1 0), (u_21.1 1), (u_21.1 2), (u_21.1 3), (u_21.1 4), (u_21.1 5), (u_21.1 6)].getD k 0, fun k => [(u_21.2.1 0), (u_21.2.1 1), (u_21.2.1 2)].getD k (fun _ => 0), fun k => [].getD k (fun _ => 0), fun k => [].getD k 0) _ _ ls ⟨(m_upk me_7 tx_32 (by decide)), (rg_w (c := 0) (d := 9) hx_32 (by decide) (by decide)), h_3, h_23, h_24, hP, hD, hS, (lv_sub hl [0, 3, 4] rfl)⟩
          · skip
            have h_33 : rg 0 8 r_22 := rg_w (rg_neL hr_22 c_30 (by decide)) (by decide) (by decide)
            refine lv_iload_n hx hb dX2_spoiling_77 rfl (lv_at hl 3 rfl) ?_
            refine lv_iconst (v := 1) hx hb dX2_spoiling_78 (by decide) ?_
            refine lv_iload_n hx hb dX2_spoiling_79 rfl (lv_at hl 2 rfl) ?_
            refine lv_ishl hx hb dX2_spoiling_80 ?_
            refine lv_topi (fun x_34 ex_34 => ?_)
            have hx_34 : rg 1 256 x_34 := by rw [ex_34]; exact rg_shl1 (b := 8) h_9 (by decide) (by decide)
            refine lv_ior hx hb dX2_spoiling_81 ?_
            refine lv_topi (fun x_35 ex_35 => ?_)
            have hx_35 : rg 0 511 x_35 := by rw [ex_35]; exact rg_or (m := 9) h_3 (rg_w (c := 0) (d := 511) hx_34 (by decide) (by decide)) (by decide) (by decide)
            refine lv_istore_n (lv' := [(1, .int x_35), (4, .int r_22), (3, .int r_18), (2, .int (y_1.1 0)), (0, .ref (a 14))]) hx hb dX2_spoiling_82 rfl hl (by decide) rfl (fun ls hl => ?_)
            obtain ⟨x_36, ex_36⟩ : ∃ y9 : Int32, y9 = (y_1.1 0) + 1 := ⟨_, rfl⟩
            have hx_36 : rg 1 9 x_36 := by rw [ex_36]; exact rg_add h_9 (rg_c (x := 1) (k := 1) (by decide)) (by decide) (by decide) (by decide) (by decide)
            have tx_36 : x_36.toInt = (y_1.1 0).toInt + 1 := by rw [ex_36]; exact inc_tk h_9 (by decide) (by decide) (by decide)
            refine lv_iinc (v := x_36) (lv' := [(2, .int x_36), (1, .int x_35), (4, .int r_22), (3, .int r_18), (0, .ref (a 14))]) hx hb dX2_spoiling_83 hl (k := 3) rfl (by rw [ex_36]; rfl) (by decide) rfl (fun ls hl => ?_)
            refine lv_goto (tgt := 4) hx hb dX2_spoiling_86 (by decide) ?_
            exact ih_6 (fun k => [x_36, x_35, (u_21.1 0), (u_21.1 1), (u_21.1 2), (u_21.1 3), (u_21.1 4), (u_21.1 5), (u_21.1 6)].getD k 0, fun k => [(u_21.2.1 0), (u_21.2.1 1), (u_21.2.1 2)].getD k (fun _ => 0), fun k => [].getD k (fun _ => 0), fun k => [].getD k 0) _ _ ls ⟨(m_upk me_7 tx_36 (by decide)), (rg_w (c := 0) (d := 9) hx_36 (by decide) (by decide)), hx_35, h_23, h_24, hP, hD, hS, (lv_sub hl [0, 1, 4] rfl)⟩

set_option maxHeartbeats 4000000 in
set_option maxRecDepth 100000 in
theorem s_X2_inOrder (l : Launch) (D : va_G) (t : Nat → ClassId) (a : Nat → Nat) (v14_1 : Int32) (v14_2 : Int32) (v14_3 : Int32) (v14_6 : Int32) (v14_8 : Int32) (v14_9 : Int32) (v14_10 : Int32) (v14_11 : Int32) (v14_12 : Int32) (v40_0 : Int32) (v40_1 : Int32) (v40_2 : Int32) (v40_3 : Int32) (v40_4 : Int32) (v40_5 : Int32) (v40_6 : Int32) (v40_7 : Int32) (f120 : Nat → Int32) (p0 : Int32) (p1 : Int32) (r14_8 : rg 0 9 v14_8) (r14_9 : rg (-1) 8 v14_9) (r40_1 : rg 0 8 v40_1) (r40_5 : rg 0 4 v40_5) (r40_6 : rg 0 9 v40_6) (r40_7 : rg 0 9 v40_7) (rp0 : rg 0 8 p0) : Met l yX2_inOrder (wd yX2_inOrder cX2_inOrder 6 (some .int)) (RM 2 0 0) (PreP D (TY t) [.ref (a 14), .int p0, .int p1] [(a 14, .inr (2, [.ref (a 40), .int v14_1, .int v14_2, .int v14_3, .ref (a 120), .ref (a 121), .int v14_6, .ref (a 122), .int v14_8, .int v14_9, .int v14_10, .int v14_11, .int v14_12])), (a 40, .inr (0, [.int v40_0, .int v40_1, .int v40_2, .int v40_3, .int v40_4, .int v40_5, .int v40_6, .int v40_7, .ref (a 41), .ref (a 42), .ref (a 43), .ref (a 44), .ref (a 45), .ref (a 46), .ref (a 47), .ref (a 48), .ref (a 49), .ref (a 50), .ref (a 54)])), (a 120, .inl (t 0, 81, .inl f120))]) (QP (fun r => rg (-1) 8 r)) 0 0 NoF := by
  refine Met.ofW (cc := cX2_inOrder) (maxL := 6) (ret := (some .int)) (by decide) rfl ?_
  intro p e s m args below meth c s₁ B hml hv
  obtain ⟨rfl, hP, hK, hN⟩ := hv
  have hx := B.exec
  have hb := B.bytes
  have hr := B.returns
  have hts : ∀ w ∈ TB, w.before _ s = true := fun w h => atoms_spec (ws := wd yX2_inOrder cX2_inOrder 6 (some .int)) B.pre w (List.mem_cons_of_mem _ h)
  have hown : s.vm.findClass RX2 = some m.cls := findClass_of_methodNamed B.named
  have hlocks := B.notSynchronized
  have hF : CallFix p m c cX2_inOrder 6 s _ TB RX2 := ⟨hx, hb, hml, hown, hts⟩
  have hl := lv_entry ([.ref (a 14), .int p0, .int p1]) (n := 6) (Nat.le_of_ble_eq_true rfl)
  rw [lg_entry_eq]
  generalize (lg_sl ([.ref (a 14), .int p0, .int p1]) ++ List.replicate (6 - (lg_sl ([.ref (a 14), .int p0, .int p1])).length) Slot.unset).toArray = ls at hl ⊢
  have hl : lv_has ls 6 [(0, .ref (a 14)), (1, .int p0), (2, .int p1)] := hl
  have hS : va_S NoF s.heap s.heap [] := va_S.rf
  have hP : va_P D classes [(a 14, .inr (2, [.ref (a 40), .int v14_1, .int v14_2, .int v14_3, .ref (a 120), .ref (a 121), .int v14_6, .ref (a 122), .int v14_8, .int v14_9, .int v14_10, .int v14_11, .int v14_12])), (a 40, .inr (0, [.int v40_0, .int v40_1, .int v40_2, .int v40_3, .int v40_4, .int v40_5, .int v40_6, .int v40_7, .ref (a 41), .ref (a 42), .ref (a 43), .ref (a 44), .ref (a 45), .ref (a 46), .ref (a 47), .ref (a 48), .ref (a 49), .ref (a 50), .ref (a 54)])), (a 120, .inl (t 0, 81, .inl f120))] s.heap := hP
  refine lv_aload_n hx hb dX2_inOrder_0 rfl (lv_at hl 0 rfl) ?_
  refine va_get (D := D) (ci := 2) (v := .int v14_1) (C := RX2) (T := TX2) (N := 13) hx hb hts iX2 hown hK hP 0 rfl rfl 1 (by decide) (hts _ m_276) (fun _ h9 => h9) rfl dX2_inOrder_1 ?_
  refine lv_istore_n (lv' := [(3, .int v14_1), (0, .ref (a 14)), (1, .int p0), (2, .int p1)]) hx hb dX2_inOrder_4 rfl hl (by decide) rfl (fun ls hl => ?_)
  refine lv_iload_n hx hb dX2_inOrder_5 rfl (lv_at hl 3 rfl) ?_
  refine lv_if_ge (tgt := 13) hx hb dX2_inOrder_6 (by decide) (fun c_1 => ?_) (fun c_1 => ?_)
  · skip
    have h_2 : rg 0 2147483647 p1 := ⟨Int.le_trans (by decide) (c_leR c_1 (rg_c (x := 0) (k := 0) (by decide))), ((rg_any p1)).2⟩
    refine lv_aload_n hx hb dX2_inOrder_13 rfl (lv_at hl 1 rfl) ?_
    refine lv_iload_n hx hb dX2_inOrder_14 rfl (lv_at hl 2 rfl) ?_
    refine lv_iload_n hx hb dX2_inOrder_15 rfl (lv_at hl 0 rfl) ?_
    refine y_pV hF (s_X2_favourite l D t a v14_1 v14_2 v14_3 v14_6 v14_8 v14_9 v14_10 v14_11 v14_12 v40_0 v40_1 v40_2 v40_3 v40_4 v40_5 v40_6 v40_7 f120 p0 v14_1 r14_8 r14_9 r40_1 r40_5 r40_6 r40_7 rp0) m_783 m_785 m_s17 m_7 m_786 hd_X2_favourite ⟨Nat.le_of_ble_eq_true rfl, Nat.le_of_ble_eq_true rfl⟩ hK hN hP hS [0, 1, 2] rfl 0 (ci := 2) rfl rfl rfl hl.1 rfl (Nat.le_of_ble_eq_true rfl) dX2_inOrder_16 ⟨Nat.zero_le _, Nat.zero_le _⟩ (fun r_3 H locs hr_3 hP hS => ?_)
    refine lv_istore (lv' := [(4, .int r_3), (3, .int v14_1), (0, .ref (a 14)), (1, .int p0), (2, .int p1)]) hx hb dX2_inOrder_19 hl (by decide) rfl (fun ls hl => ?_)
    refine lv_iconst (v := 0) hx hb dX2_inOrder_21 (by decide) ?_
    refine lv_istore (lv' := [(5, .int 0), (4, .int r_3), (3, .int v14_1), (0, .ref (a 14)), (1, .int p0), (2, .int p1)]) hx hb dX2_inOrder_22 hl (by decide) rfl (fun ls hl => ?_)
    refine loopW (α := US) (fun n y_4 H locs ls => 9 < (y_4.1 0).toInt + (n : Int) ∧ rg 0 9 (y_4.1 0) ∧ rg (-1) 8 (y_4.1 1) ∧ va_P D classes [(a 14, .inr (2, [.ref (a 40), .int v14_1, .int v14_2, .int v14_3, .ref (a 120), .ref (a 121), .int v14_6, .ref (a 122), .int v14_8, .int v14_9, .int v14_10, .int v14_11, .int v14_12])), (a 40, .inr (0, [.int v40_0, .int v40_1, .int v40_2, .int v40_3, .int v40_4, .int v40_5, .int v40_6, .int v40_7, .ref (a 41), .ref (a 42), .ref (a 43), .ref (a 44), .ref (a 45), .ref (a 46), .ref (a 47), .ref (a 48), .ref (a 49), .ref (a 50), .ref (a 54)])), (a 120, .inl (t 0, 81, .inl f120))] H ∧ va_S NoF s.heap H locs ∧ lv_has ls 6 [(5, .int (y_4.1 0)), (4, .int (y_4.1 1)), (3, .int (y_4.1 2)), (0, .ref (a 14)), (1, .int p0), (2, .int p1)]) 24 (fun y_4 => []) (fun _ _ _ _ h9 => m_0 h9.1 h9.2.1) (fun n ih_7 y_4 H locs ls hI => ?_) 10 (fun k => [0, r_3, v14_1].getD k 0, fun k => [].getD k (fun _ => 0), fun k => [].getD k (fun _ => 0), fun k => [].getD k 0) ⟨(m_i (rg_c (x := 0) (k := 0) (by decide)) (by decide)), (rg_w (c := 0) (d := 9) (rg_c (x := 0) (k := 0) (by decide)) (by decide) (by decide)), hr_3, hP, hS, (lv_sub hl [0, 1, 2, 3, 4, 5] rfl)⟩
    obtain ⟨me_8, h_5, h_6, hP, hS, hl⟩ := hI
    refine lv_iload hx hb dX2_inOrder_24 (lv_at hl 0 rfl) ?_
    refine lv_bipush (v := 9) hx hb dX2_inOrder_26 (by decide) ?_
    refine lv_icmp_ge (tgt := 66) hx hb dX2_inOrder_28 (by decide) (fun c_9 => ?_) (fun c_9 => ?_)
    · skip
      have h_10 : rg 9 9 (y_4.1 0) := ⟨Int.le_trans (by decide) (c_leR c_9 (rg_c (x := 9) (k := 9) (by decide))), (h_5).2⟩
      refine lv_iload hx hb dX2_inOrder_66 (lv_at hl 1 rfl) ?_
      exact W.iret (v := (y_4.1 1)) hx hb hr (fun t9 ht hW => ⟨⟨(y_4.1 1), (), rfl, h_6, trivial⟩, hS.F ht⟩) hS.2.2 dX2_inOrder_68
    · skip
      have h_11 : rg 0 8 (y_4.1 0) := ⟨(h_5).1, Int.le_trans (c_nleR c_9 (rg_c (x := 9) (k := 9) (by decide))) (by decide)⟩
      refine lv_iload hx hb dX2_inOrder_31 (lv_at hl 0 rfl) ?_
      refine lv_iload_n hx hb dX2_inOrder_33 rfl (lv_at hl 5 rfl) ?_
      refine lv_icmp_ge (tgt := 66) hx hb dX2_inOrder_34 (by decide) (fun c_12 => ?_) (fun c_12 => ?_)
      · skip
        have h_13 : rg 0 8 p1 := ⟨(h_2).1, Int.le_trans (c_le c_12 h_11) (by decide)⟩
        refine lv_iload hx hb dX2_inOrder_66 (lv_at hl 1 rfl) ?_
        exact W.iret (v := (y_4.1 1)) hx hb hr (fun t9 ht hW => ⟨⟨(y_4.1 1), (), rfl, h_6, trivial⟩, hS.F ht⟩) hS.2.2 dX2_inOrder_68
      · skip
        have h_14 : rg 1 2147483647 p1 := ⟨Int.le_trans (by decide) (c_nle c_12 h_11), (h_2).2⟩
        refine lv_iload hx hb dX2_inOrder_37 (lv_at hl 1 rfl) ?_
        refine lv_iconst (v := (-1)) hx hb dX2_inOrder_39 (by decide) ?_
        refine lv_icmp_eq (tgt := 66) hx hb dX2_inOrder_40 (by decide) (fun c_15 => ?_) (fun c_15 => ?_)
        · skip
          have h_16 : rg (-1) (-1) (y_4.1 1) := rg_eq c_15 (rg_c (x := (-1)) (k := (-1)) (by decide))
          refine lv_iload hx hb dX2_inOrder_66 (lv_at hl 1 rfl) ?_
          exact W.iret (v := (y_4.1 1)) hx hb hr (fun t9 ht hW => ⟨⟨(y_4.1 1), (), rfl, (rg_w (c := (-1)) (d := 8) h_16 (by decide) (by decide)), trivial⟩, hS.F ht⟩) hS.2.2 dX2_inOrder_68
        · skip
          have h_17 : rg 0 8 (y_4.1 1) := rg_w (rg_neL h_6 c_15 (by decide)) (by decide) (by decide)
          refine lv_iload_n hx hb dX2_inOrder_43 rfl (lv_at hl 2 rfl) ?_
          refine lv_iconst (v := 1) hx hb dX2_inOrder_44 (by decide) ?_
          refine lv_iload hx hb dX2_inOrder_45 (lv_at hl 1 rfl) ?_
          refine lv_ishl hx hb dX2_inOrder_47 ?_
          refine lv_topi (fun x_18 ex_18 => ?_)
          have hx_18 : rg 1 256 x_18 := by rw [ex_18]; exact rg_shl1 (b := 8) h_17 (by decide) (by decide)
          refine lv_iconst (v := (-1)) hx hb dX2_inOrder_48 (by decide) ?_
          refine lv_ixor hx hb dX2_inOrder_49 ?_
          refine lv_topi (fun x_19 ex_19 => ?_)
          refine lv_iand hx hb dX2_inOrder_50 ?_
          refine lv_topi (fun x_20 ex_20 => ?_)
          refine lv_istore_n (lv' := [(3, .int x_20), (5, .int (y_4.1 0)), (4, .int (y_4.1 1)), (0, .ref (a 14)), (1, .int p0), (2, .int p1)]) hx hb dX2_inOrder_51 rfl hl (by decide) rfl (fun ls hl => ?_)
          refine lv_aload_n hx hb dX2_inOrder_52 rfl (lv_at hl 3 rfl) ?_
          refine lv_iload_n hx hb dX2_inOrder_53 rfl (lv_at hl 4 rfl) ?_
          refine lv_iload_n hx hb dX2_inOrder_54 rfl (lv_at hl 0 rfl) ?_
          refine y_pV hF (s_X2_favourite l D t a v14_1 v14_2 v14_3 v14_6 v14_8 v14_9 v14_10 v14_11 v14_12 v40_0 v40_1 v40_2 v40_3 v40_4 v40_5 v40_6 v40_7 f120 p0 x_20 r14_8 r14_9 r40_1 r40_5 r40_6 r40_7 rp0) m_783 m_785 m_s17 m_7 m_786 hd_X2_favourite ⟨Nat.le_of_ble_eq_true rfl, Nat.le_of_ble_eq_true rfl⟩ hK hN hP hS [0, 1, 2] rfl 0 (ci := 2) rfl rfl rfl hl.1 rfl (Nat.le_of_ble_eq_true rfl) dX2_inOrder_55 ⟨Nat.zero_le _, Nat.zero_le _⟩ (fun r_21 H locs hr_21 hP hS => ?_)
          refine lv_istore (lv' := [(4, .int r_21), (3, .int x_20), (5, .int (y_4.1 0)), (0, .ref (a 14)), (1, .int p0), (2, .int p1)]) hx hb dX2_inOrder_58 hl (by decide) rfl (fun ls hl => ?_)
          obtain ⟨x_22, ex_22⟩ : ∃ y9 : Int32, y9 = (y_4.1 0) + 1 := ⟨_, rfl⟩
          have hx_22 : rg 1 9 x_22 := by rw [ex_22]; exact rg_add h_11 (rg_c (x := 1) (k := 1) (by decide)) (by decide) (by decide) (by decide) (by decide)
          have tx_22 : x_22.toInt = (y_4.1 0).toInt + 1 := by rw [ex_22]; exact inc_tk h_11 (by decide) (by decide) (by decide)
          refine lv_iinc (v := x_22) (lv' := [(5, .int x_22), (4, .int r_21), (3, .int x_20), (0, .ref (a 14)), (1, .int p0), (2, .int p1)]) hx hb dX2_inOrder_60 hl (k := 2) rfl (by rw [ex_22]; rfl) (by decide) rfl (fun ls hl => ?_)
          refine lv_goto (tgt := 24) hx hb dX2_inOrder_63 (by decide) ?_
          exact ih_7 (fun k => [x_22, r_21, x_20].getD k 0, fun k => [].getD k (fun _ => 0), fun k => [].getD k (fun _ => 0), fun k => [].getD k 0) _ _ ls ⟨(m_upk me_8 tx_22 (by decide)), (rg_w (c := 0) (d := 9) hx_22 (by decide) (by decide)), hr_21, hP, hS, (lv_sub hl [0, 1, 2, 3, 4, 5] rfl)⟩
  · skip
    have h_23 : rg (-2147483648) (-1) p1 := ⟨((rg_any p1)).1, Int.le_trans (c_nleR c_1 (rg_c (x := 0) (k := 0) (by decide))) (by decide)⟩
    refine lv_iconst (v := (-1)) hx hb dX2_inOrder_9 (by decide) ?_
    refine lv_goto (tgt := 19) hx hb dX2_inOrder_10 (by decide) ?_
    refine lv_istore (lv' := [(4, .int (-1)), (3, .int v14_1), (0, .ref (a 14)), (1, .int p0), (2, .int p1)]) hx hb dX2_inOrder_19 hl (by decide) rfl (fun ls hl => ?_)
    refine lv_iconst (v := 0) hx hb dX2_inOrder_21 (by decide) ?_
    refine lv_istore (lv' := [(5, .int 0), (4, .int (-1)), (3, .int v14_1), (0, .ref (a 14)), (1, .int p0), (2, .int p1)]) hx hb dX2_inOrder_22 hl (by decide) rfl (fun ls hl => ?_)
    refine loopW (α := US) (fun n y_24 H locs ls => 9 < (y_24.1 0).toInt + (n : Int) ∧ rg 0 9 (y_24.1 0) ∧ rg (-1) 8 (y_24.1 1) ∧ va_P D classes [(a 14, .inr (2, [.ref (a 40), .int v14_1, .int v14_2, .int v14_3, .ref (a 120), .ref (a 121), .int v14_6, .ref (a 122), .int v14_8, .int v14_9, .int v14_10, .int v14_11, .int v14_12])), (a 40, .inr (0, [.int v40_0, .int v40_1, .int v40_2, .int v40_3, .int v40_4, .int v40_5, .int v40_6, .int v40_7, .ref (a 41), .ref (a 42), .ref (a 43), .ref (a 44), .ref (a 45), .ref (a 46), .ref (a 47), .ref (a 48), .ref (a 49), .ref (a 50), .ref (a 54)])), (a 120, .inl (t 0, 81, .inl f120))] H ∧ va_S NoF s.heap H locs ∧ lv_has ls 6 [(5, .int (y_24.1 0)), (4, .int (y_24.1 1)), (3, .int (y_24.1 2)), (0, .ref (a 14)), (1, .int p0), (2, .int p1)]) 24 (fun y_24 => []) (fun _ _ _ _ h9 => m_0 h9.1 h9.2.1) (fun n ih_27 y_24 H locs ls hI => ?_) 10 (fun k => [0, (-1), v14_1].getD k 0, fun k => [].getD k (fun _ => 0), fun k => [].getD k (fun _ => 0), fun k => [].getD k 0) ⟨(m_i (rg_c (x := 0) (k := 0) (by decide)) (by decide)), (rg_w (c := 0) (d := 9) (rg_c (x := 0) (k := 0) (by decide)) (by decide) (by decide)), (rg_w (c := (-1)) (d := 8) (rg_c (x := (-1)) (k := (-1)) (by decide)) (by decide) (by decide)), hP, hS, (lv_sub hl [0, 1, 2, 3, 4, 5] rfl)⟩
    obtain ⟨me_28, h_25, h_26, hP, hS, hl⟩ := hI
    refine lv_iload hx hb dX2_inOrder_24 (lv_at hl 0 rfl) ?_
    refine lv_bipush (v := 9) hx hb dX2_inOrder_26 (by decide) ?_
    refine lv_icmp_ge (tgt := 66) hx hb dX2_inOrder_28 (by decide) (fun c_29 => ?_) (fun c_29 => ?_)
    · skip
      have h_30 : rg 9 9 (y_24.1 0) := ⟨Int.le_trans (by decide) (c_leR c_29 (rg_c (x := 9) (k := 9) (by decide))), (h_25).2⟩
      refine lv_iload hx hb dX2_inOrder_66 (lv_at hl 1 rfl) ?_
      exact W.iret (v := (y_24.1 1)) hx hb hr (fun t9 ht hW => ⟨⟨(y_24.1 1), (), rfl, h_26, trivial⟩, hS.F ht⟩) hS.2.2 dX2_inOrder_68
    · skip
      have h_31 : rg 0 8 (y_24.1 0) := ⟨(h_25).1, Int.le_trans (c_nleR c_29 (rg_c (x := 9) (k := 9) (by decide))) (by decide)⟩
      refine lv_iload hx hb dX2_inOrder_31 (lv_at hl 0 rfl) ?_
      refine lv_iload_n hx hb dX2_inOrder_33 rfl (lv_at hl 5 rfl) ?_
      refine lv_icmp_ge (tgt := 66) hx hb dX2_inOrder_34 (by decide) (fun c_32 => ?_) (fun c_32 => False.elim (by have q1 := (h_31).1; have q2 := (h_31).2; have q3 := (h_23).1; have q4 := (h_23).2; have q5 := t_nle c_32; omega))
      refine lv_iload hx hb dX2_inOrder_66 (lv_at hl 1 rfl) ?_
      exact W.iret (v := (y_24.1 1)) hx hb hr (fun t9 ht hW => ⟨⟨(y_24.1 1), (), rfl, h_26, trivial⟩, hS.F ht⟩) hS.2.2 dX2_inOrder_68

set_option maxHeartbeats 4000000 in
set_option maxRecDepth 100000 in
theorem s_X2_fallenAt (l : Launch) (D : va_G) (t : Nat → ClassId) (a : Nat → Nat) (v14_1 : Int32) (v14_2 : Int32) (v14_3 : Int32) (v14_6 : Int32) (v14_8 : Int32) (v14_9 : Int32) (v14_10 : Int32) (v14_11 : Int32) (v14_12 : Int32) (f122 : Nat → Int32) (p0 : Int32) (r14_8 : rg 0 9 v14_8) (r14_9 : rg (-1) 8 v14_9) : Met l yX2_fallenAt (wd yX2_fallenAt cX2_fallenAt 2 (some .int)) (RM 0 0 0) (PreP D (TY t) [.ref (a 14), .int p0] [(a 14, .inr (2, [.ref (a 40), .int v14_1, .int v14_2, .int v14_3, .ref (a 120), .ref (a 121), .int v14_6, .ref (a 122), .int v14_8, .int v14_9, .int v14_10, .int v14_11, .int v14_12])), (a 122, .inl (t 0, 9, .inl f122))]) (QP (fun _ => True)) 0 0 NoF := by
  refine Met.ofW (cc := cX2_fallenAt) (maxL := 2) (ret := (some .int)) (by decide) rfl ?_
  intro p e s m args below meth c s₁ B hml hv
  obtain ⟨rfl, hP, hK, hN⟩ := hv
  have hx := B.exec
  have hb := B.bytes
  have hr := B.returns
  have hts : ∀ w ∈ TB, w.before _ s = true := fun w h => atoms_spec (ws := wd yX2_fallenAt cX2_fallenAt 2 (some .int)) B.pre w (List.mem_cons_of_mem _ h)
  have hown : s.vm.findClass RX2 = some m.cls := findClass_of_methodNamed B.named
  have hlocks := B.notSynchronized
  have hF : CallFix p m c cX2_fallenAt 2 s _ TB RX2 := ⟨hx, hb, hml, hown, hts⟩
  have hl := lv_entry ([.ref (a 14), .int p0]) (n := 2) (Nat.le_of_ble_eq_true rfl)
  rw [lg_entry_eq]
  generalize (lg_sl ([.ref (a 14), .int p0]) ++ List.replicate (2 - (lg_sl ([.ref (a 14), .int p0])).length) Slot.unset).toArray = ls at hl ⊢
  have hl : lv_has ls 2 [(0, .ref (a 14)), (1, .int p0)] := hl
  have hS : va_S NoF s.heap s.heap [] := va_S.rf
  have hP : va_P D classes [(a 14, .inr (2, [.ref (a 40), .int v14_1, .int v14_2, .int v14_3, .ref (a 120), .ref (a 121), .int v14_6, .ref (a 122), .int v14_8, .int v14_9, .int v14_10, .int v14_11, .int v14_12])), (a 122, .inl (t 0, 9, .inl f122))] s.heap := hP
  refine lv_iload_n hx hb dX2_fallenAt_0 rfl (lv_at hl 1 rfl) ?_
  refine lv_if_lt (tgt := 21) hx hb dX2_fallenAt_1 (by decide) (fun c_1 => ?_) (fun c_1 => ?_)
  · skip
    have h_2 : rg (-2147483648) (-1) p0 := ⟨((rg_any p0)).1, Int.le_trans (c_lt c_1 (rg_c (x := 0) (k := 0) (by decide))) (by decide)⟩
    refine lv_iconst (v := (-1)) hx hb dX2_fallenAt_21 (by decide) ?_
    exact W.iret (v := (-1)) hx hb hr (fun t9 ht hW => ⟨⟨(-1), (), rfl, trivial, trivial⟩, hS.F ht⟩) hS.2.2 dX2_fallenAt_22
  · skip
    have h_3 : rg 0 2147483647 p0 := ⟨Int.le_trans (by decide) (c_nlt c_1 (rg_c (x := 0) (k := 0) (by decide))), ((rg_any p0)).2⟩
    refine lv_iload_n hx hb dX2_fallenAt_4 rfl (lv_at hl 1 rfl) ?_
    refine lv_aload_n hx hb dX2_fallenAt_5 rfl (lv_at hl 0 rfl) ?_
    refine va_get (D := D) (ci := 2) (v := .int v14_8) (C := RX2) (T := TX2) (N := 13) hx hb hts iX2 hown hK hP 0 rfl rfl 8 (by decide) (hts _ m_289) (fun _ h9 => h9) rfl dX2_fallenAt_6 ?_
    refine lv_icmp_ge (tgt := 21) hx hb dX2_fallenAt_9 (by decide) (fun c_4 => ?_) (fun c_4 => ?_)
    · skip
      refine lv_iconst (v := (-1)) hx hb dX2_fallenAt_21 (by decide) ?_
      exact W.iret (v := (-1)) hx hb hr (fun t9 ht hW => ⟨⟨(-1), (), rfl, trivial, trivial⟩, hS.F ht⟩) hS.2.2 dX2_fallenAt_22
    · skip
      have h_5 : rg 0 8 p0 := ⟨(h_3).1, Int.le_trans (c_nleR c_4 r14_8) (by decide)⟩
      have h_6 : rg 1 9 v14_8 := ⟨Int.le_trans (by decide) (c_nle c_4 h_3), (r14_8).2⟩
      refine lv_aload_n hx hb dX2_fallenAt_12 rfl (lv_at hl 0 rfl) ?_
      refine va_get (D := D) (ci := 2) (v := .ref (a 122)) (C := RX2) (T := TX2) (N := 13) hx hb hts iX2 hown hK hP 0 rfl rfl 7 (by decide) (hts _ m_288) (fun _ h9 => h9) rfl dX2_fallenAt_13 ?_
      refine lv_iload_n hx hb dX2_fallenAt_16 rfl (lv_at hl 1 rfl) ?_
      refine va_iald hx hb hK hP 1 0 rfl rfl (in_rg h_5 (by decide) (by decide)) dX2_fallenAt_17 ?_
      refine lv_topi (fun x_7 ex_7 => ?_)
      refine lv_goto (tgt := 22) hx hb dX2_fallenAt_18 (by decide) ?_
      exact W.iret (v := x_7) hx hb hr (fun t9 ht hW => ⟨⟨x_7, (), rfl, trivial, trivial⟩, hS.F ht⟩) hS.2.2 dX2_fallenAt_22

set_option maxHeartbeats 4000000 in
set_option maxRecDepth 100000 in
theorem s_X2_ahead (l : Launch) (D : va_G) (t : Nat → ClassId) (a : Nat → Nat) (v14_1 : Int32) (v14_2 : Int32) (v14_3 : Int32) (v14_6 : Int32) (v14_8 : Int32) (v14_9 : Int32) (v14_10 : Int32) (v14_11 : Int32) (v14_12 : Int32) (v40_0 : Int32) (v40_1 : Int32) (v40_2 : Int32) (v40_3 : Int32) (v40_4 : Int32) (v40_5 : Int32) (v40_6 : Int32) (v40_7 : Int32) (f47 : Nat → Int32) (f120 : Nat → Int32) (p0 : Int32) (p1 : Int32) (r14_8 : rg 0 9 v14_8) (r14_9 : rg (-1) 8 v14_9) (r40_1 : rg 0 8 v40_1) (r40_5 : rg 0 4 v40_5) (r40_6 : rg 0 9 v40_6) (r40_7 : rg 0 9 v40_7) (rp0 : rg 0 8 p0) (rp1 : rg 0 8 p1) : Met l yX2_ahead (wd yX2_ahead cX2_ahead 5 (some .int)) (RM 1 0 0) (PreP D (TY t) [.ref (a 14), .int p0, .int p1] [(a 14, .inr (2, [.ref (a 40), .int v14_1, .int v14_2, .int v14_3, .ref (a 120), .ref (a 121), .int v14_6, .ref (a 122), .int v14_8, .int v14_9, .int v14_10, .int v14_11, .int v14_12])), (a 40, .inr (0, [.int v40_0, .int v40_1, .int v40_2, .int v40_3, .int v40_4, .int v40_5, .int v40_6, .int v40_7, .ref (a 41), .ref (a 42), .ref (a 43), .ref (a 44), .ref (a 45), .ref (a 46), .ref (a 47), .ref (a 48), .ref (a 49), .ref (a 50), .ref (a 54)])), (a 47, .inl (t 0, 9, .inl f47)), (a 120, .inl (t 0, 81, .inl f120))]) (QP (fun _ => True)) 0 0 NoF := by
  refine Met.ofW (cc := cX2_ahead) (maxL := 5) (ret := (some .int)) (by decide) rfl ?_
  intro p e s m args below meth c s₁ B hml hv
  obtain ⟨rfl, hP, hK, hN⟩ := hv
  have hx := B.exec
  have hb := B.bytes
  have hr := B.returns
  have hts : ∀ w ∈ TB, w.before _ s = true := fun w h => atoms_spec (ws := wd yX2_ahead cX2_ahead 5 (some .int)) B.pre w (List.mem_cons_of_mem _ h)
  have hown : s.vm.findClass RX2 = some m.cls := findClass_of_methodNamed B.named
  have hlocks := B.notSynchronized
  have hF : CallFix p m c cX2_ahead 5 s _ TB RX2 := ⟨hx, hb, hml, hown, hts⟩
  have hl := lv_entry ([.ref (a 14), .int p0, .int p1]) (n := 5) (Nat.le_of_ble_eq_true rfl)
  rw [lg_entry_eq]
  generalize (lg_sl ([.ref (a 14), .int p0, .int p1]) ++ List.replicate (5 - (lg_sl ([.ref (a 14), .int p0, .int p1])).length) Slot.unset).toArray = ls at hl ⊢
  have hl : lv_has ls 5 [(0, .ref (a 14)), (1, .int p0), (2, .int p1)] := hl
  have hS : va_S NoF s.heap s.heap [] := va_S.rf
  have hP : va_P D classes [(a 14, .inr (2, [.ref (a 40), .int v14_1, .int v14_2, .int v14_3, .ref (a 120), .ref (a 121), .int v14_6, .ref (a 122), .int v14_8, .int v14_9, .int v14_10, .int v14_11, .int v14_12])), (a 40, .inr (0, [.int v40_0, .int v40_1, .int v40_2, .int v40_3, .int v40_4, .int v40_5, .int v40_6, .int v40_7, .ref (a 41), .ref (a 42), .ref (a 43), .ref (a 44), .ref (a 45), .ref (a 46), .ref (a 47), .ref (a 48), .ref (a 49), .ref (a 50), .ref (a 54)])), (a 47, .inl (t 0, 9, .inl f47)), (a 120, .inl (t 0, 81, .inl f120))] s.heap := hP
  refine lv_iconst (v := 0) hx hb dX2_ahead_0 (by decide) ?_
  refine lv_istore_n (lv' := [(3, .int 0), (0, .ref (a 14)), (1, .int p0), (2, .int p1)]) hx hb dX2_ahead_1 rfl hl (by decide) rfl (fun ls hl => ?_)
  refine lv_iconst (v := 0) hx hb dX2_ahead_2 (by decide) ?_
  refine lv_istore (lv' := [(4, .int 0), (3, .int 0), (0, .ref (a 14)), (1, .int p0), (2, .int p1)]) hx hb dX2_ahead_3 hl (by decide) rfl (fun ls hl => ?_)
  refine loopW (α := US) (fun n y_1 H locs ls => 9 < (y_1.1 0).toInt + (n : Int) ∧ rg 0 9 (y_1.1 0) ∧ va_P D classes [(a 14, .inr (2, [.ref (a 40), .int v14_1, .int v14_2, .int v14_3, .ref (a 120), .ref (a 121), .int v14_6, .ref (a 122), .int v14_8, .int v14_9, .int v14_10, .int v14_11, .int v14_12])), (a 40, .inr (0, [.int v40_0, .int v40_1, .int v40_2, .int v40_3, .int v40_4, .int v40_5, .int v40_6, .int v40_7, .ref (a 41), .ref (a 42), .ref (a 43), .ref (a 44), .ref (a 45), .ref (a 46), .ref (a 47), .ref (a 48), .ref (a 49), .ref (a 50), .ref (a 54)])), (a 47, .inl (t 0, 9, .inl f47)), (a 120, .inl (t 0, 81, .inl f120))] H ∧ va_S NoF s.heap H locs ∧ lv_has ls 5 [(4, .int (y_1.1 0)), (3, .int (y_1.1 1)), (0, .ref (a 14)), (1, .int p0), (2, .int p1)]) 5 (fun y_1 => []) (fun _ _ _ _ h9 => m_0 h9.1 h9.2.1) (fun n ih_3 y_1 H locs ls hI => ?_) 10 (fun k => [0, 0].getD k 0, fun k => [].getD k (fun _ => 0), fun k => [].getD k (fun _ => 0), fun k => [].getD k 0) ⟨(m_i (rg_c (x := 0) (k := 0) (by decide)) (by decide)), (rg_w (c := 0) (d := 9) (rg_c (x := 0) (k := 0) (by decide)) (by decide) (by decide)), hP, hS, (lv_sub hl [0, 1, 2, 3, 4] rfl)⟩
  obtain ⟨me_4, h_2, hP, hS, hl⟩ := hI
  refine lv_iload hx hb dX2_ahead_5 (lv_at hl 0 rfl) ?_
  refine lv_aload_n hx hb dX2_ahead_7 rfl (lv_at hl 2 rfl) ?_
  refine va_get (D := D) (ci := 2) (v := .ref (a 40)) (C := RX2) (T := TX2) (N := 13) hx hb hts iX2 hown hK hP 0 rfl rfl 0 (by decide) (hts _ m_275) (fun _ h9 => h9) rfl dX2_ahead_8 ?_
  refine va_getN (D := D) (ci := 0) (v := .int v40_7) (C := RX0) (T := TX0) (N := 19) (host := "WordSeats") hx hb hts iX0 hown hK hP 1 rfl rfl 7 (by decide) (va_Nw.use rfl (hN _ n_148)) (fun _ h9 => h9) rfl dX2_ahead_11 ?_
  refine lv_icmp_ge (tgt := 65) hx hb dX2_ahead_14 (by decide) (fun c_5 => ?_) (fun c_5 => ?_)
  · skip
    refine lv_iload_n hx hb dX2_ahead_65 rfl (lv_at hl 1 rfl) ?_
    exact W.iret (v := (y_1.1 1)) hx hb hr (fun t9 ht hW => ⟨⟨(y_1.1 1), (), rfl, trivial, trivial⟩, hS.F ht⟩) hS.2.2 dX2_ahead_66
  · skip
    have h_6 : rg 0 8 (y_1.1 0) := ⟨(h_2).1, Int.le_trans (c_nleR c_5 r40_7) (by decide)⟩
    have h_7 : rg 1 9 v40_7 := ⟨Int.le_trans (by decide) (c_nle c_5 h_2), (r40_7).2⟩
    refine lv_aload_n hx hb dX2_ahead_17 rfl (lv_at hl 2 rfl) ?_
    refine va_get (D := D) (ci := 2) (v := .int v14_2) (C := RX2) (T := TX2) (N := 13) hx hb hts iX2 hown hK hP 0 rfl rfl 2 (by decide) (hts _ m_279) (fun _ h9 => h9) rfl dX2_ahead_18 ?_
    refine lv_iload hx hb dX2_ahead_21 (lv_at hl 0 rfl) ?_
    refine y_pSN hF (s_X11_holds l D t a v14_2 (y_1.1 0)) n_771 m_707 m_1 m_708 hd_X11_holds ⟨Nat.le_of_ble_eq_true rfl, Nat.le_of_ble_eq_true rfl⟩ hK hN hP hS [] rfl hl.1 rfl (Nat.le_of_ble_eq_true rfl) dX2_ahead_23 ⟨Nat.zero_le _, Nat.zero_le _⟩ (fun r_8 H locs hr_8 hP hS => ?_)
    refine lv_if_eq (tgt := 59) hx hb dX2_ahead_26 (by decide) (fun c_9 => ?_) (fun c_9 => ?_)
    · skip
      have h_10 : rg 0 0 r_8 := rg_eq c_9 (rg_c (x := 0) (k := 0) (by decide))
      obtain ⟨x_11, ex_11⟩ : ∃ y9 : Int32, y9 = (y_1.1 0) + 1 := ⟨_, rfl⟩
      have hx_11 : rg 1 9 x_11 := by rw [ex_11]; exact rg_add h_6 (rg_c (x := 1) (k := 1) (by decide)) (by decide) (by decide) (by decide) (by decide)
      have tx_11 : x_11.toInt = (y_1.1 0).toInt + 1 := by rw [ex_11]; exact inc_tk h_6 (by decide) (by decide) (by decide)
      refine lv_iinc (v := x_11) (lv' := [(4, .int x_11), (3, .int (y_1.1 1)), (0, .ref (a 14)), (1, .int p0), (2, .int p1)]) hx hb dX2_ahead_59 hl (k := 0) rfl (by rw [ex_11]; rfl) (by decide) rfl (fun ls hl => ?_)
      refine lv_goto (tgt := 5) hx hb dX2_ahead_62 (by decide) ?_
      exact ih_3 (fun k => [x_11, (y_1.1 1)].getD k 0, fun k => [].getD k (fun _ => 0), fun k => [].getD k (fun _ => 0), fun k => [].getD k 0) _ _ ls ⟨(m_upk me_4 tx_11 (by decide)), (rg_w (c := 0) (d := 9) hx_11 (by decide) (by decide)), hP, hS, (lv_sub hl [0, 1, 2, 3, 4] rfl)⟩
    · skip
      have h_12 : rg 1 1 r_8 := rg_w (rg_neL hr_8 c_9 (by decide)) (by decide) (by decide)
      refine lv_aload_n hx hb dX2_ahead_29 rfl (lv_at hl 2 rfl) ?_
      refine lv_iload hx hb dX2_ahead_30 (lv_at hl 0 rfl) ?_
      refine lv_iload_n hx hb dX2_ahead_32 rfl (lv_at hl 3 rfl) ?_
      refine y_pV hF (s_X2_zealOf l D t a v14_1 v14_2 v14_3 v14_6 v14_8 v14_9 v14_10 v14_11 v14_12 f120 (y_1.1 0) p0 r14_8 r14_9 h_6 rp0) m_787 m_789 m_s18 m_7 m_790 hd_X2_zealOf ⟨Nat.le_of_ble_eq_true rfl, Nat.le_of_ble_eq_true rfl⟩ hK hN hP hS [0, 3] rfl 0 (ci := 2) rfl rfl rfl hl.1 rfl (Nat.le_of_ble_eq_true rfl) dX2_ahead_33 ⟨Nat.zero_le _, Nat.zero_le _⟩ (fun r_13 H locs hr_13 hP hS => ?_)
      refine lv_aload_n hx hb dX2_ahead_36 rfl (lv_at hl 2 rfl) ?_
      refine lv_iload hx hb dX2_ahead_37 (lv_at hl 0 rfl) ?_
      refine lv_iload_n hx hb dX2_ahead_39 rfl (lv_at hl 4 rfl) ?_
      refine y_pV hF (s_X2_zealOf l D t a v14_1 v14_2 v14_3 v14_6 v14_8 v14_9 v14_10 v14_11 v14_12 f120 (y_1.1 0) p1 r14_8 r14_9 h_6 rp1) m_787 m_789 m_s18 m_7 m_790 hd_X2_zealOf ⟨Nat.le_of_ble_eq_true rfl, Nat.le_of_ble_eq_true rfl⟩ hK hN hP hS [0, 3] rfl 0 (ci := 2) rfl rfl rfl hl.1 rfl (Nat.le_of_ble_eq_true rfl) dX2_ahead_40 ⟨Nat.zero_le _, Nat.zero_le _⟩ (fun r_14 H locs hr_14 hP hS => ?_)
      refine lv_icmp_le (tgt := 59) hx hb dX2_ahead_43 (by decide) (fun c_15 => ?_) (fun c_15 => ?_)
      · skip
        obtain ⟨x_16, ex_16⟩ : ∃ y9 : Int32, y9 = (y_1.1 0) + 1 := ⟨_, rfl⟩
        have hx_16 : rg 1 9 x_16 := by rw [ex_16]; exact rg_add h_6 (rg_c (x := 1) (k := 1) (by decide)) (by decide) (by decide) (by decide) (by decide)
        have tx_16 : x_16.toInt = (y_1.1 0).toInt + 1 := by rw [ex_16]; exact inc_tk h_6 (by decide) (by decide) (by decide)
        refine lv_iinc (v := x_16) (lv' := [(4, .int x_16), (3, .int (y_1.1 1)), (0, .ref (a 14)), (1, .int p0), (2, .int p1)]) hx hb dX2_ahead_59 hl (k := 0) rfl (by rw [ex_16]; rfl) (by decide) rfl (fun ls hl => ?_)
        refine lv_goto (tgt := 5) hx hb dX2_ahead_62 (by decide) ?_
        exact ih_3 (fun k => [x_16, (y_1.1 1)].getD k 0, fun k => [].getD k (fun _ => 0), fun k => [].getD k (fun _ => 0), fun k => [].getD k 0) _ _ ls ⟨(m_upk me_4 tx_16 (by decide)), (rg_w (c := 0) (d := 9) hx_16 (by decide) (by decide)), hP, hS, (lv_sub hl [0, 1, 2, 3, 4] rfl)⟩
      · skip
        have h_17 : rg (-2147483647) 2147483647 r_13 := ⟨Int.le_trans (by decide) (c_nle c_15 (rg_any r_14)), ((rg_any r_13)).2⟩
        have h_18 : rg (-2147483648) 2147483646 r_14 := ⟨((rg_any r_14)).1, Int.le_trans (c_nleR c_15 (rg_any r_13)) (by decide)⟩
        refine lv_iload_n hx hb dX2_ahead_46 rfl (lv_at hl 1 rfl) ?_
        refine lv_aload_n hx hb dX2_ahead_47 rfl (lv_at hl 2 rfl) ?_
        refine va_get (D := D) (ci := 2) (v := .ref (a 40)) (C := RX2) (T := TX2) (N := 13) hx hb hts iX2 hown hK hP 0 rfl rfl 0 (by decide) (hts _ m_275) (fun _ h9 => h9) rfl dX2_ahead_48 ?_
        refine va_getN (D := D) (ci := 0) (v := .ref (a 47)) (C := RX0) (T := TX0) (N := 19) (host := "WordSeats") hx hb hts iX0 hown hK hP 1 rfl rfl 14 (by decide) (va_Nw.use rfl (hN _ n_177)) (fun _ h9 => h9) rfl dX2_ahead_51 ?_
        refine lv_iload hx hb dX2_ahead_54 (lv_at hl 0 rfl) ?_
        refine va_iald hx hb hK hP 2 0 rfl rfl (in_rg h_6 (by decide) (by decide)) dX2_ahead_56 ?_
        refine lv_topi (fun x_19 ex_19 => ?_)
        refine lv_iadd hx hb dX2_ahead_57 ?_
        refine lv_topi (fun x_20 ex_20 => ?_)
        refine lv_istore_n (lv' := [(3, .int x_20), (4, .int (y_1.1 0)), (0, .ref (a 14)), (1, .int p0), (2, .int p1)]) hx hb dX2_ahead_58 rfl hl (by decide) rfl (fun ls hl => ?_)
        obtain ⟨x_21, ex_21⟩ : ∃ y9 : Int32, y9 = (y_1.1 0) + 1 := ⟨_, rfl⟩
        have hx_21 : rg 1 9 x_21 := by rw [ex_21]; exact rg_add h_6 (rg_c (x := 1) (k := 1) (by decide)) (by decide) (by decide) (by decide) (by decide)
        have tx_21 : x_21.toInt = (y_1.1 0).toInt + 1 := by rw [ex_21]; exact inc_tk h_6 (by decide) (by decide) (by decide)
        refine lv_iinc (v := x_21) (lv' := [(4, .int x_21), (3, .int x_20), (0, .ref (a 14)), (1, .int p0), (2, .int p1)]) hx hb dX2_ahead_59 hl (k := 1) rfl (by rw [ex_21]; rfl) (by decide) rfl (fun ls hl => ?_)
        refine lv_goto (tgt := 5) hx hb dX2_ahead_62 (by decide) ?_
        exact ih_3 (fun k => [x_21, x_20].getD k 0, fun k => [].getD k (fun _ => 0), fun k => [].getD k (fun _ => 0), fun k => [].getD k 0) _ _ ls ⟨(m_upk me_4 tx_21 (by decide)), (rg_w (c := 0) (d := 9) hx_21 (by decide) (by decide)), hP, hS, (lv_sub hl [0, 1, 2, 3, 4] rfl)⟩

set_option maxHeartbeats 4000000 in
set_option maxRecDepth 100000 in
theorem s_X2_beatsEach (l : Launch) (D : va_G) (t : Nat → ClassId) (a : Nat → Nat) (v14_1 : Int32) (v14_2 : Int32) (v14_3 : Int32) (v14_6 : Int32) (v14_8 : Int32) (v14_9 : Int32) (v14_10 : Int32) (v14_11 : Int32) (v14_12 : Int32) (v40_0 : Int32) (v40_1 : Int32) (v40_2 : Int32) (v40_3 : Int32) (v40_4 : Int32) (v40_5 : Int32) (v40_6 : Int32) (v40_7 : Int32) (f47 : Nat → Int32) (f120 : Nat → Int32) (p0 : Int32) (r14_8 : rg 0 9 v14_8) (r14_9 : rg (-1) 8 v14_9) (r40_1 : rg 0 8 v40_1) (r40_5 : rg 0 4 v40_5) (r40_6 : rg 0 9 v40_6) (r40_7 : rg 0 9 v40_7) (rp0 : rg 0 8 p0) : Met l yX2_beatsEach (wd yX2_beatsEach cX2_beatsEach 3 (some .boolean)) (RM 2 0 0) (PreP D (TY t) [.ref (a 14), .int p0] [(a 14, .inr (2, [.ref (a 40), .int v14_1, .int v14_2, .int v14_3, .ref (a 120), .ref (a 121), .int v14_6, .ref (a 122), .int v14_8, .int v14_9, .int v14_10, .int v14_11, .int v14_12])), (a 40, .inr (0, [.int v40_0, .int v40_1, .int v40_2, .int v40_3, .int v40_4, .int v40_5, .int v40_6, .int v40_7, .ref (a 41), .ref (a 42), .ref (a 43), .ref (a 44), .ref (a 45), .ref (a 46), .ref (a 47), .ref (a 48), .ref (a 49), .ref (a 50), .ref (a 54)])), (a 47, .inl (t 0, 9, .inl f47)), (a 120, .inl (t 0, 81, .inl f120))]) (QP (fun r => rg 0 1 r)) 0 0 NoF := by
  refine Met.ofW (cc := cX2_beatsEach) (maxL := 3) (ret := (some .boolean)) (by decide) rfl ?_
  intro p e s m args below meth c s₁ B hml hv
  obtain ⟨rfl, hP, hK, hN⟩ := hv
  have hx := B.exec
  have hb := B.bytes
  have hr := B.returns
  have hts : ∀ w ∈ TB, w.before _ s = true := fun w h => atoms_spec (ws := wd yX2_beatsEach cX2_beatsEach 3 (some .boolean)) B.pre w (List.mem_cons_of_mem _ h)
  have hown : s.vm.findClass RX2 = some m.cls := findClass_of_methodNamed B.named
  have hlocks := B.notSynchronized
  have hF : CallFix p m c cX2_beatsEach 3 s _ TB RX2 := ⟨hx, hb, hml, hown, hts⟩
  have hl := lv_entry ([.ref (a 14), .int p0]) (n := 3) (Nat.le_of_ble_eq_true rfl)
  rw [lg_entry_eq]
  generalize (lg_sl ([.ref (a 14), .int p0]) ++ List.replicate (3 - (lg_sl ([.ref (a 14), .int p0])).length) Slot.unset).toArray = ls at hl ⊢
  have hl : lv_has ls 3 [(0, .ref (a 14)), (1, .int p0)] := hl
  have hS : va_S NoF s.heap s.heap [] := va_S.rf
  have hP : va_P D classes [(a 14, .inr (2, [.ref (a 40), .int v14_1, .int v14_2, .int v14_3, .ref (a 120), .ref (a 121), .int v14_6, .ref (a 122), .int v14_8, .int v14_9, .int v14_10, .int v14_11, .int v14_12])), (a 40, .inr (0, [.int v40_0, .int v40_1, .int v40_2, .int v40_3, .int v40_4, .int v40_5, .int v40_6, .int v40_7, .ref (a 41), .ref (a 42), .ref (a 43), .ref (a 44), .ref (a 45), .ref (a 46), .ref (a 47), .ref (a 48), .ref (a 49), .ref (a 50), .ref (a 54)])), (a 47, .inl (t 0, 9, .inl f47)), (a 120, .inl (t 0, 81, .inl f120))] s.heap := hP
  refine lv_iconst (v := 0) hx hb dX2_beatsEach_0 (by decide) ?_
  refine lv_istore_n (lv' := [(2, .int 0), (0, .ref (a 14)), (1, .int p0)]) hx hb dX2_beatsEach_1 rfl hl (by decide) rfl (fun ls hl => ?_)
  refine loopW (α := US) (fun n y_1 H locs ls => 9 < (y_1.1 0).toInt + (n : Int) ∧ rg 0 9 (y_1.1 0) ∧ va_P D classes [(a 14, .inr (2, [.ref (a 40), .int v14_1, .int v14_2, .int v14_3, .ref (a 120), .ref (a 121), .int v14_6, .ref (a 122), .int v14_8, .int v14_9, .int v14_10, .int v14_11, .int v14_12])), (a 40, .inr (0, [.int v40_0, .int v40_1, .int v40_2, .int v40_3, .int v40_4, .int v40_5, .int v40_6, .int v40_7, .ref (a 41), .ref (a 42), .ref (a 43), .ref (a 44), .ref (a 45), .ref (a 46), .ref (a 47), .ref (a 48), .ref (a 49), .ref (a 50), .ref (a 54)])), (a 47, .inl (t 0, 9, .inl f47)), (a 120, .inl (t 0, 81, .inl f120))] H ∧ va_S NoF s.heap H locs ∧ lv_has ls 3 [(2, .int (y_1.1 0)), (0, .ref (a 14)), (1, .int p0)]) 2 (fun y_1 => []) (fun _ _ _ _ h9 => m_0 h9.1 h9.2.1) (fun n ih_3 y_1 H locs ls hI => ?_) 10 (fun k => [0].getD k 0, fun k => [].getD k (fun _ => 0), fun k => [].getD k (fun _ => 0), fun k => [].getD k 0) ⟨(m_i (rg_c (x := 0) (k := 0) (by decide)) (by decide)), (rg_w (c := 0) (d := 9) (rg_c (x := 0) (k := 0) (by decide)) (by decide) (by decide)), hP, hS, (lv_sub hl [0, 1, 2] rfl)⟩
  obtain ⟨me_4, h_2, hP, hS, hl⟩ := hI
  refine lv_iload_n hx hb dX2_beatsEach_2 rfl (lv_at hl 0 rfl) ?_
  refine lv_aload_n hx hb dX2_beatsEach_3 rfl (lv_at hl 1 rfl) ?_
  refine va_get (D := D) (ci := 2) (v := .ref (a 40)) (C := RX2) (T := TX2) (N := 13) hx hb hts iX2 hown hK hP 0 rfl rfl 0 (by decide) (hts _ m_275) (fun _ h9 => h9) rfl dX2_beatsEach_4 ?_
  refine va_getN (D := D) (ci := 0) (v := .int v40_6) (C := RX0) (T := TX0) (N := 19) (host := "WordSeats") hx hb hts iX0 hown hK hP 1 rfl rfl 6 (by decide) (va_Nw.use rfl (hN _ n_144)) (fun _ h9 => h9) rfl dX2_beatsEach_7 ?_
  refine lv_icmp_ge (tgt := 52) hx hb dX2_beatsEach_10 (by decide) (fun c_5 => ?_) (fun c_5 => ?_)
  · skip
    refine lv_iconst (v := 1) hx hb dX2_beatsEach_52 (by decide) ?_
    exact W.zret (v := 1) hx hb hr rfl (fun t9 ht hW => ⟨⟨1, (), rfl, (rg_w (c := 0) (d := 1) (rg_c (x := 1) (k := 1) (by decide)) (by decide) (by decide)), trivial⟩, hS.F ht⟩) hS.2.2 dX2_beatsEach_53
  · skip
    have h_6 : rg 0 8 (y_1.1 0) := ⟨(h_2).1, Int.le_trans (c_nleR c_5 r40_6) (by decide)⟩
    have h_7 : rg 1 9 v40_6 := ⟨Int.le_trans (by decide) (c_nle c_5 h_2), (r40_6).2⟩
    refine lv_iload_n hx hb dX2_beatsEach_13 rfl (lv_at hl 0 rfl) ?_
    refine lv_iload_n hx hb dX2_beatsEach_14 rfl (lv_at hl 2 rfl) ?_
    refine lv_icmp_eq (tgt := 46) hx hb dX2_beatsEach_15 (by decide) (fun c_8 => ?_) (fun c_8 => ?_)
    · skip
      obtain ⟨x_9, ex_9⟩ : ∃ y9 : Int32, y9 = (y_1.1 0) + 1 := ⟨_, rfl⟩
      have hx_9 : rg 1 9 x_9 := by rw [ex_9]; exact rg_add h_6 (rg_c (x := 1) (k := 1) (by decide)) (by decide) (by decide) (by decide) (by decide)
      have tx_9 : x_9.toInt = (y_1.1 0).toInt + 1 := by rw [ex_9]; exact inc_tk h_6 (by decide) (by decide) (by decide)
      refine lv_iinc (v := x_9) (lv' := [(2, .int x_9), (0, .ref (a 14)), (1, .int p0)]) hx hb dX2_beatsEach_46 hl (k := 0) rfl (by rw [ex_9]; rfl) (by decide) rfl (fun ls hl => ?_)
      refine lv_goto (tgt := 2) hx hb dX2_beatsEach_49 (by decide) ?_
      exact ih_3 (fun k => [x_9].getD k 0, fun k => [].getD k (fun _ => 0), fun k => [].getD k (fun _ => 0), fun k => [].getD k 0) _ _ ls ⟨(m_upk me_4 tx_9 (by decide)), (rg_w (c := 0) (d := 9) hx_9 (by decide) (by decide)), hP, hS, (lv_sub hl [0, 1, 2] rfl)⟩
    · skip
      refine lv_aload_n hx hb dX2_beatsEach_18 rfl (lv_at hl 1 rfl) ?_
      refine va_get (D := D) (ci := 2) (v := .int v14_1) (C := RX2) (T := TX2) (N := 13) hx hb hts iX2 hown hK hP 0 rfl rfl 1 (by decide) (hts _ m_276) (fun _ h9 => h9) rfl dX2_beatsEach_19 ?_
      refine lv_iload_n hx hb dX2_beatsEach_22 rfl (lv_at hl 0 rfl) ?_
      refine y_pSN hF (s_X11_holds l D t a v14_1 (y_1.1 0)) n_771 m_707 m_1 m_708 hd_X11_holds ⟨Nat.le_of_ble_eq_true rfl, Nat.le_of_ble_eq_true rfl⟩ hK hN hP hS [] rfl hl.1 rfl (Nat.le_of_ble_eq_true rfl) dX2_beatsEach_23 ⟨Nat.zero_le _, Nat.zero_le _⟩ (fun r_10 H locs hr_10 hP hS => ?_)
      refine lv_if_eq (tgt := 46) hx hb dX2_beatsEach_26 (by decide) (fun c_11 => ?_) (fun c_11 => ?_)
      · skip
        have h_12 : rg 0 0 r_10 := rg_eq c_11 (rg_c (x := 0) (k := 0) (by decide))
        obtain ⟨x_13, ex_13⟩ : ∃ y9 : Int32, y9 = (y_1.1 0) + 1 := ⟨_, rfl⟩
        have hx_13 : rg 1 9 x_13 := by rw [ex_13]; exact rg_add h_6 (rg_c (x := 1) (k := 1) (by decide)) (by decide) (by decide) (by decide) (by decide)
        have tx_13 : x_13.toInt = (y_1.1 0).toInt + 1 := by rw [ex_13]; exact inc_tk h_6 (by decide) (by decide) (by decide)
        refine lv_iinc (v := x_13) (lv' := [(2, .int x_13), (0, .ref (a 14)), (1, .int p0)]) hx hb dX2_beatsEach_46 hl (k := 0) rfl (by rw [ex_13]; rfl) (by decide) rfl (fun ls hl => ?_)
        refine lv_goto (tgt := 2) hx hb dX2_beatsEach_49 (by decide) ?_
        exact ih_3 (fun k => [x_13].getD k 0, fun k => [].getD k (fun _ => 0), fun k => [].getD k (fun _ => 0), fun k => [].getD k 0) _ _ ls ⟨(m_upk me_4 tx_13 (by decide)), (rg_w (c := 0) (d := 9) hx_13 (by decide) (by decide)), hP, hS, (lv_sub hl [0, 1, 2] rfl)⟩
      · skip
        have h_14 : rg 1 1 r_10 := rg_w (rg_neL hr_10 c_11 (by decide)) (by decide) (by decide)
        refine lv_aload_n hx hb dX2_beatsEach_29 rfl (lv_at hl 1 rfl) ?_
        refine lv_iload_n hx hb dX2_beatsEach_30 rfl (lv_at hl 2 rfl) ?_
        refine lv_iload_n hx hb dX2_beatsEach_31 rfl (lv_at hl 0 rfl) ?_
        refine y_pV hF (s_X2_ahead l D t a v14_1 v14_2 v14_3 v14_6 v14_8 v14_9 v14_10 v14_11 v14_12 v40_0 v40_1 v40_2 v40_3 v40_4 v40_5 v40_6 v40_7 f47 f120 p0 (y_1.1 0) r14_8 r14_9 r40_1 r40_5 (rg_w (c := 0) (d := 9) h_7 (by decide) (by decide)) r40_7 rp0 h_6) m_887 m_872 m_873 m_7 m_874 hd_X2_ahead ⟨Nat.le_of_ble_eq_true rfl, Nat.le_of_ble_eq_true rfl⟩ hK hN hP hS [0, 1, 2, 3] rfl 0 (ci := 2) rfl rfl rfl hl.1 rfl (Nat.le_of_ble_eq_true rfl) dX2_beatsEach_32 ⟨Nat.zero_le _, Nat.zero_le _⟩ (fun r_15 H locs hr_15 hP hS => ?_)
        refine lv_aload_n hx hb dX2_beatsEach_35 rfl (lv_at hl 1 rfl) ?_
        refine lv_iload_n hx hb dX2_beatsEach_36 rfl (lv_at hl 0 rfl) ?_
        refine lv_iload_n hx hb dX2_beatsEach_37 rfl (lv_at hl 2 rfl) ?_
        refine y_pV hF (s_X2_ahead l D t a v14_1 v14_2 v14_3 v14_6 v14_8 v14_9 v14_10 v14_11 v14_12 v40_0 v40_1 v40_2 v40_3 v40_4 v40_5 v40_6 v40_7 f47 f120 (y_1.1 0) p0 r14_8 r14_9 r40_1 r40_5 (rg_w (c := 0) (d := 9) h_7 (by decide) (by decide)) r40_7 h_6 rp0) m_887 m_872 m_873 m_7 m_874 hd_X2_ahead ⟨Nat.le_of_ble_eq_true rfl, Nat.le_of_ble_eq_true rfl⟩ hK hN hP hS [0, 1, 2, 3] rfl 0 (ci := 2) rfl rfl rfl hl.1 rfl (Nat.le_of_ble_eq_true rfl) dX2_beatsEach_38 ⟨Nat.zero_le _, Nat.zero_le _⟩ (fun r_16 H locs hr_16 hP hS => ?_)
        refine lv_icmp_gt (tgt := 46) hx hb dX2_beatsEach_41 (by decide) (fun c_17 => ?_) (fun c_17 => ?_)
        · skip
          have h_18 : rg (-2147483647) 2147483647 r_15 := ⟨Int.le_trans (by decide) (c_ltR c_17 (rg_any r_16)), ((rg_any r_15)).2⟩
          have h_19 : rg (-2147483648) 2147483646 r_16 := ⟨((rg_any r_16)).1, Int.le_trans (c_lt c_17 (rg_any r_15)) (by decide)⟩
          obtain ⟨x_20, ex_20⟩ : ∃ y9 : Int32, y9 = (y_1.1 0) + 1 := ⟨_, rfl⟩
          have hx_20 : rg 1 9 x_20 := by rw [ex_20]; exact rg_add h_6 (rg_c (x := 1) (k := 1) (by decide)) (by decide) (by decide) (by decide) (by decide)
          have tx_20 : x_20.toInt = (y_1.1 0).toInt + 1 := by rw [ex_20]; exact inc_tk h_6 (by decide) (by decide) (by decide)
          refine lv_iinc (v := x_20) (lv' := [(2, .int x_20), (0, .ref (a 14)), (1, .int p0)]) hx hb dX2_beatsEach_46 hl (k := 0) rfl (by rw [ex_20]; rfl) (by decide) rfl (fun ls hl => ?_)
          refine lv_goto (tgt := 2) hx hb dX2_beatsEach_49 (by decide) ?_
          exact ih_3 (fun k => [x_20].getD k 0, fun k => [].getD k (fun _ => 0), fun k => [].getD k (fun _ => 0), fun k => [].getD k 0) _ _ ls ⟨(m_upk me_4 tx_20 (by decide)), (rg_w (c := 0) (d := 9) hx_20 (by decide) (by decide)), hP, hS, (lv_sub hl [0, 1, 2] rfl)⟩
        · skip
          refine lv_iconst (v := 0) hx hb dX2_beatsEach_44 (by decide) ?_
          exact W.zret (v := 0) hx hb hr rfl (fun t9 ht hW => ⟨⟨0, (), rfl, (rg_w (c := 0) (d := 1) (rg_c (x := 0) (k := 0) (by decide)) (by decide) (by decide)), trivial⟩, hS.F ht⟩) hS.2.2 dX2_beatsEach_45

set_option maxHeartbeats 4000000 in
set_option maxRecDepth 100000 in
theorem s_X2_beatsAll (l : Launch) (D : va_G) (t : Nat → ClassId) (a : Nat → Nat) (v14_1 : Int32) (v14_2 : Int32) (v14_3 : Int32) (v14_6 : Int32) (v14_8 : Int32) (v14_9 : Int32) (v14_10 : Int32) (v14_11 : Int32) (v14_12 : Int32) (v40_0 : Int32) (v40_1 : Int32) (v40_2 : Int32) (v40_3 : Int32) (v40_4 : Int32) (v40_5 : Int32) (v40_6 : Int32) (v40_7 : Int32) (f47 : Nat → Int32) (f120 : Nat → Int32) (r14_8 : rg 0 9 v14_8) (r14_9 : rg (-1) 8 v14_9) (r40_1 : rg 0 8 v40_1) (r40_5 : rg 0 4 v40_5) (r40_6 : rg 0 9 v40_6) (r40_7 : rg 0 9 v40_7) : Met l yX2_beatsAll (wd yX2_beatsAll cX2_beatsAll 2 (some .int)) (RM 3 0 0) (PreP D (TY t) [.ref (a 14)] [(a 14, .inr (2, [.ref (a 40), .int v14_1, .int v14_2, .int v14_3, .ref (a 120), .ref (a 121), .int v14_6, .ref (a 122), .int v14_8, .int v14_9, .int v14_10, .int v14_11, .int v14_12])), (a 40, .inr (0, [.int v40_0, .int v40_1, .int v40_2, .int v40_3, .int v40_4, .int v40_5, .int v40_6, .int v40_7, .ref (a 41), .ref (a 42), .ref (a 43), .ref (a 44), .ref (a 45), .ref (a 46), .ref (a 47), .ref (a 48), .ref (a 49), .ref (a 50), .ref (a 54)])), (a 47, .inl (t 0, 9, .inl f47)), (a 120, .inl (t 0, 81, .inl f120))]) (QP (fun r => rg (-1) 8 r)) 0 0 NoF := by
  refine Met.ofW (cc := cX2_beatsAll) (maxL := 2) (ret := (some .int)) (by decide) rfl ?_
  intro p e s m args below meth c s₁ B hml hv
  obtain ⟨rfl, hP, hK, hN⟩ := hv
  have hx := B.exec
  have hb := B.bytes
  have hr := B.returns
  have hts : ∀ w ∈ TB, w.before _ s = true := fun w h => atoms_spec (ws := wd yX2_beatsAll cX2_beatsAll 2 (some .int)) B.pre w (List.mem_cons_of_mem _ h)
  have hown : s.vm.findClass RX2 = some m.cls := findClass_of_methodNamed B.named
  have hlocks := B.notSynchronized
  have hF : CallFix p m c cX2_beatsAll 2 s _ TB RX2 := ⟨hx, hb, hml, hown, hts⟩
  have hl := lv_entry ([.ref (a 14)]) (n := 2) (Nat.le_of_ble_eq_true rfl)
  rw [lg_entry_eq]
  generalize (lg_sl ([.ref (a 14)]) ++ List.replicate (2 - (lg_sl ([.ref (a 14)])).length) Slot.unset).toArray = ls at hl ⊢
  have hl : lv_has ls 2 [(0, .ref (a 14))] := hl
  have hS : va_S NoF s.heap s.heap [] := va_S.rf
  have hP : va_P D classes [(a 14, .inr (2, [.ref (a 40), .int v14_1, .int v14_2, .int v14_3, .ref (a 120), .ref (a 121), .int v14_6, .ref (a 122), .int v14_8, .int v14_9, .int v14_10, .int v14_11, .int v14_12])), (a 40, .inr (0, [.int v40_0, .int v40_1, .int v40_2, .int v40_3, .int v40_4, .int v40_5, .int v40_6, .int v40_7, .ref (a 41), .ref (a 42), .ref (a 43), .ref (a 44), .ref (a 45), .ref (a 46), .ref (a 47), .ref (a 48), .ref (a 49), .ref (a 50), .ref (a 54)])), (a 47, .inl (t 0, 9, .inl f47)), (a 120, .inl (t 0, 81, .inl f120))] s.heap := hP
  refine lv_iconst (v := 0) hx hb dX2_beatsAll_0 (by decide) ?_
  refine lv_istore_n (lv' := [(1, .int 0), (0, .ref (a 14))]) hx hb dX2_beatsAll_1 rfl hl (by decide) rfl (fun ls hl => ?_)
  refine loopW (α := US) (fun n y_1 H locs ls => 9 < (y_1.1 0).toInt + (n : Int) ∧ rg 0 9 (y_1.1 0) ∧ va_P D classes [(a 14, .inr (2, [.ref (a 40), .int v14_1, .int v14_2, .int v14_3, .ref (a 120), .ref (a 121), .int v14_6, .ref (a 122), .int v14_8, .int v14_9, .int v14_10, .int v14_11, .int v14_12])), (a 40, .inr (0, [.int v40_0, .int v40_1, .int v40_2, .int v40_3, .int v40_4, .int v40_5, .int v40_6, .int v40_7, .ref (a 41), .ref (a 42), .ref (a 43), .ref (a 44), .ref (a 45), .ref (a 46), .ref (a 47), .ref (a 48), .ref (a 49), .ref (a 50), .ref (a 54)])), (a 47, .inl (t 0, 9, .inl f47)), (a 120, .inl (t 0, 81, .inl f120))] H ∧ va_S NoF s.heap H locs ∧ lv_has ls 2 [(1, .int (y_1.1 0)), (0, .ref (a 14))]) 2 (fun y_1 => []) (fun _ _ _ _ h9 => m_0 h9.1 h9.2.1) (fun n ih_3 y_1 H locs ls hI => ?_) 10 (fun k => [0].getD k 0, fun k => [].getD k (fun _ => 0), fun k => [].getD k (fun _ => 0), fun k => [].getD k 0) ⟨(m_i (rg_c (x := 0) (k := 0) (by decide)) (by decide)), (rg_w (c := 0) (d := 9) (rg_c (x := 0) (k := 0) (by decide)) (by decide) (by decide)), hP, hS, (lv_sub hl [0, 1] rfl)⟩
  obtain ⟨me_4, h_2, hP, hS, hl⟩ := hI
  refine lv_iload_n hx hb dX2_beatsAll_2 rfl (lv_at hl 0 rfl) ?_
  refine lv_aload_n hx hb dX2_beatsAll_3 rfl (lv_at hl 1 rfl) ?_
  refine va_get (D := D) (ci := 2) (v := .ref (a 40)) (C := RX2) (T := TX2) (N := 13) hx hb hts iX2 hown hK hP 0 rfl rfl 0 (by decide) (hts _ m_275) (fun _ h9 => h9) rfl dX2_beatsAll_4 ?_
  refine va_getN (D := D) (ci := 0) (v := .int v40_6) (C := RX0) (T := TX0) (N := 19) (host := "WordSeats") hx hb hts iX0 hown hK hP 1 rfl rfl 6 (by decide) (va_Nw.use rfl (hN _ n_144)) (fun _ h9 => h9) rfl dX2_beatsAll_7 ?_
  refine lv_icmp_ge (tgt := 40) hx hb dX2_beatsAll_10 (by decide) (fun c_5 => ?_) (fun c_5 => ?_)
  · skip
    refine lv_iconst (v := (-1)) hx hb dX2_beatsAll_40 (by decide) ?_
    exact W.iret (v := (-1)) hx hb hr (fun t9 ht hW => ⟨⟨(-1), (), rfl, (rg_w (c := (-1)) (d := 8) (rg_c (x := (-1)) (k := (-1)) (by decide)) (by decide) (by decide)), trivial⟩, hS.F ht⟩) hS.2.2 dX2_beatsAll_41
  · skip
    have h_6 : rg 0 8 (y_1.1 0) := ⟨(h_2).1, Int.le_trans (c_nleR c_5 r40_6) (by decide)⟩
    have h_7 : rg 1 9 v40_6 := ⟨Int.le_trans (by decide) (c_nle c_5 h_2), (r40_6).2⟩
    refine lv_aload_n hx hb dX2_beatsAll_13 rfl (lv_at hl 1 rfl) ?_
    refine va_get (D := D) (ci := 2) (v := .int v14_1) (C := RX2) (T := TX2) (N := 13) hx hb hts iX2 hown hK hP 0 rfl rfl 1 (by decide) (hts _ m_276) (fun _ h9 => h9) rfl dX2_beatsAll_14 ?_
    refine lv_iload_n hx hb dX2_beatsAll_17 rfl (lv_at hl 0 rfl) ?_
    refine y_pSN hF (s_X11_holds l D t a v14_1 (y_1.1 0)) n_771 m_707 m_1 m_708 hd_X11_holds ⟨Nat.le_of_ble_eq_true rfl, Nat.le_of_ble_eq_true rfl⟩ hK hN hP hS [] rfl hl.1 rfl (Nat.le_of_ble_eq_true rfl) dX2_beatsAll_18 ⟨Nat.zero_le _, Nat.zero_le _⟩ (fun r_8 H locs hr_8 hP hS => ?_)
    refine lv_if_eq (tgt := 34) hx hb dX2_beatsAll_21 (by decide) (fun c_9 => ?_) (fun c_9 => ?_)
    · skip
      have h_10 : rg 0 0 r_8 := rg_eq c_9 (rg_c (x := 0) (k := 0) (by decide))
      obtain ⟨x_11, ex_11⟩ : ∃ y9 : Int32, y9 = (y_1.1 0) + 1 := ⟨_, rfl⟩
      have hx_11 : rg 1 9 x_11 := by rw [ex_11]; exact rg_add h_6 (rg_c (x := 1) (k := 1) (by decide)) (by decide) (by decide) (by decide) (by decide)
      have tx_11 : x_11.toInt = (y_1.1 0).toInt + 1 := by rw [ex_11]; exact inc_tk h_6 (by decide) (by decide) (by decide)
      refine lv_iinc (v := x_11) (lv' := [(1, .int x_11), (0, .ref (a 14))]) hx hb dX2_beatsAll_34 hl (k := 0) rfl (by rw [ex_11]; rfl) (by decide) rfl (fun ls hl => ?_)
      refine lv_goto (tgt := 2) hx hb dX2_beatsAll_37 (by decide) ?_
      exact ih_3 (fun k => [x_11].getD k 0, fun k => [].getD k (fun _ => 0), fun k => [].getD k (fun _ => 0), fun k => [].getD k 0) _ _ ls ⟨(m_upk me_4 tx_11 (by decide)), (rg_w (c := 0) (d := 9) hx_11 (by decide) (by decide)), hP, hS, (lv_sub hl [0, 1] rfl)⟩
    · skip
      have h_12 : rg 1 1 r_8 := rg_w (rg_neL hr_8 c_9 (by decide)) (by decide) (by decide)
      refine lv_aload_n hx hb dX2_beatsAll_24 rfl (lv_at hl 1 rfl) ?_
      refine lv_iload_n hx hb dX2_beatsAll_25 rfl (lv_at hl 0 rfl) ?_
      refine y_pV hF (s_X2_beatsEach l D t a v14_1 v14_2 v14_3 v14_6 v14_8 v14_9 v14_10 v14_11 v14_12 v40_0 v40_1 v40_2 v40_3 v40_4 v40_5 v40_6 v40_7 f47 f120 (y_1.1 0) r14_8 r14_9 r40_1 r40_5 (rg_w (c := 0) (d := 9) h_7 (by decide) (by decide)) r40_7 h_6) m_883 m_885 m_s25 m_7 m_886 hd_X2_beatsEach ⟨Nat.le_of_ble_eq_true rfl, Nat.le_of_ble_eq_true rfl⟩ hK hN hP hS [0, 1, 2, 3] rfl 0 (ci := 2) rfl rfl rfl hl.1 rfl (Nat.le_of_ble_eq_true rfl) dX2_beatsAll_26 ⟨Nat.zero_le _, Nat.zero_le _⟩ (fun r_13 H locs hr_13 hP hS => ?_)
      refine lv_if_eq (tgt := 34) hx hb dX2_beatsAll_29 (by decide) (fun c_14 => ?_) (fun c_14 => ?_)
      · skip
        have h_15 : rg 0 0 r_13 := rg_eq c_14 (rg_c (x := 0) (k := 0) (by decide))
        obtain ⟨x_16, ex_16⟩ : ∃ y9 : Int32, y9 = (y_1.1 0) + 1 := ⟨_, rfl⟩
        have hx_16 : rg 1 9 x_16 := by rw [ex_16]; exact rg_add h_6 (rg_c (x := 1) (k := 1) (by decide)) (by decide) (by decide) (by decide) (by decide)
        have tx_16 : x_16.toInt = (y_1.1 0).toInt + 1 := by rw [ex_16]; exact inc_tk h_6 (by decide) (by decide) (by decide)
        refine lv_iinc (v := x_16) (lv' := [(1, .int x_16), (0, .ref (a 14))]) hx hb dX2_beatsAll_34 hl (k := 0) rfl (by rw [ex_16]; rfl) (by decide) rfl (fun ls hl => ?_)
        refine lv_goto (tgt := 2) hx hb dX2_beatsAll_37 (by decide) ?_
        exact ih_3 (fun k => [x_16].getD k 0, fun k => [].getD k (fun _ => 0), fun k => [].getD k (fun _ => 0), fun k => [].getD k 0) _ _ ls ⟨(m_upk me_4 tx_16 (by decide)), (rg_w (c := 0) (d := 9) hx_16 (by decide) (by decide)), hP, hS, (lv_sub hl [0, 1] rfl)⟩
      · skip
        have h_17 : rg 1 1 r_13 := rg_w (rg_neL hr_13 c_14 (by decide)) (by decide) (by decide)
        refine lv_iload_n hx hb dX2_beatsAll_32 rfl (lv_at hl 0 rfl) ?_
        exact W.iret (v := (y_1.1 0)) hx hb hr (fun t9 ht hW => ⟨⟨(y_1.1 0), (), rfl, (rg_w (c := (-1)) (d := 8) h_6 (by decide) (by decide)), trivial⟩, hS.F ht⟩) hS.2.2 dX2_beatsAll_33

