set_option maxHeartbeats 4000000 in
set_option maxRecDepth 100000 in
theorem c_X12_feed (l : Launch) (D : va_G) (t : Nat → ClassId) (b : Nat → Nat) (x : Int32) (y : Int32) (z : Int32) (v : Int32) (w : Int32) (sz : Nat) : Met l yX12_feed (wd yX12_feed cX12_feed 7 (some .int)) (RM 0 0 0) (PreW D (TY t) [.ref (b 0), .int x, .int y, .int z, .int v, .int w] [(b 0, .inr (12, [.int 0, .ref (b 1), .ref (b 2), .ref (b 3), .ref (b 4), .int 0, .ref (b 5), .int 0, .int 0, .int 0, .int 0, .int 0, .int 0, .int (-1), .ref (b 6), .int 0, .ref (b 7), .int 0, .int (-1), .int 0, .ref (b 8), .int 0, .ref (b 9), .int 0, .ref (b 10), .ref (b 11), .ref (b 12), .int 0, .int 0, .int 0, .ref (b 13), .ref (b 14), .ref (b 15), .int 0, .int 0, .int 0, .ref (b 16), .ref (b 17), .ref (b 18), .ref (b 19)])), (b 4, .inl (t 1, 1600, .inl (fun _ => 0))), (b 5, .inl (t 0, 5, .inl (fun _ => 0)))] sz) (va_Qi (fun (r : Int32) (_ : Unit) => r = 20) (fun _ _ => True) (va_A [(b 0, .inr (12, [.int 0, .ref (b 1), .ref (b 2), .ref (b 3), .ref (b 4), .int 0, .ref (b 5), .int 0, .int 0, .int 0, .int 0, .int 0, .int 0, .int (-1), .ref (b 6), .int 0, .ref (b 7), .int 0, .int (-1), .int 0, .ref (b 8), .int 0, .ref (b 9), .int 0, .ref (b 10), .ref (b 11), .ref (b 12), .int 0, .int 0, .int 0, .ref (b 13), .ref (b 14), .ref (b 15), .int 0, .int 0, .int 0, .ref (b 16), .ref (b 17), .ref (b 18), .ref (b 19)])), (b 4, .inl (t 1, 1600, .inl (fun _ => 0))), (b 5, .inl (t 0, 5, .inl (fun _ => 0)))] sz)) 0 0 (va_A [(b 0, .inr (12, [.int 0, .ref (b 1), .ref (b 2), .ref (b 3), .ref (b 4), .int 0, .ref (b 5), .int 0, .int 0, .int 0, .int 0, .int 0, .int 0, .int (-1), .ref (b 6), .int 0, .ref (b 7), .int 0, .int (-1), .int 0, .ref (b 8), .int 0, .ref (b 9), .int 0, .ref (b 10), .ref (b 11), .ref (b 12), .int 0, .int 0, .int 0, .ref (b 13), .ref (b 14), .ref (b 15), .int 0, .int 0, .int 0, .ref (b 16), .ref (b 17), .ref (b 18), .ref (b 19)])), (b 4, .inl (t 1, 1600, .inl (fun _ => 0))), (b 5, .inl (t 0, 5, .inl (fun _ => 0)))] sz) := by
  refine Met.ofW (cc := cX12_feed) (maxL := 7) (ret := (some .int)) (by decide) rfl ?_
  intro p e s m args below meth c s₁ B hml hv
  obtain ⟨rfl, hsz, hP, hK, hD0, hN⟩ := hv
  have hx := B.exec
  have hb := B.bytes
  have hr := B.returns
  have hts : ∀ w ∈ TB, w.before _ s = true := fun w h => atoms_spec (ws := wd yX12_feed cX12_feed 7 (some .int)) B.pre w (List.mem_cons_of_mem _ h)
  have hown : s.vm.findClass RX12 = some m.cls := findClass_of_methodNamed B.named
  have hlocks := B.notSynchronized
  have hF : CallFix p m c cX12_feed 7 s _ TB RX12 := ⟨hx, hb, hml, hown, hts⟩
  have hl := lv_entry ([.ref (b 0), .int x, .int y, .int z, .int v, .int w]) (n := 7) (Nat.le_of_ble_eq_true rfl)
  rw [lg_entry_eq]
  generalize (lg_sl ([.ref (b 0), .int x, .int y, .int z, .int v, .int w]) ++ List.replicate (7 - (lg_sl ([.ref (b 0), .int x, .int y, .int z, .int v, .int w])).length) Slot.unset).toArray = ls at hl ⊢
  have hl : lv_has ls 7 [(0, .ref (b 0)), (1, .int x), (2, .int y), (3, .int z), (4, .int v), (5, .int w)] := hl
  subst hsz
  have hD := hD0.self (sz := s.heap.size)
  generalize hAe : va_A [(b 0, .inr (12, [.int 0, .ref (b 1), .ref (b 2), .ref (b 3), .ref (b 4), .int 0, .ref (b 5), .int 0, .int 0, .int 0, .int 0, .int 0, .int 0, .int (-1), .ref (b 6), .int 0, .ref (b 7), .int 0, .int (-1), .int 0, .ref (b 8), .int 0, .ref (b 9), .int 0, .ref (b 10), .ref (b 11), .ref (b 12), .int 0, .int 0, .int 0, .ref (b 13), .ref (b 14), .ref (b 15), .int 0, .int 0, .int 0, .ref (b 16), .ref (b 17), .ref (b 18), .ref (b 19)])), (b 4, .inl (t 1, 1600, .inl (fun _ => 0))), (b 5, .inl (t 0, 5, .inl (fun _ => 0)))] s.heap.size = A at hD ⊢
  have hA : ∀ q : Nat, s.heap.size ≤ q → A q := fun q h => by rw [← hAe]; exact Or.inr h
  have hS : va_S A s.heap s.heap [] := va_S.rf
  have hP : va_P D classes [(b 0, .inr (12, [.int 0, .ref (b 1), .ref (b 2), .ref (b 3), .ref (b 4), .int 0, .ref (b 5), .int 0, .int 0, .int 0, .int 0, .int 0, .int 0, .int (-1), .ref (b 6), .int 0, .ref (b 7), .int 0, .int (-1), .int 0, .ref (b 8), .int 0, .ref (b 9), .int 0, .ref (b 10), .ref (b 11), .ref (b 12), .int 0, .int 0, .int 0, .ref (b 13), .ref (b 14), .ref (b 15), .int 0, .int 0, .int 0, .ref (b 16), .ref (b 17), .ref (b 18), .ref (b 19)])), (b 4, .inl (t 1, 1600, .inl (fun _ => 0))), (b 5, .inl (t 0, 5, .inl (fun _ => 0)))] s.heap := hP
  refine lv_aload_n hx hb dX12_feed_0 rfl (lv_at hl 0 rfl) ?_
  refine va_get (D := D) (ci := 12) (v := .int 0) (C := RX12) (T := TX12) (N := 40) hx hb hts iX12 hown hK hP 0 rfl rfl 5 (by decide) (hts _ m_1348) (fun _ h9 => h9) rfl dX12_feed_1 ?_
  refine lv_bipush (v := 20) hx hb dX12_feed_4 (by decide) ?_
  refine lv_iadd hx hb dX12_feed_6 ?_
  refine x_seti 20 (by decide) ?_
  refine lv_sipush (v := 1600) hx hb dX12_feed_7 (by decide) ?_
  refine lv_icmp_le (tgt := 15) hx hb dX12_feed_10 (by decide) (fun _ => ?_) (fun c9 => absurd (by decide) c9)
  refine lv_aload_n hx hb dX12_feed_15 rfl (lv_at hl 0 rfl) ?_
  refine va_get (D := D) (ci := 12) (v := .ref (b 5)) (C := RX12) (T := TX12) (N := 40) hx hb hts iX12 hown hK hP 0 rfl rfl 6 (by decide) (hts _ m_1349) (fun _ h9 => h9) rfl dX12_feed_16 ?_
  refine lv_iconst (v := 0) hx hb dX12_feed_19 (by decide) ?_
  refine lv_iload_n hx hb dX12_feed_20 rfl (lv_at hl 1 rfl) ?_
  refine x_iast hx hb hK hP hD hS 2 0 rfl rfl (vp_in_nI (n := 0) (by decide) (by decide)) dX12_feed_21 (fun g_1 H locs hP hD hS => ?_)
  have hP : va_P D classes [(b 0, .inr (12, [.int 0, .ref (b 1), .ref (b 2), .ref (b 3), .ref (b 4), .int 0, .ref (b 5), .int 0, .int 0, .int 0, .int 0, .int 0, .int 0, .int (-1), .ref (b 6), .int 0, .ref (b 7), .int 0, .int (-1), .int 0, .ref (b 8), .int 0, .ref (b 9), .int 0, .ref (b 10), .ref (b 11), .ref (b 12), .int 0, .int 0, .int 0, .ref (b 13), .ref (b 14), .ref (b 15), .int 0, .int 0, .int 0, .ref (b 16), .ref (b 17), .ref (b 18), .ref (b 19)])), (b 4, .inl (t 1, 1600, .inl (fun _ => 0))), (b 5, .inl (t 0, 5, .inl g_1))] H := hP
  have hD : va_D A [(b 0, .inr (12, [.int 0, .ref (b 1), .ref (b 2), .ref (b 3), .ref (b 4), .int 0, .ref (b 5), .int 0, .int 0, .int 0, .int 0, .int 0, .int 0, .int (-1), .ref (b 6), .int 0, .ref (b 7), .int 0, .int (-1), .int 0, .ref (b 8), .int 0, .ref (b 9), .int 0, .ref (b 10), .ref (b 11), .ref (b 12), .int 0, .int 0, .int 0, .ref (b 13), .ref (b 14), .ref (b 15), .int 0, .int 0, .int 0, .ref (b 16), .ref (b 17), .ref (b 18), .ref (b 19)])), (b 4, .inl (t 1, 1600, .inl (fun _ => 0))), (b 5, .inl (t 0, 5, .inl g_1))] := hD
  refine lv_aload_n hx hb dX12_feed_22 rfl (lv_at hl 0 rfl) ?_
  refine va_get (D := D) (ci := 12) (v := .ref (b 5)) (C := RX12) (T := TX12) (N := 40) hx hb hts iX12 hown hK hP 0 rfl rfl 6 (by decide) (hts _ m_1349) (fun _ h9 => h9) rfl dX12_feed_23 ?_
  refine lv_iconst (v := 1) hx hb dX12_feed_26 (by decide) ?_
  refine lv_iload_n hx hb dX12_feed_27 rfl (lv_at hl 2 rfl) ?_
  refine x_iast hx hb hK hP hD hS 2 0 rfl rfl (vp_in_nI (n := 1) (by decide) (by decide)) dX12_feed_28 (fun g_2 H locs hP hD hS => ?_)
  have hP : va_P D classes [(b 0, .inr (12, [.int 0, .ref (b 1), .ref (b 2), .ref (b 3), .ref (b 4), .int 0, .ref (b 5), .int 0, .int 0, .int 0, .int 0, .int 0, .int 0, .int (-1), .ref (b 6), .int 0, .ref (b 7), .int 0, .int (-1), .int 0, .ref (b 8), .int 0, .ref (b 9), .int 0, .ref (b 10), .ref (b 11), .ref (b 12), .int 0, .int 0, .int 0, .ref (b 13), .ref (b 14), .ref (b 15), .int 0, .int 0, .int 0, .ref (b 16), .ref (b 17), .ref (b 18), .ref (b 19)])), (b 4, .inl (t 1, 1600, .inl (fun _ => 0))), (b 5, .inl (t 0, 5, .inl g_2))] H := hP
  have hD : va_D A [(b 0, .inr (12, [.int 0, .ref (b 1), .ref (b 2), .ref (b 3), .ref (b 4), .int 0, .ref (b 5), .int 0, .int 0, .int 0, .int 0, .int 0, .int 0, .int (-1), .ref (b 6), .int 0, .ref (b 7), .int 0, .int (-1), .int 0, .ref (b 8), .int 0, .ref (b 9), .int 0, .ref (b 10), .ref (b 11), .ref (b 12), .int 0, .int 0, .int 0, .ref (b 13), .ref (b 14), .ref (b 15), .int 0, .int 0, .int 0, .ref (b 16), .ref (b 17), .ref (b 18), .ref (b 19)])), (b 4, .inl (t 1, 1600, .inl (fun _ => 0))), (b 5, .inl (t 0, 5, .inl g_2))] := hD
  refine lv_aload_n hx hb dX12_feed_29 rfl (lv_at hl 0 rfl) ?_
  refine va_get (D := D) (ci := 12) (v := .ref (b 5)) (C := RX12) (T := TX12) (N := 40) hx hb hts iX12 hown hK hP 0 rfl rfl 6 (by decide) (hts _ m_1349) (fun _ h9 => h9) rfl dX12_feed_30 ?_
  refine lv_iconst (v := 2) hx hb dX12_feed_33 (by decide) ?_
  refine lv_iload_n hx hb dX12_feed_34 rfl (lv_at hl 3 rfl) ?_
  refine x_iast hx hb hK hP hD hS 2 0 rfl rfl (vp_in_nI (n := 2) (by decide) (by decide)) dX12_feed_35 (fun g_3 H locs hP hD hS => ?_)
  have hP : va_P D classes [(b 0, .inr (12, [.int 0, .ref (b 1), .ref (b 2), .ref (b 3), .ref (b 4), .int 0, .ref (b 5), .int 0, .int 0, .int 0, .int 0, .int 0, .int 0, .int (-1), .ref (b 6), .int 0, .ref (b 7), .int 0, .int (-1), .int 0, .ref (b 8), .int 0, .ref (b 9), .int 0, .ref (b 10), .ref (b 11), .ref (b 12), .int 0, .int 0, .int 0, .ref (b 13), .ref (b 14), .ref (b 15), .int 0, .int 0, .int 0, .ref (b 16), .ref (b 17), .ref (b 18), .ref (b 19)])), (b 4, .inl (t 1, 1600, .inl (fun _ => 0))), (b 5, .inl (t 0, 5, .inl g_3))] H := hP
  have hD : va_D A [(b 0, .inr (12, [.int 0, .ref (b 1), .ref (b 2), .ref (b 3), .ref (b 4), .int 0, .ref (b 5), .int 0, .int 0, .int 0, .int 0, .int 0, .int 0, .int (-1), .ref (b 6), .int 0, .ref (b 7), .int 0, .int (-1), .int 0, .ref (b 8), .int 0, .ref (b 9), .int 0, .ref (b 10), .ref (b 11), .ref (b 12), .int 0, .int 0, .int 0, .ref (b 13), .ref (b 14), .ref (b 15), .int 0, .int 0, .int 0, .ref (b 16), .ref (b 17), .ref (b 18), .ref (b 19)])), (b 4, .inl (t 1, 1600, .inl (fun _ => 0))), (b 5, .inl (t 0, 5, .inl g_3))] := hD
  refine lv_aload_n hx hb dX12_feed_36 rfl (lv_at hl 0 rfl) ?_
  refine va_get (D := D) (ci := 12) (v := .ref (b 5)) (C := RX12) (T := TX12) (N := 40) hx hb hts iX12 hown hK hP 0 rfl rfl 6 (by decide) (hts _ m_1349) (fun _ h9 => h9) rfl dX12_feed_37 ?_
  refine lv_iconst (v := 3) hx hb dX12_feed_40 (by decide) ?_
  refine lv_iload hx hb dX12_feed_41 (lv_at hl 4 rfl) ?_
  refine x_iast hx hb hK hP hD hS 2 0 rfl rfl (vp_in_nI (n := 3) (by decide) (by decide)) dX12_feed_43 (fun g_4 H locs hP hD hS => ?_)
  have hP : va_P D classes [(b 0, .inr (12, [.int 0, .ref (b 1), .ref (b 2), .ref (b 3), .ref (b 4), .int 0, .ref (b 5), .int 0, .int 0, .int 0, .int 0, .int 0, .int 0, .int (-1), .ref (b 6), .int 0, .ref (b 7), .int 0, .int (-1), .int 0, .ref (b 8), .int 0, .ref (b 9), .int 0, .ref (b 10), .ref (b 11), .ref (b 12), .int 0, .int 0, .int 0, .ref (b 13), .ref (b 14), .ref (b 15), .int 0, .int 0, .int 0, .ref (b 16), .ref (b 17), .ref (b 18), .ref (b 19)])), (b 4, .inl (t 1, 1600, .inl (fun _ => 0))), (b 5, .inl (t 0, 5, .inl g_4))] H := hP
  have hD : va_D A [(b 0, .inr (12, [.int 0, .ref (b 1), .ref (b 2), .ref (b 3), .ref (b 4), .int 0, .ref (b 5), .int 0, .int 0, .int 0, .int 0, .int 0, .int 0, .int (-1), .ref (b 6), .int 0, .ref (b 7), .int 0, .int (-1), .int 0, .ref (b 8), .int 0, .ref (b 9), .int 0, .ref (b 10), .ref (b 11), .ref (b 12), .int 0, .int 0, .int 0, .ref (b 13), .ref (b 14), .ref (b 15), .int 0, .int 0, .int 0, .ref (b 16), .ref (b 17), .ref (b 18), .ref (b 19)])), (b 4, .inl (t 1, 1600, .inl (fun _ => 0))), (b 5, .inl (t 0, 5, .inl g_4))] := hD
  refine lv_aload_n hx hb dX12_feed_44 rfl (lv_at hl 0 rfl) ?_
  refine va_get (D := D) (ci := 12) (v := .ref (b 5)) (C := RX12) (T := TX12) (N := 40) hx hb hts iX12 hown hK hP 0 rfl rfl 6 (by decide) (hts _ m_1349) (fun _ h9 => h9) rfl dX12_feed_45 ?_
  refine lv_iconst (v := 4) hx hb dX12_feed_48 (by decide) ?_
  refine lv_iload hx hb dX12_feed_49 (lv_at hl 5 rfl) ?_
  refine x_iast hx hb hK hP hD hS 2 0 rfl rfl (vp_in_nI (n := 4) (by decide) (by decide)) dX12_feed_51 (fun g_5 H locs hP hD hS => ?_)
  have hP : va_P D classes [(b 0, .inr (12, [.int 0, .ref (b 1), .ref (b 2), .ref (b 3), .ref (b 4), .int 0, .ref (b 5), .int 0, .int 0, .int 0, .int 0, .int 0, .int 0, .int (-1), .ref (b 6), .int 0, .ref (b 7), .int 0, .int (-1), .int 0, .ref (b 8), .int 0, .ref (b 9), .int 0, .ref (b 10), .ref (b 11), .ref (b 12), .int 0, .int 0, .int 0, .ref (b 13), .ref (b 14), .ref (b 15), .int 0, .int 0, .int 0, .ref (b 16), .ref (b 17), .ref (b 18), .ref (b 19)])), (b 4, .inl (t 1, 1600, .inl (fun _ => 0))), (b 5, .inl (t 0, 5, .inl g_5))] H := hP
  have hD : va_D A [(b 0, .inr (12, [.int 0, .ref (b 1), .ref (b 2), .ref (b 3), .ref (b 4), .int 0, .ref (b 5), .int 0, .int 0, .int 0, .int 0, .int 0, .int 0, .int (-1), .ref (b 6), .int 0, .ref (b 7), .int 0, .int (-1), .int 0, .ref (b 8), .int 0, .ref (b 9), .int 0, .ref (b 10), .ref (b 11), .ref (b 12), .int 0, .int 0, .int 0, .ref (b 13), .ref (b 14), .ref (b 15), .int 0, .int 0, .int 0, .ref (b 16), .ref (b 17), .ref (b 18), .ref (b 19)])), (b 4, .inl (t 1, 1600, .inl (fun _ => 0))), (b 5, .inl (t 0, 5, .inl g_5))] := hD
  refine lv_iconst (v := 0) hx hb dX12_feed_52 (by decide) ?_
  refine lv_istore (lv' := [(6, .int 0), (0, .ref (b 0)), (1, .int x), (2, .int y), (3, .int z), (4, .int v), (5, .int w)]) hx hb dX12_feed_53 hl (by decide) rfl (fun ls hl => ?_)
  refine lv_iload hx hb dX12_feed_55 (lv_at hl 0 rfl) ?_
  refine lv_bipush (v := 20) hx hb dX12_feed_57 (by decide) ?_
  refine lv_icmp_ge (tgt := 101) hx hb dX12_feed_59 (by decide) (fun c9 => absurd c9 (by decide)) (fun _ => ?_)
  refine lv_aload_n hx hb dX12_feed_62 rfl (lv_at hl 1 rfl) ?_
  refine va_get (D := D) (ci := 12) (v := .ref (b 4)) (C := RX12) (T := TX12) (N := 40) hx hb hts iX12 hown hK hP 0 rfl rfl 4 (by decide) (hts _ m_1347) (fun _ h9 => h9) rfl dX12_feed_63 ?_
  refine lv_aload_n hx hb dX12_feed_66 rfl (lv_at hl 1 rfl) ?_
  refine va_get (D := D) (ci := 12) (v := .int 0) (C := RX12) (T := TX12) (N := 40) hx hb hts iX12 hown hK hP 0 rfl rfl 5 (by decide) (hts _ m_1348) (fun _ h9 => h9) rfl dX12_feed_67 ?_
  refine lv_iload hx hb dX12_feed_70 (lv_at hl 0 rfl) ?_
  refine lv_iadd hx hb dX12_feed_72 ?_
  refine x_seti 0 (by decide) ?_
  refine lv_aload_n hx hb dX12_feed_73 rfl (lv_at hl 1 rfl) ?_
  refine va_get (D := D) (ci := 12) (v := .ref (b 5)) (C := RX12) (T := TX12) (N := 40) hx hb hts iX12 hown hK hP 0 rfl rfl 6 (by decide) (hts _ m_1349) (fun _ h9 => h9) rfl dX12_feed_74 ?_
  refine lv_iload hx hb dX12_feed_77 (lv_at hl 0 rfl) ?_
  refine lv_iconst (v := 4) hx hb dX12_feed_79 (by decide) ?_
  refine lv_idiv hx hb dX12_feed_80 (by decide) ?_
  refine x_seti 0 (by decide) ?_
  refine va_iald hx hb hK hP 2 0 rfl rfl (vp_in_nI (n := 0) (by decide) (by decide)) dX12_feed_81 ?_
  refine lv_topi (fun x_6 ex_6 => ?_)
  refine lv_bipush (v := 24) hx hb dX12_feed_82 (by decide) ?_
  refine lv_bipush (v := 8) hx hb dX12_feed_84 (by decide) ?_
  refine lv_iload hx hb dX12_feed_86 (lv_at hl 0 rfl) ?_
  refine lv_iconst (v := 4) hx hb dX12_feed_88 (by decide) ?_
  refine lv_irem hx hb dX12_feed_89 (by decide) ?_
  refine x_seti 0 (by decide) ?_
  refine lv_imul hx hb dX12_feed_90 ?_
  refine x_seti 0 (by decide) ?_
  refine lv_isub hx hb dX12_feed_91 ?_
  refine x_seti 24 (by decide) ?_
  refine lv_ishr hx hb dX12_feed_92 ?_
  refine lv_topi (fun x_7 ex_7 => ?_)
  refine lv_i2b hx hb dX12_feed_93 rfl ?_
  refine lv_topi (fun x_8 ex_8 => ?_)
  refine x_bast hx hb hK hP hD hS 1 1 rfl rfl (vp_in_nI (n := 0) (by decide) (by decide)) dX12_feed_94 (fun g_9 H locs hP hD hS => ?_)
  have hP : va_P D classes [(b 0, .inr (12, [.int 0, .ref (b 1), .ref (b 2), .ref (b 3), .ref (b 4), .int 0, .ref (b 5), .int 0, .int 0, .int 0, .int 0, .int 0, .int 0, .int (-1), .ref (b 6), .int 0, .ref (b 7), .int 0, .int (-1), .int 0, .ref (b 8), .int 0, .ref (b 9), .int 0, .ref (b 10), .ref (b 11), .ref (b 12), .int 0, .int 0, .int 0, .ref (b 13), .ref (b 14), .ref (b 15), .int 0, .int 0, .int 0, .ref (b 16), .ref (b 17), .ref (b 18), .ref (b 19)])), (b 4, .inl (t 1, 1600, .inl g_9)), (b 5, .inl (t 0, 5, .inl g_5))] H := hP
  have hD : va_D A [(b 0, .inr (12, [.int 0, .ref (b 1), .ref (b 2), .ref (b 3), .ref (b 4), .int 0, .ref (b 5), .int 0, .int 0, .int 0, .int 0, .int 0, .int 0, .int (-1), .ref (b 6), .int 0, .ref (b 7), .int 0, .int (-1), .int 0, .ref (b 8), .int 0, .ref (b 9), .int 0, .ref (b 10), .ref (b 11), .ref (b 12), .int 0, .int 0, .int 0, .ref (b 13), .ref (b 14), .ref (b 15), .int 0, .int 0, .int 0, .ref (b 16), .ref (b 17), .ref (b 18), .ref (b 19)])), (b 4, .inl (t 1, 1600, .inl g_9)), (b 5, .inl (t 0, 5, .inl g_5))] := hD
  refine lv_iinc (v := 1) (lv' := [(6, .int 1), (0, .ref (b 0)), (1, .int x), (2, .int y), (3, .int z), (4, .int v), (5, .int w)]) hx hb dX12_feed_95 hl (k := 0) rfl (by decide) (by decide) rfl (fun ls hl => ?_)
  refine lv_goto (tgt := 55) hx hb dX12_feed_98 (by decide) ?_
  refine lv_iload hx hb dX12_feed_55 (lv_at hl 0 rfl) ?_
  refine lv_bipush (v := 20) hx hb dX12_feed_57 (by decide) ?_
  refine lv_icmp_ge (tgt := 101) hx hb dX12_feed_59 (by decide) (fun c9 => absurd c9 (by decide)) (fun _ => ?_)
  refine lv_aload_n hx hb dX12_feed_62 rfl (lv_at hl 1 rfl) ?_
  refine va_get (D := D) (ci := 12) (v := .ref (b 4)) (C := RX12) (T := TX12) (N := 40) hx hb hts iX12 hown hK hP 0 rfl rfl 4 (by decide) (hts _ m_1347) (fun _ h9 => h9) rfl dX12_feed_63 ?_
  refine lv_aload_n hx hb dX12_feed_66 rfl (lv_at hl 1 rfl) ?_
  refine va_get (D := D) (ci := 12) (v := .int 0) (C := RX12) (T := TX12) (N := 40) hx hb hts iX12 hown hK hP 0 rfl rfl 5 (by decide) (hts _ m_1348) (fun _ h9 => h9) rfl dX12_feed_67 ?_
  refine lv_iload hx hb dX12_feed_70 (lv_at hl 0 rfl) ?_
  refine lv_iadd hx hb dX12_feed_72 ?_
  refine x_seti 1 (by decide) ?_
  refine lv_aload_n hx hb dX12_feed_73 rfl (lv_at hl 1 rfl) ?_
  refine va_get (D := D) (ci := 12) (v := .ref (b 5)) (C := RX12) (T := TX12) (N := 40) hx hb hts iX12 hown hK hP 0 rfl rfl 6 (by decide) (hts _ m_1349) (fun _ h9 => h9) rfl dX12_feed_74 ?_
  refine lv_iload hx hb dX12_feed_77 (lv_at hl 0 rfl) ?_
  refine lv_iconst (v := 4) hx hb dX12_feed_79 (by decide) ?_
  refine lv_idiv hx hb dX12_feed_80 (by decide) ?_
  refine x_seti 0 (by decide) ?_
  refine va_iald hx hb hK hP 2 0 rfl rfl (vp_in_nI (n := 0) (by decide) (by decide)) dX12_feed_81 ?_
  refine lv_topi (fun x_10 ex_10 => ?_)
  refine lv_bipush (v := 24) hx hb dX12_feed_82 (by decide) ?_
  refine lv_bipush (v := 8) hx hb dX12_feed_84 (by decide) ?_
  refine lv_iload hx hb dX12_feed_86 (lv_at hl 0 rfl) ?_
  refine lv_iconst (v := 4) hx hb dX12_feed_88 (by decide) ?_
  refine lv_irem hx hb dX12_feed_89 (by decide) ?_
  refine x_seti 1 (by decide) ?_
  refine lv_imul hx hb dX12_feed_90 ?_
  refine x_seti 8 (by decide) ?_
  refine lv_isub hx hb dX12_feed_91 ?_
  refine x_seti 16 (by decide) ?_
  refine lv_ishr hx hb dX12_feed_92 ?_
  refine lv_topi (fun x_11 ex_11 => ?_)
  refine lv_i2b hx hb dX12_feed_93 rfl ?_
  refine lv_topi (fun x_12 ex_12 => ?_)
  refine x_bast hx hb hK hP hD hS 1 1 rfl rfl (vp_in_nI (n := 1) (by decide) (by decide)) dX12_feed_94 (fun g_13 H locs hP hD hS => ?_)
  have hP : va_P D classes [(b 0, .inr (12, [.int 0, .ref (b 1), .ref (b 2), .ref (b 3), .ref (b 4), .int 0, .ref (b 5), .int 0, .int 0, .int 0, .int 0, .int 0, .int 0, .int (-1), .ref (b 6), .int 0, .ref (b 7), .int 0, .int (-1), .int 0, .ref (b 8), .int 0, .ref (b 9), .int 0, .ref (b 10), .ref (b 11), .ref (b 12), .int 0, .int 0, .int 0, .ref (b 13), .ref (b 14), .ref (b 15), .int 0, .int 0, .int 0, .ref (b 16), .ref (b 17), .ref (b 18), .ref (b 19)])), (b 4, .inl (t 1, 1600, .inl g_13)), (b 5, .inl (t 0, 5, .inl g_5))] H := hP
  have hD : va_D A [(b 0, .inr (12, [.int 0, .ref (b 1), .ref (b 2), .ref (b 3), .ref (b 4), .int 0, .ref (b 5), .int 0, .int 0, .int 0, .int 0, .int 0, .int 0, .int (-1), .ref (b 6), .int 0, .ref (b 7), .int 0, .int (-1), .int 0, .ref (b 8), .int 0, .ref (b 9), .int 0, .ref (b 10), .ref (b 11), .ref (b 12), .int 0, .int 0, .int 0, .ref (b 13), .ref (b 14), .ref (b 15), .int 0, .int 0, .int 0, .ref (b 16), .ref (b 17), .ref (b 18), .ref (b 19)])), (b 4, .inl (t 1, 1600, .inl g_13)), (b 5, .inl (t 0, 5, .inl g_5))] := hD
  refine lv_iinc (v := 2) (lv' := [(6, .int 2), (0, .ref (b 0)), (1, .int x), (2, .int y), (3, .int z), (4, .int v), (5, .int w)]) hx hb dX12_feed_95 hl (k := 0) rfl (by decide) (by decide) rfl (fun ls hl => ?_)
  refine lv_goto (tgt := 55) hx hb dX12_feed_98 (by decide) ?_
  refine lv_iload hx hb dX12_feed_55 (lv_at hl 0 rfl) ?_
  refine lv_bipush (v := 20) hx hb dX12_feed_57 (by decide) ?_
  refine lv_icmp_ge (tgt := 101) hx hb dX12_feed_59 (by decide) (fun c9 => absurd c9 (by decide)) (fun _ => ?_)
  refine lv_aload_n hx hb dX12_feed_62 rfl (lv_at hl 1 rfl) ?_
  refine va_get (D := D) (ci := 12) (v := .ref (b 4)) (C := RX12) (T := TX12) (N := 40) hx hb hts iX12 hown hK hP 0 rfl rfl 4 (by decide) (hts _ m_1347) (fun _ h9 => h9) rfl dX12_feed_63 ?_
  refine lv_aload_n hx hb dX12_feed_66 rfl (lv_at hl 1 rfl) ?_
  refine va_get (D := D) (ci := 12) (v := .int 0) (C := RX12) (T := TX12) (N := 40) hx hb hts iX12 hown hK hP 0 rfl rfl 5 (by decide) (hts _ m_1348) (fun _ h9 => h9) rfl dX12_feed_67 ?_
  refine lv_iload hx hb dX12_feed_70 (lv_at hl 0 rfl) ?_
  refine lv_iadd hx hb dX12_feed_72 ?_
  refine x_seti 2 (by decide) ?_
  refine lv_aload_n hx hb dX12_feed_73 rfl (lv_at hl 1 rfl) ?_
  refine va_get (D := D) (ci := 12) (v := .ref (b 5)) (C := RX12) (T := TX12) (N := 40) hx hb hts iX12 hown hK hP 0 rfl rfl 6 (by decide) (hts _ m_1349) (fun _ h9 => h9) rfl dX12_feed_74 ?_
  refine lv_iload hx hb dX12_feed_77 (lv_at hl 0 rfl) ?_
  refine lv_iconst (v := 4) hx hb dX12_feed_79 (by decide) ?_
  refine lv_idiv hx hb dX12_feed_80 (by decide) ?_
  refine x_seti 0 (by decide) ?_
  refine va_iald hx hb hK hP 2 0 rfl rfl (vp_in_nI (n := 0) (by decide) (by decide)) dX12_feed_81 ?_
  refine lv_topi (fun x_14 ex_14 => ?_)
  refine lv_bipush (v := 24) hx hb dX12_feed_82 (by decide) ?_
  refine lv_bipush (v := 8) hx hb dX12_feed_84 (by decide) ?_
  refine lv_iload hx hb dX12_feed_86 (lv_at hl 0 rfl) ?_
  refine lv_iconst (v := 4) hx hb dX12_feed_88 (by decide) ?_
  refine lv_irem hx hb dX12_feed_89 (by decide) ?_
  refine x_seti 2 (by decide) ?_
  refine lv_imul hx hb dX12_feed_90 ?_
  refine x_seti 16 (by decide) ?_
  refine lv_isub hx hb dX12_feed_91 ?_
  refine x_seti 8 (by decide) ?_
  refine lv_ishr hx hb dX12_feed_92 ?_
  refine lv_topi (fun x_15 ex_15 => ?_)
  refine lv_i2b hx hb dX12_feed_93 rfl ?_
  refine lv_topi (fun x_16 ex_16 => ?_)
  refine x_bast hx hb hK hP hD hS 1 1 rfl rfl (vp_in_nI (n := 2) (by decide) (by decide)) dX12_feed_94 (fun g_17 H locs hP hD hS => ?_)
  have hP : va_P D classes [(b 0, .inr (12, [.int 0, .ref (b 1), .ref (b 2), .ref (b 3), .ref (b 4), .int 0, .ref (b 5), .int 0, .int 0, .int 0, .int 0, .int 0, .int 0, .int (-1), .ref (b 6), .int 0, .ref (b 7), .int 0, .int (-1), .int 0, .ref (b 8), .int 0, .ref (b 9), .int 0, .ref (b 10), .ref (b 11), .ref (b 12), .int 0, .int 0, .int 0, .ref (b 13), .ref (b 14), .ref (b 15), .int 0, .int 0, .int 0, .ref (b 16), .ref (b 17), .ref (b 18), .ref (b 19)])), (b 4, .inl (t 1, 1600, .inl g_17)), (b 5, .inl (t 0, 5, .inl g_5))] H := hP
  have hD : va_D A [(b 0, .inr (12, [.int 0, .ref (b 1), .ref (b 2), .ref (b 3), .ref (b 4), .int 0, .ref (b 5), .int 0, .int 0, .int 0, .int 0, .int 0, .int 0, .int (-1), .ref (b 6), .int 0, .ref (b 7), .int 0, .int (-1), .int 0, .ref (b 8), .int 0, .ref (b 9), .int 0, .ref (b 10), .ref (b 11), .ref (b 12), .int 0, .int 0, .int 0, .ref (b 13), .ref (b 14), .ref (b 15), .int 0, .int 0, .int 0, .ref (b 16), .ref (b 17), .ref (b 18), .ref (b 19)])), (b 4, .inl (t 1, 1600, .inl g_17)), (b 5, .inl (t 0, 5, .inl g_5))] := hD
  refine lv_iinc (v := 3) (lv' := [(6, .int 3), (0, .ref (b 0)), (1, .int x), (2, .int y), (3, .int z), (4, .int v), (5, .int w)]) hx hb dX12_feed_95 hl (k := 0) rfl (by decide) (by decide) rfl (fun ls hl => ?_)
  refine lv_goto (tgt := 55) hx hb dX12_feed_98 (by decide) ?_
  refine lv_iload hx hb dX12_feed_55 (lv_at hl 0 rfl) ?_
  refine lv_bipush (v := 20) hx hb dX12_feed_57 (by decide) ?_
  refine lv_icmp_ge (tgt := 101) hx hb dX12_feed_59 (by decide) (fun c9 => absurd c9 (by decide)) (fun _ => ?_)
  refine lv_aload_n hx hb dX12_feed_62 rfl (lv_at hl 1 rfl) ?_
  refine va_get (D := D) (ci := 12) (v := .ref (b 4)) (C := RX12) (T := TX12) (N := 40) hx hb hts iX12 hown hK hP 0 rfl rfl 4 (by decide) (hts _ m_1347) (fun _ h9 => h9) rfl dX12_feed_63 ?_
  refine lv_aload_n hx hb dX12_feed_66 rfl (lv_at hl 1 rfl) ?_
  refine va_get (D := D) (ci := 12) (v := .int 0) (C := RX12) (T := TX12) (N := 40) hx hb hts iX12 hown hK hP 0 rfl rfl 5 (by decide) (hts _ m_1348) (fun _ h9 => h9) rfl dX12_feed_67 ?_
  refine lv_iload hx hb dX12_feed_70 (lv_at hl 0 rfl) ?_
  refine lv_iadd hx hb dX12_feed_72 ?_
  refine x_seti 3 (by decide) ?_
  refine lv_aload_n hx hb dX12_feed_73 rfl (lv_at hl 1 rfl) ?_
  refine va_get (D := D) (ci := 12) (v := .ref (b 5)) (C := RX12) (T := TX12) (N := 40) hx hb hts iX12 hown hK hP 0 rfl rfl 6 (by decide) (hts _ m_1349) (fun _ h9 => h9) rfl dX12_feed_74 ?_
  refine lv_iload hx hb dX12_feed_77 (lv_at hl 0 rfl) ?_
  refine lv_iconst (v := 4) hx hb dX12_feed_79 (by decide) ?_
  refine lv_idiv hx hb dX12_feed_80 (by decide) ?_
  refine x_seti 0 (by decide) ?_
  refine va_iald hx hb hK hP 2 0 rfl rfl (vp_in_nI (n := 0) (by decide) (by decide)) dX12_feed_81 ?_
  refine lv_topi (fun x_18 ex_18 => ?_)
  refine lv_bipush (v := 24) hx hb dX12_feed_82 (by decide) ?_
  refine lv_bipush (v := 8) hx hb dX12_feed_84 (by decide) ?_
  refine lv_iload hx hb dX12_feed_86 (lv_at hl 0 rfl) ?_
  refine lv_iconst (v := 4) hx hb dX12_feed_88 (by decide) ?_
  refine lv_irem hx hb dX12_feed_89 (by decide) ?_
  refine x_seti 3 (by decide) ?_
  refine lv_imul hx hb dX12_feed_90 ?_
  refine x_seti 24 (by decide) ?_
  refine lv_isub hx hb dX12_feed_91 ?_
  refine x_seti 0 (by decide) ?_
  refine lv_ishr hx hb dX12_feed_92 ?_
  refine lv_topi (fun x_19 ex_19 => ?_)
  refine lv_i2b hx hb dX12_feed_93 rfl ?_
  refine lv_topi (fun x_20 ex_20 => ?_)
  refine x_bast hx hb hK hP hD hS 1 1 rfl rfl (vp_in_nI (n := 3) (by decide) (by decide)) dX12_feed_94 (fun g_21 H locs hP hD hS => ?_)
  have hP : va_P D classes [(b 0, .inr (12, [.int 0, .ref (b 1), .ref (b 2), .ref (b 3), .ref (b 4), .int 0, .ref (b 5), .int 0, .int 0, .int 0, .int 0, .int 0, .int 0, .int (-1), .ref (b 6), .int 0, .ref (b 7), .int 0, .int (-1), .int 0, .ref (b 8), .int 0, .ref (b 9), .int 0, .ref (b 10), .ref (b 11), .ref (b 12), .int 0, .int 0, .int 0, .ref (b 13), .ref (b 14), .ref (b 15), .int 0, .int 0, .int 0, .ref (b 16), .ref (b 17), .ref (b 18), .ref (b 19)])), (b 4, .inl (t 1, 1600, .inl g_21)), (b 5, .inl (t 0, 5, .inl g_5))] H := hP
  have hD : va_D A [(b 0, .inr (12, [.int 0, .ref (b 1), .ref (b 2), .ref (b 3), .ref (b 4), .int 0, .ref (b 5), .int 0, .int 0, .int 0, .int 0, .int 0, .int 0, .int (-1), .ref (b 6), .int 0, .ref (b 7), .int 0, .int (-1), .int 0, .ref (b 8), .int 0, .ref (b 9), .int 0, .ref (b 10), .ref (b 11), .ref (b 12), .int 0, .int 0, .int 0, .ref (b 13), .ref (b 14), .ref (b 15), .int 0, .int 0, .int 0, .ref (b 16), .ref (b 17), .ref (b 18), .ref (b 19)])), (b 4, .inl (t 1, 1600, .inl g_21)), (b 5, .inl (t 0, 5, .inl g_5))] := hD
  refine lv_iinc (v := 4) (lv' := [(6, .int 4), (0, .ref (b 0)), (1, .int x), (2, .int y), (3, .int z), (4, .int v), (5, .int w)]) hx hb dX12_feed_95 hl (k := 0) rfl (by decide) (by decide) rfl (fun ls hl => ?_)
  refine lv_goto (tgt := 55) hx hb dX12_feed_98 (by decide) ?_
  refine lv_iload hx hb dX12_feed_55 (lv_at hl 0 rfl) ?_
  refine lv_bipush (v := 20) hx hb dX12_feed_57 (by decide) ?_
  refine lv_icmp_ge (tgt := 101) hx hb dX12_feed_59 (by decide) (fun c9 => absurd c9 (by decide)) (fun _ => ?_)
  refine lv_aload_n hx hb dX12_feed_62 rfl (lv_at hl 1 rfl) ?_
  refine va_get (D := D) (ci := 12) (v := .ref (b 4)) (C := RX12) (T := TX12) (N := 40) hx hb hts iX12 hown hK hP 0 rfl rfl 4 (by decide) (hts _ m_1347) (fun _ h9 => h9) rfl dX12_feed_63 ?_
  refine lv_aload_n hx hb dX12_feed_66 rfl (lv_at hl 1 rfl) ?_
  refine va_get (D := D) (ci := 12) (v := .int 0) (C := RX12) (T := TX12) (N := 40) hx hb hts iX12 hown hK hP 0 rfl rfl 5 (by decide) (hts _ m_1348) (fun _ h9 => h9) rfl dX12_feed_67 ?_
  refine lv_iload hx hb dX12_feed_70 (lv_at hl 0 rfl) ?_
  refine lv_iadd hx hb dX12_feed_72 ?_
  refine x_seti 4 (by decide) ?_
  refine lv_aload_n hx hb dX12_feed_73 rfl (lv_at hl 1 rfl) ?_
  refine va_get (D := D) (ci := 12) (v := .ref (b 5)) (C := RX12) (T := TX12) (N := 40) hx hb hts iX12 hown hK hP 0 rfl rfl 6 (by decide) (hts _ m_1349) (fun _ h9 => h9) rfl dX12_feed_74 ?_
  refine lv_iload hx hb dX12_feed_77 (lv_at hl 0 rfl) ?_
  refine lv_iconst (v := 4) hx hb dX12_feed_79 (by decide) ?_
  refine lv_idiv hx hb dX12_feed_80 (by decide) ?_
  refine x_seti 1 (by decide) ?_
  refine va_iald hx hb hK hP 2 0 rfl rfl (vp_in_nI (n := 1) (by decide) (by decide)) dX12_feed_81 ?_
  refine lv_topi (fun x_22 ex_22 => ?_)
  refine lv_bipush (v := 24) hx hb dX12_feed_82 (by decide) ?_
  refine lv_bipush (v := 8) hx hb dX12_feed_84 (by decide) ?_
  refine lv_iload hx hb dX12_feed_86 (lv_at hl 0 rfl) ?_
  refine lv_iconst (v := 4) hx hb dX12_feed_88 (by decide) ?_
  refine lv_irem hx hb dX12_feed_89 (by decide) ?_
  refine x_seti 0 (by decide) ?_
  refine lv_imul hx hb dX12_feed_90 ?_
  refine x_seti 0 (by decide) ?_
  refine lv_isub hx hb dX12_feed_91 ?_
  refine x_seti 24 (by decide) ?_
  refine lv_ishr hx hb dX12_feed_92 ?_
  refine lv_topi (fun x_23 ex_23 => ?_)
  refine lv_i2b hx hb dX12_feed_93 rfl ?_
  refine lv_topi (fun x_24 ex_24 => ?_)
  refine x_bast hx hb hK hP hD hS 1 1 rfl rfl (vp_in_nI (n := 4) (by decide) (by decide)) dX12_feed_94 (fun g_25 H locs hP hD hS => ?_)
  have hP : va_P D classes [(b 0, .inr (12, [.int 0, .ref (b 1), .ref (b 2), .ref (b 3), .ref (b 4), .int 0, .ref (b 5), .int 0, .int 0, .int 0, .int 0, .int 0, .int 0, .int (-1), .ref (b 6), .int 0, .ref (b 7), .int 0, .int (-1), .int 0, .ref (b 8), .int 0, .ref (b 9), .int 0, .ref (b 10), .ref (b 11), .ref (b 12), .int 0, .int 0, .int 0, .ref (b 13), .ref (b 14), .ref (b 15), .int 0, .int 0, .int 0, .ref (b 16), .ref (b 17), .ref (b 18), .ref (b 19)])), (b 4, .inl (t 1, 1600, .inl g_25)), (b 5, .inl (t 0, 5, .inl g_5))] H := hP
  have hD : va_D A [(b 0, .inr (12, [.int 0, .ref (b 1), .ref (b 2), .ref (b 3), .ref (b 4), .int 0, .ref (b 5), .int 0, .int 0, .int 0, .int 0, .int 0, .int 0, .int (-1), .ref (b 6), .int 0, .ref (b 7), .int 0, .int (-1), .int 0, .ref (b 8), .int 0, .ref (b 9), .int 0, .ref (b 10), .ref (b 11), .ref (b 12), .int 0, .int 0, .int 0, .ref (b 13), .ref (b 14), .ref (b 15), .int 0, .int 0, .int 0, .ref (b 16), .ref (b 17), .ref (b 18), .ref (b 19)])), (b 4, .inl (t 1, 1600, .inl g_25)), (b 5, .inl (t 0, 5, .inl g_5))] := hD
  refine lv_iinc (v := 5) (lv' := [(6, .int 5), (0, .ref (b 0)), (1, .int x), (2, .int y), (3, .int z), (4, .int v), (5, .int w)]) hx hb dX12_feed_95 hl (k := 0) rfl (by decide) (by decide) rfl (fun ls hl => ?_)
  refine lv_goto (tgt := 55) hx hb dX12_feed_98 (by decide) ?_
  refine lv_iload hx hb dX12_feed_55 (lv_at hl 0 rfl) ?_
  refine lv_bipush (v := 20) hx hb dX12_feed_57 (by decide) ?_
  refine lv_icmp_ge (tgt := 101) hx hb dX12_feed_59 (by decide) (fun c9 => absurd c9 (by decide)) (fun _ => ?_)
  refine lv_aload_n hx hb dX12_feed_62 rfl (lv_at hl 1 rfl) ?_
  refine va_get (D := D) (ci := 12) (v := .ref (b 4)) (C := RX12) (T := TX12) (N := 40) hx hb hts iX12 hown hK hP 0 rfl rfl 4 (by decide) (hts _ m_1347) (fun _ h9 => h9) rfl dX12_feed_63 ?_
  refine lv_aload_n hx hb dX12_feed_66 rfl (lv_at hl 1 rfl) ?_
  refine va_get (D := D) (ci := 12) (v := .int 0) (C := RX12) (T := TX12) (N := 40) hx hb hts iX12 hown hK hP 0 rfl rfl 5 (by decide) (hts _ m_1348) (fun _ h9 => h9) rfl dX12_feed_67 ?_
  refine lv_iload hx hb dX12_feed_70 (lv_at hl 0 rfl) ?_
  refine lv_iadd hx hb dX12_feed_72 ?_
  refine x_seti 5 (by decide) ?_
  refine lv_aload_n hx hb dX12_feed_73 rfl (lv_at hl 1 rfl) ?_
  refine va_get (D := D) (ci := 12) (v := .ref (b 5)) (C := RX12) (T := TX12) (N := 40) hx hb hts iX12 hown hK hP 0 rfl rfl 6 (by decide) (hts _ m_1349) (fun _ h9 => h9) rfl dX12_feed_74 ?_
  refine lv_iload hx hb dX12_feed_77 (lv_at hl 0 rfl) ?_
  refine lv_iconst (v := 4) hx hb dX12_feed_79 (by decide) ?_
  refine lv_idiv hx hb dX12_feed_80 (by decide) ?_
  refine x_seti 1 (by decide) ?_
  refine va_iald hx hb hK hP 2 0 rfl rfl (vp_in_nI (n := 1) (by decide) (by decide)) dX12_feed_81 ?_
  refine lv_topi (fun x_26 ex_26 => ?_)
  refine lv_bipush (v := 24) hx hb dX12_feed_82 (by decide) ?_
  refine lv_bipush (v := 8) hx hb dX12_feed_84 (by decide) ?_
  refine lv_iload hx hb dX12_feed_86 (lv_at hl 0 rfl) ?_
  refine lv_iconst (v := 4) hx hb dX12_feed_88 (by decide) ?_
  refine lv_irem hx hb dX12_feed_89 (by decide) ?_
  refine x_seti 1 (by decide) ?_
  refine lv_imul hx hb dX12_feed_90 ?_
  refine x_seti 8 (by decide) ?_
  refine lv_isub hx hb dX12_feed_91 ?_
  refine x_seti 16 (by decide) ?_
  refine lv_ishr hx hb dX12_feed_92 ?_
  refine lv_topi (fun x_27 ex_27 => ?_)
  refine lv_i2b hx hb dX12_feed_93 rfl ?_
  refine lv_topi (fun x_28 ex_28 => ?_)
  refine x_bast hx hb hK hP hD hS 1 1 rfl rfl (vp_in_nI (n := 5) (by decide) (by decide)) dX12_feed_94 (fun g_29 H locs hP hD hS => ?_)
  have hP : va_P D classes [(b 0, .inr (12, [.int 0, .ref (b 1), .ref (b 2), .ref (b 3), .ref (b 4), .int 0, .ref (b 5), .int 0, .int 0, .int 0, .int 0, .int 0, .int 0, .int (-1), .ref (b 6), .int 0, .ref (b 7), .int 0, .int (-1), .int 0, .ref (b 8), .int 0, .ref (b 9), .int 0, .ref (b 10), .ref (b 11), .ref (b 12), .int 0, .int 0, .int 0, .ref (b 13), .ref (b 14), .ref (b 15), .int 0, .int 0, .int 0, .ref (b 16), .ref (b 17), .ref (b 18), .ref (b 19)])), (b 4, .inl (t 1, 1600, .inl g_29)), (b 5, .inl (t 0, 5, .inl g_5))] H := hP
  have hD : va_D A [(b 0, .inr (12, [.int 0, .ref (b 1), .ref (b 2), .ref (b 3), .ref (b 4), .int 0, .ref (b 5), .int 0, .int 0, .int 0, .int 0, .int 0, .int 0, .int (-1), .ref (b 6), .int 0, .ref (b 7), .int 0, .int (-1), .int 0, .ref (b 8), .int 0, .ref (b 9), .int 0, .ref (b 10), .ref (b 11), .ref (b 12), .int 0, .int 0, .int 0, .ref (b 13), .ref (b 14), .ref (b 15), .int 0, .int 0, .int 0, .ref (b 16), .ref (b 17), .ref (b 18), .ref (b 19)])), (b 4, .inl (t 1, 1600, .inl g_29)), (b 5, .inl (t 0, 5, .inl g_5))] := hD
  refine lv_iinc (v := 6) (lv' := [(6, .int 6), (0, .ref (b 0)), (1, .int x), (2, .int y), (3, .int z), (4, .int v), (5, .int w)]) hx hb dX12_feed_95 hl (k := 0) rfl (by decide) (by decide) rfl (fun ls hl => ?_)
  refine lv_goto (tgt := 55) hx hb dX12_feed_98 (by decide) ?_
  refine lv_iload hx hb dX12_feed_55 (lv_at hl 0 rfl) ?_
  refine lv_bipush (v := 20) hx hb dX12_feed_57 (by decide) ?_
  refine lv_icmp_ge (tgt := 101) hx hb dX12_feed_59 (by decide) (fun c9 => absurd c9 (by decide)) (fun _ => ?_)
  refine lv_aload_n hx hb dX12_feed_62 rfl (lv_at hl 1 rfl) ?_
  refine va_get (D := D) (ci := 12) (v := .ref (b 4)) (C := RX12) (T := TX12) (N := 40) hx hb hts iX12 hown hK hP 0 rfl rfl 4 (by decide) (hts _ m_1347) (fun _ h9 => h9) rfl dX12_feed_63 ?_
  refine lv_aload_n hx hb dX12_feed_66 rfl (lv_at hl 1 rfl) ?_
  refine va_get (D := D) (ci := 12) (v := .int 0) (C := RX12) (T := TX12) (N := 40) hx hb hts iX12 hown hK hP 0 rfl rfl 5 (by decide) (hts _ m_1348) (fun _ h9 => h9) rfl dX12_feed_67 ?_
  refine lv_iload hx hb dX12_feed_70 (lv_at hl 0 rfl) ?_
  refine lv_iadd hx hb dX12_feed_72 ?_
  refine x_seti 6 (by decide) ?_
  refine lv_aload_n hx hb dX12_feed_73 rfl (lv_at hl 1 rfl) ?_
  refine va_get (D := D) (ci := 12) (v := .ref (b 5)) (C := RX12) (T := TX12) (N := 40) hx hb hts iX12 hown hK hP 0 rfl rfl 6 (by decide) (hts _ m_1349) (fun _ h9 => h9) rfl dX12_feed_74 ?_
  refine lv_iload hx hb dX12_feed_77 (lv_at hl 0 rfl) ?_
  refine lv_iconst (v := 4) hx hb dX12_feed_79 (by decide) ?_
  refine lv_idiv hx hb dX12_feed_80 (by decide) ?_
  refine x_seti 1 (by decide) ?_
  refine va_iald hx hb hK hP 2 0 rfl rfl (vp_in_nI (n := 1) (by decide) (by decide)) dX12_feed_81 ?_
  refine lv_topi (fun x_30 ex_30 => ?_)
  refine lv_bipush (v := 24) hx hb dX12_feed_82 (by decide) ?_
  refine lv_bipush (v := 8) hx hb dX12_feed_84 (by decide) ?_
  refine lv_iload hx hb dX12_feed_86 (lv_at hl 0 rfl) ?_
  refine lv_iconst (v := 4) hx hb dX12_feed_88 (by decide) ?_
  refine lv_irem hx hb dX12_feed_89 (by decide) ?_
  refine x_seti 2 (by decide) ?_
  refine lv_imul hx hb dX12_feed_90 ?_
  refine x_seti 16 (by decide) ?_
  refine lv_isub hx hb dX12_feed_91 ?_
  refine x_seti 8 (by decide) ?_
  refine lv_ishr hx hb dX12_feed_92 ?_
  refine lv_topi (fun x_31 ex_31 => ?_)
  refine lv_i2b hx hb dX12_feed_93 rfl ?_
  refine lv_topi (fun x_32 ex_32 => ?_)
  refine x_bast hx hb hK hP hD hS 1 1 rfl rfl (vp_in_nI (n := 6) (by decide) (by decide)) dX12_feed_94 (fun g_33 H locs hP hD hS => ?_)
  have hP : va_P D classes [(b 0, .inr (12, [.int 0, .ref (b 1), .ref (b 2), .ref (b 3), .ref (b 4), .int 0, .ref (b 5), .int 0, .int 0, .int 0, .int 0, .int 0, .int 0, .int (-1), .ref (b 6), .int 0, .ref (b 7), .int 0, .int (-1), .int 0, .ref (b 8), .int 0, .ref (b 9), .int 0, .ref (b 10), .ref (b 11), .ref (b 12), .int 0, .int 0, .int 0, .ref (b 13), .ref (b 14), .ref (b 15), .int 0, .int 0, .int 0, .ref (b 16), .ref (b 17), .ref (b 18), .ref (b 19)])), (b 4, .inl (t 1, 1600, .inl g_33)), (b 5, .inl (t 0, 5, .inl g_5))] H := hP
  have hD : va_D A [(b 0, .inr (12, [.int 0, .ref (b 1), .ref (b 2), .ref (b 3), .ref (b 4), .int 0, .ref (b 5), .int 0, .int 0, .int 0, .int 0, .int 0, .int 0, .int (-1), .ref (b 6), .int 0, .ref (b 7), .int 0, .int (-1), .int 0, .ref (b 8), .int 0, .ref (b 9), .int 0, .ref (b 10), .ref (b 11), .ref (b 12), .int 0, .int 0, .int 0, .ref (b 13), .ref (b 14), .ref (b 15), .int 0, .int 0, .int 0, .ref (b 16), .ref (b 17), .ref (b 18), .ref (b 19)])), (b 4, .inl (t 1, 1600, .inl g_33)), (b 5, .inl (t 0, 5, .inl g_5))] := hD
  refine lv_iinc (v := 7) (lv' := [(6, .int 7), (0, .ref (b 0)), (1, .int x), (2, .int y), (3, .int z), (4, .int v), (5, .int w)]) hx hb dX12_feed_95 hl (k := 0) rfl (by decide) (by decide) rfl (fun ls hl => ?_)
  refine lv_goto (tgt := 55) hx hb dX12_feed_98 (by decide) ?_
  refine lv_iload hx hb dX12_feed_55 (lv_at hl 0 rfl) ?_
  refine lv_bipush (v := 20) hx hb dX12_feed_57 (by decide) ?_
  refine lv_icmp_ge (tgt := 101) hx hb dX12_feed_59 (by decide) (fun c9 => absurd c9 (by decide)) (fun _ => ?_)
  refine lv_aload_n hx hb dX12_feed_62 rfl (lv_at hl 1 rfl) ?_
  refine va_get (D := D) (ci := 12) (v := .ref (b 4)) (C := RX12) (T := TX12) (N := 40) hx hb hts iX12 hown hK hP 0 rfl rfl 4 (by decide) (hts _ m_1347) (fun _ h9 => h9) rfl dX12_feed_63 ?_
  refine lv_aload_n hx hb dX12_feed_66 rfl (lv_at hl 1 rfl) ?_
  refine va_get (D := D) (ci := 12) (v := .int 0) (C := RX12) (T := TX12) (N := 40) hx hb hts iX12 hown hK hP 0 rfl rfl 5 (by decide) (hts _ m_1348) (fun _ h9 => h9) rfl dX12_feed_67 ?_
  refine lv_iload hx hb dX12_feed_70 (lv_at hl 0 rfl) ?_
  refine lv_iadd hx hb dX12_feed_72 ?_
  refine x_seti 7 (by decide) ?_
  refine lv_aload_n hx hb dX12_feed_73 rfl (lv_at hl 1 rfl) ?_
  refine va_get (D := D) (ci := 12) (v := .ref (b 5)) (C := RX12) (T := TX12) (N := 40) hx hb hts iX12 hown hK hP 0 rfl rfl 6 (by decide) (hts _ m_1349) (fun _ h9 => h9) rfl dX12_feed_74 ?_
  refine lv_iload hx hb dX12_feed_77 (lv_at hl 0 rfl) ?_
  refine lv_iconst (v := 4) hx hb dX12_feed_79 (by decide) ?_
  refine lv_idiv hx hb dX12_feed_80 (by decide) ?_
  refine x_seti 1 (by decide) ?_
  refine va_iald hx hb hK hP 2 0 rfl rfl (vp_in_nI (n := 1) (by decide) (by decide)) dX12_feed_81 ?_
  refine lv_topi (fun x_34 ex_34 => ?_)
  refine lv_bipush (v := 24) hx hb dX12_feed_82 (by decide) ?_
  refine lv_bipush (v := 8) hx hb dX12_feed_84 (by decide) ?_
  refine lv_iload hx hb dX12_feed_86 (lv_at hl 0 rfl) ?_
  refine lv_iconst (v := 4) hx hb dX12_feed_88 (by decide) ?_
  refine lv_irem hx hb dX12_feed_89 (by decide) ?_
  refine x_seti 3 (by decide) ?_
  refine lv_imul hx hb dX12_feed_90 ?_
  refine x_seti 24 (by decide) ?_
  refine lv_isub hx hb dX12_feed_91 ?_
  refine x_seti 0 (by decide) ?_
  refine lv_ishr hx hb dX12_feed_92 ?_
  refine lv_topi (fun x_35 ex_35 => ?_)
  refine lv_i2b hx hb dX12_feed_93 rfl ?_
  refine lv_topi (fun x_36 ex_36 => ?_)
  refine x_bast hx hb hK hP hD hS 1 1 rfl rfl (vp_in_nI (n := 7) (by decide) (by decide)) dX12_feed_94 (fun g_37 H locs hP hD hS => ?_)
  have hP : va_P D classes [(b 0, .inr (12, [.int 0, .ref (b 1), .ref (b 2), .ref (b 3), .ref (b 4), .int 0, .ref (b 5), .int 0, .int 0, .int 0, .int 0, .int 0, .int 0, .int (-1), .ref (b 6), .int 0, .ref (b 7), .int 0, .int (-1), .int 0, .ref (b 8), .int 0, .ref (b 9), .int 0, .ref (b 10), .ref (b 11), .ref (b 12), .int 0, .int 0, .int 0, .ref (b 13), .ref (b 14), .ref (b 15), .int 0, .int 0, .int 0, .ref (b 16), .ref (b 17), .ref (b 18), .ref (b 19)])), (b 4, .inl (t 1, 1600, .inl g_37)), (b 5, .inl (t 0, 5, .inl g_5))] H := hP
  have hD : va_D A [(b 0, .inr (12, [.int 0, .ref (b 1), .ref (b 2), .ref (b 3), .ref (b 4), .int 0, .ref (b 5), .int 0, .int 0, .int 0, .int 0, .int 0, .int 0, .int (-1), .ref (b 6), .int 0, .ref (b 7), .int 0, .int (-1), .int 0, .ref (b 8), .int 0, .ref (b 9), .int 0, .ref (b 10), .ref (b 11), .ref (b 12), .int 0, .int 0, .int 0, .ref (b 13), .ref (b 14), .ref (b 15), .int 0, .int 0, .int 0, .ref (b 16), .ref (b 17), .ref (b 18), .ref (b 19)])), (b 4, .inl (t 1, 1600, .inl g_37)), (b 5, .inl (t 0, 5, .inl g_5))] := hD
  refine lv_iinc (v := 8) (lv' := [(6, .int 8), (0, .ref (b 0)), (1, .int x), (2, .int y), (3, .int z), (4, .int v), (5, .int w)]) hx hb dX12_feed_95 hl (k := 0) rfl (by decide) (by decide) rfl (fun ls hl => ?_)
  refine lv_goto (tgt := 55) hx hb dX12_feed_98 (by decide) ?_
  refine lv_iload hx hb dX12_feed_55 (lv_at hl 0 rfl) ?_
  refine lv_bipush (v := 20) hx hb dX12_feed_57 (by decide) ?_
  refine lv_icmp_ge (tgt := 101) hx hb dX12_feed_59 (by decide) (fun c9 => absurd c9 (by decide)) (fun _ => ?_)
  refine lv_aload_n hx hb dX12_feed_62 rfl (lv_at hl 1 rfl) ?_
  refine va_get (D := D) (ci := 12) (v := .ref (b 4)) (C := RX12) (T := TX12) (N := 40) hx hb hts iX12 hown hK hP 0 rfl rfl 4 (by decide) (hts _ m_1347) (fun _ h9 => h9) rfl dX12_feed_63 ?_
  refine lv_aload_n hx hb dX12_feed_66 rfl (lv_at hl 1 rfl) ?_
  refine va_get (D := D) (ci := 12) (v := .int 0) (C := RX12) (T := TX12) (N := 40) hx hb hts iX12 hown hK hP 0 rfl rfl 5 (by decide) (hts _ m_1348) (fun _ h9 => h9) rfl dX12_feed_67 ?_
  refine lv_iload hx hb dX12_feed_70 (lv_at hl 0 rfl) ?_
  refine lv_iadd hx hb dX12_feed_72 ?_
  refine x_seti 8 (by decide) ?_
  refine lv_aload_n hx hb dX12_feed_73 rfl (lv_at hl 1 rfl) ?_
  refine va_get (D := D) (ci := 12) (v := .ref (b 5)) (C := RX12) (T := TX12) (N := 40) hx hb hts iX12 hown hK hP 0 rfl rfl 6 (by decide) (hts _ m_1349) (fun _ h9 => h9) rfl dX12_feed_74 ?_
  refine lv_iload hx hb dX12_feed_77 (lv_at hl 0 rfl) ?_
  refine lv_iconst (v := 4) hx hb dX12_feed_79 (by decide) ?_
  refine lv_idiv hx hb dX12_feed_80 (by decide) ?_
  refine x_seti 2 (by decide) ?_
  refine va_iald hx hb hK hP 2 0 rfl rfl (vp_in_nI (n := 2) (by decide) (by decide)) dX12_feed_81 ?_
  refine lv_topi (fun x_38 ex_38 => ?_)
  refine lv_bipush (v := 24) hx hb dX12_feed_82 (by decide) ?_
  refine lv_bipush (v := 8) hx hb dX12_feed_84 (by decide) ?_
  refine lv_iload hx hb dX12_feed_86 (lv_at hl 0 rfl) ?_
  refine lv_iconst (v := 4) hx hb dX12_feed_88 (by decide) ?_
  refine lv_irem hx hb dX12_feed_89 (by decide) ?_
  refine x_seti 0 (by decide) ?_
  refine lv_imul hx hb dX12_feed_90 ?_
  refine x_seti 0 (by decide) ?_
  refine lv_isub hx hb dX12_feed_91 ?_
  refine x_seti 24 (by decide) ?_
  refine lv_ishr hx hb dX12_feed_92 ?_
  refine lv_topi (fun x_39 ex_39 => ?_)
  refine lv_i2b hx hb dX12_feed_93 rfl ?_
  refine lv_topi (fun x_40 ex_40 => ?_)
  refine x_bast hx hb hK hP hD hS 1 1 rfl rfl (vp_in_nI (n := 8) (by decide) (by decide)) dX12_feed_94 (fun g_41 H locs hP hD hS => ?_)
  have hP : va_P D classes [(b 0, .inr (12, [.int 0, .ref (b 1), .ref (b 2), .ref (b 3), .ref (b 4), .int 0, .ref (b 5), .int 0, .int 0, .int 0, .int 0, .int 0, .int 0, .int (-1), .ref (b 6), .int 0, .ref (b 7), .int 0, .int (-1), .int 0, .ref (b 8), .int 0, .ref (b 9), .int 0, .ref (b 10), .ref (b 11), .ref (b 12), .int 0, .int 0, .int 0, .ref (b 13), .ref (b 14), .ref (b 15), .int 0, .int 0, .int 0, .ref (b 16), .ref (b 17), .ref (b 18), .ref (b 19)])), (b 4, .inl (t 1, 1600, .inl g_41)), (b 5, .inl (t 0, 5, .inl g_5))] H := hP
  have hD : va_D A [(b 0, .inr (12, [.int 0, .ref (b 1), .ref (b 2), .ref (b 3), .ref (b 4), .int 0, .ref (b 5), .int 0, .int 0, .int 0, .int 0, .int 0, .int 0, .int (-1), .ref (b 6), .int 0, .ref (b 7), .int 0, .int (-1), .int 0, .ref (b 8), .int 0, .ref (b 9), .int 0, .ref (b 10), .ref (b 11), .ref (b 12), .int 0, .int 0, .int 0, .ref (b 13), .ref (b 14), .ref (b 15), .int 0, .int 0, .int 0, .ref (b 16), .ref (b 17), .ref (b 18), .ref (b 19)])), (b 4, .inl (t 1, 1600, .inl g_41)), (b 5, .inl (t 0, 5, .inl g_5))] := hD
  refine lv_iinc (v := 9) (lv' := [(6, .int 9), (0, .ref (b 0)), (1, .int x), (2, .int y), (3, .int z), (4, .int v), (5, .int w)]) hx hb dX12_feed_95 hl (k := 0) rfl (by decide) (by decide) rfl (fun ls hl => ?_)
  refine lv_goto (tgt := 55) hx hb dX12_feed_98 (by decide) ?_
  refine lv_iload hx hb dX12_feed_55 (lv_at hl 0 rfl) ?_
  refine lv_bipush (v := 20) hx hb dX12_feed_57 (by decide) ?_
  refine lv_icmp_ge (tgt := 101) hx hb dX12_feed_59 (by decide) (fun c9 => absurd c9 (by decide)) (fun _ => ?_)
  refine lv_aload_n hx hb dX12_feed_62 rfl (lv_at hl 1 rfl) ?_
  refine va_get (D := D) (ci := 12) (v := .ref (b 4)) (C := RX12) (T := TX12) (N := 40) hx hb hts iX12 hown hK hP 0 rfl rfl 4 (by decide) (hts _ m_1347) (fun _ h9 => h9) rfl dX12_feed_63 ?_
  refine lv_aload_n hx hb dX12_feed_66 rfl (lv_at hl 1 rfl) ?_
  refine va_get (D := D) (ci := 12) (v := .int 0) (C := RX12) (T := TX12) (N := 40) hx hb hts iX12 hown hK hP 0 rfl rfl 5 (by decide) (hts _ m_1348) (fun _ h9 => h9) rfl dX12_feed_67 ?_
  refine lv_iload hx hb dX12_feed_70 (lv_at hl 0 rfl) ?_
  refine lv_iadd hx hb dX12_feed_72 ?_
  refine x_seti 9 (by decide) ?_
  refine lv_aload_n hx hb dX12_feed_73 rfl (lv_at hl 1 rfl) ?_
  refine va_get (D := D) (ci := 12) (v := .ref (b 5)) (C := RX12) (T := TX12) (N := 40) hx hb hts iX12 hown hK hP 0 rfl rfl 6 (by decide) (hts _ m_1349) (fun _ h9 => h9) rfl dX12_feed_74 ?_
  refine lv_iload hx hb dX12_feed_77 (lv_at hl 0 rfl) ?_
  refine lv_iconst (v := 4) hx hb dX12_feed_79 (by decide) ?_
  refine lv_idiv hx hb dX12_feed_80 (by decide) ?_
  refine x_seti 2 (by decide) ?_
  refine va_iald hx hb hK hP 2 0 rfl rfl (vp_in_nI (n := 2) (by decide) (by decide)) dX12_feed_81 ?_
  refine lv_topi (fun x_42 ex_42 => ?_)
  refine lv_bipush (v := 24) hx hb dX12_feed_82 (by decide) ?_
  refine lv_bipush (v := 8) hx hb dX12_feed_84 (by decide) ?_
  refine lv_iload hx hb dX12_feed_86 (lv_at hl 0 rfl) ?_
  refine lv_iconst (v := 4) hx hb dX12_feed_88 (by decide) ?_
  refine lv_irem hx hb dX12_feed_89 (by decide) ?_
  refine x_seti 1 (by decide) ?_
  refine lv_imul hx hb dX12_feed_90 ?_
  refine x_seti 8 (by decide) ?_
  refine lv_isub hx hb dX12_feed_91 ?_
  refine x_seti 16 (by decide) ?_
  refine lv_ishr hx hb dX12_feed_92 ?_
  refine lv_topi (fun x_43 ex_43 => ?_)
  refine lv_i2b hx hb dX12_feed_93 rfl ?_
  refine lv_topi (fun x_44 ex_44 => ?_)
  refine x_bast hx hb hK hP hD hS 1 1 rfl rfl (vp_in_nI (n := 9) (by decide) (by decide)) dX12_feed_94 (fun g_45 H locs hP hD hS => ?_)
  have hP : va_P D classes [(b 0, .inr (12, [.int 0, .ref (b 1), .ref (b 2), .ref (b 3), .ref (b 4), .int 0, .ref (b 5), .int 0, .int 0, .int 0, .int 0, .int 0, .int 0, .int (-1), .ref (b 6), .int 0, .ref (b 7), .int 0, .int (-1), .int 0, .ref (b 8), .int 0, .ref (b 9), .int 0, .ref (b 10), .ref (b 11), .ref (b 12), .int 0, .int 0, .int 0, .ref (b 13), .ref (b 14), .ref (b 15), .int 0, .int 0, .int 0, .ref (b 16), .ref (b 17), .ref (b 18), .ref (b 19)])), (b 4, .inl (t 1, 1600, .inl g_45)), (b 5, .inl (t 0, 5, .inl g_5))] H := hP
  have hD : va_D A [(b 0, .inr (12, [.int 0, .ref (b 1), .ref (b 2), .ref (b 3), .ref (b 4), .int 0, .ref (b 5), .int 0, .int 0, .int 0, .int 0, .int 0, .int 0, .int (-1), .ref (b 6), .int 0, .ref (b 7), .int 0, .int (-1), .int 0, .ref (b 8), .int 0, .ref (b 9), .int 0, .ref (b 10), .ref (b 11), .ref (b 12), .int 0, .int 0, .int 0, .ref (b 13), .ref (b 14), .ref (b 15), .int 0, .int 0, .int 0, .ref (b 16), .ref (b 17), .ref (b 18), .ref (b 19)])), (b 4, .inl (t 1, 1600, .inl g_45)), (b 5, .inl (t 0, 5, .inl g_5))] := hD
  refine lv_iinc (v := 10) (lv' := [(6, .int 10), (0, .ref (b 0)), (1, .int x), (2, .int y), (3, .int z), (4, .int v), (5, .int w)]) hx hb dX12_feed_95 hl (k := 0) rfl (by decide) (by decide) rfl (fun ls hl => ?_)
  refine lv_goto (tgt := 55) hx hb dX12_feed_98 (by decide) ?_
  refine lv_iload hx hb dX12_feed_55 (lv_at hl 0 rfl) ?_
  refine lv_bipush (v := 20) hx hb dX12_feed_57 (by decide) ?_
  refine lv_icmp_ge (tgt := 101) hx hb dX12_feed_59 (by decide) (fun c9 => absurd c9 (by decide)) (fun _ => ?_)
  refine lv_aload_n hx hb dX12_feed_62 rfl (lv_at hl 1 rfl) ?_
  refine va_get (D := D) (ci := 12) (v := .ref (b 4)) (C := RX12) (T := TX12) (N := 40) hx hb hts iX12 hown hK hP 0 rfl rfl 4 (by decide) (hts _ m_1347) (fun _ h9 => h9) rfl dX12_feed_63 ?_
  refine lv_aload_n hx hb dX12_feed_66 rfl (lv_at hl 1 rfl) ?_
  refine va_get (D := D) (ci := 12) (v := .int 0) (C := RX12) (T := TX12) (N := 40) hx hb hts iX12 hown hK hP 0 rfl rfl 5 (by decide) (hts _ m_1348) (fun _ h9 => h9) rfl dX12_feed_67 ?_
  refine lv_iload hx hb dX12_feed_70 (lv_at hl 0 rfl) ?_
  refine lv_iadd hx hb dX12_feed_72 ?_
  refine x_seti 10 (by decide) ?_
  refine lv_aload_n hx hb dX12_feed_73 rfl (lv_at hl 1 rfl) ?_
  refine va_get (D := D) (ci := 12) (v := .ref (b 5)) (C := RX12) (T := TX12) (N := 40) hx hb hts iX12 hown hK hP 0 rfl rfl 6 (by decide) (hts _ m_1349) (fun _ h9 => h9) rfl dX12_feed_74 ?_
  refine lv_iload hx hb dX12_feed_77 (lv_at hl 0 rfl) ?_
  refine lv_iconst (v := 4) hx hb dX12_feed_79 (by decide) ?_
  refine lv_idiv hx hb dX12_feed_80 (by decide) ?_
  refine x_seti 2 (by decide) ?_
  refine va_iald hx hb hK hP 2 0 rfl rfl (vp_in_nI (n := 2) (by decide) (by decide)) dX12_feed_81 ?_
  refine lv_topi (fun x_46 ex_46 => ?_)
  refine lv_bipush (v := 24) hx hb dX12_feed_82 (by decide) ?_
  refine lv_bipush (v := 8) hx hb dX12_feed_84 (by decide) ?_
  refine lv_iload hx hb dX12_feed_86 (lv_at hl 0 rfl) ?_
  refine lv_iconst (v := 4) hx hb dX12_feed_88 (by decide) ?_
  refine lv_irem hx hb dX12_feed_89 (by decide) ?_
  refine x_seti 2 (by decide) ?_
  refine lv_imul hx hb dX12_feed_90 ?_
  refine x_seti 16 (by decide) ?_
  refine lv_isub hx hb dX12_feed_91 ?_
  refine x_seti 8 (by decide) ?_
  refine lv_ishr hx hb dX12_feed_92 ?_
  refine lv_topi (fun x_47 ex_47 => ?_)
  refine lv_i2b hx hb dX12_feed_93 rfl ?_
  refine lv_topi (fun x_48 ex_48 => ?_)
  refine x_bast hx hb hK hP hD hS 1 1 rfl rfl (vp_in_nI (n := 10) (by decide) (by decide)) dX12_feed_94 (fun g_49 H locs hP hD hS => ?_)
  have hP : va_P D classes [(b 0, .inr (12, [.int 0, .ref (b 1), .ref (b 2), .ref (b 3), .ref (b 4), .int 0, .ref (b 5), .int 0, .int 0, .int 0, .int 0, .int 0, .int 0, .int (-1), .ref (b 6), .int 0, .ref (b 7), .int 0, .int (-1), .int 0, .ref (b 8), .int 0, .ref (b 9), .int 0, .ref (b 10), .ref (b 11), .ref (b 12), .int 0, .int 0, .int 0, .ref (b 13), .ref (b 14), .ref (b 15), .int 0, .int 0, .int 0, .ref (b 16), .ref (b 17), .ref (b 18), .ref (b 19)])), (b 4, .inl (t 1, 1600, .inl g_49)), (b 5, .inl (t 0, 5, .inl g_5))] H := hP
  have hD : va_D A [(b 0, .inr (12, [.int 0, .ref (b 1), .ref (b 2), .ref (b 3), .ref (b 4), .int 0, .ref (b 5), .int 0, .int 0, .int 0, .int 0, .int 0, .int 0, .int (-1), .ref (b 6), .int 0, .ref (b 7), .int 0, .int (-1), .int 0, .ref (b 8), .int 0, .ref (b 9), .int 0, .ref (b 10), .ref (b 11), .ref (b 12), .int 0, .int 0, .int 0, .ref (b 13), .ref (b 14), .ref (b 15), .int 0, .int 0, .int 0, .ref (b 16), .ref (b 17), .ref (b 18), .ref (b 19)])), (b 4, .inl (t 1, 1600, .inl g_49)), (b 5, .inl (t 0, 5, .inl g_5))] := hD
  refine lv_iinc (v := 11) (lv' := [(6, .int 11), (0, .ref (b 0)), (1, .int x), (2, .int y), (3, .int z), (4, .int v), (5, .int w)]) hx hb dX12_feed_95 hl (k := 0) rfl (by decide) (by decide) rfl (fun ls hl => ?_)
  refine lv_goto (tgt := 55) hx hb dX12_feed_98 (by decide) ?_
  refine lv_iload hx hb dX12_feed_55 (lv_at hl 0 rfl) ?_
  refine lv_bipush (v := 20) hx hb dX12_feed_57 (by decide) ?_
  refine lv_icmp_ge (tgt := 101) hx hb dX12_feed_59 (by decide) (fun c9 => absurd c9 (by decide)) (fun _ => ?_)
  refine lv_aload_n hx hb dX12_feed_62 rfl (lv_at hl 1 rfl) ?_
  refine va_get (D := D) (ci := 12) (v := .ref (b 4)) (C := RX12) (T := TX12) (N := 40) hx hb hts iX12 hown hK hP 0 rfl rfl 4 (by decide) (hts _ m_1347) (fun _ h9 => h9) rfl dX12_feed_63 ?_
  refine lv_aload_n hx hb dX12_feed_66 rfl (lv_at hl 1 rfl) ?_
  refine va_get (D := D) (ci := 12) (v := .int 0) (C := RX12) (T := TX12) (N := 40) hx hb hts iX12 hown hK hP 0 rfl rfl 5 (by decide) (hts _ m_1348) (fun _ h9 => h9) rfl dX12_feed_67 ?_
  refine lv_iload hx hb dX12_feed_70 (lv_at hl 0 rfl) ?_
  refine lv_iadd hx hb dX12_feed_72 ?_
  refine x_seti 11 (by decide) ?_
  refine lv_aload_n hx hb dX12_feed_73 rfl (lv_at hl 1 rfl) ?_
  refine va_get (D := D) (ci := 12) (v := .ref (b 5)) (C := RX12) (T := TX12) (N := 40) hx hb hts iX12 hown hK hP 0 rfl rfl 6 (by decide) (hts _ m_1349) (fun _ h9 => h9) rfl dX12_feed_74 ?_
  refine lv_iload hx hb dX12_feed_77 (lv_at hl 0 rfl) ?_
  refine lv_iconst (v := 4) hx hb dX12_feed_79 (by decide) ?_
  refine lv_idiv hx hb dX12_feed_80 (by decide) ?_
  refine x_seti 2 (by decide) ?_
  refine va_iald hx hb hK hP 2 0 rfl rfl (vp_in_nI (n := 2) (by decide) (by decide)) dX12_feed_81 ?_
  refine lv_topi (fun x_50 ex_50 => ?_)
  refine lv_bipush (v := 24) hx hb dX12_feed_82 (by decide) ?_
  refine lv_bipush (v := 8) hx hb dX12_feed_84 (by decide) ?_
  refine lv_iload hx hb dX12_feed_86 (lv_at hl 0 rfl) ?_
  refine lv_iconst (v := 4) hx hb dX12_feed_88 (by decide) ?_
  refine lv_irem hx hb dX12_feed_89 (by decide) ?_
  refine x_seti 3 (by decide) ?_
  refine lv_imul hx hb dX12_feed_90 ?_
  refine x_seti 24 (by decide) ?_
  refine lv_isub hx hb dX12_feed_91 ?_
  refine x_seti 0 (by decide) ?_
  refine lv_ishr hx hb dX12_feed_92 ?_
  refine lv_topi (fun x_51 ex_51 => ?_)
  refine lv_i2b hx hb dX12_feed_93 rfl ?_
  refine lv_topi (fun x_52 ex_52 => ?_)
  refine x_bast hx hb hK hP hD hS 1 1 rfl rfl (vp_in_nI (n := 11) (by decide) (by decide)) dX12_feed_94 (fun g_53 H locs hP hD hS => ?_)
  have hP : va_P D classes [(b 0, .inr (12, [.int 0, .ref (b 1), .ref (b 2), .ref (b 3), .ref (b 4), .int 0, .ref (b 5), .int 0, .int 0, .int 0, .int 0, .int 0, .int 0, .int (-1), .ref (b 6), .int 0, .ref (b 7), .int 0, .int (-1), .int 0, .ref (b 8), .int 0, .ref (b 9), .int 0, .ref (b 10), .ref (b 11), .ref (b 12), .int 0, .int 0, .int 0, .ref (b 13), .ref (b 14), .ref (b 15), .int 0, .int 0, .int 0, .ref (b 16), .ref (b 17), .ref (b 18), .ref (b 19)])), (b 4, .inl (t 1, 1600, .inl g_53)), (b 5, .inl (t 0, 5, .inl g_5))] H := hP
  have hD : va_D A [(b 0, .inr (12, [.int 0, .ref (b 1), .ref (b 2), .ref (b 3), .ref (b 4), .int 0, .ref (b 5), .int 0, .int 0, .int 0, .int 0, .int 0, .int 0, .int (-1), .ref (b 6), .int 0, .ref (b 7), .int 0, .int (-1), .int 0, .ref (b 8), .int 0, .ref (b 9), .int 0, .ref (b 10), .ref (b 11), .ref (b 12), .int 0, .int 0, .int 0, .ref (b 13), .ref (b 14), .ref (b 15), .int 0, .int 0, .int 0, .ref (b 16), .ref (b 17), .ref (b 18), .ref (b 19)])), (b 4, .inl (t 1, 1600, .inl g_53)), (b 5, .inl (t 0, 5, .inl g_5))] := hD
  refine lv_iinc (v := 12) (lv' := [(6, .int 12), (0, .ref (b 0)), (1, .int x), (2, .int y), (3, .int z), (4, .int v), (5, .int w)]) hx hb dX12_feed_95 hl (k := 0) rfl (by decide) (by decide) rfl (fun ls hl => ?_)
  refine lv_goto (tgt := 55) hx hb dX12_feed_98 (by decide) ?_
  refine lv_iload hx hb dX12_feed_55 (lv_at hl 0 rfl) ?_
  refine lv_bipush (v := 20) hx hb dX12_feed_57 (by decide) ?_
  refine lv_icmp_ge (tgt := 101) hx hb dX12_feed_59 (by decide) (fun c9 => absurd c9 (by decide)) (fun _ => ?_)
  refine lv_aload_n hx hb dX12_feed_62 rfl (lv_at hl 1 rfl) ?_
  refine va_get (D := D) (ci := 12) (v := .ref (b 4)) (C := RX12) (T := TX12) (N := 40) hx hb hts iX12 hown hK hP 0 rfl rfl 4 (by decide) (hts _ m_1347) (fun _ h9 => h9) rfl dX12_feed_63 ?_
  refine lv_aload_n hx hb dX12_feed_66 rfl (lv_at hl 1 rfl) ?_
  refine va_get (D := D) (ci := 12) (v := .int 0) (C := RX12) (T := TX12) (N := 40) hx hb hts iX12 hown hK hP 0 rfl rfl 5 (by decide) (hts _ m_1348) (fun _ h9 => h9) rfl dX12_feed_67 ?_
  refine lv_iload hx hb dX12_feed_70 (lv_at hl 0 rfl) ?_
  refine lv_iadd hx hb dX12_feed_72 ?_
  refine x_seti 12 (by decide) ?_
  refine lv_aload_n hx hb dX12_feed_73 rfl (lv_at hl 1 rfl) ?_
  refine va_get (D := D) (ci := 12) (v := .ref (b 5)) (C := RX12) (T := TX12) (N := 40) hx hb hts iX12 hown hK hP 0 rfl rfl 6 (by decide) (hts _ m_1349) (fun _ h9 => h9) rfl dX12_feed_74 ?_
  refine lv_iload hx hb dX12_feed_77 (lv_at hl 0 rfl) ?_
  refine lv_iconst (v := 4) hx hb dX12_feed_79 (by decide) ?_
  refine lv_idiv hx hb dX12_feed_80 (by decide) ?_
  refine x_seti 3 (by decide) ?_
  refine va_iald hx hb hK hP 2 0 rfl rfl (vp_in_nI (n := 3) (by decide) (by decide)) dX12_feed_81 ?_
  refine lv_topi (fun x_54 ex_54 => ?_)
  refine lv_bipush (v := 24) hx hb dX12_feed_82 (by decide) ?_
  refine lv_bipush (v := 8) hx hb dX12_feed_84 (by decide) ?_
  refine lv_iload hx hb dX12_feed_86 (lv_at hl 0 rfl) ?_
  refine lv_iconst (v := 4) hx hb dX12_feed_88 (by decide) ?_
  refine lv_irem hx hb dX12_feed_89 (by decide) ?_
  refine x_seti 0 (by decide) ?_
  refine lv_imul hx hb dX12_feed_90 ?_
  refine x_seti 0 (by decide) ?_
  refine lv_isub hx hb dX12_feed_91 ?_
  refine x_seti 24 (by decide) ?_
  refine lv_ishr hx hb dX12_feed_92 ?_
  refine lv_topi (fun x_55 ex_55 => ?_)
  refine lv_i2b hx hb dX12_feed_93 rfl ?_
  refine lv_topi (fun x_56 ex_56 => ?_)
  refine x_bast hx hb hK hP hD hS 1 1 rfl rfl (vp_in_nI (n := 12) (by decide) (by decide)) dX12_feed_94 (fun g_57 H locs hP hD hS => ?_)
  have hP : va_P D classes [(b 0, .inr (12, [.int 0, .ref (b 1), .ref (b 2), .ref (b 3), .ref (b 4), .int 0, .ref (b 5), .int 0, .int 0, .int 0, .int 0, .int 0, .int 0, .int (-1), .ref (b 6), .int 0, .ref (b 7), .int 0, .int (-1), .int 0, .ref (b 8), .int 0, .ref (b 9), .int 0, .ref (b 10), .ref (b 11), .ref (b 12), .int 0, .int 0, .int 0, .ref (b 13), .ref (b 14), .ref (b 15), .int 0, .int 0, .int 0, .ref (b 16), .ref (b 17), .ref (b 18), .ref (b 19)])), (b 4, .inl (t 1, 1600, .inl g_57)), (b 5, .inl (t 0, 5, .inl g_5))] H := hP
  have hD : va_D A [(b 0, .inr (12, [.int 0, .ref (b 1), .ref (b 2), .ref (b 3), .ref (b 4), .int 0, .ref (b 5), .int 0, .int 0, .int 0, .int 0, .int 0, .int 0, .int (-1), .ref (b 6), .int 0, .ref (b 7), .int 0, .int (-1), .int 0, .ref (b 8), .int 0, .ref (b 9), .int 0, .ref (b 10), .ref (b 11), .ref (b 12), .int 0, .int 0, .int 0, .ref (b 13), .ref (b 14), .ref (b 15), .int 0, .int 0, .int 0, .ref (b 16), .ref (b 17), .ref (b 18), .ref (b 19)])), (b 4, .inl (t 1, 1600, .inl g_57)), (b 5, .inl (t 0, 5, .inl g_5))] := hD
  refine lv_iinc (v := 13) (lv' := [(6, .int 13), (0, .ref (b 0)), (1, .int x), (2, .int y), (3, .int z), (4, .int v), (5, .int w)]) hx hb dX12_feed_95 hl (k := 0) rfl (by decide) (by decide) rfl (fun ls hl => ?_)
  refine lv_goto (tgt := 55) hx hb dX12_feed_98 (by decide) ?_
  refine lv_iload hx hb dX12_feed_55 (lv_at hl 0 rfl) ?_
  refine lv_bipush (v := 20) hx hb dX12_feed_57 (by decide) ?_
  refine lv_icmp_ge (tgt := 101) hx hb dX12_feed_59 (by decide) (fun c9 => absurd c9 (by decide)) (fun _ => ?_)
  refine lv_aload_n hx hb dX12_feed_62 rfl (lv_at hl 1 rfl) ?_
  refine va_get (D := D) (ci := 12) (v := .ref (b 4)) (C := RX12) (T := TX12) (N := 40) hx hb hts iX12 hown hK hP 0 rfl rfl 4 (by decide) (hts _ m_1347) (fun _ h9 => h9) rfl dX12_feed_63 ?_
  refine lv_aload_n hx hb dX12_feed_66 rfl (lv_at hl 1 rfl) ?_
  refine va_get (D := D) (ci := 12) (v := .int 0) (C := RX12) (T := TX12) (N := 40) hx hb hts iX12 hown hK hP 0 rfl rfl 5 (by decide) (hts _ m_1348) (fun _ h9 => h9) rfl dX12_feed_67 ?_
  refine lv_iload hx hb dX12_feed_70 (lv_at hl 0 rfl) ?_
  refine lv_iadd hx hb dX12_feed_72 ?_
  refine x_seti 13 (by decide) ?_
  refine lv_aload_n hx hb dX12_feed_73 rfl (lv_at hl 1 rfl) ?_
  refine va_get (D := D) (ci := 12) (v := .ref (b 5)) (C := RX12) (T := TX12) (N := 40) hx hb hts iX12 hown hK hP 0 rfl rfl 6 (by decide) (hts _ m_1349) (fun _ h9 => h9) rfl dX12_feed_74 ?_
  refine lv_iload hx hb dX12_feed_77 (lv_at hl 0 rfl) ?_
  refine lv_iconst (v := 4) hx hb dX12_feed_79 (by decide) ?_
  refine lv_idiv hx hb dX12_feed_80 (by decide) ?_
  refine x_seti 3 (by decide) ?_
  refine va_iald hx hb hK hP 2 0 rfl rfl (vp_in_nI (n := 3) (by decide) (by decide)) dX12_feed_81 ?_
  refine lv_topi (fun x_58 ex_58 => ?_)
  refine lv_bipush (v := 24) hx hb dX12_feed_82 (by decide) ?_
  refine lv_bipush (v := 8) hx hb dX12_feed_84 (by decide) ?_
  refine lv_iload hx hb dX12_feed_86 (lv_at hl 0 rfl) ?_
  refine lv_iconst (v := 4) hx hb dX12_feed_88 (by decide) ?_
  refine lv_irem hx hb dX12_feed_89 (by decide) ?_
  refine x_seti 1 (by decide) ?_
  refine lv_imul hx hb dX12_feed_90 ?_
  refine x_seti 8 (by decide) ?_
  refine lv_isub hx hb dX12_feed_91 ?_
  refine x_seti 16 (by decide) ?_
  refine lv_ishr hx hb dX12_feed_92 ?_
  refine lv_topi (fun x_59 ex_59 => ?_)
  refine lv_i2b hx hb dX12_feed_93 rfl ?_
  refine lv_topi (fun x_60 ex_60 => ?_)
  refine x_bast hx hb hK hP hD hS 1 1 rfl rfl (vp_in_nI (n := 13) (by decide) (by decide)) dX12_feed_94 (fun g_61 H locs hP hD hS => ?_)
  have hP : va_P D classes [(b 0, .inr (12, [.int 0, .ref (b 1), .ref (b 2), .ref (b 3), .ref (b 4), .int 0, .ref (b 5), .int 0, .int 0, .int 0, .int 0, .int 0, .int 0, .int (-1), .ref (b 6), .int 0, .ref (b 7), .int 0, .int (-1), .int 0, .ref (b 8), .int 0, .ref (b 9), .int 0, .ref (b 10), .ref (b 11), .ref (b 12), .int 0, .int 0, .int 0, .ref (b 13), .ref (b 14), .ref (b 15), .int 0, .int 0, .int 0, .ref (b 16), .ref (b 17), .ref (b 18), .ref (b 19)])), (b 4, .inl (t 1, 1600, .inl g_61)), (b 5, .inl (t 0, 5, .inl g_5))] H := hP
  have hD : va_D A [(b 0, .inr (12, [.int 0, .ref (b 1), .ref (b 2), .ref (b 3), .ref (b 4), .int 0, .ref (b 5), .int 0, .int 0, .int 0, .int 0, .int 0, .int 0, .int (-1), .ref (b 6), .int 0, .ref (b 7), .int 0, .int (-1), .int 0, .ref (b 8), .int 0, .ref (b 9), .int 0, .ref (b 10), .ref (b 11), .ref (b 12), .int 0, .int 0, .int 0, .ref (b 13), .ref (b 14), .ref (b 15), .int 0, .int 0, .int 0, .ref (b 16), .ref (b 17), .ref (b 18), .ref (b 19)])), (b 4, .inl (t 1, 1600, .inl g_61)), (b 5, .inl (t 0, 5, .inl g_5))] := hD
  refine lv_iinc (v := 14) (lv' := [(6, .int 14), (0, .ref (b 0)), (1, .int x), (2, .int y), (3, .int z), (4, .int v), (5, .int w)]) hx hb dX12_feed_95 hl (k := 0) rfl (by decide) (by decide) rfl (fun ls hl => ?_)
  refine lv_goto (tgt := 55) hx hb dX12_feed_98 (by decide) ?_
  refine lv_iload hx hb dX12_feed_55 (lv_at hl 0 rfl) ?_
  refine lv_bipush (v := 20) hx hb dX12_feed_57 (by decide) ?_
  refine lv_icmp_ge (tgt := 101) hx hb dX12_feed_59 (by decide) (fun c9 => absurd c9 (by decide)) (fun _ => ?_)
  refine lv_aload_n hx hb dX12_feed_62 rfl (lv_at hl 1 rfl) ?_
  refine va_get (D := D) (ci := 12) (v := .ref (b 4)) (C := RX12) (T := TX12) (N := 40) hx hb hts iX12 hown hK hP 0 rfl rfl 4 (by decide) (hts _ m_1347) (fun _ h9 => h9) rfl dX12_feed_63 ?_
  refine lv_aload_n hx hb dX12_feed_66 rfl (lv_at hl 1 rfl) ?_
  refine va_get (D := D) (ci := 12) (v := .int 0) (C := RX12) (T := TX12) (N := 40) hx hb hts iX12 hown hK hP 0 rfl rfl 5 (by decide) (hts _ m_1348) (fun _ h9 => h9) rfl dX12_feed_67 ?_
  refine lv_iload hx hb dX12_feed_70 (lv_at hl 0 rfl) ?_
  refine lv_iadd hx hb dX12_feed_72 ?_
  refine x_seti 14 (by decide) ?_
  refine lv_aload_n hx hb dX12_feed_73 rfl (lv_at hl 1 rfl) ?_
  refine va_get (D := D) (ci := 12) (v := .ref (b 5)) (C := RX12) (T := TX12) (N := 40) hx hb hts iX12 hown hK hP 0 rfl rfl 6 (by decide) (hts _ m_1349) (fun _ h9 => h9) rfl dX12_feed_74 ?_
  refine lv_iload hx hb dX12_feed_77 (lv_at hl 0 rfl) ?_
  refine lv_iconst (v := 4) hx hb dX12_feed_79 (by decide) ?_
  refine lv_idiv hx hb dX12_feed_80 (by decide) ?_
  refine x_seti 3 (by decide) ?_
  refine va_iald hx hb hK hP 2 0 rfl rfl (vp_in_nI (n := 3) (by decide) (by decide)) dX12_feed_81 ?_
  refine lv_topi (fun x_62 ex_62 => ?_)
  refine lv_bipush (v := 24) hx hb dX12_feed_82 (by decide) ?_
  refine lv_bipush (v := 8) hx hb dX12_feed_84 (by decide) ?_
  refine lv_iload hx hb dX12_feed_86 (lv_at hl 0 rfl) ?_
  refine lv_iconst (v := 4) hx hb dX12_feed_88 (by decide) ?_
  refine lv_irem hx hb dX12_feed_89 (by decide) ?_
  refine x_seti 2 (by decide) ?_
  refine lv_imul hx hb dX12_feed_90 ?_
  refine x_seti 16 (by decide) ?_
  refine lv_isub hx hb dX12_feed_91 ?_
  refine x_seti 8 (by decide) ?_
  refine lv_ishr hx hb dX12_feed_92 ?_
  refine lv_topi (fun x_63 ex_63 => ?_)
  refine lv_i2b hx hb dX12_feed_93 rfl ?_
  refine lv_topi (fun x_64 ex_64 => ?_)
  refine x_bast hx hb hK hP hD hS 1 1 rfl rfl (vp_in_nI (n := 14) (by decide) (by decide)) dX12_feed_94 (fun g_65 H locs hP hD hS => ?_)
  have hP : va_P D classes [(b 0, .inr (12, [.int 0, .ref (b 1), .ref (b 2), .ref (b 3), .ref (b 4), .int 0, .ref (b 5), .int 0, .int 0, .int 0, .int 0, .int 0, .int 0, .int (-1), .ref (b 6), .int 0, .ref (b 7), .int 0, .int (-1), .int 0, .ref (b 8), .int 0, .ref (b 9), .int 0, .ref (b 10), .ref (b 11), .ref (b 12), .int 0, .int 0, .int 0, .ref (b 13), .ref (b 14), .ref (b 15), .int 0, .int 0, .int 0, .ref (b 16), .ref (b 17), .ref (b 18), .ref (b 19)])), (b 4, .inl (t 1, 1600, .inl g_65)), (b 5, .inl (t 0, 5, .inl g_5))] H := hP
  have hD : va_D A [(b 0, .inr (12, [.int 0, .ref (b 1), .ref (b 2), .ref (b 3), .ref (b 4), .int 0, .ref (b 5), .int 0, .int 0, .int 0, .int 0, .int 0, .int 0, .int (-1), .ref (b 6), .int 0, .ref (b 7), .int 0, .int (-1), .int 0, .ref (b 8), .int 0, .ref (b 9), .int 0, .ref (b 10), .ref (b 11), .ref (b 12), .int 0, .int 0, .int 0, .ref (b 13), .ref (b 14), .ref (b 15), .int 0, .int 0, .int 0, .ref (b 16), .ref (b 17), .ref (b 18), .ref (b 19)])), (b 4, .inl (t 1, 1600, .inl g_65)), (b 5, .inl (t 0, 5, .inl g_5))] := hD
  refine lv_iinc (v := 15) (lv' := [(6, .int 15), (0, .ref (b 0)), (1, .int x), (2, .int y), (3, .int z), (4, .int v), (5, .int w)]) hx hb dX12_feed_95 hl (k := 0) rfl (by decide) (by decide) rfl (fun ls hl => ?_)
  refine lv_goto (tgt := 55) hx hb dX12_feed_98 (by decide) ?_
  refine lv_iload hx hb dX12_feed_55 (lv_at hl 0 rfl) ?_
  refine lv_bipush (v := 20) hx hb dX12_feed_57 (by decide) ?_
  refine lv_icmp_ge (tgt := 101) hx hb dX12_feed_59 (by decide) (fun c9 => absurd c9 (by decide)) (fun _ => ?_)
  refine lv_aload_n hx hb dX12_feed_62 rfl (lv_at hl 1 rfl) ?_
  refine va_get (D := D) (ci := 12) (v := .ref (b 4)) (C := RX12) (T := TX12) (N := 40) hx hb hts iX12 hown hK hP 0 rfl rfl 4 (by decide) (hts _ m_1347) (fun _ h9 => h9) rfl dX12_feed_63 ?_
  refine lv_aload_n hx hb dX12_feed_66 rfl (lv_at hl 1 rfl) ?_
  refine va_get (D := D) (ci := 12) (v := .int 0) (C := RX12) (T := TX12) (N := 40) hx hb hts iX12 hown hK hP 0 rfl rfl 5 (by decide) (hts _ m_1348) (fun _ h9 => h9) rfl dX12_feed_67 ?_
  refine lv_iload hx hb dX12_feed_70 (lv_at hl 0 rfl) ?_
  refine lv_iadd hx hb dX12_feed_72 ?_
  refine x_seti 15 (by decide) ?_
  refine lv_aload_n hx hb dX12_feed_73 rfl (lv_at hl 1 rfl) ?_
  refine va_get (D := D) (ci := 12) (v := .ref (b 5)) (C := RX12) (T := TX12) (N := 40) hx hb hts iX12 hown hK hP 0 rfl rfl 6 (by decide) (hts _ m_1349) (fun _ h9 => h9) rfl dX12_feed_74 ?_
  refine lv_iload hx hb dX12_feed_77 (lv_at hl 0 rfl) ?_
  refine lv_iconst (v := 4) hx hb dX12_feed_79 (by decide) ?_
  refine lv_idiv hx hb dX12_feed_80 (by decide) ?_
  refine x_seti 3 (by decide) ?_
  refine va_iald hx hb hK hP 2 0 rfl rfl (vp_in_nI (n := 3) (by decide) (by decide)) dX12_feed_81 ?_
  refine lv_topi (fun x_66 ex_66 => ?_)
  refine lv_bipush (v := 24) hx hb dX12_feed_82 (by decide) ?_
  refine lv_bipush (v := 8) hx hb dX12_feed_84 (by decide) ?_
  refine lv_iload hx hb dX12_feed_86 (lv_at hl 0 rfl) ?_
  refine lv_iconst (v := 4) hx hb dX12_feed_88 (by decide) ?_
  refine lv_irem hx hb dX12_feed_89 (by decide) ?_
  refine x_seti 3 (by decide) ?_
  refine lv_imul hx hb dX12_feed_90 ?_
  refine x_seti 24 (by decide) ?_
  refine lv_isub hx hb dX12_feed_91 ?_
  refine x_seti 0 (by decide) ?_
  refine lv_ishr hx hb dX12_feed_92 ?_
  refine lv_topi (fun x_67 ex_67 => ?_)
  refine lv_i2b hx hb dX12_feed_93 rfl ?_
  refine lv_topi (fun x_68 ex_68 => ?_)
  refine x_bast hx hb hK hP hD hS 1 1 rfl rfl (vp_in_nI (n := 15) (by decide) (by decide)) dX12_feed_94 (fun g_69 H locs hP hD hS => ?_)
  have hP : va_P D classes [(b 0, .inr (12, [.int 0, .ref (b 1), .ref (b 2), .ref (b 3), .ref (b 4), .int 0, .ref (b 5), .int 0, .int 0, .int 0, .int 0, .int 0, .int 0, .int (-1), .ref (b 6), .int 0, .ref (b 7), .int 0, .int (-1), .int 0, .ref (b 8), .int 0, .ref (b 9), .int 0, .ref (b 10), .ref (b 11), .ref (b 12), .int 0, .int 0, .int 0, .ref (b 13), .ref (b 14), .ref (b 15), .int 0, .int 0, .int 0, .ref (b 16), .ref (b 17), .ref (b 18), .ref (b 19)])), (b 4, .inl (t 1, 1600, .inl g_69)), (b 5, .inl (t 0, 5, .inl g_5))] H := hP
  have hD : va_D A [(b 0, .inr (12, [.int 0, .ref (b 1), .ref (b 2), .ref (b 3), .ref (b 4), .int 0, .ref (b 5), .int 0, .int 0, .int 0, .int 0, .int 0, .int 0, .int (-1), .ref (b 6), .int 0, .ref (b 7), .int 0, .int (-1), .int 0, .ref (b 8), .int 0, .ref (b 9), .int 0, .ref (b 10), .ref (b 11), .ref (b 12), .int 0, .int 0, .int 0, .ref (b 13), .ref (b 14), .ref (b 15), .int 0, .int 0, .int 0, .ref (b 16), .ref (b 17), .ref (b 18), .ref (b 19)])), (b 4, .inl (t 1, 1600, .inl g_69)), (b 5, .inl (t 0, 5, .inl g_5))] := hD
  refine lv_iinc (v := 16) (lv' := [(6, .int 16), (0, .ref (b 0)), (1, .int x), (2, .int y), (3, .int z), (4, .int v), (5, .int w)]) hx hb dX12_feed_95 hl (k := 0) rfl (by decide) (by decide) rfl (fun ls hl => ?_)
  refine lv_goto (tgt := 55) hx hb dX12_feed_98 (by decide) ?_
  refine lv_iload hx hb dX12_feed_55 (lv_at hl 0 rfl) ?_
  refine lv_bipush (v := 20) hx hb dX12_feed_57 (by decide) ?_
  refine lv_icmp_ge (tgt := 101) hx hb dX12_feed_59 (by decide) (fun c9 => absurd c9 (by decide)) (fun _ => ?_)
  refine lv_aload_n hx hb dX12_feed_62 rfl (lv_at hl 1 rfl) ?_
  refine va_get (D := D) (ci := 12) (v := .ref (b 4)) (C := RX12) (T := TX12) (N := 40) hx hb hts iX12 hown hK hP 0 rfl rfl 4 (by decide) (hts _ m_1347) (fun _ h9 => h9) rfl dX12_feed_63 ?_
  refine lv_aload_n hx hb dX12_feed_66 rfl (lv_at hl 1 rfl) ?_
  refine va_get (D := D) (ci := 12) (v := .int 0) (C := RX12) (T := TX12) (N := 40) hx hb hts iX12 hown hK hP 0 rfl rfl 5 (by decide) (hts _ m_1348) (fun _ h9 => h9) rfl dX12_feed_67 ?_
  refine lv_iload hx hb dX12_feed_70 (lv_at hl 0 rfl) ?_
  refine lv_iadd hx hb dX12_feed_72 ?_
  refine x_seti 16 (by decide) ?_
  refine lv_aload_n hx hb dX12_feed_73 rfl (lv_at hl 1 rfl) ?_
  refine va_get (D := D) (ci := 12) (v := .ref (b 5)) (C := RX12) (T := TX12) (N := 40) hx hb hts iX12 hown hK hP 0 rfl rfl 6 (by decide) (hts _ m_1349) (fun _ h9 => h9) rfl dX12_feed_74 ?_
  refine lv_iload hx hb dX12_feed_77 (lv_at hl 0 rfl) ?_
  refine lv_iconst (v := 4) hx hb dX12_feed_79 (by decide) ?_
  refine lv_idiv hx hb dX12_feed_80 (by decide) ?_
  refine x_seti 4 (by decide) ?_
  refine va_iald hx hb hK hP 2 0 rfl rfl (vp_in_nI (n := 4) (by decide) (by decide)) dX12_feed_81 ?_
  refine lv_topi (fun x_70 ex_70 => ?_)
  refine lv_bipush (v := 24) hx hb dX12_feed_82 (by decide) ?_
  refine lv_bipush (v := 8) hx hb dX12_feed_84 (by decide) ?_
  refine lv_iload hx hb dX12_feed_86 (lv_at hl 0 rfl) ?_
  refine lv_iconst (v := 4) hx hb dX12_feed_88 (by decide) ?_
  refine lv_irem hx hb dX12_feed_89 (by decide) ?_
  refine x_seti 0 (by decide) ?_
  refine lv_imul hx hb dX12_feed_90 ?_
  refine x_seti 0 (by decide) ?_
  refine lv_isub hx hb dX12_feed_91 ?_
  refine x_seti 24 (by decide) ?_
  refine lv_ishr hx hb dX12_feed_92 ?_
  refine lv_topi (fun x_71 ex_71 => ?_)
  refine lv_i2b hx hb dX12_feed_93 rfl ?_
  refine lv_topi (fun x_72 ex_72 => ?_)
  refine x_bast hx hb hK hP hD hS 1 1 rfl rfl (vp_in_nI (n := 16) (by decide) (by decide)) dX12_feed_94 (fun g_73 H locs hP hD hS => ?_)
  have hP : va_P D classes [(b 0, .inr (12, [.int 0, .ref (b 1), .ref (b 2), .ref (b 3), .ref (b 4), .int 0, .ref (b 5), .int 0, .int 0, .int 0, .int 0, .int 0, .int 0, .int (-1), .ref (b 6), .int 0, .ref (b 7), .int 0, .int (-1), .int 0, .ref (b 8), .int 0, .ref (b 9), .int 0, .ref (b 10), .ref (b 11), .ref (b 12), .int 0, .int 0, .int 0, .ref (b 13), .ref (b 14), .ref (b 15), .int 0, .int 0, .int 0, .ref (b 16), .ref (b 17), .ref (b 18), .ref (b 19)])), (b 4, .inl (t 1, 1600, .inl g_73)), (b 5, .inl (t 0, 5, .inl g_5))] H := hP
  have hD : va_D A [(b 0, .inr (12, [.int 0, .ref (b 1), .ref (b 2), .ref (b 3), .ref (b 4), .int 0, .ref (b 5), .int 0, .int 0, .int 0, .int 0, .int 0, .int 0, .int (-1), .ref (b 6), .int 0, .ref (b 7), .int 0, .int (-1), .int 0, .ref (b 8), .int 0, .ref (b 9), .int 0, .ref (b 10), .ref (b 11), .ref (b 12), .int 0, .int 0, .int 0, .ref (b 13), .ref (b 14), .ref (b 15), .int 0, .int 0, .int 0, .ref (b 16), .ref (b 17), .ref (b 18), .ref (b 19)])), (b 4, .inl (t 1, 1600, .inl g_73)), (b 5, .inl (t 0, 5, .inl g_5))] := hD
  refine lv_iinc (v := 17) (lv' := [(6, .int 17), (0, .ref (b 0)), (1, .int x), (2, .int y), (3, .int z), (4, .int v), (5, .int w)]) hx hb dX12_feed_95 hl (k := 0) rfl (by decide) (by decide) rfl (fun ls hl => ?_)
  refine lv_goto (tgt := 55) hx hb dX12_feed_98 (by decide) ?_
  refine lv_iload hx hb dX12_feed_55 (lv_at hl 0 rfl) ?_
  refine lv_bipush (v := 20) hx hb dX12_feed_57 (by decide) ?_
  refine lv_icmp_ge (tgt := 101) hx hb dX12_feed_59 (by decide) (fun c9 => absurd c9 (by decide)) (fun _ => ?_)
  refine lv_aload_n hx hb dX12_feed_62 rfl (lv_at hl 1 rfl) ?_
  refine va_get (D := D) (ci := 12) (v := .ref (b 4)) (C := RX12) (T := TX12) (N := 40) hx hb hts iX12 hown hK hP 0 rfl rfl 4 (by decide) (hts _ m_1347) (fun _ h9 => h9) rfl dX12_feed_63 ?_
  refine lv_aload_n hx hb dX12_feed_66 rfl (lv_at hl 1 rfl) ?_
  refine va_get (D := D) (ci := 12) (v := .int 0) (C := RX12) (T := TX12) (N := 40) hx hb hts iX12 hown hK hP 0 rfl rfl 5 (by decide) (hts _ m_1348) (fun _ h9 => h9) rfl dX12_feed_67 ?_
  refine lv_iload hx hb dX12_feed_70 (lv_at hl 0 rfl) ?_
  refine lv_iadd hx hb dX12_feed_72 ?_
  refine x_seti 17 (by decide) ?_
  refine lv_aload_n hx hb dX12_feed_73 rfl (lv_at hl 1 rfl) ?_
  refine va_get (D := D) (ci := 12) (v := .ref (b 5)) (C := RX12) (T := TX12) (N := 40) hx hb hts iX12 hown hK hP 0 rfl rfl 6 (by decide) (hts _ m_1349) (fun _ h9 => h9) rfl dX12_feed_74 ?_
  refine lv_iload hx hb dX12_feed_77 (lv_at hl 0 rfl) ?_
  refine lv_iconst (v := 4) hx hb dX12_feed_79 (by decide) ?_
  refine lv_idiv hx hb dX12_feed_80 (by decide) ?_
  refine x_seti 4 (by decide) ?_
  refine va_iald hx hb hK hP 2 0 rfl rfl (vp_in_nI (n := 4) (by decide) (by decide)) dX12_feed_81 ?_
  refine lv_topi (fun x_74 ex_74 => ?_)
  refine lv_bipush (v := 24) hx hb dX12_feed_82 (by decide) ?_
  refine lv_bipush (v := 8) hx hb dX12_feed_84 (by decide) ?_
  refine lv_iload hx hb dX12_feed_86 (lv_at hl 0 rfl) ?_
  refine lv_iconst (v := 4) hx hb dX12_feed_88 (by decide) ?_
  refine lv_irem hx hb dX12_feed_89 (by decide) ?_
  refine x_seti 1 (by decide) ?_
  refine lv_imul hx hb dX12_feed_90 ?_
  refine x_seti 8 (by decide) ?_
  refine lv_isub hx hb dX12_feed_91 ?_
  refine x_seti 16 (by decide) ?_
  refine lv_ishr hx hb dX12_feed_92 ?_
  refine lv_topi (fun x_75 ex_75 => ?_)
  refine lv_i2b hx hb dX12_feed_93 rfl ?_
  refine lv_topi (fun x_76 ex_76 => ?_)
  refine x_bast hx hb hK hP hD hS 1 1 rfl rfl (vp_in_nI (n := 17) (by decide) (by decide)) dX12_feed_94 (fun g_77 H locs hP hD hS => ?_)
  have hP : va_P D classes [(b 0, .inr (12, [.int 0, .ref (b 1), .ref (b 2), .ref (b 3), .ref (b 4), .int 0, .ref (b 5), .int 0, .int 0, .int 0, .int 0, .int 0, .int 0, .int (-1), .ref (b 6), .int 0, .ref (b 7), .int 0, .int (-1), .int 0, .ref (b 8), .int 0, .ref (b 9), .int 0, .ref (b 10), .ref (b 11), .ref (b 12), .int 0, .int 0, .int 0, .ref (b 13), .ref (b 14), .ref (b 15), .int 0, .int 0, .int 0, .ref (b 16), .ref (b 17), .ref (b 18), .ref (b 19)])), (b 4, .inl (t 1, 1600, .inl g_77)), (b 5, .inl (t 0, 5, .inl g_5))] H := hP
  have hD : va_D A [(b 0, .inr (12, [.int 0, .ref (b 1), .ref (b 2), .ref (b 3), .ref (b 4), .int 0, .ref (b 5), .int 0, .int 0, .int 0, .int 0, .int 0, .int 0, .int (-1), .ref (b 6), .int 0, .ref (b 7), .int 0, .int (-1), .int 0, .ref (b 8), .int 0, .ref (b 9), .int 0, .ref (b 10), .ref (b 11), .ref (b 12), .int 0, .int 0, .int 0, .ref (b 13), .ref (b 14), .ref (b 15), .int 0, .int 0, .int 0, .ref (b 16), .ref (b 17), .ref (b 18), .ref (b 19)])), (b 4, .inl (t 1, 1600, .inl g_77)), (b 5, .inl (t 0, 5, .inl g_5))] := hD
  refine lv_iinc (v := 18) (lv' := [(6, .int 18), (0, .ref (b 0)), (1, .int x), (2, .int y), (3, .int z), (4, .int v), (5, .int w)]) hx hb dX12_feed_95 hl (k := 0) rfl (by decide) (by decide) rfl (fun ls hl => ?_)
  refine lv_goto (tgt := 55) hx hb dX12_feed_98 (by decide) ?_
  refine lv_iload hx hb dX12_feed_55 (lv_at hl 0 rfl) ?_
  refine lv_bipush (v := 20) hx hb dX12_feed_57 (by decide) ?_
  refine lv_icmp_ge (tgt := 101) hx hb dX12_feed_59 (by decide) (fun c9 => absurd c9 (by decide)) (fun _ => ?_)
  refine lv_aload_n hx hb dX12_feed_62 rfl (lv_at hl 1 rfl) ?_
  refine va_get (D := D) (ci := 12) (v := .ref (b 4)) (C := RX12) (T := TX12) (N := 40) hx hb hts iX12 hown hK hP 0 rfl rfl 4 (by decide) (hts _ m_1347) (fun _ h9 => h9) rfl dX12_feed_63 ?_
  refine lv_aload_n hx hb dX12_feed_66 rfl (lv_at hl 1 rfl) ?_
  refine va_get (D := D) (ci := 12) (v := .int 0) (C := RX12) (T := TX12) (N := 40) hx hb hts iX12 hown hK hP 0 rfl rfl 5 (by decide) (hts _ m_1348) (fun _ h9 => h9) rfl dX12_feed_67 ?_
  refine lv_iload hx hb dX12_feed_70 (lv_at hl 0 rfl) ?_
  refine lv_iadd hx hb dX12_feed_72 ?_
  refine x_seti 18 (by decide) ?_
  refine lv_aload_n hx hb dX12_feed_73 rfl (lv_at hl 1 rfl) ?_
  refine va_get (D := D) (ci := 12) (v := .ref (b 5)) (C := RX12) (T := TX12) (N := 40) hx hb hts iX12 hown hK hP 0 rfl rfl 6 (by decide) (hts _ m_1349) (fun _ h9 => h9) rfl dX12_feed_74 ?_
  refine lv_iload hx hb dX12_feed_77 (lv_at hl 0 rfl) ?_
  refine lv_iconst (v := 4) hx hb dX12_feed_79 (by decide) ?_
  refine lv_idiv hx hb dX12_feed_80 (by decide) ?_
  refine x_seti 4 (by decide) ?_
  refine va_iald hx hb hK hP 2 0 rfl rfl (vp_in_nI (n := 4) (by decide) (by decide)) dX12_feed_81 ?_
  refine lv_topi (fun x_78 ex_78 => ?_)
  refine lv_bipush (v := 24) hx hb dX12_feed_82 (by decide) ?_
  refine lv_bipush (v := 8) hx hb dX12_feed_84 (by decide) ?_
  refine lv_iload hx hb dX12_feed_86 (lv_at hl 0 rfl) ?_
  refine lv_iconst (v := 4) hx hb dX12_feed_88 (by decide) ?_
  refine lv_irem hx hb dX12_feed_89 (by decide) ?_
  refine x_seti 2 (by decide) ?_
  refine lv_imul hx hb dX12_feed_90 ?_
  refine x_seti 16 (by decide) ?_
  refine lv_isub hx hb dX12_feed_91 ?_
  refine x_seti 8 (by decide) ?_
  refine lv_ishr hx hb dX12_feed_92 ?_
  refine lv_topi (fun x_79 ex_79 => ?_)
  refine lv_i2b hx hb dX12_feed_93 rfl ?_
  refine lv_topi (fun x_80 ex_80 => ?_)
  refine x_bast hx hb hK hP hD hS 1 1 rfl rfl (vp_in_nI (n := 18) (by decide) (by decide)) dX12_feed_94 (fun g_81 H locs hP hD hS => ?_)
  have hP : va_P D classes [(b 0, .inr (12, [.int 0, .ref (b 1), .ref (b 2), .ref (b 3), .ref (b 4), .int 0, .ref (b 5), .int 0, .int 0, .int 0, .int 0, .int 0, .int 0, .int (-1), .ref (b 6), .int 0, .ref (b 7), .int 0, .int (-1), .int 0, .ref (b 8), .int 0, .ref (b 9), .int 0, .ref (b 10), .ref (b 11), .ref (b 12), .int 0, .int 0, .int 0, .ref (b 13), .ref (b 14), .ref (b 15), .int 0, .int 0, .int 0, .ref (b 16), .ref (b 17), .ref (b 18), .ref (b 19)])), (b 4, .inl (t 1, 1600, .inl g_81)), (b 5, .inl (t 0, 5, .inl g_5))] H := hP
  have hD : va_D A [(b 0, .inr (12, [.int 0, .ref (b 1), .ref (b 2), .ref (b 3), .ref (b 4), .int 0, .ref (b 5), .int 0, .int 0, .int 0, .int 0, .int 0, .int 0, .int (-1), .ref (b 6), .int 0, .ref (b 7), .int 0, .int (-1), .int 0, .ref (b 8), .int 0, .ref (b 9), .int 0, .ref (b 10), .ref (b 11), .ref (b 12), .int 0, .int 0, .int 0, .ref (b 13), .ref (b 14), .ref (b 15), .int 0, .int 0, .int 0, .ref (b 16), .ref (b 17), .ref (b 18), .ref (b 19)])), (b 4, .inl (t 1, 1600, .inl g_81)), (b 5, .inl (t 0, 5, .inl g_5))] := hD
  refine lv_iinc (v := 19) (lv' := [(6, .int 19), (0, .ref (b 0)), (1, .int x), (2, .int y), (3, .int z), (4, .int v), (5, .int w)]) hx hb dX12_feed_95 hl (k := 0) rfl (by decide) (by decide) rfl (fun ls hl => ?_)
  refine lv_goto (tgt := 55) hx hb dX12_feed_98 (by decide) ?_
  refine lv_iload hx hb dX12_feed_55 (lv_at hl 0 rfl) ?_
  refine lv_bipush (v := 20) hx hb dX12_feed_57 (by decide) ?_
  refine lv_icmp_ge (tgt := 101) hx hb dX12_feed_59 (by decide) (fun c9 => absurd c9 (by decide)) (fun _ => ?_)
  refine lv_aload_n hx hb dX12_feed_62 rfl (lv_at hl 1 rfl) ?_
  refine va_get (D := D) (ci := 12) (v := .ref (b 4)) (C := RX12) (T := TX12) (N := 40) hx hb hts iX12 hown hK hP 0 rfl rfl 4 (by decide) (hts _ m_1347) (fun _ h9 => h9) rfl dX12_feed_63 ?_
  refine lv_aload_n hx hb dX12_feed_66 rfl (lv_at hl 1 rfl) ?_
  refine va_get (D := D) (ci := 12) (v := .int 0) (C := RX12) (T := TX12) (N := 40) hx hb hts iX12 hown hK hP 0 rfl rfl 5 (by decide) (hts _ m_1348) (fun _ h9 => h9) rfl dX12_feed_67 ?_
  refine lv_iload hx hb dX12_feed_70 (lv_at hl 0 rfl) ?_
  refine lv_iadd hx hb dX12_feed_72 ?_
  refine x_seti 19 (by decide) ?_
  refine lv_aload_n hx hb dX12_feed_73 rfl (lv_at hl 1 rfl) ?_
  refine va_get (D := D) (ci := 12) (v := .ref (b 5)) (C := RX12) (T := TX12) (N := 40) hx hb hts iX12 hown hK hP 0 rfl rfl 6 (by decide) (hts _ m_1349) (fun _ h9 => h9) rfl dX12_feed_74 ?_
  refine lv_iload hx hb dX12_feed_77 (lv_at hl 0 rfl) ?_
  refine lv_iconst (v := 4) hx hb dX12_feed_79 (by decide) ?_
  refine lv_idiv hx hb dX12_feed_80 (by decide) ?_
  refine x_seti 4 (by decide) ?_
  refine va_iald hx hb hK hP 2 0 rfl rfl (vp_in_nI (n := 4) (by decide) (by decide)) dX12_feed_81 ?_
  refine lv_topi (fun x_82 ex_82 => ?_)
  refine lv_bipush (v := 24) hx hb dX12_feed_82 (by decide) ?_
  refine lv_bipush (v := 8) hx hb dX12_feed_84 (by decide) ?_
  refine lv_iload hx hb dX12_feed_86 (lv_at hl 0 rfl) ?_
  refine lv_iconst (v := 4) hx hb dX12_feed_88 (by decide) ?_
  refine lv_irem hx hb dX12_feed_89 (by decide) ?_
  refine x_seti 3 (by decide) ?_
  refine lv_imul hx hb dX12_feed_90 ?_
  refine x_seti 24 (by decide) ?_
  refine lv_isub hx hb dX12_feed_91 ?_
  refine x_seti 0 (by decide) ?_
  refine lv_ishr hx hb dX12_feed_92 ?_
  refine lv_topi (fun x_83 ex_83 => ?_)
  refine lv_i2b hx hb dX12_feed_93 rfl ?_
  refine lv_topi (fun x_84 ex_84 => ?_)
  refine x_bast hx hb hK hP hD hS 1 1 rfl rfl (vp_in_nI (n := 19) (by decide) (by decide)) dX12_feed_94 (fun g_85 H locs hP hD hS => ?_)
  have hP : va_P D classes [(b 0, .inr (12, [.int 0, .ref (b 1), .ref (b 2), .ref (b 3), .ref (b 4), .int 0, .ref (b 5), .int 0, .int 0, .int 0, .int 0, .int 0, .int 0, .int (-1), .ref (b 6), .int 0, .ref (b 7), .int 0, .int (-1), .int 0, .ref (b 8), .int 0, .ref (b 9), .int 0, .ref (b 10), .ref (b 11), .ref (b 12), .int 0, .int 0, .int 0, .ref (b 13), .ref (b 14), .ref (b 15), .int 0, .int 0, .int 0, .ref (b 16), .ref (b 17), .ref (b 18), .ref (b 19)])), (b 4, .inl (t 1, 1600, .inl g_85)), (b 5, .inl (t 0, 5, .inl g_5))] H := hP
  have hD : va_D A [(b 0, .inr (12, [.int 0, .ref (b 1), .ref (b 2), .ref (b 3), .ref (b 4), .int 0, .ref (b 5), .int 0, .int 0, .int 0, .int 0, .int 0, .int 0, .int (-1), .ref (b 6), .int 0, .ref (b 7), .int 0, .int (-1), .int 0, .ref (b 8), .int 0, .ref (b 9), .int 0, .ref (b 10), .ref (b 11), .ref (b 12), .int 0, .int 0, .int 0, .ref (b 13), .ref (b 14), .ref (b 15), .int 0, .int 0, .int 0, .ref (b 16), .ref (b 17), .ref (b 18), .ref (b 19)])), (b 4, .inl (t 1, 1600, .inl g_85)), (b 5, .inl (t 0, 5, .inl g_5))] := hD
  refine lv_iinc (v := 20) (lv' := [(6, .int 20), (0, .ref (b 0)), (1, .int x), (2, .int y), (3, .int z), (4, .int v), (5, .int w)]) hx hb dX12_feed_95 hl (k := 0) rfl (by decide) (by decide) rfl (fun ls hl => ?_)
  refine lv_goto (tgt := 55) hx hb dX12_feed_98 (by decide) ?_
  refine lv_iload hx hb dX12_feed_55 (lv_at hl 0 rfl) ?_
  refine lv_bipush (v := 20) hx hb dX12_feed_57 (by decide) ?_
  refine lv_icmp_ge (tgt := 101) hx hb dX12_feed_59 (by decide) (fun _ => ?_) (fun c9 => absurd (by decide) c9)
  refine lv_aload_n hx hb dX12_feed_101 rfl (lv_at hl 1 rfl) ?_
  refine lv_dup hx hb dX12_feed_102 rfl ?_
  refine va_get (D := D) (ci := 12) (v := .int 0) (C := RX12) (T := TX12) (N := 40) hx hb hts iX12 hown hK hP 0 rfl rfl 5 (by decide) (hts _ m_1348) (fun _ h9 => h9) rfl dX12_feed_103 ?_
  refine lv_bipush (v := 20) hx hb dX12_feed_106 (by decide) ?_
  refine lv_iadd hx hb dX12_feed_108 ?_
  refine x_seti 20 (by decide) ?_
  refine va_put (D := D) (ci := 12) (v := .int 20) (ty := .int) (C := RX12) (T := TX12) (N := 40) hx hb hts iX12 tyX12 tyX12_ok nmX12 hown hK hP hD hS 0 rfl rfl 5 (by decide) (hts _ m_1348) (fun _ h9 => h9) rfl (tyX12_ok 5 (by decide)) rfl rfl (Nat.le_of_ble_eq_true rfl) dX12_feed_109 (fun H locs hP hD hS => ?_)
  have hP : va_P D classes [(b 0, .inr (12, [.int 0, .ref (b 1), .ref (b 2), .ref (b 3), .ref (b 4), .int 20, .ref (b 5), .int 0, .int 0, .int 0, .int 0, .int 0, .int 0, .int (-1), .ref (b 6), .int 0, .ref (b 7), .int 0, .int (-1), .int 0, .ref (b 8), .int 0, .ref (b 9), .int 0, .ref (b 10), .ref (b 11), .ref (b 12), .int 0, .int 0, .int 0, .ref (b 13), .ref (b 14), .ref (b 15), .int 0, .int 0, .int 0, .ref (b 16), .ref (b 17), .ref (b 18), .ref (b 19)])), (b 4, .inl (t 1, 1600, .inl g_85)), (b 5, .inl (t 0, 5, .inl g_5))] H := hP
  have hD : va_D A [(b 0, .inr (12, [.int 0, .ref (b 1), .ref (b 2), .ref (b 3), .ref (b 4), .int 20, .ref (b 5), .int 0, .int 0, .int 0, .int 0, .int 0, .int 0, .int (-1), .ref (b 6), .int 0, .ref (b 7), .int 0, .int (-1), .int 0, .ref (b 8), .int 0, .ref (b 9), .int 0, .ref (b 10), .ref (b 11), .ref (b 12), .int 0, .int 0, .int 0, .ref (b 13), .ref (b 14), .ref (b 15), .int 0, .int 0, .int 0, .ref (b 16), .ref (b 17), .ref (b 18), .ref (b 19)])), (b 4, .inl (t 1, 1600, .inl g_85)), (b 5, .inl (t 0, 5, .inl g_5))] := hD
  refine lv_aload_n hx hb dX12_feed_112 rfl (lv_at hl 1 rfl) ?_
  refine va_get (D := D) (ci := 12) (v := .int 20) (C := RX12) (T := TX12) (N := 40) hx hb hts iX12 hown hK hP 0 rfl rfl 5 (by decide) (hts _ m_1348) (fun _ h9 => h9) rfl dX12_feed_113 ?_
  exact W.iret (v := 20) hx hb hr (fun t9 ht hW => ⟨⟨20, (), rfl, rfl, trivial⟩, hS.F ht⟩) hS.2.2 dX12_feed_116

set_option maxHeartbeats 4000000 in
set_option maxRecDepth 100000 in
theorem c_X12_end (l : Launch) (D : va_G) (t : Nat → ClassId) (b : Nat → Nat) (x : Int32) (sz : Nat) : Met l yX12_end (wd yX12_end cX12_end 2 (some .int)) (RM 1 0 0) (PreW D (TY t) [.ref (b 0), .int x] [(b 0, .inr (12, [.int 0, .ref (b 1), .ref (b 2), .ref (b 3), .ref (b 4), .int 0, .ref (b 5), .int 0, .int 0, .int 0, .int 0, .int 0, .int 0, .int (-1), .ref (b 6), .int 0, .ref (b 7), .int 0, .int (-1), .int 0, .ref (b 8), .int 0, .ref (b 9), .int 0, .ref (b 10), .ref (b 11), .ref (b 12), .int 0, .int 0, .int 0, .ref (b 13), .ref (b 14), .ref (b 15), .int 0, .int 0, .int 0, .ref (b 16), .ref (b 17), .ref (b 18), .ref (b 19)]))] sz) (va_Qi (fun (r : Int32) (_ : Unit) => r = (sp_end x)) (fun _ _ => True) (va_A [(b 0, .inr (12, [.int 0, .ref (b 1), .ref (b 2), .ref (b 3), .ref (b 4), .int 0, .ref (b 5), .int 0, .int 0, .int 0, .int 0, .int 0, .int 0, .int (-1), .ref (b 6), .int 0, .ref (b 7), .int 0, .int (-1), .int 0, .ref (b 8), .int 0, .ref (b 9), .int 0, .ref (b 10), .ref (b 11), .ref (b 12), .int 0, .int 0, .int 0, .ref (b 13), .ref (b 14), .ref (b 15), .int 0, .int 0, .int 0, .ref (b 16), .ref (b 17), .ref (b 18), .ref (b 19)]))] sz)) 0 0 (va_A [(b 0, .inr (12, [.int 0, .ref (b 1), .ref (b 2), .ref (b 3), .ref (b 4), .int 0, .ref (b 5), .int 0, .int 0, .int 0, .int 0, .int 0, .int 0, .int (-1), .ref (b 6), .int 0, .ref (b 7), .int 0, .int (-1), .int 0, .ref (b 8), .int 0, .ref (b 9), .int 0, .ref (b 10), .ref (b 11), .ref (b 12), .int 0, .int 0, .int 0, .ref (b 13), .ref (b 14), .ref (b 15), .int 0, .int 0, .int 0, .ref (b 16), .ref (b 17), .ref (b 18), .ref (b 19)]))] sz) := by
  refine Met.ofW (cc := cX12_end) (maxL := 2) (ret := (some .int)) (by decide) rfl ?_
  intro p e s m args below meth c s₁ B hml hv
  obtain ⟨rfl, hsz, hP, hK, hD0, hN⟩ := hv
  have hx := B.exec
  have hb := B.bytes
  have hr := B.returns
  have hts : ∀ w ∈ TB, w.before _ s = true := fun w h => atoms_spec (ws := wd yX12_end cX12_end 2 (some .int)) B.pre w (List.mem_cons_of_mem _ h)
  have hown : s.vm.findClass RX12 = some m.cls := findClass_of_methodNamed B.named
  have hlocks := B.notSynchronized
  have hF : CallFix p m c cX12_end 2 s _ TB RX12 := ⟨hx, hb, hml, hown, hts⟩
  have hl := lv_entry ([.ref (b 0), .int x]) (n := 2) (Nat.le_of_ble_eq_true rfl)
  rw [lg_entry_eq]
  generalize (lg_sl ([.ref (b 0), .int x]) ++ List.replicate (2 - (lg_sl ([.ref (b 0), .int x])).length) Slot.unset).toArray = ls at hl ⊢
  have hl : lv_has ls 2 [(0, .ref (b 0)), (1, .int x)] := hl
  subst hsz
  have hD := hD0.self (sz := s.heap.size)
  generalize hAe : va_A [(b 0, .inr (12, [.int 0, .ref (b 1), .ref (b 2), .ref (b 3), .ref (b 4), .int 0, .ref (b 5), .int 0, .int 0, .int 0, .int 0, .int 0, .int 0, .int (-1), .ref (b 6), .int 0, .ref (b 7), .int 0, .int (-1), .int 0, .ref (b 8), .int 0, .ref (b 9), .int 0, .ref (b 10), .ref (b 11), .ref (b 12), .int 0, .int 0, .int 0, .ref (b 13), .ref (b 14), .ref (b 15), .int 0, .int 0, .int 0, .ref (b 16), .ref (b 17), .ref (b 18), .ref (b 19)]))] s.heap.size = A at hD ⊢
  have hA : ∀ q : Nat, s.heap.size ≤ q → A q := fun q h => by rw [← hAe]; exact Or.inr h
  have hS : va_S A s.heap s.heap [] := va_S.rf
  have hP : va_P D classes [(b 0, .inr (12, [.int 0, .ref (b 1), .ref (b 2), .ref (b 3), .ref (b 4), .int 0, .ref (b 5), .int 0, .int 0, .int 0, .int 0, .int 0, .int 0, .int (-1), .ref (b 6), .int 0, .ref (b 7), .int 0, .int (-1), .int 0, .ref (b 8), .int 0, .ref (b 9), .int 0, .ref (b 10), .ref (b 11), .ref (b 12), .int 0, .int 0, .int 0, .ref (b 13), .ref (b 14), .ref (b 15), .int 0, .int 0, .int 0, .ref (b 16), .ref (b 17), .ref (b 18), .ref (b 19)]))] s.heap := hP
  refine lv_iload_n hx hb dX12_end_0 rfl (lv_at hl 1 rfl) ?_
  refine lv_i2l hx hb dX12_end_1 rfl ?_
  refine lv_lconst (v := 0) hx hb dX12_end_2 rfl ?_
  refine lv_aload_n hx hb dX12_end_3 rfl (lv_at hl 0 rfl) ?_
  refine va_get (D := D) (ci := 12) (v := .int 0) (C := RX12) (T := TX12) (N := 40) hx hb hts iX12 hown hK hP 0 rfl rfl 5 (by decide) (hts _ m_1348) (fun _ h9 => h9) rfl dX12_end_4 ?_
  refine lv_i2l (v := 0) hx hb dX12_end_7 (by decide) ?_
  refine x_pS hF (c_X12_in l D t x.toInt64 0 0) m_1469 m_1470 m_13 m_1471 hd_X12_in ⟨Nat.le_of_ble_eq_true rfl, Nat.le_of_ble_eq_true rfl⟩ hK hN hP hS [] rfl hl.1 rfl (Nat.le_of_ble_eq_true rfl) dX12_end_8 ⟨Nat.zero_le _, Nat.zero_le _⟩ (fun H locs hP hS => ?_)
  refine x_seti (ib 0 0 x) (inV_i x (by decide) (by decide)) ?_
  refine lv_if_ne (tgt := 16) hx hb dX12_end_11 (by decide) (fun c_1 => ?_) (fun c_1 => ?_)
  · refine lv_aload_n hx hb dX12_end_16 rfl (lv_at hl 0 rfl) ?_
    refine lv_iload_n hx hb dX12_end_17 rfl (lv_at hl 1 rfl) ?_
    refine va_put (D := D) (ci := 12) (v := .int x) (ty := .int) (C := RX12) (T := TX12) (N := 40) hx hb hts iX12 tyX12 tyX12_ok nmX12 hown hK hP hD hS 0 rfl rfl 5 (by decide) (hts _ m_1348) (fun _ h9 => h9) rfl (tyX12_ok 5 (by decide)) rfl rfl (Nat.le_of_ble_eq_true rfl) dX12_end_18 (fun H locs hP hD hS => ?_)
    have hP : va_P D classes [(b 0, .inr (12, [.int 0, .ref (b 1), .ref (b 2), .ref (b 3), .ref (b 4), .int x, .ref (b 5), .int 0, .int 0, .int 0, .int 0, .int 0, .int 0, .int (-1), .ref (b 6), .int 0, .ref (b 7), .int 0, .int (-1), .int 0, .ref (b 8), .int 0, .ref (b 9), .int 0, .ref (b 10), .ref (b 11), .ref (b 12), .int 0, .int 0, .int 0, .ref (b 13), .ref (b 14), .ref (b 15), .int 0, .int 0, .int 0, .ref (b 16), .ref (b 17), .ref (b 18), .ref (b 19)]))] H := hP
    have hD : va_D A [(b 0, .inr (12, [.int 0, .ref (b 1), .ref (b 2), .ref (b 3), .ref (b 4), .int x, .ref (b 5), .int 0, .int 0, .int 0, .int 0, .int 0, .int 0, .int (-1), .ref (b 6), .int 0, .ref (b 7), .int 0, .int (-1), .int 0, .ref (b 8), .int 0, .ref (b 9), .int 0, .ref (b 10), .ref (b 11), .ref (b 12), .int 0, .int 0, .int 0, .ref (b 13), .ref (b 14), .ref (b 15), .int 0, .int 0, .int 0, .ref (b 16), .ref (b 17), .ref (b 18), .ref (b 19)]))] := hD
    refine lv_iload_n hx hb dX12_end_21 rfl (lv_at hl 1 rfl) ?_
    exact W.iret (v := x) hx hb hr (fun t9 ht hW => ⟨⟨x, (), rfl, (by unfold sp_end; rw [if_neg c_1]), trivial⟩, hS.F ht⟩) hS.2.2 dX12_end_22
  · refine lv_iconst (v := (-1)) hx hb dX12_end_14 (by decide) ?_
    exact W.iret (v := (-1)) hx hb hr (fun t9 ht hW => ⟨⟨(-1), (), rfl, (by unfold sp_end; rw [if_pos c_1]), trivial⟩, hS.F ht⟩) hS.2.2 dX12_end_15

set_option maxHeartbeats 4000000 in
set_option maxRecDepth 100000 in
theorem c_X12_see (l : Launch) (D : va_G) (t : Nat → ClassId) (b : Nat → Nat) : Met l yX12_see (wd yX12_see cX12_see 2 (some .int)) (RM 0 0 0) (PreP D (TY t) [.ref (b 0), .int 0] [(b 0, .inr (12, [.int 0, .ref (b 1), .ref (b 2), .ref (b 3), .ref (b 4), .int 0, .ref (b 5), .int 0, .int 0, .int 0, .int 0, .int 0, .int 0, .int (-1), .ref (b 6), .int 0, .ref (b 7), .int 0, .int (-1), .int 0, .ref (b 8), .int 0, .ref (b 9), .int 0, .ref (b 10), .ref (b 11), .ref (b 12), .int 0, .int 0, .int 0, .ref (b 13), .ref (b 14), .ref (b 15), .int 0, .int 0, .int 0, .ref (b 16), .ref (b 17), .ref (b 18), .ref (b 19)]))]) (QI (-1)) 0 0 NoF := by
  refine Met.ofW (cc := cX12_see) (maxL := 2) (ret := (some .int)) (by decide) rfl ?_
  intro p e s m args below meth c s₁ B hml hv
  obtain ⟨rfl, hP, hK, hN⟩ := hv
  have hx := B.exec
  have hb := B.bytes
  have hr := B.returns
  have hts : ∀ w ∈ TB, w.before _ s = true := fun w h => atoms_spec (ws := wd yX12_see cX12_see 2 (some .int)) B.pre w (List.mem_cons_of_mem _ h)
  have hown : s.vm.findClass RX12 = some m.cls := findClass_of_methodNamed B.named
  have hlocks := B.notSynchronized
  have hF : CallFix p m c cX12_see 2 s _ TB RX12 := ⟨hx, hb, hml, hown, hts⟩
  have hl := lv_entry ([.ref (b 0), .int 0]) (n := 2) (Nat.le_of_ble_eq_true rfl)
  rw [lg_entry_eq]
  generalize (lg_sl ([.ref (b 0), .int 0]) ++ List.replicate (2 - (lg_sl ([.ref (b 0), .int 0])).length) Slot.unset).toArray = ls at hl ⊢
  have hl : lv_has ls 2 [(0, .ref (b 0)), (1, .int 0)] := hl
  have hS : va_S NoF s.heap s.heap [] := va_S.rf
  have hP : va_P D classes [(b 0, .inr (12, [.int 0, .ref (b 1), .ref (b 2), .ref (b 3), .ref (b 4), .int 0, .ref (b 5), .int 0, .int 0, .int 0, .int 0, .int 0, .int 0, .int (-1), .ref (b 6), .int 0, .ref (b 7), .int 0, .int (-1), .int 0, .ref (b 8), .int 0, .ref (b 9), .int 0, .ref (b 10), .ref (b 11), .ref (b 12), .int 0, .int 0, .int 0, .ref (b 13), .ref (b 14), .ref (b 15), .int 0, .int 0, .int 0, .ref (b 16), .ref (b 17), .ref (b 18), .ref (b 19)]))] s.heap := hP
  refine lv_iload_n hx hb dX12_see_0 rfl (lv_at hl 1 rfl) ?_
  refine lv_aload_n hx hb dX12_see_1 rfl (lv_at hl 0 rfl) ?_
  refine va_get (D := D) (ci := 12) (v := .int 0) (C := RX12) (T := TX12) (N := 40) hx hb hts iX12 hown hK hP 0 rfl rfl 7 (by decide) (hts _ m_1350) (fun _ h9 => h9) rfl dX12_see_2 ?_
  refine lv_icmp_ge (tgt := 21) hx hb dX12_see_5 (by decide) (fun _ => ?_) (fun c9 => absurd (by decide) c9)
  refine lv_iconst (v := (-1)) hx hb dX12_see_21 (by decide) ?_
  exact W.iret (v := (-1)) hx hb hr (fun t9 ht hW => ⟨⟨(-1), (), rfl, rfl, trivial⟩, hS.F ht⟩) hS.2.2 dX12_see_22

set_option maxHeartbeats 4000000 in
set_option maxRecDepth 100000 in
theorem c_X12_good (l : Launch) (D : va_G) (t : Nat → ClassId) (b : Nat → Nat) : Met l yX12_good (wd yX12_good cX12_good 1 (some .boolean)) (RM 0 0 0) (PreP D (TY t) [.ref (b 0)] [(b 0, .inr (12, [.int 0, .ref (b 1), .ref (b 2), .ref (b 3), .ref (b 4), .int 0, .ref (b 5), .int 0, .int 0, .int 0, .int 0, .int 0, .int 0, .int (-1), .ref (b 6), .int 0, .ref (b 7), .int 0, .int (-1), .int 0, .ref (b 8), .int 0, .ref (b 9), .int 0, .ref (b 10), .ref (b 11), .ref (b 12), .int 0, .int 0, .int 0, .ref (b 13), .ref (b 14), .ref (b 15), .int 0, .int 0, .int 0, .ref (b 16), .ref (b 17), .ref (b 18), .ref (b 19)]))]) (QI 1) 0 0 NoF := by
  refine Met.ofW (cc := cX12_good) (maxL := 1) (ret := (some .boolean)) (by decide) rfl ?_
  intro p e s m args below meth c s₁ B hml hv
  obtain ⟨rfl, hP, hK, hN⟩ := hv
  have hx := B.exec
  have hb := B.bytes
  have hr := B.returns
  have hts : ∀ w ∈ TB, w.before _ s = true := fun w h => atoms_spec (ws := wd yX12_good cX12_good 1 (some .boolean)) B.pre w (List.mem_cons_of_mem _ h)
  have hown : s.vm.findClass RX12 = some m.cls := findClass_of_methodNamed B.named
  have hlocks := B.notSynchronized
  have hF : CallFix p m c cX12_good 1 s _ TB RX12 := ⟨hx, hb, hml, hown, hts⟩
  have hl := lv_entry ([.ref (b 0)]) (n := 1) (Nat.le_of_ble_eq_true rfl)
  rw [lg_entry_eq]
  generalize (lg_sl ([.ref (b 0)]) ++ List.replicate (1 - (lg_sl ([.ref (b 0)])).length) Slot.unset).toArray = ls at hl ⊢
  have hl : lv_has ls 1 [(0, .ref (b 0))] := hl
  have hS : va_S NoF s.heap s.heap [] := va_S.rf
  have hP : va_P D classes [(b 0, .inr (12, [.int 0, .ref (b 1), .ref (b 2), .ref (b 3), .ref (b 4), .int 0, .ref (b 5), .int 0, .int 0, .int 0, .int 0, .int 0, .int 0, .int (-1), .ref (b 6), .int 0, .ref (b 7), .int 0, .int (-1), .int 0, .ref (b 8), .int 0, .ref (b 9), .int 0, .ref (b 10), .ref (b 11), .ref (b 12), .int 0, .int 0, .int 0, .ref (b 13), .ref (b 14), .ref (b 15), .int 0, .int 0, .int 0, .ref (b 16), .ref (b 17), .ref (b 18), .ref (b 19)]))] s.heap := hP
  refine lv_aload_n hx hb dX12_good_0 rfl (lv_at hl 0 rfl) ?_
  refine va_get (D := D) (ci := 12) (v := .int 0) (C := RX12) (T := TX12) (N := 40) hx hb hts iX12 hown hK hP 0 rfl rfl 12 (by decide) (hts _ m_1355) (fun _ h9 => h9) rfl dX12_good_1 ?_
  refine lv_if_ne (tgt := 11) hx hb dX12_good_4 (by decide) (fun c9 => absurd c9 (by decide)) (fun _ => ?_)
  refine lv_iconst (v := 1) hx hb dX12_good_7 (by decide) ?_
  refine lv_goto (tgt := 12) hx hb dX12_good_8 (by decide) ?_
  exact W.zret (v := 1) hx hb hr rfl (fun t9 ht hW => ⟨⟨1, (), rfl, rfl, trivial⟩, hS.F ht⟩) hS.2.2 dX12_good_12

set_option maxHeartbeats 4000000 in
set_option maxRecDepth 100000 in
theorem c_X12_advance (l : Launch) (D : va_G) (t : Nat → ClassId) (b : Nat → Nat) (sz : Nat) : Met l yX12_advance (wd yX12_advance cX12_advance 2 none) (RM 1 0 0) (PreW D (TY t) [.ref (b 0)] [(b 0, .inr (12, [.int 0, .ref (b 1), .ref (b 2), .ref (b 3), .ref (b 4), .int 0, .ref (b 5), .int 0, .int 0, .int 0, .int 0, .int 0, .int 0, .int (-1), .ref (b 6), .int 0, .ref (b 7), .int 0, .int (-1), .int 0, .ref (b 8), .int 0, .ref (b 9), .int 0, .ref (b 10), .ref (b 11), .ref (b 12), .int 0, .int 0, .int 0, .ref (b 13), .ref (b 14), .ref (b 15), .int 0, .int 0, .int 0, .ref (b 16), .ref (b 17), .ref (b 18), .ref (b 19)]))] sz) (va_Qv (fun _ : Nat → Nat => True) (fun (u : Nat → Nat) t9 => va_P D classes ((fun u : Nat → Nat => [(b 0, .inr (12, [.int 0, .ref (b 1), .ref (b 2), .ref (b 3), .ref (b 4), .int 0, .ref (b 5), .int 0, .int 0, .int 0, .int 0, .int 0, .int 0, .int (-1), .ref (b 6), .int 0, .ref (b 7), .int 0, .int (-1), .int 0, .ref (b 8), .int 0, .ref (b 9), .int 0, .ref (b 10), .ref (b 11), .ref (b 12), .int 0, .int 0, .int 0, .ref (b 13), .ref (b 14), .ref (b 15), .int 0, .int 0, .int 0, .ref (b 16), .ref (b 17), .ref (b 18), .ref (b 19)]))]) u) t9.heap ∧ va_D (va_A [(b 0, .inr (12, [.int 0, .ref (b 1), .ref (b 2), .ref (b 3), .ref (b 4), .int 0, .ref (b 5), .int 0, .int 0, .int 0, .int 0, .int 0, .int 0, .int (-1), .ref (b 6), .int 0, .ref (b 7), .int 0, .int (-1), .int 0, .ref (b 8), .int 0, .ref (b 9), .int 0, .ref (b 10), .ref (b 11), .ref (b 12), .int 0, .int 0, .int 0, .ref (b 13), .ref (b 14), .ref (b 15), .int 0, .int 0, .int 0, .ref (b 16), .ref (b 17), .ref (b 18), .ref (b 19)]))] sz) ((fun u : Nat → Nat => [(b 0, .inr (12, [.int 0, .ref (b 1), .ref (b 2), .ref (b 3), .ref (b 4), .int 0, .ref (b 5), .int 0, .int 0, .int 0, .int 0, .int 0, .int 0, .int (-1), .ref (b 6), .int 0, .ref (b 7), .int 0, .int (-1), .int 0, .ref (b 8), .int 0, .ref (b 9), .int 0, .ref (b 10), .ref (b 11), .ref (b 12), .int 0, .int 0, .int 0, .ref (b 13), .ref (b 14), .ref (b 15), .int 0, .int 0, .int 0, .ref (b 16), .ref (b 17), .ref (b 18), .ref (b 19)]))]) u)) (va_A [(b 0, .inr (12, [.int 0, .ref (b 1), .ref (b 2), .ref (b 3), .ref (b 4), .int 0, .ref (b 5), .int 0, .int 0, .int 0, .int 0, .int 0, .int 0, .int (-1), .ref (b 6), .int 0, .ref (b 7), .int 0, .int (-1), .int 0, .ref (b 8), .int 0, .ref (b 9), .int 0, .ref (b 10), .ref (b 11), .ref (b 12), .int 0, .int 0, .int 0, .ref (b 13), .ref (b 14), .ref (b 15), .int 0, .int 0, .int 0, .ref (b 16), .ref (b 17), .ref (b 18), .ref (b 19)]))] sz)) 0 0 (va_A [(b 0, .inr (12, [.int 0, .ref (b 1), .ref (b 2), .ref (b 3), .ref (b 4), .int 0, .ref (b 5), .int 0, .int 0, .int 0, .int 0, .int 0, .int 0, .int (-1), .ref (b 6), .int 0, .ref (b 7), .int 0, .int (-1), .int 0, .ref (b 8), .int 0, .ref (b 9), .int 0, .ref (b 10), .ref (b 11), .ref (b 12), .int 0, .int 0, .int 0, .ref (b 13), .ref (b 14), .ref (b 15), .int 0, .int 0, .int 0, .ref (b 16), .ref (b 17), .ref (b 18), .ref (b 19)]))] sz) := by
  refine Met.ofW (cc := cX12_advance) (maxL := 2) (ret := none) (by decide) rfl ?_
  intro p e s m args below meth c s₁ B hml hv
  obtain ⟨rfl, hsz, hP, hK, hD0, hN⟩ := hv
  have hx := B.exec
  have hb := B.bytes
  have hr := B.returns
  have hts : ∀ w ∈ TB, w.before _ s = true := fun w h => atoms_spec (ws := wd yX12_advance cX12_advance 2 none) B.pre w (List.mem_cons_of_mem _ h)
  have hown : s.vm.findClass RX12 = some m.cls := findClass_of_methodNamed B.named
  have hlocks := B.notSynchronized
  have hF : CallFix p m c cX12_advance 2 s _ TB RX12 := ⟨hx, hb, hml, hown, hts⟩
  have hl := lv_entry ([.ref (b 0)]) (n := 2) (Nat.le_of_ble_eq_true rfl)
  rw [lg_entry_eq]
  generalize (lg_sl ([.ref (b 0)]) ++ List.replicate (2 - (lg_sl ([.ref (b 0)])).length) Slot.unset).toArray = ls at hl ⊢
  have hl : lv_has ls 2 [(0, .ref (b 0))] := hl
  subst hsz
  have hD := hD0.self (sz := s.heap.size)
  generalize hAe : va_A [(b 0, .inr (12, [.int 0, .ref (b 1), .ref (b 2), .ref (b 3), .ref (b 4), .int 0, .ref (b 5), .int 0, .int 0, .int 0, .int 0, .int 0, .int 0, .int (-1), .ref (b 6), .int 0, .ref (b 7), .int 0, .int (-1), .int 0, .ref (b 8), .int 0, .ref (b 9), .int 0, .ref (b 10), .ref (b 11), .ref (b 12), .int 0, .int 0, .int 0, .ref (b 13), .ref (b 14), .ref (b 15), .int 0, .int 0, .int 0, .ref (b 16), .ref (b 17), .ref (b 18), .ref (b 19)]))] s.heap.size = A at hD ⊢
  have hA : ∀ q : Nat, s.heap.size ≤ q → A q := fun q h => by rw [← hAe]; exact Or.inr h
  have hS : va_S A s.heap s.heap [] := va_S.rf
  have hP : va_P D classes [(b 0, .inr (12, [.int 0, .ref (b 1), .ref (b 2), .ref (b 3), .ref (b 4), .int 0, .ref (b 5), .int 0, .int 0, .int 0, .int 0, .int 0, .int 0, .int (-1), .ref (b 6), .int 0, .ref (b 7), .int 0, .int (-1), .int 0, .ref (b 8), .int 0, .ref (b 9), .int 0, .ref (b 10), .ref (b 11), .ref (b 12), .int 0, .int 0, .int 0, .ref (b 13), .ref (b 14), .ref (b 15), .int 0, .int 0, .int 0, .ref (b 16), .ref (b 17), .ref (b 18), .ref (b 19)]))] s.heap := hP
  refine lv_aload_n hx hb dX12_advance_0 rfl (lv_at hl 0 rfl) ?_
  refine lv_aload_n hx hb dX12_advance_1 rfl (lv_at hl 0 rfl) ?_
  refine va_get (D := D) (ci := 12) (v := .int 0) (C := RX12) (T := TX12) (N := 40) hx hb hts iX12 hown hK hP 0 rfl rfl 8 (by decide) (hts _ m_1351) (fun _ h9 => h9) rfl dX12_advance_2 ?_
  refine x_pV hF (c_X12_see l D t b) m_1496 m_1498 m_s38 m_13 m_1499 hd_X12_see ⟨Nat.le_of_ble_eq_true rfl, Nat.le_of_ble_eq_true rfl⟩ hK hN hP hS [0] rfl 0 (ci := 12) rfl rfl rfl hl.1 rfl (Nat.le_of_ble_eq_true rfl) dX12_advance_5 ⟨Nat.zero_le _, Nat.zero_le _⟩ (fun H locs hP hS => ?_)
  refine lv_bipush (v := 32) hx hb dX12_advance_8 (by decide) ?_
  refine lv_icmp_eq (tgt := 26) hx hb dX12_advance_10 (by decide) (fun c9 => absurd c9 (by decide)) (fun _ => ?_)
  refine lv_aload_n hx hb dX12_advance_13 rfl (lv_at hl 0 rfl) ?_
  refine lv_aload_n hx hb dX12_advance_14 rfl (lv_at hl 0 rfl) ?_
  refine va_get (D := D) (ci := 12) (v := .int 0) (C := RX12) (T := TX12) (N := 40) hx hb hts iX12 hown hK hP 0 rfl rfl 8 (by decide) (hts _ m_1351) (fun _ h9 => h9) rfl dX12_advance_15 ?_
  refine x_pV hF (c_X12_see l D t b) m_1496 m_1498 m_s38 m_13 m_1499 hd_X12_see ⟨Nat.le_of_ble_eq_true rfl, Nat.le_of_ble_eq_true rfl⟩ hK hN hP hS [0] rfl 0 (ci := 12) rfl rfl rfl hl.1 rfl (Nat.le_of_ble_eq_true rfl) dX12_advance_18 ⟨Nat.zero_le _, Nat.zero_le _⟩ (fun H locs hP hS => ?_)
  refine lv_bipush (v := 10) hx hb dX12_advance_21 (by decide) ?_
  refine lv_icmp_ne (tgt := 39) hx hb dX12_advance_23 (by decide) (fun _ => ?_) (fun c9 => absurd c9 (by decide))
  refine lv_aload_n hx hb dX12_advance_39 rfl (lv_at hl 0 rfl) ?_
  refine lv_aload_n hx hb dX12_advance_40 rfl (lv_at hl 0 rfl) ?_
  refine va_get (D := D) (ci := 12) (v := .int 0) (C := RX12) (T := TX12) (N := 40) hx hb hts iX12 hown hK hP 0 rfl rfl 8 (by decide) (hts _ m_1351) (fun _ h9 => h9) rfl dX12_advance_41 ?_
  refine va_put (D := D) (ci := 12) (v := .int 0) (ty := .int) (C := RX12) (T := TX12) (N := 40) hx hb hts iX12 tyX12 tyX12_ok nmX12 hown hK hP hD hS 0 rfl rfl 9 (by decide) (hts _ m_1352) (fun _ h9 => h9) rfl (tyX12_ok 9 (by decide)) rfl rfl (Nat.le_of_ble_eq_true rfl) dX12_advance_44 (fun H locs hP hD hS => ?_)
  have hP : va_P D classes [(b 0, .inr (12, [.int 0, .ref (b 1), .ref (b 2), .ref (b 3), .ref (b 4), .int 0, .ref (b 5), .int 0, .int 0, .int 0, .int 0, .int 0, .int 0, .int (-1), .ref (b 6), .int 0, .ref (b 7), .int 0, .int (-1), .int 0, .ref (b 8), .int 0, .ref (b 9), .int 0, .ref (b 10), .ref (b 11), .ref (b 12), .int 0, .int 0, .int 0, .ref (b 13), .ref (b 14), .ref (b 15), .int 0, .int 0, .int 0, .ref (b 16), .ref (b 17), .ref (b 18), .ref (b 19)]))] H := hP
  have hD : va_D A [(b 0, .inr (12, [.int 0, .ref (b 1), .ref (b 2), .ref (b 3), .ref (b 4), .int 0, .ref (b 5), .int 0, .int 0, .int 0, .int 0, .int 0, .int 0, .int (-1), .ref (b 6), .int 0, .ref (b 7), .int 0, .int (-1), .int 0, .ref (b 8), .int 0, .ref (b 9), .int 0, .ref (b 10), .ref (b 11), .ref (b 12), .int 0, .int 0, .int 0, .ref (b 13), .ref (b 14), .ref (b 15), .int 0, .int 0, .int 0, .ref (b 16), .ref (b 17), .ref (b 18), .ref (b 19)]))] := hD
  refine lv_aload_n hx hb dX12_advance_47 rfl (lv_at hl 0 rfl) ?_
  refine lv_aload_n hx hb dX12_advance_48 rfl (lv_at hl 0 rfl) ?_
  refine va_get (D := D) (ci := 12) (v := .int 0) (C := RX12) (T := TX12) (N := 40) hx hb hts iX12 hown hK hP 0 rfl rfl 8 (by decide) (hts _ m_1351) (fun _ h9 => h9) rfl dX12_advance_49 ?_
  refine x_pV hF (c_X12_see l D t b) m_1496 m_1498 m_s38 m_13 m_1499 hd_X12_see ⟨Nat.le_of_ble_eq_true rfl, Nat.le_of_ble_eq_true rfl⟩ hK hN hP hS [0] rfl 0 (ci := 12) rfl rfl rfl hl.1 rfl (Nat.le_of_ble_eq_true rfl) dX12_advance_52 ⟨Nat.zero_le _, Nat.zero_le _⟩ (fun H locs hP hS => ?_)
  refine lv_istore_n (lv' := [(1, .int (-1)), (0, .ref (b 0))]) hx hb dX12_advance_55 rfl hl (by decide) rfl (fun ls hl => ?_)
  refine lv_iload_n hx hb dX12_advance_56 rfl (lv_at hl 0 rfl) ?_
  refine lv_iconst (v := (-1)) hx hb dX12_advance_57 (by decide) ?_
  refine lv_icmp_ne (tgt := 69) hx hb dX12_advance_58 (by decide) (fun c9 => absurd c9 (by decide)) (fun _ => ?_)
  refine lv_aload_n hx hb dX12_advance_61 rfl (lv_at hl 1 rfl) ?_
  refine lv_iconst (v := 0) hx hb dX12_advance_62 (by decide) ?_
  refine va_put (D := D) (ci := 12) (v := .int 0) (ty := .int) (C := RX12) (T := TX12) (N := 40) hx hb hts iX12 tyX12 tyX12_ok nmX12 hown hK hP hD hS 0 rfl rfl 10 (by decide) (hts _ m_1353) (fun _ h9 => h9) rfl (tyX12_ok 10 (by decide)) rfl rfl (Nat.le_of_ble_eq_true rfl) dX12_advance_63 (fun H locs hP hD hS => ?_)
  have hP : va_P D classes [(b 0, .inr (12, [.int 0, .ref (b 1), .ref (b 2), .ref (b 3), .ref (b 4), .int 0, .ref (b 5), .int 0, .int 0, .int 0, .int 0, .int 0, .int 0, .int (-1), .ref (b 6), .int 0, .ref (b 7), .int 0, .int (-1), .int 0, .ref (b 8), .int 0, .ref (b 9), .int 0, .ref (b 10), .ref (b 11), .ref (b 12), .int 0, .int 0, .int 0, .ref (b 13), .ref (b 14), .ref (b 15), .int 0, .int 0, .int 0, .ref (b 16), .ref (b 17), .ref (b 18), .ref (b 19)]))] H := hP
  have hD : va_D A [(b 0, .inr (12, [.int 0, .ref (b 1), .ref (b 2), .ref (b 3), .ref (b 4), .int 0, .ref (b 5), .int 0, .int 0, .int 0, .int 0, .int 0, .int 0, .int (-1), .ref (b 6), .int 0, .ref (b 7), .int 0, .int (-1), .int 0, .ref (b 8), .int 0, .ref (b 9), .int 0, .ref (b 10), .ref (b 11), .ref (b 12), .int 0, .int 0, .int 0, .ref (b 13), .ref (b 14), .ref (b 15), .int 0, .int 0, .int 0, .ref (b 16), .ref (b 17), .ref (b 18), .ref (b 19)]))] := hD
  refine lv_goto (tgt := 239) hx hb dX12_advance_66 (by decide) ?_
  have hP9 := hP.sub (ws' := [(b 0, .inr (12, [.int 0, .ref (b 1), .ref (b 2), .ref (b 3), .ref (b 4), .int 0, .ref (b 5), .int 0, .int 0, .int 0, .int 0, .int 0, .int 0, .int (-1), .ref (b 6), .int 0, .ref (b 7), .int 0, .int (-1), .int 0, .ref (b 8), .int 0, .ref (b 9), .int 0, .ref (b 10), .ref (b 11), .ref (b 12), .int 0, .int 0, .int 0, .ref (b 13), .ref (b 14), .ref (b 15), .int 0, .int 0, .int 0, .ref (b 16), .ref (b 17), .ref (b 18), .ref (b 19)]))]) [0] rfl
  have hD9 := hD.sub (ws' := [(b 0, .inr (12, [.int 0, .ref (b 1), .ref (b 2), .ref (b 3), .ref (b 4), .int 0, .ref (b 5), .int 0, .int 0, .int 0, .int 0, .int 0, .int 0, .int (-1), .ref (b 6), .int 0, .ref (b 7), .int 0, .int (-1), .int 0, .ref (b 8), .int 0, .ref (b 9), .int 0, .ref (b 10), .ref (b 11), .ref (b 12), .int 0, .int 0, .int 0, .ref (b 13), .ref (b 14), .ref (b 15), .int 0, .int 0, .int 0, .ref (b 16), .ref (b 17), .ref (b 18), .ref (b 19)]))]) [0] (by decide) rfl
  exact W.vret hx hb hr (fun t9 ht hW => ⟨⟨(fun k => [].getD k 0), rfl, trivial, by rw [ht]; exact hP9, hD9⟩, hS.F ht⟩) hS.2.2 dX12_advance_239

set_option maxHeartbeats 4000000 in
set_option maxRecDepth 100000 in
theorem lp_mc2 {p : Program} {l : Launch} {e : Env} {R : Room} {s : State} {m : MethodId} {args : Array Value} {below : List Frame} {meth : Method} {c : Code} {cells slots : Nat} {Q : State → Prop} {A : Nat → Prop} {H0 : Heap} {D : va_G} {t : Nat → ClassId} {b : Nat → Nat}
    (hx : p.tables.exec = Jvm.exec) (hb : c.code = cX12_chamber) (hts : ∀ w ∈ TB, w.before args s = true) (hown : s.vm.findClass RX12 = some m.cls) (hK : va_K D classes (TY t) s) (hN : NW s)
    (kx : ∀ (H : Heap) (locs : List Loc), va_P D classes [(b 0, .inr (12, [.int 0, .ref (b 1), .ref (b 2), .ref (b 3), .ref (b 4), .int 0, .ref (b 5), .int 0, .int 0, .int 0, .int 0, .int 0, .int 0, .int (-1), .ref (b 6), .int 0, .ref (b 7), .int 0, .int (-1), .int 0, .ref (b 8), .int 0, .ref (b 9), .int 0, .ref (b 10), .ref (b 11), .ref (b 12), .int 0, .int 0, .int 0, .ref (b 13), .ref (b 14), .ref (b 15), .int 0, .int 0, .int 0, .ref (b 16), .ref (b 17), .ref (b 18), .ref (b 19)])), (b 1, .inl (t 0, 841, .inl (fun _ => 0))), (b 6, .inl (t 0, 841, .inl (fun _ => 0)))] H → va_D A [(b 0, .inr (12, [.int 0, .ref (b 1), .ref (b 2), .ref (b 3), .ref (b 4), .int 0, .ref (b 5), .int 0, .int 0, .int 0, .int 0, .int 0, .int 0, .int (-1), .ref (b 6), .int 0, .ref (b 7), .int 0, .int (-1), .int 0, .ref (b 8), .int 0, .ref (b 9), .int 0, .ref (b 10), .ref (b 11), .ref (b 12), .int 0, .int 0, .int 0, .ref (b 13), .ref (b 14), .ref (b 15), .int 0, .int 0, .int 0, .ref (b 16), .ref (b 17), .ref (b 18), .ref (b 19)])), (b 1, .inl (t 0, 841, .inl (fun _ => 0))), (b 6, .inl (t 0, 841, .inl (fun _ => 0)))] → va_S A H0 H locs → ∀ ls : Array Slot, lv_has ls 2 [(0, .ref (b 0))] → W p l e R s m args below meth c H locs cells slots Q (F0 m 112 ls [])) :
    ∀ (n i : Nat), i ≤ 841 → 841 + 1 ≤ i + n → ∀ (H : Heap) (locs : List Loc), va_P D classes [(b 0, .inr (12, [.int 0, .ref (b 1), .ref (b 2), .ref (b 3), .ref (b 4), .int 0, .ref (b 5), .int 0, .int 0, .int 0, .int 0, .int 0, .int 0, .int (-1), .ref (b 6), .int 0, .ref (b 7), .int 0, .int (-1), .int 0, .ref (b 8), .int 0, .ref (b 9), .int 0, .ref (b 10), .ref (b 11), .ref (b 12), .int 0, .int 0, .int 0, .ref (b 13), .ref (b 14), .ref (b 15), .int 0, .int 0, .int 0, .ref (b 16), .ref (b 17), .ref (b 18), .ref (b 19)])), (b 1, .inl (t 0, 841, .inl (fun _ => 0))), (b 6, .inl (t 0, 841, .inl (fun _ => 0)))] H → va_D A [(b 0, .inr (12, [.int 0, .ref (b 1), .ref (b 2), .ref (b 3), .ref (b 4), .int 0, .ref (b 5), .int 0, .int 0, .int 0, .int 0, .int 0, .int 0, .int (-1), .ref (b 6), .int 0, .ref (b 7), .int 0, .int (-1), .int 0, .ref (b 8), .int 0, .ref (b 9), .int 0, .ref (b 10), .ref (b 11), .ref (b 12), .int 0, .int 0, .int 0, .ref (b 13), .ref (b 14), .ref (b 15), .int 0, .int 0, .int 0, .ref (b 16), .ref (b 17), .ref (b 18), .ref (b 19)])), (b 1, .inl (t 0, 841, .inl (fun _ => 0))), (b 6, .inl (t 0, 841, .inl (fun _ => 0)))] → va_S A H0 H locs → ∀ ls : Array Slot, lv_has ls 2 [(1, .int (nI i)), (0, .ref (b 0))] → W p l e R s m args below meth c H locs cells slots Q (F0 m 87 ls []) := by
  intro n
  induction n with
  | zero =>
    intro i h1 h2
    exact absurd h2 (by omega)
  | succ n ih =>
    intro i hi hin H locs hP hD hS ls hl
    refine lv_iload_n hx hb dX12_chamber_87 rfl (lv_at hl 0 rfl) ?_
    refine lv_sipush (v := 841) hx hb dX12_chamber_88 (by decide) ?_
    refine lv_icmp_ge (tgt := 112) hx hb dX12_chamber_91 (by decide) (fun c_1 => ?_) (fun c_1 => ?_)
    · exact kx H locs hP hD hS ls (lv_sub hl [1] rfl)
    · have hlt : i < 841 := Nat.lt_of_not_le (fun q9 => c_1 (nI_le (a := 841) q9 (by omega)))
      refine lv_aload_n hx hb dX12_chamber_94 rfl (lv_at hl 1 rfl) ?_
      refine va_get (D := D) (ci := 12) (v := .ref (b 1)) (C := RX12) (T := TX12) (N := 40) hx hb hts iX12 hown hK hP 0 rfl rfl 1 (by decide) (hts _ m_1344) (fun _ h9 => h9) rfl dX12_chamber_95 ?_
      refine lv_iload_n hx hb dX12_chamber_98 rfl (lv_at hl 0 rfl) ?_
      refine lv_aload_n hx hb dX12_chamber_99 rfl (lv_at hl 1 rfl) ?_
      refine va_get (D := D) (ci := 12) (v := .ref (b 6)) (C := RX12) (T := TX12) (N := 40) hx hb hts iX12 hown hK hP 0 rfl rfl 14 (by decide) (hts _ m_1357) (fun _ h9 => h9) rfl dX12_chamber_100 ?_
      refine lv_iload_n hx hb dX12_chamber_103 rfl (lv_at hl 0 rfl) ?_
      refine va_iald hx hb hK hP 2 0 rfl rfl (vp_in_nI (n := i) (by omega) (by decide)) dX12_chamber_104 ?_
      refine x_seti 0 rfl ?_
      refine x_iast0 hx hb hK hP hD hS 1 0 rfl rfl (vp_in_nI (n := i) (by omega) (by decide)) dX12_chamber_105 (fun H locs hP hD hS => ?_)
      have hP : va_P D classes [(b 0, .inr (12, [.int 0, .ref (b 1), .ref (b 2), .ref (b 3), .ref (b 4), .int 0, .ref (b 5), .int 0, .int 0, .int 0, .int 0, .int 0, .int 0, .int (-1), .ref (b 6), .int 0, .ref (b 7), .int 0, .int (-1), .int 0, .ref (b 8), .int 0, .ref (b 9), .int 0, .ref (b 10), .ref (b 11), .ref (b 12), .int 0, .int 0, .int 0, .ref (b 13), .ref (b 14), .ref (b 15), .int 0, .int 0, .int 0, .ref (b 16), .ref (b 17), .ref (b 18), .ref (b 19)])), (b 1, .inl (t 0, 841, .inl (fun _ => 0))), (b 6, .inl (t 0, 841, .inl (fun _ => 0)))] H := hP
      have hD : va_D A [(b 0, .inr (12, [.int 0, .ref (b 1), .ref (b 2), .ref (b 3), .ref (b 4), .int 0, .ref (b 5), .int 0, .int 0, .int 0, .int 0, .int 0, .int 0, .int (-1), .ref (b 6), .int 0, .ref (b 7), .int 0, .int (-1), .int 0, .ref (b 8), .int 0, .ref (b 9), .int 0, .ref (b 10), .ref (b 11), .ref (b 12), .int 0, .int 0, .int 0, .ref (b 13), .ref (b 14), .ref (b 15), .int 0, .int 0, .int 0, .ref (b 16), .ref (b 17), .ref (b 18), .ref (b 19)])), (b 1, .inl (t 0, 841, .inl (fun _ => 0))), (b 6, .inl (t 0, 841, .inl (fun _ => 0)))] := hD
      refine lv_iinc (v := (nI (i + 1))) (lv' := [(1, .int (nI (i + 1))), (0, .ref (b 0))]) hx hb dX12_chamber_106 hl (k := 0) rfl (nI_1 _) (by decide) rfl (fun ls hl => ?_)
      refine lv_goto (tgt := 87) hx hb dX12_chamber_109 (by decide) ?_
      exact ih (i + 1) (by omega) (by omega) H locs hP hD hS ls (lv_sub hl [0, 1] rfl)

set_option maxHeartbeats 4000000 in
set_option maxRecDepth 100000 in
theorem lp_mc1b {p : Program} {l : Launch} {e : Env} {R : Room} {s : State} {m : MethodId} {args : Array Value} {below : List Frame} {meth : Method} {c : Code} {cells slots : Nat} {Q : State → Prop} {A : Nat → Prop} {H0 : Heap} {D : va_G} {t : Nat → ClassId} {b : Nat → Nat}
    (hx : p.tables.exec = Jvm.exec) (hb : c.code = cX12_chamber) (hts : ∀ w ∈ TB, w.before args s = true) (hown : s.vm.findClass RX12 = some m.cls) (hK : va_K D classes (TY t) s) (hN : NW s)
    (kx : ∀ (H : Heap) (locs : List Loc), va_P D classes [(b 0, .inr (12, [.int 0, .ref (b 1), .ref (b 2), .ref (b 3), .ref (b 4), .int 0, .ref (b 5), .int 0, .int 0, .int 0, .int 0, .int 0, .int 0, .int (-1), .ref (b 6), .int 0, .ref (b 7), .int 0, .int (-1), .int 0, .ref (b 8), .int 0, .ref (b 9), .int 0, .ref (b 10), .ref (b 11), .ref (b 12), .int 0, .int 0, .int 0, .ref (b 13), .ref (b 14), .ref (b 15), .int 0, .int 0, .int 0, .ref (b 16), .ref (b 17), .ref (b 18), .ref (b 19)])), (b 1, .inl (t 0, 841, .inl (fun _ => 0))), (b 6, .inl (t 0, 841, .inl (fun _ => 0)))] H → va_D A [(b 0, .inr (12, [.int 0, .ref (b 1), .ref (b 2), .ref (b 3), .ref (b 4), .int 0, .ref (b 5), .int 0, .int 0, .int 0, .int 0, .int 0, .int 0, .int (-1), .ref (b 6), .int 0, .ref (b 7), .int 0, .int (-1), .int 0, .ref (b 8), .int 0, .ref (b 9), .int 0, .ref (b 10), .ref (b 11), .ref (b 12), .int 0, .int 0, .int 0, .ref (b 13), .ref (b 14), .ref (b 15), .int 0, .int 0, .int 0, .ref (b 16), .ref (b 17), .ref (b 18), .ref (b 19)])), (b 1, .inl (t 0, 841, .inl (fun _ => 0))), (b 6, .inl (t 0, 841, .inl (fun _ => 0)))] → va_S A H0 H locs → ∀ ls : Array Slot, lv_has ls 2 [(0, .ref (b 0))] → W p l e R s m args below meth c H locs cells slots Q (F0 m 50 ls [])) :
    ∀ (n i : Nat), i ≤ 841 → 841 + 1 ≤ i + n → ∀ (H : Heap) (locs : List Loc), va_P D classes [(b 0, .inr (12, [.int 0, .ref (b 1), .ref (b 2), .ref (b 3), .ref (b 4), .int 0, .ref (b 5), .int 0, .int 0, .int 0, .int 0, .int 0, .int 0, .int (-1), .ref (b 6), .int 0, .ref (b 7), .int 0, .int (-1), .int 0, .ref (b 8), .int 0, .ref (b 9), .int 0, .ref (b 10), .ref (b 11), .ref (b 12), .int 0, .int 0, .int 0, .ref (b 13), .ref (b 14), .ref (b 15), .int 0, .int 0, .int 0, .ref (b 16), .ref (b 17), .ref (b 18), .ref (b 19)])), (b 1, .inl (t 0, 841, .inl (fun _ => 0))), (b 6, .inl (t 0, 841, .inl (fun _ => 0)))] H → va_D A [(b 0, .inr (12, [.int 0, .ref (b 1), .ref (b 2), .ref (b 3), .ref (b 4), .int 0, .ref (b 5), .int 0, .int 0, .int 0, .int 0, .int 0, .int 0, .int (-1), .ref (b 6), .int 0, .ref (b 7), .int 0, .int (-1), .int 0, .ref (b 8), .int 0, .ref (b 9), .int 0, .ref (b 10), .ref (b 11), .ref (b 12), .int 0, .int 0, .int 0, .ref (b 13), .ref (b 14), .ref (b 15), .int 0, .int 0, .int 0, .ref (b 16), .ref (b 17), .ref (b 18), .ref (b 19)])), (b 1, .inl (t 0, 841, .inl (fun _ => 0))), (b 6, .inl (t 0, 841, .inl (fun _ => 0)))] → va_S A H0 H locs → ∀ ls : Array Slot, lv_has ls 2 [(1, .int (nI i)), (0, .ref (b 0))] → W p l e R s m args below meth c H locs cells slots Q (F0 m 30 ls []) := by
  intro n
  induction n with
  | zero =>
    intro i h1 h2
    exact absurd h2 (by omega)
  | succ n ih =>
    intro i hi hin H locs hP hD hS ls hl
    refine lv_iload_n hx hb dX12_chamber_30 rfl (lv_at hl 0 rfl) ?_
    refine lv_sipush (v := 841) hx hb dX12_chamber_31 (by decide) ?_
    refine lv_icmp_ge (tgt := 50) hx hb dX12_chamber_34 (by decide) (fun c_1 => ?_) (fun c_1 => ?_)
    · exact kx H locs hP hD hS ls (lv_sub hl [1] rfl)
    · have hlt : i < 841 := Nat.lt_of_not_le (fun q9 => c_1 (nI_le (a := 841) q9 (by omega)))
      refine lv_aload_n hx hb dX12_chamber_37 rfl (lv_at hl 1 rfl) ?_
      refine va_get (D := D) (ci := 12) (v := .ref (b 6)) (C := RX12) (T := TX12) (N := 40) hx hb hts iX12 hown hK hP 0 rfl rfl 14 (by decide) (hts _ m_1357) (fun _ h9 => h9) rfl dX12_chamber_38 ?_
      refine lv_iload_n hx hb dX12_chamber_41 rfl (lv_at hl 0 rfl) ?_
      refine lv_iconst (v := 0) hx hb dX12_chamber_42 (by decide) ?_
      refine x_iast0 hx hb hK hP hD hS 2 0 rfl rfl (vp_in_nI (n := i) (by omega) (by decide)) dX12_chamber_43 (fun H locs hP hD hS => ?_)
      have hP : va_P D classes [(b 0, .inr (12, [.int 0, .ref (b 1), .ref (b 2), .ref (b 3), .ref (b 4), .int 0, .ref (b 5), .int 0, .int 0, .int 0, .int 0, .int 0, .int 0, .int (-1), .ref (b 6), .int 0, .ref (b 7), .int 0, .int (-1), .int 0, .ref (b 8), .int 0, .ref (b 9), .int 0, .ref (b 10), .ref (b 11), .ref (b 12), .int 0, .int 0, .int 0, .ref (b 13), .ref (b 14), .ref (b 15), .int 0, .int 0, .int 0, .ref (b 16), .ref (b 17), .ref (b 18), .ref (b 19)])), (b 1, .inl (t 0, 841, .inl (fun _ => 0))), (b 6, .inl (t 0, 841, .inl (fun _ => 0)))] H := hP
      have hD : va_D A [(b 0, .inr (12, [.int 0, .ref (b 1), .ref (b 2), .ref (b 3), .ref (b 4), .int 0, .ref (b 5), .int 0, .int 0, .int 0, .int 0, .int 0, .int 0, .int (-1), .ref (b 6), .int 0, .ref (b 7), .int 0, .int (-1), .int 0, .ref (b 8), .int 0, .ref (b 9), .int 0, .ref (b 10), .ref (b 11), .ref (b 12), .int 0, .int 0, .int 0, .ref (b 13), .ref (b 14), .ref (b 15), .int 0, .int 0, .int 0, .ref (b 16), .ref (b 17), .ref (b 18), .ref (b 19)])), (b 1, .inl (t 0, 841, .inl (fun _ => 0))), (b 6, .inl (t 0, 841, .inl (fun _ => 0)))] := hD
      refine lv_iinc (v := (nI (i + 1))) (lv' := [(1, .int (nI (i + 1))), (0, .ref (b 0))]) hx hb dX12_chamber_44 hl (k := 0) rfl (nI_1 _) (by decide) rfl (fun ls hl => ?_)
      refine lv_goto (tgt := 30) hx hb dX12_chamber_47 (by decide) ?_
      exact ih (i + 1) (by omega) (by omega) H locs hP hD hS ls (lv_sub hl [0, 1] rfl)

set_option maxHeartbeats 4000000 in
set_option maxRecDepth 100000 in
theorem c_X12_chamber (l : Launch) (D : va_G) (t : Nat → ClassId) (b : Nat → Nat) (sz : Nat) : Met l yX12_chamber (wd yX12_chamber cX12_chamber 2 (some .int)) (RM 2 0 0) (PreW D (TY t) [.ref (b 0)] [(b 0, .inr (12, [.int 0, .ref (b 1), .ref (b 2), .ref (b 3), .ref (b 4), .int 0, .ref (b 5), .int 0, .int 0, .int 0, .int 0, .int 0, .int 0, .int (-1), .ref (b 6), .int 0, .ref (b 7), .int 0, .int (-1), .int 0, .ref (b 8), .int 0, .ref (b 9), .int 0, .ref (b 10), .ref (b 11), .ref (b 12), .int 0, .int 0, .int 0, .ref (b 13), .ref (b 14), .ref (b 15), .int 0, .int 0, .int 0, .ref (b 16), .ref (b 17), .ref (b 18), .ref (b 19)])), (b 1, .inl (t 0, 841, .inl (fun _ => 0))), (b 6, .inl (t 0, 841, .inl (fun _ => 0)))] sz) (va_Qi (fun (r : Int32) (_ : Unit) => r = 0) (fun _ _ => True) (va_A [(b 0, .inr (12, [.int 0, .ref (b 1), .ref (b 2), .ref (b 3), .ref (b 4), .int 0, .ref (b 5), .int 0, .int 0, .int 0, .int 0, .int 0, .int 0, .int (-1), .ref (b 6), .int 0, .ref (b 7), .int 0, .int (-1), .int 0, .ref (b 8), .int 0, .ref (b 9), .int 0, .ref (b 10), .ref (b 11), .ref (b 12), .int 0, .int 0, .int 0, .ref (b 13), .ref (b 14), .ref (b 15), .int 0, .int 0, .int 0, .ref (b 16), .ref (b 17), .ref (b 18), .ref (b 19)])), (b 1, .inl (t 0, 841, .inl (fun _ => 0))), (b 6, .inl (t 0, 841, .inl (fun _ => 0)))] sz)) 0 0 (va_A [(b 0, .inr (12, [.int 0, .ref (b 1), .ref (b 2), .ref (b 3), .ref (b 4), .int 0, .ref (b 5), .int 0, .int 0, .int 0, .int 0, .int 0, .int 0, .int (-1), .ref (b 6), .int 0, .ref (b 7), .int 0, .int (-1), .int 0, .ref (b 8), .int 0, .ref (b 9), .int 0, .ref (b 10), .ref (b 11), .ref (b 12), .int 0, .int 0, .int 0, .ref (b 13), .ref (b 14), .ref (b 15), .int 0, .int 0, .int 0, .ref (b 16), .ref (b 17), .ref (b 18), .ref (b 19)])), (b 1, .inl (t 0, 841, .inl (fun _ => 0))), (b 6, .inl (t 0, 841, .inl (fun _ => 0)))] sz) := by
  refine Met.ofW (cc := cX12_chamber) (maxL := 2) (ret := (some .int)) (by decide) rfl ?_
  intro p e s m args below meth c s₁ B hml hv
  obtain ⟨rfl, hsz, hP, hK, hD0, hN⟩ := hv
  have hx := B.exec
  have hb := B.bytes
  have hr := B.returns
  have hts : ∀ w ∈ TB, w.before _ s = true := fun w h => atoms_spec (ws := wd yX12_chamber cX12_chamber 2 (some .int)) B.pre w (List.mem_cons_of_mem _ h)
  have hown : s.vm.findClass RX12 = some m.cls := findClass_of_methodNamed B.named
  have hlocks := B.notSynchronized
  have hF : CallFix p m c cX12_chamber 2 s _ TB RX12 := ⟨hx, hb, hml, hown, hts⟩
  have hl := lv_entry ([.ref (b 0)]) (n := 2) (Nat.le_of_ble_eq_true rfl)
  rw [lg_entry_eq]
  generalize (lg_sl ([.ref (b 0)]) ++ List.replicate (2 - (lg_sl ([.ref (b 0)])).length) Slot.unset).toArray = ls at hl ⊢
  have hl : lv_has ls 2 [(0, .ref (b 0))] := hl
  subst hsz
  have hD := hD0.self (sz := s.heap.size)
  generalize hAe : va_A [(b 0, .inr (12, [.int 0, .ref (b 1), .ref (b 2), .ref (b 3), .ref (b 4), .int 0, .ref (b 5), .int 0, .int 0, .int 0, .int 0, .int 0, .int 0, .int (-1), .ref (b 6), .int 0, .ref (b 7), .int 0, .int (-1), .int 0, .ref (b 8), .int 0, .ref (b 9), .int 0, .ref (b 10), .ref (b 11), .ref (b 12), .int 0, .int 0, .int 0, .ref (b 13), .ref (b 14), .ref (b 15), .int 0, .int 0, .int 0, .ref (b 16), .ref (b 17), .ref (b 18), .ref (b 19)])), (b 1, .inl (t 0, 841, .inl (fun _ => 0))), (b 6, .inl (t 0, 841, .inl (fun _ => 0)))] s.heap.size = A at hD ⊢
  have hA : ∀ q : Nat, s.heap.size ≤ q → A q := fun q h => by rw [← hAe]; exact Or.inr h
  have hS : va_S A s.heap s.heap [] := va_S.rf
  have hP : va_P D classes [(b 0, .inr (12, [.int 0, .ref (b 1), .ref (b 2), .ref (b 3), .ref (b 4), .int 0, .ref (b 5), .int 0, .int 0, .int 0, .int 0, .int 0, .int 0, .int (-1), .ref (b 6), .int 0, .ref (b 7), .int 0, .int (-1), .int 0, .ref (b 8), .int 0, .ref (b 9), .int 0, .ref (b 10), .ref (b 11), .ref (b 12), .int 0, .int 0, .int 0, .ref (b 13), .ref (b 14), .ref (b 15), .int 0, .int 0, .int 0, .ref (b 16), .ref (b 17), .ref (b 18), .ref (b 19)])), (b 1, .inl (t 0, 841, .inl (fun _ => 0))), (b 6, .inl (t 0, 841, .inl (fun _ => 0)))] s.heap := hP
  refine lv_aload_n hx hb dX12_chamber_0 rfl (lv_at hl 0 rfl) ?_
  refine lv_aload_n hx hb dX12_chamber_1 rfl (lv_at hl 0 rfl) ?_
  refine va_get (D := D) (ci := 12) (v := .int 0) (C := RX12) (T := TX12) (N := 40) hx hb hts iX12 hown hK hP 0 rfl rfl 5 (by decide) (hts _ m_1348) (fun _ h9 => h9) rfl dX12_chamber_2 ?_
  refine va_put (D := D) (ci := 12) (v := .int 0) (ty := .int) (C := RX12) (T := TX12) (N := 40) hx hb hts iX12 tyX12 tyX12_ok nmX12 hown hK hP hD hS 0 rfl rfl 7 (by decide) (hts _ m_1350) (fun _ h9 => h9) rfl (tyX12_ok 7 (by decide)) rfl rfl (Nat.le_of_ble_eq_true rfl) dX12_chamber_5 (fun H locs hP hD hS => ?_)
  have hP : va_P D classes [(b 0, .inr (12, [.int 0, .ref (b 1), .ref (b 2), .ref (b 3), .ref (b 4), .int 0, .ref (b 5), .int 0, .int 0, .int 0, .int 0, .int 0, .int 0, .int (-1), .ref (b 6), .int 0, .ref (b 7), .int 0, .int (-1), .int 0, .ref (b 8), .int 0, .ref (b 9), .int 0, .ref (b 10), .ref (b 11), .ref (b 12), .int 0, .int 0, .int 0, .ref (b 13), .ref (b 14), .ref (b 15), .int 0, .int 0, .int 0, .ref (b 16), .ref (b 17), .ref (b 18), .ref (b 19)])), (b 1, .inl (t 0, 841, .inl (fun _ => 0))), (b 6, .inl (t 0, 841, .inl (fun _ => 0)))] H := hP
  have hD : va_D A [(b 0, .inr (12, [.int 0, .ref (b 1), .ref (b 2), .ref (b 3), .ref (b 4), .int 0, .ref (b 5), .int 0, .int 0, .int 0, .int 0, .int 0, .int 0, .int (-1), .ref (b 6), .int 0, .ref (b 7), .int 0, .int (-1), .int 0, .ref (b 8), .int 0, .ref (b 9), .int 0, .ref (b 10), .ref (b 11), .ref (b 12), .int 0, .int 0, .int 0, .ref (b 13), .ref (b 14), .ref (b 15), .int 0, .int 0, .int 0, .ref (b 16), .ref (b 17), .ref (b 18), .ref (b 19)])), (b 1, .inl (t 0, 841, .inl (fun _ => 0))), (b 6, .inl (t 0, 841, .inl (fun _ => 0)))] := hD
  refine lv_aload_n hx hb dX12_chamber_8 rfl (lv_at hl 0 rfl) ?_
  refine lv_iconst (v := 0) hx hb dX12_chamber_9 (by decide) ?_
  refine va_put (D := D) (ci := 12) (v := .int 0) (ty := .int) (C := RX12) (T := TX12) (N := 40) hx hb hts iX12 tyX12 tyX12_ok nmX12 hown hK hP hD hS 0 rfl rfl 5 (by decide) (hts _ m_1348) (fun _ h9 => h9) rfl (tyX12_ok 5 (by decide)) rfl rfl (Nat.le_of_ble_eq_true rfl) dX12_chamber_10 (fun H locs hP hD hS => ?_)
  have hP : va_P D classes [(b 0, .inr (12, [.int 0, .ref (b 1), .ref (b 2), .ref (b 3), .ref (b 4), .int 0, .ref (b 5), .int 0, .int 0, .int 0, .int 0, .int 0, .int 0, .int (-1), .ref (b 6), .int 0, .ref (b 7), .int 0, .int (-1), .int 0, .ref (b 8), .int 0, .ref (b 9), .int 0, .ref (b 10), .ref (b 11), .ref (b 12), .int 0, .int 0, .int 0, .ref (b 13), .ref (b 14), .ref (b 15), .int 0, .int 0, .int 0, .ref (b 16), .ref (b 17), .ref (b 18), .ref (b 19)])), (b 1, .inl (t 0, 841, .inl (fun _ => 0))), (b 6, .inl (t 0, 841, .inl (fun _ => 0)))] H := hP
  have hD : va_D A [(b 0, .inr (12, [.int 0, .ref (b 1), .ref (b 2), .ref (b 3), .ref (b 4), .int 0, .ref (b 5), .int 0, .int 0, .int 0, .int 0, .int 0, .int 0, .int (-1), .ref (b 6), .int 0, .ref (b 7), .int 0, .int (-1), .int 0, .ref (b 8), .int 0, .ref (b 9), .int 0, .ref (b 10), .ref (b 11), .ref (b 12), .int 0, .int 0, .int 0, .ref (b 13), .ref (b 14), .ref (b 15), .int 0, .int 0, .int 0, .ref (b 16), .ref (b 17), .ref (b 18), .ref (b 19)])), (b 1, .inl (t 0, 841, .inl (fun _ => 0))), (b 6, .inl (t 0, 841, .inl (fun _ => 0)))] := hD
  refine lv_aload_n hx hb dX12_chamber_13 rfl (lv_at hl 0 rfl) ?_
  refine lv_iconst (v := 0) hx hb dX12_chamber_14 (by decide) ?_
  refine va_put (D := D) (ci := 12) (v := .int 0) (ty := .int) (C := RX12) (T := TX12) (N := 40) hx hb hts iX12 tyX12 tyX12_ok nmX12 hown hK hP hD hS 0 rfl rfl 8 (by decide) (hts _ m_1351) (fun _ h9 => h9) rfl (tyX12_ok 8 (by decide)) rfl rfl (Nat.le_of_ble_eq_true rfl) dX12_chamber_15 (fun H locs hP hD hS => ?_)
  have hP : va_P D classes [(b 0, .inr (12, [.int 0, .ref (b 1), .ref (b 2), .ref (b 3), .ref (b 4), .int 0, .ref (b 5), .int 0, .int 0, .int 0, .int 0, .int 0, .int 0, .int (-1), .ref (b 6), .int 0, .ref (b 7), .int 0, .int (-1), .int 0, .ref (b 8), .int 0, .ref (b 9), .int 0, .ref (b 10), .ref (b 11), .ref (b 12), .int 0, .int 0, .int 0, .ref (b 13), .ref (b 14), .ref (b 15), .int 0, .int 0, .int 0, .ref (b 16), .ref (b 17), .ref (b 18), .ref (b 19)])), (b 1, .inl (t 0, 841, .inl (fun _ => 0))), (b 6, .inl (t 0, 841, .inl (fun _ => 0)))] H := hP
  have hD : va_D A [(b 0, .inr (12, [.int 0, .ref (b 1), .ref (b 2), .ref (b 3), .ref (b 4), .int 0, .ref (b 5), .int 0, .int 0, .int 0, .int 0, .int 0, .int 0, .int (-1), .ref (b 6), .int 0, .ref (b 7), .int 0, .int (-1), .int 0, .ref (b 8), .int 0, .ref (b 9), .int 0, .ref (b 10), .ref (b 11), .ref (b 12), .int 0, .int 0, .int 0, .ref (b 13), .ref (b 14), .ref (b 15), .int 0, .int 0, .int 0, .ref (b 16), .ref (b 17), .ref (b 18), .ref (b 19)])), (b 1, .inl (t 0, 841, .inl (fun _ => 0))), (b 6, .inl (t 0, 841, .inl (fun _ => 0)))] := hD
  refine lv_aload_n hx hb dX12_chamber_18 rfl (lv_at hl 0 rfl) ?_
  refine lv_iconst (v := 0) hx hb dX12_chamber_19 (by decide) ?_
  refine va_put (D := D) (ci := 12) (v := .int 0) (ty := .int) (C := RX12) (T := TX12) (N := 40) hx hb hts iX12 tyX12 tyX12_ok nmX12 hown hK hP hD hS 0 rfl rfl 12 (by decide) (hts _ m_1355) (fun _ h9 => h9) rfl (tyX12_ok 12 (by decide)) rfl rfl (Nat.le_of_ble_eq_true rfl) dX12_chamber_20 (fun H locs hP hD hS => ?_)
  have hP : va_P D classes [(b 0, .inr (12, [.int 0, .ref (b 1), .ref (b 2), .ref (b 3), .ref (b 4), .int 0, .ref (b 5), .int 0, .int 0, .int 0, .int 0, .int 0, .int 0, .int (-1), .ref (b 6), .int 0, .ref (b 7), .int 0, .int (-1), .int 0, .ref (b 8), .int 0, .ref (b 9), .int 0, .ref (b 10), .ref (b 11), .ref (b 12), .int 0, .int 0, .int 0, .ref (b 13), .ref (b 14), .ref (b 15), .int 0, .int 0, .int 0, .ref (b 16), .ref (b 17), .ref (b 18), .ref (b 19)])), (b 1, .inl (t 0, 841, .inl (fun _ => 0))), (b 6, .inl (t 0, 841, .inl (fun _ => 0)))] H := hP
  have hD : va_D A [(b 0, .inr (12, [.int 0, .ref (b 1), .ref (b 2), .ref (b 3), .ref (b 4), .int 0, .ref (b 5), .int 0, .int 0, .int 0, .int 0, .int 0, .int 0, .int (-1), .ref (b 6), .int 0, .ref (b 7), .int 0, .int (-1), .int 0, .ref (b 8), .int 0, .ref (b 9), .int 0, .ref (b 10), .ref (b 11), .ref (b 12), .int 0, .int 0, .int 0, .ref (b 13), .ref (b 14), .ref (b 15), .int 0, .int 0, .int 0, .ref (b 16), .ref (b 17), .ref (b 18), .ref (b 19)])), (b 1, .inl (t 0, 841, .inl (fun _ => 0))), (b 6, .inl (t 0, 841, .inl (fun _ => 0)))] := hD
  refine lv_aload_n hx hb dX12_chamber_23 rfl (lv_at hl 0 rfl) ?_
  refine lv_iconst (v := (-1)) hx hb dX12_chamber_24 (by decide) ?_
  refine va_put (D := D) (ci := 12) (v := .int (-1)) (ty := .int) (C := RX12) (T := TX12) (N := 40) hx hb hts iX12 tyX12 tyX12_ok nmX12 hown hK hP hD hS 0 rfl rfl 13 (by decide) (hts _ m_1356) (fun _ h9 => h9) rfl (tyX12_ok 13 (by decide)) rfl rfl (Nat.le_of_ble_eq_true rfl) dX12_chamber_25 (fun H locs hP hD hS => ?_)
  have hP : va_P D classes [(b 0, .inr (12, [.int 0, .ref (b 1), .ref (b 2), .ref (b 3), .ref (b 4), .int 0, .ref (b 5), .int 0, .int 0, .int 0, .int 0, .int 0, .int 0, .int (-1), .ref (b 6), .int 0, .ref (b 7), .int 0, .int (-1), .int 0, .ref (b 8), .int 0, .ref (b 9), .int 0, .ref (b 10), .ref (b 11), .ref (b 12), .int 0, .int 0, .int 0, .ref (b 13), .ref (b 14), .ref (b 15), .int 0, .int 0, .int 0, .ref (b 16), .ref (b 17), .ref (b 18), .ref (b 19)])), (b 1, .inl (t 0, 841, .inl (fun _ => 0))), (b 6, .inl (t 0, 841, .inl (fun _ => 0)))] H := hP
  have hD : va_D A [(b 0, .inr (12, [.int 0, .ref (b 1), .ref (b 2), .ref (b 3), .ref (b 4), .int 0, .ref (b 5), .int 0, .int 0, .int 0, .int 0, .int 0, .int 0, .int (-1), .ref (b 6), .int 0, .ref (b 7), .int 0, .int (-1), .int 0, .ref (b 8), .int 0, .ref (b 9), .int 0, .ref (b 10), .ref (b 11), .ref (b 12), .int 0, .int 0, .int 0, .ref (b 13), .ref (b 14), .ref (b 15), .int 0, .int 0, .int 0, .ref (b 16), .ref (b 17), .ref (b 18), .ref (b 19)])), (b 1, .inl (t 0, 841, .inl (fun _ => 0))), (b 6, .inl (t 0, 841, .inl (fun _ => 0)))] := hD
  refine lv_iconst (v := 0) hx hb dX12_chamber_28 (by decide) ?_
  refine lv_istore_n (lv' := [(1, .int 0), (0, .ref (b 0))]) hx hb dX12_chamber_29 rfl hl (by decide) rfl (fun ls hl => ?_)
  refine lp_mc1b hx hb hts hown hK hN (fun H locs hP hD hS ls hl => ?_) 842 0 (Nat.zero_le _) (by omega) _ _ hP hD hS ls (lv_sub hl [0, 1] rfl)
  refine lv_aload_n hx hb dX12_chamber_50 rfl (lv_at hl 0 rfl) ?_
  refine x_wV (wr := [(b 1, .inl (t 0, 841, .inl (fun _ => 0))), (b 6, .inl (t 0, 841, .inl (fun _ => 0)))]) hF (c_X12_advance l D t b H.size) m_1492 m_1494 m_s37 m_13 m_1495 hd_X12_advance ⟨Nat.le_of_ble_eq_true rfl, Nat.le_of_ble_eq_true rfl⟩ hK hN hP hD hS hA 0 (ci := 12) rfl rfl rfl [0] [1, 2] rfl rfl (by decide) (by decide) (by decide) hl.1 rfl (Nat.le_of_ble_eq_true rfl) dX12_chamber_51 ⟨Nat.le_of_ble_eq_true rfl, Nat.le_of_ble_eq_true rfl⟩ (fun u_1 H locs hP hD hS => ?_)
  have hP : va_P D classes [(b 1, .inl (t 0, 841, .inl (fun _ => 0))), (b 6, .inl (t 0, 841, .inl (fun _ => 0))), (b 0, .inr (12, [.int 0, .ref (b 1), .ref (b 2), .ref (b 3), .ref (b 4), .int 0, .ref (b 5), .int 0, .int 0, .int 0, .int 0, .int 0, .int 0, .int (-1), .ref (b 6), .int 0, .ref (b 7), .int 0, .int (-1), .int 0, .ref (b 8), .int 0, .ref (b 9), .int 0, .ref (b 10), .ref (b 11), .ref (b 12), .int 0, .int 0, .int 0, .ref (b 13), .ref (b 14), .ref (b 15), .int 0, .int 0, .int 0, .ref (b 16), .ref (b 17), .ref (b 18), .ref (b 19)]))] H := hP
  have hD : va_D A [(b 1, .inl (t 0, 841, .inl (fun _ => 0))), (b 6, .inl (t 0, 841, .inl (fun _ => 0))), (b 0, .inr (12, [.int 0, .ref (b 1), .ref (b 2), .ref (b 3), .ref (b 4), .int 0, .ref (b 5), .int 0, .int 0, .int 0, .int 0, .int 0, .int 0, .int (-1), .ref (b 6), .int 0, .ref (b 7), .int 0, .int (-1), .int 0, .ref (b 8), .int 0, .ref (b 9), .int 0, .ref (b 10), .ref (b 11), .ref (b 12), .int 0, .int 0, .int 0, .ref (b 13), .ref (b 14), .ref (b 15), .int 0, .int 0, .int 0, .ref (b 16), .ref (b 17), .ref (b 18), .ref (b 19)]))] := hD
  refine W.widen (k := 0) (n := 0) (Nat.le_of_ble_eq_true rfl) (Nat.le_of_ble_eq_true rfl) ?_
  refine lv_aload_n hx hb dX12_chamber_54 rfl (lv_at hl 0 rfl) ?_
  refine x_pV hF (c_X12_good l D t b) m_1506 m_1508 m_s39 m_13 m_1509 hd_X12_good ⟨Nat.le_of_ble_eq_true rfl, Nat.le_of_ble_eq_true rfl⟩ hK hN hP hS [2] rfl 0 (ci := 12) rfl rfl rfl hl.1 rfl (Nat.le_of_ble_eq_true rfl) dX12_chamber_55 ⟨Nat.zero_le _, Nat.zero_le _⟩ (fun H locs hP hS => ?_)
  refine lv_if_eq (tgt := 75) hx hb dX12_chamber_58 (by decide) (fun c9 => absurd c9 (by decide)) (fun _ => ?_)
  refine lv_aload_n hx hb dX12_chamber_61 rfl (lv_at hl 0 rfl) ?_
  refine va_get (D := D) (ci := 12) (v := .int 0) (C := RX12) (T := TX12) (N := 40) hx hb hts iX12 hown hK hP 2 rfl rfl 10 (by decide) (hts _ m_1353) (fun _ h9 => h9) rfl dX12_chamber_62 ?_
  refine lv_if_eq (tgt := 75) hx hb dX12_chamber_65 (by decide) (fun _ => ?_) (fun c9 => absurd (by decide) c9)
  refine lv_aload_n hx hb dX12_chamber_75 rfl (lv_at hl 0 rfl) ?_
  refine x_pV hF (c_X12_good l D t b) m_1506 m_1508 m_s39 m_13 m_1509 hd_X12_good ⟨Nat.le_of_ble_eq_true rfl, Nat.le_of_ble_eq_true rfl⟩ hK hN hP hS [2] rfl 0 (ci := 12) rfl rfl rfl hl.1 rfl (Nat.le_of_ble_eq_true rfl) dX12_chamber_76 ⟨Nat.zero_le _, Nat.zero_le _⟩ (fun H locs hP hS => ?_)
  refine lv_if_ne (tgt := 85) hx hb dX12_chamber_79 (by decide) (fun _ => ?_) (fun c9 => absurd c9 (by decide))
  refine lv_iconst (v := 0) hx hb dX12_chamber_85 (by decide) ?_
  refine lv_istore_n (lv' := [(1, .int 0), (0, .ref (b 0))]) hx hb dX12_chamber_86 rfl hl (by decide) rfl (fun ls hl => ?_)
  have hP := hP.sub (ws' := [(b 0, .inr (12, [.int 0, .ref (b 1), .ref (b 2), .ref (b 3), .ref (b 4), .int 0, .ref (b 5), .int 0, .int 0, .int 0, .int 0, .int 0, .int 0, .int (-1), .ref (b 6), .int 0, .ref (b 7), .int 0, .int (-1), .int 0, .ref (b 8), .int 0, .ref (b 9), .int 0, .ref (b 10), .ref (b 11), .ref (b 12), .int 0, .int 0, .int 0, .ref (b 13), .ref (b 14), .ref (b 15), .int 0, .int 0, .int 0, .ref (b 16), .ref (b 17), .ref (b 18), .ref (b 19)])), (b 1, .inl (t 0, 841, .inl (fun _ => 0))), (b 6, .inl (t 0, 841, .inl (fun _ => 0)))]) [2, 0, 1] rfl
  have hD := hD.sub (ws' := [(b 0, .inr (12, [.int 0, .ref (b 1), .ref (b 2), .ref (b 3), .ref (b 4), .int 0, .ref (b 5), .int 0, .int 0, .int 0, .int 0, .int 0, .int 0, .int (-1), .ref (b 6), .int 0, .ref (b 7), .int 0, .int (-1), .int 0, .ref (b 8), .int 0, .ref (b 9), .int 0, .ref (b 10), .ref (b 11), .ref (b 12), .int 0, .int 0, .int 0, .ref (b 13), .ref (b 14), .ref (b 15), .int 0, .int 0, .int 0, .ref (b 16), .ref (b 17), .ref (b 18), .ref (b 19)])), (b 1, .inl (t 0, 841, .inl (fun _ => 0))), (b 6, .inl (t 0, 841, .inl (fun _ => 0)))]) [2, 0, 1] (by decide) rfl
  refine lp_mc2 hx hb hts hown hK hN (fun H locs hP hD hS ls hl => ?_) 842 0 (Nat.zero_le _) (by omega) _ _ hP hD hS ls (lv_sub hl [0, 1] rfl)
  refine lv_aload_n hx hb dX12_chamber_112 rfl (lv_at hl 0 rfl) ?_
  refine va_get (D := D) (ci := 12) (v := .ref (b 1)) (C := RX12) (T := TX12) (N := 40) hx hb hts iX12 hown hK hP 0 rfl rfl 1 (by decide) (hts _ m_1344) (fun _ h9 => h9) rfl dX12_chamber_113 ?_
  refine lv_bipush (v := 9) hx hb dX12_chamber_116 (by decide) ?_
  refine va_iald hx hb hK hP 1 0 rfl rfl (vp_in_nI (n := 9) (by decide) (by decide)) dX12_chamber_118 ?_
  refine x_seti 0 rfl ?_
  exact W.iret (v := 0) hx hb hr (fun t9 ht hW => ⟨⟨0, (), rfl, rfl, trivial⟩, hS.F ht⟩) hS.2.2 dX12_chamber_119

set_option maxHeartbeats 4000000 in
set_option maxRecDepth 100000 in
theorem lp_mi0 {p : Program} {l : Launch} {e : Env} {R : Room} {s : State} {m : MethodId} {args : Array Value} {below : List Frame} {meth : Method} {c : Code} {cells slots : Nat} {Q : State → Prop} {A : Nat → Prop} {H0 : Heap} {D : va_G} {t : Nat → ClassId} {b : Nat → Nat}
    (hx : p.tables.exec = Jvm.exec) (hb : c.code = cX12_image) (hts : ∀ w ∈ TB, w.before args s = true) (hown : s.vm.findClass RX12 = some m.cls) (hK : va_K D classes (TY t) s) (hN : NW s)
    (kx : ∀ (H : Heap) (locs : List Loc), va_P D classes [(b 0, .inr (12, [.int 0, .ref (b 1), .ref (b 2), .ref (b 3), .ref (b 4), .int 0, .ref (b 5), .int 0, .int 0, .int 0, .int 0, .int 0, .int 0, .int (-1), .ref (b 6), .int 0, .ref (b 7), .int 0, .int (-1), .int 0, .ref (b 8), .int 0, .ref (b 9), .int 0, .ref (b 10), .ref (b 11), .ref (b 12), .int 0, .int 0, .int 0, .ref (b 13), .ref (b 14), .ref (b 15), .int 0, .int 0, .int 0, .ref (b 16), .ref (b 17), .ref (b 18), .ref (b 19)])), (b 1, .inl (t 0, 841, .inl (fun _ => 0))), (b 2, .inl (t 0, 2523, .inl (fun _ => 0))), (b 3, .inl (t 3, 3, .inl (fun _ => 0)))] H → va_D A [(b 0, .inr (12, [.int 0, .ref (b 1), .ref (b 2), .ref (b 3), .ref (b 4), .int 0, .ref (b 5), .int 0, .int 0, .int 0, .int 0, .int 0, .int 0, .int (-1), .ref (b 6), .int 0, .ref (b 7), .int 0, .int (-1), .int 0, .ref (b 8), .int 0, .ref (b 9), .int 0, .ref (b 10), .ref (b 11), .ref (b 12), .int 0, .int 0, .int 0, .ref (b 13), .ref (b 14), .ref (b 15), .int 0, .int 0, .int 0, .ref (b 16), .ref (b 17), .ref (b 18), .ref (b 19)])), (b 1, .inl (t 0, 841, .inl (fun _ => 0))), (b 2, .inl (t 0, 2523, .inl (fun _ => 0))), (b 3, .inl (t 3, 3, .inl (fun _ => 0)))] → va_S A H0 H locs → ∀ ls : Array Slot, lv_has ls 3 [(0, .ref (b 0)), (1, .int (nI 0))] → W p l e R s m args below meth c H locs cells slots Q (F0 m 48 ls [])) :
    ∀ (n i : Nat), i ≤ 841 → 841 + 1 ≤ i + n → ∀ (H : Heap) (locs : List Loc), va_P D classes [(b 0, .inr (12, [.int 0, .ref (b 1), .ref (b 2), .ref (b 3), .ref (b 4), .int 0, .ref (b 5), .int 0, .int 0, .int 0, .int 0, .int 0, .int 0, .int (-1), .ref (b 6), .int 0, .ref (b 7), .int 0, .int (-1), .int 0, .ref (b 8), .int 0, .ref (b 9), .int 0, .ref (b 10), .ref (b 11), .ref (b 12), .int 0, .int 0, .int 0, .ref (b 13), .ref (b 14), .ref (b 15), .int 0, .int 0, .int 0, .ref (b 16), .ref (b 17), .ref (b 18), .ref (b 19)])), (b 1, .inl (t 0, 841, .inl (fun _ => 0))), (b 2, .inl (t 0, 2523, .inl (fun _ => 0))), (b 3, .inl (t 3, 3, .inl (fun _ => 0)))] H → va_D A [(b 0, .inr (12, [.int 0, .ref (b 1), .ref (b 2), .ref (b 3), .ref (b 4), .int 0, .ref (b 5), .int 0, .int 0, .int 0, .int 0, .int 0, .int 0, .int (-1), .ref (b 6), .int 0, .ref (b 7), .int 0, .int (-1), .int 0, .ref (b 8), .int 0, .ref (b 9), .int 0, .ref (b 10), .ref (b 11), .ref (b 12), .int 0, .int 0, .int 0, .ref (b 13), .ref (b 14), .ref (b 15), .int 0, .int 0, .int 0, .ref (b 16), .ref (b 17), .ref (b 18), .ref (b 19)])), (b 1, .inl (t 0, 841, .inl (fun _ => 0))), (b 2, .inl (t 0, 2523, .inl (fun _ => 0))), (b 3, .inl (t 3, 3, .inl (fun _ => 0)))] → va_S A H0 H locs → ∀ ls : Array Slot, lv_has ls 3 [(2, .int (nI i)), (0, .ref (b 0)), (1, .int (nI 0))] → W p l e R s m args below meth c H locs cells slots Q (F0 m 17 ls []) := by
  intro n
  induction n with
  | zero =>
    intro i h1 h2
    exact absurd h2 (by omega)
  | succ n ih =>
    intro i hi hin H locs hP hD hS ls hl
    refine lv_iload_n hx hb dX12_image_17 rfl (lv_at hl 0 rfl) ?_
    refine lv_sipush (v := 841) hx hb dX12_image_18 (by decide) ?_
    refine lv_icmp_ge (tgt := 48) hx hb dX12_image_21 (by decide) (fun c_1 => ?_) (fun c_1 => ?_)
    · exact kx H locs hP hD hS ls (lv_sub hl [1, 2] rfl)
    · have hlt : i < 841 := Nat.lt_of_not_le (fun q9 => c_1 (nI_le (a := 841) q9 (by omega)))
      refine lv_aload_n hx hb dX12_image_24 rfl (lv_at hl 1 rfl) ?_
      refine va_get (D := D) (ci := 12) (v := .ref (b 2)) (C := RX12) (T := TX12) (N := 40) hx hb hts iX12 hown hK hP 0 rfl rfl 2 (by decide) (hts _ m_1345) (fun _ h9 => h9) rfl dX12_image_25 ?_
      refine lv_sipush (v := 841) hx hb dX12_image_28 (by decide) ?_
      refine lv_iload_n hx hb dX12_image_31 rfl (lv_at hl 2 rfl) ?_
      refine lv_imul hx hb dX12_image_32 ?_
      refine x_seti 0 (by decide) ?_
      refine lv_iload_n hx hb dX12_image_33 rfl (lv_at hl 0 rfl) ?_
      refine lv_iadd hx hb dX12_image_34 ?_
      refine x_seti (nI (0 + i)) (nI_add 0 (i)) ?_
      refine lv_aload_n hx hb dX12_image_35 rfl (lv_at hl 1 rfl) ?_
      refine va_get (D := D) (ci := 12) (v := .ref (b 1)) (C := RX12) (T := TX12) (N := 40) hx hb hts iX12 hown hK hP 0 rfl rfl 1 (by decide) (hts _ m_1344) (fun _ h9 => h9) rfl dX12_image_36 ?_
      refine lv_iload_n hx hb dX12_image_39 rfl (lv_at hl 0 rfl) ?_
      refine va_iald hx hb hK hP 1 0 rfl rfl (vp_in_nI (n := i) (by omega) (by decide)) dX12_image_40 ?_
      refine x_seti 0 rfl ?_
      refine x_iast0 hx hb hK hP hD hS 2 0 rfl rfl (vp_in_nI (n := 0 + i) (by omega) (by decide)) dX12_image_41 (fun H locs hP hD hS => ?_)
      have hP : va_P D classes [(b 0, .inr (12, [.int 0, .ref (b 1), .ref (b 2), .ref (b 3), .ref (b 4), .int 0, .ref (b 5), .int 0, .int 0, .int 0, .int 0, .int 0, .int 0, .int (-1), .ref (b 6), .int 0, .ref (b 7), .int 0, .int (-1), .int 0, .ref (b 8), .int 0, .ref (b 9), .int 0, .ref (b 10), .ref (b 11), .ref (b 12), .int 0, .int 0, .int 0, .ref (b 13), .ref (b 14), .ref (b 15), .int 0, .int 0, .int 0, .ref (b 16), .ref (b 17), .ref (b 18), .ref (b 19)])), (b 1, .inl (t 0, 841, .inl (fun _ => 0))), (b 2, .inl (t 0, 2523, .inl (fun _ => 0))), (b 3, .inl (t 3, 3, .inl (fun _ => 0)))] H := hP
      have hD : va_D A [(b 0, .inr (12, [.int 0, .ref (b 1), .ref (b 2), .ref (b 3), .ref (b 4), .int 0, .ref (b 5), .int 0, .int 0, .int 0, .int 0, .int 0, .int 0, .int (-1), .ref (b 6), .int 0, .ref (b 7), .int 0, .int (-1), .int 0, .ref (b 8), .int 0, .ref (b 9), .int 0, .ref (b 10), .ref (b 11), .ref (b 12), .int 0, .int 0, .int 0, .ref (b 13), .ref (b 14), .ref (b 15), .int 0, .int 0, .int 0, .ref (b 16), .ref (b 17), .ref (b 18), .ref (b 19)])), (b 1, .inl (t 0, 841, .inl (fun _ => 0))), (b 2, .inl (t 0, 2523, .inl (fun _ => 0))), (b 3, .inl (t 3, 3, .inl (fun _ => 0)))] := hD
      refine lv_iinc (v := (nI (i + 1))) (lv' := [(2, .int (nI (i + 1))), (0, .ref (b 0)), (1, .int (nI 0))]) hx hb dX12_image_42 hl (k := 0) rfl (nI_1 _) (by decide) rfl (fun ls hl => ?_)
      refine lv_goto (tgt := 17) hx hb dX12_image_45 (by decide) ?_
      exact ih (i + 1) (by omega) (by omega) H locs hP hD hS ls (lv_sub hl [0, 1, 2] rfl)

set_option maxHeartbeats 4000000 in
set_option maxRecDepth 100000 in
theorem lp_mi1 {p : Program} {l : Launch} {e : Env} {R : Room} {s : State} {m : MethodId} {args : Array Value} {below : List Frame} {meth : Method} {c : Code} {cells slots : Nat} {Q : State → Prop} {A : Nat → Prop} {H0 : Heap} {D : va_G} {t : Nat → ClassId} {b : Nat → Nat}
    (hx : p.tables.exec = Jvm.exec) (hb : c.code = cX12_image) (hts : ∀ w ∈ TB, w.before args s = true) (hown : s.vm.findClass RX12 = some m.cls) (hK : va_K D classes (TY t) s) (hN : NW s)
    (kx : ∀ (H : Heap) (locs : List Loc), va_P D classes [(b 0, .inr (12, [.int 0, .ref (b 1), .ref (b 2), .ref (b 3), .ref (b 4), .int 0, .ref (b 5), .int 0, .int 0, .int 0, .int 0, .int 0, .int 0, .int (-1), .ref (b 6), .int 0, .ref (b 7), .int 0, .int (-1), .int 0, .ref (b 8), .int 0, .ref (b 9), .int 0, .ref (b 10), .ref (b 11), .ref (b 12), .int 0, .int 0, .int 0, .ref (b 13), .ref (b 14), .ref (b 15), .int 0, .int 0, .int 0, .ref (b 16), .ref (b 17), .ref (b 18), .ref (b 19)])), (b 1, .inl (t 0, 841, .inl (fun _ => 0))), (b 2, .inl (t 0, 2523, .inl (fun _ => 0))), (b 3, .inl (t 3, 3, .inl (fun _ => 0)))] H → va_D A [(b 0, .inr (12, [.int 0, .ref (b 1), .ref (b 2), .ref (b 3), .ref (b 4), .int 0, .ref (b 5), .int 0, .int 0, .int 0, .int 0, .int 0, .int 0, .int (-1), .ref (b 6), .int 0, .ref (b 7), .int 0, .int (-1), .int 0, .ref (b 8), .int 0, .ref (b 9), .int 0, .ref (b 10), .ref (b 11), .ref (b 12), .int 0, .int 0, .int 0, .ref (b 13), .ref (b 14), .ref (b 15), .int 0, .int 0, .int 0, .ref (b 16), .ref (b 17), .ref (b 18), .ref (b 19)])), (b 1, .inl (t 0, 841, .inl (fun _ => 0))), (b 2, .inl (t 0, 2523, .inl (fun _ => 0))), (b 3, .inl (t 3, 3, .inl (fun _ => 0)))] → va_S A H0 H locs → ∀ ls : Array Slot, lv_has ls 3 [(0, .ref (b 0)), (1, .int (nI 1))] → W p l e R s m args below meth c H locs cells slots Q (F0 m 48 ls [])) :
    ∀ (n i : Nat), i ≤ 841 → 841 + 1 ≤ i + n → ∀ (H : Heap) (locs : List Loc), va_P D classes [(b 0, .inr (12, [.int 0, .ref (b 1), .ref (b 2), .ref (b 3), .ref (b 4), .int 0, .ref (b 5), .int 0, .int 0, .int 0, .int 0, .int 0, .int 0, .int (-1), .ref (b 6), .int 0, .ref (b 7), .int 0, .int (-1), .int 0, .ref (b 8), .int 0, .ref (b 9), .int 0, .ref (b 10), .ref (b 11), .ref (b 12), .int 0, .int 0, .int 0, .ref (b 13), .ref (b 14), .ref (b 15), .int 0, .int 0, .int 0, .ref (b 16), .ref (b 17), .ref (b 18), .ref (b 19)])), (b 1, .inl (t 0, 841, .inl (fun _ => 0))), (b 2, .inl (t 0, 2523, .inl (fun _ => 0))), (b 3, .inl (t 3, 3, .inl (fun _ => 0)))] H → va_D A [(b 0, .inr (12, [.int 0, .ref (b 1), .ref (b 2), .ref (b 3), .ref (b 4), .int 0, .ref (b 5), .int 0, .int 0, .int 0, .int 0, .int 0, .int 0, .int (-1), .ref (b 6), .int 0, .ref (b 7), .int 0, .int (-1), .int 0, .ref (b 8), .int 0, .ref (b 9), .int 0, .ref (b 10), .ref (b 11), .ref (b 12), .int 0, .int 0, .int 0, .ref (b 13), .ref (b 14), .ref (b 15), .int 0, .int 0, .int 0, .ref (b 16), .ref (b 17), .ref (b 18), .ref (b 19)])), (b 1, .inl (t 0, 841, .inl (fun _ => 0))), (b 2, .inl (t 0, 2523, .inl (fun _ => 0))), (b 3, .inl (t 3, 3, .inl (fun _ => 0)))] → va_S A H0 H locs → ∀ ls : Array Slot, lv_has ls 3 [(2, .int (nI i)), (0, .ref (b 0)), (1, .int (nI 1))] → W p l e R s m args below meth c H locs cells slots Q (F0 m 17 ls []) := by
  intro n
  induction n with
  | zero =>
    intro i h1 h2
    exact absurd h2 (by omega)
  | succ n ih =>
    intro i hi hin H locs hP hD hS ls hl
    refine lv_iload_n hx hb dX12_image_17 rfl (lv_at hl 0 rfl) ?_
    refine lv_sipush (v := 841) hx hb dX12_image_18 (by decide) ?_
    refine lv_icmp_ge (tgt := 48) hx hb dX12_image_21 (by decide) (fun c_1 => ?_) (fun c_1 => ?_)
    · exact kx H locs hP hD hS ls (lv_sub hl [1, 2] rfl)
    · have hlt : i < 841 := Nat.lt_of_not_le (fun q9 => c_1 (nI_le (a := 841) q9 (by omega)))
      refine lv_aload_n hx hb dX12_image_24 rfl (lv_at hl 1 rfl) ?_
      refine va_get (D := D) (ci := 12) (v := .ref (b 2)) (C := RX12) (T := TX12) (N := 40) hx hb hts iX12 hown hK hP 0 rfl rfl 2 (by decide) (hts _ m_1345) (fun _ h9 => h9) rfl dX12_image_25 ?_
      refine lv_sipush (v := 841) hx hb dX12_image_28 (by decide) ?_
      refine lv_iload_n hx hb dX12_image_31 rfl (lv_at hl 2 rfl) ?_
      refine lv_imul hx hb dX12_image_32 ?_
      refine x_seti 841 (by decide) ?_
      refine lv_iload_n hx hb dX12_image_33 rfl (lv_at hl 0 rfl) ?_
      refine lv_iadd hx hb dX12_image_34 ?_
      refine x_seti (nI (841 + i)) (nI_add 841 (i)) ?_
      refine lv_aload_n hx hb dX12_image_35 rfl (lv_at hl 1 rfl) ?_
      refine va_get (D := D) (ci := 12) (v := .ref (b 1)) (C := RX12) (T := TX12) (N := 40) hx hb hts iX12 hown hK hP 0 rfl rfl 1 (by decide) (hts _ m_1344) (fun _ h9 => h9) rfl dX12_image_36 ?_
      refine lv_iload_n hx hb dX12_image_39 rfl (lv_at hl 0 rfl) ?_
      refine va_iald hx hb hK hP 1 0 rfl rfl (vp_in_nI (n := i) (by omega) (by decide)) dX12_image_40 ?_
      refine x_seti 0 rfl ?_
      refine x_iast0 hx hb hK hP hD hS 2 0 rfl rfl (vp_in_nI (n := 841 + i) (by omega) (by decide)) dX12_image_41 (fun H locs hP hD hS => ?_)
      have hP : va_P D classes [(b 0, .inr (12, [.int 0, .ref (b 1), .ref (b 2), .ref (b 3), .ref (b 4), .int 0, .ref (b 5), .int 0, .int 0, .int 0, .int 0, .int 0, .int 0, .int (-1), .ref (b 6), .int 0, .ref (b 7), .int 0, .int (-1), .int 0, .ref (b 8), .int 0, .ref (b 9), .int 0, .ref (b 10), .ref (b 11), .ref (b 12), .int 0, .int 0, .int 0, .ref (b 13), .ref (b 14), .ref (b 15), .int 0, .int 0, .int 0, .ref (b 16), .ref (b 17), .ref (b 18), .ref (b 19)])), (b 1, .inl (t 0, 841, .inl (fun _ => 0))), (b 2, .inl (t 0, 2523, .inl (fun _ => 0))), (b 3, .inl (t 3, 3, .inl (fun _ => 0)))] H := hP
      have hD : va_D A [(b 0, .inr (12, [.int 0, .ref (b 1), .ref (b 2), .ref (b 3), .ref (b 4), .int 0, .ref (b 5), .int 0, .int 0, .int 0, .int 0, .int 0, .int 0, .int (-1), .ref (b 6), .int 0, .ref (b 7), .int 0, .int (-1), .int 0, .ref (b 8), .int 0, .ref (b 9), .int 0, .ref (b 10), .ref (b 11), .ref (b 12), .int 0, .int 0, .int 0, .ref (b 13), .ref (b 14), .ref (b 15), .int 0, .int 0, .int 0, .ref (b 16), .ref (b 17), .ref (b 18), .ref (b 19)])), (b 1, .inl (t 0, 841, .inl (fun _ => 0))), (b 2, .inl (t 0, 2523, .inl (fun _ => 0))), (b 3, .inl (t 3, 3, .inl (fun _ => 0)))] := hD
      refine lv_iinc (v := (nI (i + 1))) (lv' := [(2, .int (nI (i + 1))), (0, .ref (b 0)), (1, .int (nI 1))]) hx hb dX12_image_42 hl (k := 0) rfl (nI_1 _) (by decide) rfl (fun ls hl => ?_)
      refine lv_goto (tgt := 17) hx hb dX12_image_45 (by decide) ?_
      exact ih (i + 1) (by omega) (by omega) H locs hP hD hS ls (lv_sub hl [0, 1, 2] rfl)

set_option maxHeartbeats 4000000 in
set_option maxRecDepth 100000 in
theorem lp_mi2 {p : Program} {l : Launch} {e : Env} {R : Room} {s : State} {m : MethodId} {args : Array Value} {below : List Frame} {meth : Method} {c : Code} {cells slots : Nat} {Q : State → Prop} {A : Nat → Prop} {H0 : Heap} {D : va_G} {t : Nat → ClassId} {b : Nat → Nat}
    (hx : p.tables.exec = Jvm.exec) (hb : c.code = cX12_image) (hts : ∀ w ∈ TB, w.before args s = true) (hown : s.vm.findClass RX12 = some m.cls) (hK : va_K D classes (TY t) s) (hN : NW s)
    (kx : ∀ (H : Heap) (locs : List Loc), va_P D classes [(b 0, .inr (12, [.int 0, .ref (b 1), .ref (b 2), .ref (b 3), .ref (b 4), .int 0, .ref (b 5), .int 0, .int 0, .int 0, .int 0, .int 0, .int 0, .int (-1), .ref (b 6), .int 0, .ref (b 7), .int 0, .int (-1), .int 0, .ref (b 8), .int 0, .ref (b 9), .int 0, .ref (b 10), .ref (b 11), .ref (b 12), .int 0, .int 0, .int 0, .ref (b 13), .ref (b 14), .ref (b 15), .int 0, .int 0, .int 0, .ref (b 16), .ref (b 17), .ref (b 18), .ref (b 19)])), (b 1, .inl (t 0, 841, .inl (fun _ => 0))), (b 2, .inl (t 0, 2523, .inl (fun _ => 0))), (b 3, .inl (t 3, 3, .inl (fun _ => 0)))] H → va_D A [(b 0, .inr (12, [.int 0, .ref (b 1), .ref (b 2), .ref (b 3), .ref (b 4), .int 0, .ref (b 5), .int 0, .int 0, .int 0, .int 0, .int 0, .int 0, .int (-1), .ref (b 6), .int 0, .ref (b 7), .int 0, .int (-1), .int 0, .ref (b 8), .int 0, .ref (b 9), .int 0, .ref (b 10), .ref (b 11), .ref (b 12), .int 0, .int 0, .int 0, .ref (b 13), .ref (b 14), .ref (b 15), .int 0, .int 0, .int 0, .ref (b 16), .ref (b 17), .ref (b 18), .ref (b 19)])), (b 1, .inl (t 0, 841, .inl (fun _ => 0))), (b 2, .inl (t 0, 2523, .inl (fun _ => 0))), (b 3, .inl (t 3, 3, .inl (fun _ => 0)))] → va_S A H0 H locs → ∀ ls : Array Slot, lv_has ls 3 [(0, .ref (b 0)), (1, .int (nI 2))] → W p l e R s m args below meth c H locs cells slots Q (F0 m 48 ls [])) :
    ∀ (n i : Nat), i ≤ 841 → 841 + 1 ≤ i + n → ∀ (H : Heap) (locs : List Loc), va_P D classes [(b 0, .inr (12, [.int 0, .ref (b 1), .ref (b 2), .ref (b 3), .ref (b 4), .int 0, .ref (b 5), .int 0, .int 0, .int 0, .int 0, .int 0, .int 0, .int (-1), .ref (b 6), .int 0, .ref (b 7), .int 0, .int (-1), .int 0, .ref (b 8), .int 0, .ref (b 9), .int 0, .ref (b 10), .ref (b 11), .ref (b 12), .int 0, .int 0, .int 0, .ref (b 13), .ref (b 14), .ref (b 15), .int 0, .int 0, .int 0, .ref (b 16), .ref (b 17), .ref (b 18), .ref (b 19)])), (b 1, .inl (t 0, 841, .inl (fun _ => 0))), (b 2, .inl (t 0, 2523, .inl (fun _ => 0))), (b 3, .inl (t 3, 3, .inl (fun _ => 0)))] H → va_D A [(b 0, .inr (12, [.int 0, .ref (b 1), .ref (b 2), .ref (b 3), .ref (b 4), .int 0, .ref (b 5), .int 0, .int 0, .int 0, .int 0, .int 0, .int 0, .int (-1), .ref (b 6), .int 0, .ref (b 7), .int 0, .int (-1), .int 0, .ref (b 8), .int 0, .ref (b 9), .int 0, .ref (b 10), .ref (b 11), .ref (b 12), .int 0, .int 0, .int 0, .ref (b 13), .ref (b 14), .ref (b 15), .int 0, .int 0, .int 0, .ref (b 16), .ref (b 17), .ref (b 18), .ref (b 19)])), (b 1, .inl (t 0, 841, .inl (fun _ => 0))), (b 2, .inl (t 0, 2523, .inl (fun _ => 0))), (b 3, .inl (t 3, 3, .inl (fun _ => 0)))] → va_S A H0 H locs → ∀ ls : Array Slot, lv_has ls 3 [(2, .int (nI i)), (0, .ref (b 0)), (1, .int (nI 2))] → W p l e R s m args below meth c H locs cells slots Q (F0 m 17 ls []) := by
  intro n
  induction n with
  | zero =>
    intro i h1 h2
    exact absurd h2 (by omega)
  | succ n ih =>
    intro i hi hin H locs hP hD hS ls hl
    refine lv_iload_n hx hb dX12_image_17 rfl (lv_at hl 0 rfl) ?_
    refine lv_sipush (v := 841) hx hb dX12_image_18 (by decide) ?_
    refine lv_icmp_ge (tgt := 48) hx hb dX12_image_21 (by decide) (fun c_1 => ?_) (fun c_1 => ?_)
    · exact kx H locs hP hD hS ls (lv_sub hl [1, 2] rfl)
    · have hlt : i < 841 := Nat.lt_of_not_le (fun q9 => c_1 (nI_le (a := 841) q9 (by omega)))
      refine lv_aload_n hx hb dX12_image_24 rfl (lv_at hl 1 rfl) ?_
      refine va_get (D := D) (ci := 12) (v := .ref (b 2)) (C := RX12) (T := TX12) (N := 40) hx hb hts iX12 hown hK hP 0 rfl rfl 2 (by decide) (hts _ m_1345) (fun _ h9 => h9) rfl dX12_image_25 ?_
      refine lv_sipush (v := 841) hx hb dX12_image_28 (by decide) ?_
      refine lv_iload_n hx hb dX12_image_31 rfl (lv_at hl 2 rfl) ?_
      refine lv_imul hx hb dX12_image_32 ?_
      refine x_seti 1682 (by decide) ?_
      refine lv_iload_n hx hb dX12_image_33 rfl (lv_at hl 0 rfl) ?_
      refine lv_iadd hx hb dX12_image_34 ?_
      refine x_seti (nI (1682 + i)) (nI_add 1682 (i)) ?_
      refine lv_aload_n hx hb dX12_image_35 rfl (lv_at hl 1 rfl) ?_
      refine va_get (D := D) (ci := 12) (v := .ref (b 1)) (C := RX12) (T := TX12) (N := 40) hx hb hts iX12 hown hK hP 0 rfl rfl 1 (by decide) (hts _ m_1344) (fun _ h9 => h9) rfl dX12_image_36 ?_
      refine lv_iload_n hx hb dX12_image_39 rfl (lv_at hl 0 rfl) ?_
      refine va_iald hx hb hK hP 1 0 rfl rfl (vp_in_nI (n := i) (by omega) (by decide)) dX12_image_40 ?_
      refine x_seti 0 rfl ?_
      refine x_iast0 hx hb hK hP hD hS 2 0 rfl rfl (vp_in_nI (n := 1682 + i) (by omega) (by decide)) dX12_image_41 (fun H locs hP hD hS => ?_)
      have hP : va_P D classes [(b 0, .inr (12, [.int 0, .ref (b 1), .ref (b 2), .ref (b 3), .ref (b 4), .int 0, .ref (b 5), .int 0, .int 0, .int 0, .int 0, .int 0, .int 0, .int (-1), .ref (b 6), .int 0, .ref (b 7), .int 0, .int (-1), .int 0, .ref (b 8), .int 0, .ref (b 9), .int 0, .ref (b 10), .ref (b 11), .ref (b 12), .int 0, .int 0, .int 0, .ref (b 13), .ref (b 14), .ref (b 15), .int 0, .int 0, .int 0, .ref (b 16), .ref (b 17), .ref (b 18), .ref (b 19)])), (b 1, .inl (t 0, 841, .inl (fun _ => 0))), (b 2, .inl (t 0, 2523, .inl (fun _ => 0))), (b 3, .inl (t 3, 3, .inl (fun _ => 0)))] H := hP
      have hD : va_D A [(b 0, .inr (12, [.int 0, .ref (b 1), .ref (b 2), .ref (b 3), .ref (b 4), .int 0, .ref (b 5), .int 0, .int 0, .int 0, .int 0, .int 0, .int 0, .int (-1), .ref (b 6), .int 0, .ref (b 7), .int 0, .int (-1), .int 0, .ref (b 8), .int 0, .ref (b 9), .int 0, .ref (b 10), .ref (b 11), .ref (b 12), .int 0, .int 0, .int 0, .ref (b 13), .ref (b 14), .ref (b 15), .int 0, .int 0, .int 0, .ref (b 16), .ref (b 17), .ref (b 18), .ref (b 19)])), (b 1, .inl (t 0, 841, .inl (fun _ => 0))), (b 2, .inl (t 0, 2523, .inl (fun _ => 0))), (b 3, .inl (t 3, 3, .inl (fun _ => 0)))] := hD
      refine lv_iinc (v := (nI (i + 1))) (lv' := [(2, .int (nI (i + 1))), (0, .ref (b 0)), (1, .int (nI 2))]) hx hb dX12_image_42 hl (k := 0) rfl (nI_1 _) (by decide) rfl (fun ls hl => ?_)
      refine lv_goto (tgt := 17) hx hb dX12_image_45 (by decide) ?_
      exact ih (i + 1) (by omega) (by omega) H locs hP hD hS ls (lv_sub hl [0, 1, 2] rfl)

set_option maxHeartbeats 4000000 in
set_option maxRecDepth 100000 in
theorem c_X12_image (l : Launch) (D : va_G) (t : Nat → ClassId) (b : Nat → Nat) (x : Int32) (sz : Nat) : Met l yX12_image (wd yX12_image cX12_image 3 (some .int)) (RM 1 0 0) (PreW D (TY t) [.ref (b 0), .int x] [(b 0, .inr (12, [.int 0, .ref (b 1), .ref (b 2), .ref (b 3), .ref (b 4), .int 0, .ref (b 5), .int 0, .int 0, .int 0, .int 0, .int 0, .int 0, .int (-1), .ref (b 6), .int 0, .ref (b 7), .int 0, .int (-1), .int 0, .ref (b 8), .int 0, .ref (b 9), .int 0, .ref (b 10), .ref (b 11), .ref (b 12), .int 0, .int 0, .int 0, .ref (b 13), .ref (b 14), .ref (b 15), .int 0, .int 0, .int 0, .ref (b 16), .ref (b 17), .ref (b 18), .ref (b 19)])), (b 1, .inl (t 0, 841, .inl (fun _ => 0))), (b 2, .inl (t 0, 2523, .inl (fun _ => 0))), (b 3, .inl (t 3, 3, .inl (fun _ => 0)))] sz) (va_Qi (fun (r : Int32) (_ : Unit) => r = (sp_img x)) (fun _ _ => True) (va_A [(b 0, .inr (12, [.int 0, .ref (b 1), .ref (b 2), .ref (b 3), .ref (b 4), .int 0, .ref (b 5), .int 0, .int 0, .int 0, .int 0, .int 0, .int 0, .int (-1), .ref (b 6), .int 0, .ref (b 7), .int 0, .int (-1), .int 0, .ref (b 8), .int 0, .ref (b 9), .int 0, .ref (b 10), .ref (b 11), .ref (b 12), .int 0, .int 0, .int 0, .ref (b 13), .ref (b 14), .ref (b 15), .int 0, .int 0, .int 0, .ref (b 16), .ref (b 17), .ref (b 18), .ref (b 19)])), (b 1, .inl (t 0, 841, .inl (fun _ => 0))), (b 2, .inl (t 0, 2523, .inl (fun _ => 0))), (b 3, .inl (t 3, 3, .inl (fun _ => 0)))] sz)) 0 0 (va_A [(b 0, .inr (12, [.int 0, .ref (b 1), .ref (b 2), .ref (b 3), .ref (b 4), .int 0, .ref (b 5), .int 0, .int 0, .int 0, .int 0, .int 0, .int 0, .int (-1), .ref (b 6), .int 0, .ref (b 7), .int 0, .int (-1), .int 0, .ref (b 8), .int 0, .ref (b 9), .int 0, .ref (b 10), .ref (b 11), .ref (b 12), .int 0, .int 0, .int 0, .ref (b 13), .ref (b 14), .ref (b 15), .int 0, .int 0, .int 0, .ref (b 16), .ref (b 17), .ref (b 18), .ref (b 19)])), (b 1, .inl (t 0, 841, .inl (fun _ => 0))), (b 2, .inl (t 0, 2523, .inl (fun _ => 0))), (b 3, .inl (t 3, 3, .inl (fun _ => 0)))] sz) := by
  refine Met.ofW (cc := cX12_image) (maxL := 3) (ret := (some .int)) (by decide) rfl ?_
  intro p e s m args below meth c s₁ B hml hv
  obtain ⟨rfl, hsz, hP, hK, hD0, hN⟩ := hv
  have hx := B.exec
  have hb := B.bytes
  have hr := B.returns
  have hts : ∀ w ∈ TB, w.before _ s = true := fun w h => atoms_spec (ws := wd yX12_image cX12_image 3 (some .int)) B.pre w (List.mem_cons_of_mem _ h)
  have hown : s.vm.findClass RX12 = some m.cls := findClass_of_methodNamed B.named
  have hlocks := B.notSynchronized
  have hF : CallFix p m c cX12_image 3 s _ TB RX12 := ⟨hx, hb, hml, hown, hts⟩
  have hl := lv_entry ([.ref (b 0), .int x]) (n := 3) (Nat.le_of_ble_eq_true rfl)
  rw [lg_entry_eq]
  generalize (lg_sl ([.ref (b 0), .int x]) ++ List.replicate (3 - (lg_sl ([.ref (b 0), .int x])).length) Slot.unset).toArray = ls at hl ⊢
  have hl : lv_has ls 3 [(0, .ref (b 0)), (1, .int x)] := hl
  subst hsz
  have hD := hD0.self (sz := s.heap.size)
  generalize hAe : va_A [(b 0, .inr (12, [.int 0, .ref (b 1), .ref (b 2), .ref (b 3), .ref (b 4), .int 0, .ref (b 5), .int 0, .int 0, .int 0, .int 0, .int 0, .int 0, .int (-1), .ref (b 6), .int 0, .ref (b 7), .int 0, .int (-1), .int 0, .ref (b 8), .int 0, .ref (b 9), .int 0, .ref (b 10), .ref (b 11), .ref (b 12), .int 0, .int 0, .int 0, .ref (b 13), .ref (b 14), .ref (b 15), .int 0, .int 0, .int 0, .ref (b 16), .ref (b 17), .ref (b 18), .ref (b 19)])), (b 1, .inl (t 0, 841, .inl (fun _ => 0))), (b 2, .inl (t 0, 2523, .inl (fun _ => 0))), (b 3, .inl (t 3, 3, .inl (fun _ => 0)))] s.heap.size = A at hD ⊢
  have hA : ∀ q : Nat, s.heap.size ≤ q → A q := fun q h => by rw [← hAe]; exact Or.inr h
  have hS : va_S A s.heap s.heap [] := va_S.rf
  have hP : va_P D classes [(b 0, .inr (12, [.int 0, .ref (b 1), .ref (b 2), .ref (b 3), .ref (b 4), .int 0, .ref (b 5), .int 0, .int 0, .int 0, .int 0, .int 0, .int 0, .int (-1), .ref (b 6), .int 0, .ref (b 7), .int 0, .int (-1), .int 0, .ref (b 8), .int 0, .ref (b 9), .int 0, .ref (b 10), .ref (b 11), .ref (b 12), .int 0, .int 0, .int 0, .ref (b 13), .ref (b 14), .ref (b 15), .int 0, .int 0, .int 0, .ref (b 16), .ref (b 17), .ref (b 18), .ref (b 19)])), (b 1, .inl (t 0, 841, .inl (fun _ => 0))), (b 2, .inl (t 0, 2523, .inl (fun _ => 0))), (b 3, .inl (t 3, 3, .inl (fun _ => 0)))] s.heap := hP
  refine lv_iload_n hx hb dX12_image_0 rfl (lv_at hl 1 rfl) ?_
  refine lv_i2l hx hb dX12_image_1 rfl ?_
  refine lv_lconst (v := 0) hx hb dX12_image_2 rfl ?_
  refine lv_ldc2 (v := 2) hx hb hown (hts _ m_1468) dX12_image_3 ?_
  refine x_pS hF (c_X12_in l D t x.toInt64 0 2) m_1469 m_1470 m_13 m_1471 hd_X12_in ⟨Nat.le_of_ble_eq_true rfl, Nat.le_of_ble_eq_true rfl⟩ hK hN hP hS [] rfl hl.1 rfl (Nat.le_of_ble_eq_true rfl) dX12_image_6 ⟨Nat.zero_le _, Nat.zero_le _⟩ (fun H locs hP hS => ?_)
  refine x_seti (ib 0 2 x) (inV_i x (by decide) (by decide)) ?_
  refine lv_if_ne (tgt := 15) hx hb dX12_image_9 (by decide) (fun c_1 => ?_) (fun c_1 => ?_)
  · refine lv_iconst (v := 0) hx hb dX12_image_15 (by decide) ?_
    refine lv_istore_n (lv' := [(2, .int 0), (0, .ref (b 0)), (1, .int x)]) hx hb dX12_image_16 rfl hl (by decide) rfl (fun ls hl => ?_)
    obtain ⟨j_2, hj_2, rfl⟩ := ib_nat (n := 3) c_1 (by decide)
    obtain rfl | rfl | rfl : j_2 = 0 ∨ j_2 = 1 ∨ j_2 = 2 := by omega
    · refine lp_mi0 hx hb hts hown hK hN (fun H locs hP hD hS ls hl => ?_) 842 0 (Nat.zero_le _) (by omega) _ _ hP hD hS ls (lv_sub hl [0, 1, 2] rfl)
      refine lv_aload_n hx hb dX12_image_48 rfl (lv_at hl 0 rfl) ?_
      refine va_get (D := D) (ci := 12) (v := .ref (b 3)) (C := RX12) (T := TX12) (N := 40) hx hb hts iX12 hown hK hP 0 rfl rfl 3 (by decide) (hts _ m_1346) (fun _ h9 => h9) rfl dX12_image_49 ?_
      refine lv_iload_n hx hb dX12_image_52 rfl (lv_at hl 1 rfl) ?_
      refine lv_iconst (v := 1) hx hb dX12_image_53 (by decide) ?_
      refine x_zast hx hb hK hP hD hS 3 3 rfl rfl (vp_in_nI (n := 0) (by decide) (by decide)) dX12_image_54 (fun g_3 H locs hP hD hS => ?_)
      have hP : va_P D classes [(b 0, .inr (12, [.int 0, .ref (b 1), .ref (b 2), .ref (b 3), .ref (b 4), .int 0, .ref (b 5), .int 0, .int 0, .int 0, .int 0, .int 0, .int 0, .int (-1), .ref (b 6), .int 0, .ref (b 7), .int 0, .int (-1), .int 0, .ref (b 8), .int 0, .ref (b 9), .int 0, .ref (b 10), .ref (b 11), .ref (b 12), .int 0, .int 0, .int 0, .ref (b 13), .ref (b 14), .ref (b 15), .int 0, .int 0, .int 0, .ref (b 16), .ref (b 17), .ref (b 18), .ref (b 19)])), (b 1, .inl (t 0, 841, .inl (fun _ => 0))), (b 2, .inl (t 0, 2523, .inl (fun _ => 0))), (b 3, .inl (t 3, 3, .inl g_3))] H := hP
      have hD : va_D A [(b 0, .inr (12, [.int 0, .ref (b 1), .ref (b 2), .ref (b 3), .ref (b 4), .int 0, .ref (b 5), .int 0, .int 0, .int 0, .int 0, .int 0, .int 0, .int (-1), .ref (b 6), .int 0, .ref (b 7), .int 0, .int (-1), .int 0, .ref (b 8), .int 0, .ref (b 9), .int 0, .ref (b 10), .ref (b 11), .ref (b 12), .int 0, .int 0, .int 0, .ref (b 13), .ref (b 14), .ref (b 15), .int 0, .int 0, .int 0, .ref (b 16), .ref (b 17), .ref (b 18), .ref (b 19)])), (b 1, .inl (t 0, 841, .inl (fun _ => 0))), (b 2, .inl (t 0, 2523, .inl (fun _ => 0))), (b 3, .inl (t 3, 3, .inl g_3))] := hD
      refine lv_iconst (v := 0) hx hb dX12_image_55 (by decide) ?_
      exact W.iret (v := 0) hx hb hr (fun t9 ht hW => ⟨⟨0, (), rfl, rfl, trivial⟩, hS.F ht⟩) hS.2.2 dX12_image_56
    · refine lp_mi1 hx hb hts hown hK hN (fun H locs hP hD hS ls hl => ?_) 842 0 (Nat.zero_le _) (by omega) _ _ hP hD hS ls (lv_sub hl [0, 1, 2] rfl)
      refine lv_aload_n hx hb dX12_image_48 rfl (lv_at hl 0 rfl) ?_
      refine va_get (D := D) (ci := 12) (v := .ref (b 3)) (C := RX12) (T := TX12) (N := 40) hx hb hts iX12 hown hK hP 0 rfl rfl 3 (by decide) (hts _ m_1346) (fun _ h9 => h9) rfl dX12_image_49 ?_
      refine lv_iload_n hx hb dX12_image_52 rfl (lv_at hl 1 rfl) ?_
      refine lv_iconst (v := 1) hx hb dX12_image_53 (by decide) ?_
      refine x_zast hx hb hK hP hD hS 3 3 rfl rfl (vp_in_nI (n := 1) (by decide) (by decide)) dX12_image_54 (fun g_4 H locs hP hD hS => ?_)
      have hP : va_P D classes [(b 0, .inr (12, [.int 0, .ref (b 1), .ref (b 2), .ref (b 3), .ref (b 4), .int 0, .ref (b 5), .int 0, .int 0, .int 0, .int 0, .int 0, .int 0, .int (-1), .ref (b 6), .int 0, .ref (b 7), .int 0, .int (-1), .int 0, .ref (b 8), .int 0, .ref (b 9), .int 0, .ref (b 10), .ref (b 11), .ref (b 12), .int 0, .int 0, .int 0, .ref (b 13), .ref (b 14), .ref (b 15), .int 0, .int 0, .int 0, .ref (b 16), .ref (b 17), .ref (b 18), .ref (b 19)])), (b 1, .inl (t 0, 841, .inl (fun _ => 0))), (b 2, .inl (t 0, 2523, .inl (fun _ => 0))), (b 3, .inl (t 3, 3, .inl g_4))] H := hP
      have hD : va_D A [(b 0, .inr (12, [.int 0, .ref (b 1), .ref (b 2), .ref (b 3), .ref (b 4), .int 0, .ref (b 5), .int 0, .int 0, .int 0, .int 0, .int 0, .int 0, .int (-1), .ref (b 6), .int 0, .ref (b 7), .int 0, .int (-1), .int 0, .ref (b 8), .int 0, .ref (b 9), .int 0, .ref (b 10), .ref (b 11), .ref (b 12), .int 0, .int 0, .int 0, .ref (b 13), .ref (b 14), .ref (b 15), .int 0, .int 0, .int 0, .ref (b 16), .ref (b 17), .ref (b 18), .ref (b 19)])), (b 1, .inl (t 0, 841, .inl (fun _ => 0))), (b 2, .inl (t 0, 2523, .inl (fun _ => 0))), (b 3, .inl (t 3, 3, .inl g_4))] := hD
      refine lv_iconst (v := 0) hx hb dX12_image_55 (by decide) ?_
      exact W.iret (v := 0) hx hb hr (fun t9 ht hW => ⟨⟨0, (), rfl, rfl, trivial⟩, hS.F ht⟩) hS.2.2 dX12_image_56
    · refine lp_mi2 hx hb hts hown hK hN (fun H locs hP hD hS ls hl => ?_) 842 0 (Nat.zero_le _) (by omega) _ _ hP hD hS ls (lv_sub hl [0, 1, 2] rfl)
      refine lv_aload_n hx hb dX12_image_48 rfl (lv_at hl 0 rfl) ?_
      refine va_get (D := D) (ci := 12) (v := .ref (b 3)) (C := RX12) (T := TX12) (N := 40) hx hb hts iX12 hown hK hP 0 rfl rfl 3 (by decide) (hts _ m_1346) (fun _ h9 => h9) rfl dX12_image_49 ?_
      refine lv_iload_n hx hb dX12_image_52 rfl (lv_at hl 1 rfl) ?_
      refine lv_iconst (v := 1) hx hb dX12_image_53 (by decide) ?_
      refine x_zast hx hb hK hP hD hS 3 3 rfl rfl (vp_in_nI (n := 2) (by decide) (by decide)) dX12_image_54 (fun g_5 H locs hP hD hS => ?_)
      have hP : va_P D classes [(b 0, .inr (12, [.int 0, .ref (b 1), .ref (b 2), .ref (b 3), .ref (b 4), .int 0, .ref (b 5), .int 0, .int 0, .int 0, .int 0, .int 0, .int 0, .int (-1), .ref (b 6), .int 0, .ref (b 7), .int 0, .int (-1), .int 0, .ref (b 8), .int 0, .ref (b 9), .int 0, .ref (b 10), .ref (b 11), .ref (b 12), .int 0, .int 0, .int 0, .ref (b 13), .ref (b 14), .ref (b 15), .int 0, .int 0, .int 0, .ref (b 16), .ref (b 17), .ref (b 18), .ref (b 19)])), (b 1, .inl (t 0, 841, .inl (fun _ => 0))), (b 2, .inl (t 0, 2523, .inl (fun _ => 0))), (b 3, .inl (t 3, 3, .inl g_5))] H := hP
      have hD : va_D A [(b 0, .inr (12, [.int 0, .ref (b 1), .ref (b 2), .ref (b 3), .ref (b 4), .int 0, .ref (b 5), .int 0, .int 0, .int 0, .int 0, .int 0, .int 0, .int (-1), .ref (b 6), .int 0, .ref (b 7), .int 0, .int (-1), .int 0, .ref (b 8), .int 0, .ref (b 9), .int 0, .ref (b 10), .ref (b 11), .ref (b 12), .int 0, .int 0, .int 0, .ref (b 13), .ref (b 14), .ref (b 15), .int 0, .int 0, .int 0, .ref (b 16), .ref (b 17), .ref (b 18), .ref (b 19)])), (b 1, .inl (t 0, 841, .inl (fun _ => 0))), (b 2, .inl (t 0, 2523, .inl (fun _ => 0))), (b 3, .inl (t 3, 3, .inl g_5))] := hD
      refine lv_iconst (v := 0) hx hb dX12_image_55 (by decide) ?_
      exact W.iret (v := 0) hx hb hr (fun t9 ht hW => ⟨⟨0, (), rfl, rfl, trivial⟩, hS.F ht⟩) hS.2.2 dX12_image_56
  · refine lv_bipush (v := (-2)) hx hb dX12_image_12 (by decide) ?_
    exact W.iret (v := (-2)) hx hb hr (fun t9 ht hW => ⟨⟨(-2), (), rfl, (by unfold sp_img; rw [if_pos c_1]), trivial⟩, hS.F ht⟩) hS.2.2 dX12_image_14

set_option maxHeartbeats 4000000 in
set_option maxRecDepth 100000 in
theorem lp_mr0 {p : Program} {l : Launch} {e : Env} {R : Room} {s : State} {m : MethodId} {args : Array Value} {below : List Frame} {meth : Method} {c : Code} {cells slots : Nat} {Q : State → Prop} {A : Nat → Prop} {H0 : Heap} {D : va_G} {t : Nat → ClassId} {b : Nat → Nat} {fm : Nat → Int32} {fw : Nat → Int32}
    (hx : p.tables.exec = Jvm.exec) (hb : c.code = cX12_row) (hts : ∀ w ∈ TB, w.before args s = true) (hown : s.vm.findClass RX12 = some m.cls) (hK : va_K D classes (TY t) s) (hN : NW s)
    (kx : ∀ (fn : Nat → Int64) (H : Heap) (locs : List Loc), va_P D classes [(b 0, .inr (12, [.int 0, .ref (b 1), .ref (b 2), .ref (b 3), .ref (b 4), .int 0, .ref (b 5), .int 0, .int 0, .int 0, .int 0, .int 0, .int 0, .int (-1), .ref (b 6), .int 0, .ref (b 7), .int 0, .int (-1), .int 0, .ref (b 8), .int 0, .ref (b 9), .int 0, .ref (b 10), .ref (b 11), .ref (b 12), .int 0, .int 0, .int 0, .ref (b 13), .ref (b 14), .ref (b 15), .int 0, .int 0, .int 0, .ref (b 16), .ref (b 17), .ref (b 18), .ref (b 19)])), (b 16, .inl (t 0, 4, .inl fm)), (b 17, .inl (t 0, 4, .inl fw)), (b 18, .inl (t 2, 240, .inr (.inl fn)))] H → va_D A [(b 0, .inr (12, [.int 0, .ref (b 1), .ref (b 2), .ref (b 3), .ref (b 4), .int 0, .ref (b 5), .int 0, .int 0, .int 0, .int 0, .int 0, .int 0, .int (-1), .ref (b 6), .int 0, .ref (b 7), .int 0, .int (-1), .int 0, .ref (b 8), .int 0, .ref (b 9), .int 0, .ref (b 10), .ref (b 11), .ref (b 12), .int 0, .int 0, .int 0, .ref (b 13), .ref (b 14), .ref (b 15), .int 0, .int 0, .int 0, .ref (b 16), .ref (b 17), .ref (b 18), .ref (b 19)])), (b 16, .inl (t 0, 4, .inl fm)), (b 17, .inl (t 0, 4, .inl fw)), (b 18, .inl (t 2, 240, .inr (.inl fn)))] → va_S A H0 H locs → ∀ ls : Array Slot, lv_has ls 5 [(0, .ref (b 0))] → W p l e R s m args below meth c H locs cells slots Q (F0 m 78 ls [])) :
    ∀ (n i : Nat), i ≤ 60 → 60 + 1 ≤ i + n → ∀ (fn : Nat → Int64) (H : Heap) (locs : List Loc), va_P D classes [(b 0, .inr (12, [.int 0, .ref (b 1), .ref (b 2), .ref (b 3), .ref (b 4), .int 0, .ref (b 5), .int 0, .int 0, .int 0, .int 0, .int 0, .int 0, .int (-1), .ref (b 6), .int 0, .ref (b 7), .int 0, .int (-1), .int 0, .ref (b 8), .int 0, .ref (b 9), .int 0, .ref (b 10), .ref (b 11), .ref (b 12), .int 0, .int 0, .int 0, .ref (b 13), .ref (b 14), .ref (b 15), .int 0, .int 0, .int 0, .ref (b 16), .ref (b 17), .ref (b 18), .ref (b 19)])), (b 16, .inl (t 0, 4, .inl fm)), (b 17, .inl (t 0, 4, .inl fw)), (b 18, .inl (t 2, 240, .inr (.inl fn)))] H → va_D A [(b 0, .inr (12, [.int 0, .ref (b 1), .ref (b 2), .ref (b 3), .ref (b 4), .int 0, .ref (b 5), .int 0, .int 0, .int 0, .int 0, .int 0, .int 0, .int (-1), .ref (b 6), .int 0, .ref (b 7), .int 0, .int (-1), .int 0, .ref (b 8), .int 0, .ref (b 9), .int 0, .ref (b 10), .ref (b 11), .ref (b 12), .int 0, .int 0, .int 0, .ref (b 13), .ref (b 14), .ref (b 15), .int 0, .int 0, .int 0, .ref (b 16), .ref (b 17), .ref (b 18), .ref (b 19)])), (b 16, .inl (t 0, 4, .inl fm)), (b 17, .inl (t 0, 4, .inl fw)), (b 18, .inl (t 2, 240, .inr (.inl fn)))] → va_S A H0 H locs → ∀ ls : Array Slot, lv_has ls 5 [(4, .int (nI i)), (0, .ref (b 0)), (1, .int (nI 0))] → W p l e R s m args below meth c H locs cells slots Q (F0 m 52 ls []) := by
  intro n
  induction n with
  | zero =>
    intro i h1 h2
    exact absurd h2 (by omega)
  | succ n ih =>
    intro i hi hin fn H locs hP hD hS ls hl
    refine lv_iload hx hb dX12_row_52 (lv_at hl 0 rfl) ?_
    refine lv_bipush (v := 60) hx hb dX12_row_54 (by decide) ?_
    refine lv_icmp_ge (tgt := 78) hx hb dX12_row_56 (by decide) (fun c_1 => ?_) (fun c_1 => ?_)
    · exact kx fn H locs hP hD hS ls (lv_sub hl [1] rfl)
    · have hlt : i < 60 := Nat.lt_of_not_le (fun q9 => c_1 (nI_le (a := 60) q9 (by omega)))
      refine lv_aload_n hx hb dX12_row_59 rfl (lv_at hl 1 rfl) ?_
      refine va_get (D := D) (ci := 12) (v := .ref (b 18)) (C := RX12) (T := TX12) (N := 40) hx hb hts iX12 hown hK hP 0 rfl rfl 38 (by decide) (hts _ m_1381) (fun _ h9 => h9) rfl dX12_row_60 ?_
      refine lv_bipush (v := 60) hx hb dX12_row_63 (by decide) ?_
      refine lv_iload_n hx hb dX12_row_65 rfl (lv_at hl 2 rfl) ?_
      refine lv_imul hx hb dX12_row_66 ?_
      refine x_seti 0 (by decide) ?_
      refine lv_iload hx hb dX12_row_67 (lv_at hl 0 rfl) ?_
      refine lv_iadd hx hb dX12_row_69 ?_
      refine x_seti (nI (0 + i)) (nI_add 0 (i)) ?_
      refine lv_lconst (v := 0) hx hb dX12_row_70 rfl ?_
      refine x_last hx hb hK hP hD hS 3 2 rfl rfl (vp_in_nI (n := 0 + i) (by omega) (by decide)) dX12_row_71 (fun g_2 H locs hP hD hS => ?_)
      have hP : va_P D classes [(b 0, .inr (12, [.int 0, .ref (b 1), .ref (b 2), .ref (b 3), .ref (b 4), .int 0, .ref (b 5), .int 0, .int 0, .int 0, .int 0, .int 0, .int 0, .int (-1), .ref (b 6), .int 0, .ref (b 7), .int 0, .int (-1), .int 0, .ref (b 8), .int 0, .ref (b 9), .int 0, .ref (b 10), .ref (b 11), .ref (b 12), .int 0, .int 0, .int 0, .ref (b 13), .ref (b 14), .ref (b 15), .int 0, .int 0, .int 0, .ref (b 16), .ref (b 17), .ref (b 18), .ref (b 19)])), (b 16, .inl (t 0, 4, .inl fm)), (b 17, .inl (t 0, 4, .inl fw)), (b 18, .inl (t 2, 240, .inr (.inl g_2)))] H := hP
      have hD : va_D A [(b 0, .inr (12, [.int 0, .ref (b 1), .ref (b 2), .ref (b 3), .ref (b 4), .int 0, .ref (b 5), .int 0, .int 0, .int 0, .int 0, .int 0, .int 0, .int (-1), .ref (b 6), .int 0, .ref (b 7), .int 0, .int (-1), .int 0, .ref (b 8), .int 0, .ref (b 9), .int 0, .ref (b 10), .ref (b 11), .ref (b 12), .int 0, .int 0, .int 0, .ref (b 13), .ref (b 14), .ref (b 15), .int 0, .int 0, .int 0, .ref (b 16), .ref (b 17), .ref (b 18), .ref (b 19)])), (b 16, .inl (t 0, 4, .inl fm)), (b 17, .inl (t 0, 4, .inl fw)), (b 18, .inl (t 2, 240, .inr (.inl g_2)))] := hD
      refine lv_iinc (v := (nI (i + 1))) (lv' := [(4, .int (nI (i + 1))), (0, .ref (b 0)), (1, .int (nI 0))]) hx hb dX12_row_72 hl (k := 0) rfl (nI_1 _) (by decide) rfl (fun ls hl => ?_)
      refine lv_goto (tgt := 52) hx hb dX12_row_75 (by decide) ?_
      exact ih (i + 1) (by omega) (by omega) g_2 H locs hP hD hS ls (lv_sub hl [0, 1, 2] rfl)

set_option maxHeartbeats 4000000 in
set_option maxRecDepth 100000 in
theorem lp_mr1 {p : Program} {l : Launch} {e : Env} {R : Room} {s : State} {m : MethodId} {args : Array Value} {below : List Frame} {meth : Method} {c : Code} {cells slots : Nat} {Q : State → Prop} {A : Nat → Prop} {H0 : Heap} {D : va_G} {t : Nat → ClassId} {b : Nat → Nat} {fm : Nat → Int32} {fw : Nat → Int32}
    (hx : p.tables.exec = Jvm.exec) (hb : c.code = cX12_row) (hts : ∀ w ∈ TB, w.before args s = true) (hown : s.vm.findClass RX12 = some m.cls) (hK : va_K D classes (TY t) s) (hN : NW s)
    (kx : ∀ (fn : Nat → Int64) (H : Heap) (locs : List Loc), va_P D classes [(b 0, .inr (12, [.int 0, .ref (b 1), .ref (b 2), .ref (b 3), .ref (b 4), .int 0, .ref (b 5), .int 0, .int 0, .int 0, .int 0, .int 0, .int 0, .int (-1), .ref (b 6), .int 0, .ref (b 7), .int 0, .int (-1), .int 0, .ref (b 8), .int 0, .ref (b 9), .int 0, .ref (b 10), .ref (b 11), .ref (b 12), .int 0, .int 0, .int 0, .ref (b 13), .ref (b 14), .ref (b 15), .int 0, .int 0, .int 0, .ref (b 16), .ref (b 17), .ref (b 18), .ref (b 19)])), (b 16, .inl (t 0, 4, .inl fm)), (b 17, .inl (t 0, 4, .inl fw)), (b 18, .inl (t 2, 240, .inr (.inl fn)))] H → va_D A [(b 0, .inr (12, [.int 0, .ref (b 1), .ref (b 2), .ref (b 3), .ref (b 4), .int 0, .ref (b 5), .int 0, .int 0, .int 0, .int 0, .int 0, .int 0, .int (-1), .ref (b 6), .int 0, .ref (b 7), .int 0, .int (-1), .int 0, .ref (b 8), .int 0, .ref (b 9), .int 0, .ref (b 10), .ref (b 11), .ref (b 12), .int 0, .int 0, .int 0, .ref (b 13), .ref (b 14), .ref (b 15), .int 0, .int 0, .int 0, .ref (b 16), .ref (b 17), .ref (b 18), .ref (b 19)])), (b 16, .inl (t 0, 4, .inl fm)), (b 17, .inl (t 0, 4, .inl fw)), (b 18, .inl (t 2, 240, .inr (.inl fn)))] → va_S A H0 H locs → ∀ ls : Array Slot, lv_has ls 5 [(0, .ref (b 0))] → W p l e R s m args below meth c H locs cells slots Q (F0 m 78 ls [])) :
    ∀ (n i : Nat), i ≤ 60 → 60 + 1 ≤ i + n → ∀ (fn : Nat → Int64) (H : Heap) (locs : List Loc), va_P D classes [(b 0, .inr (12, [.int 0, .ref (b 1), .ref (b 2), .ref (b 3), .ref (b 4), .int 0, .ref (b 5), .int 0, .int 0, .int 0, .int 0, .int 0, .int 0, .int (-1), .ref (b 6), .int 0, .ref (b 7), .int 0, .int (-1), .int 0, .ref (b 8), .int 0, .ref (b 9), .int 0, .ref (b 10), .ref (b 11), .ref (b 12), .int 0, .int 0, .int 0, .ref (b 13), .ref (b 14), .ref (b 15), .int 0, .int 0, .int 0, .ref (b 16), .ref (b 17), .ref (b 18), .ref (b 19)])), (b 16, .inl (t 0, 4, .inl fm)), (b 17, .inl (t 0, 4, .inl fw)), (b 18, .inl (t 2, 240, .inr (.inl fn)))] H → va_D A [(b 0, .inr (12, [.int 0, .ref (b 1), .ref (b 2), .ref (b 3), .ref (b 4), .int 0, .ref (b 5), .int 0, .int 0, .int 0, .int 0, .int 0, .int 0, .int (-1), .ref (b 6), .int 0, .ref (b 7), .int 0, .int (-1), .int 0, .ref (b 8), .int 0, .ref (b 9), .int 0, .ref (b 10), .ref (b 11), .ref (b 12), .int 0, .int 0, .int 0, .ref (b 13), .ref (b 14), .ref (b 15), .int 0, .int 0, .int 0, .ref (b 16), .ref (b 17), .ref (b 18), .ref (b 19)])), (b 16, .inl (t 0, 4, .inl fm)), (b 17, .inl (t 0, 4, .inl fw)), (b 18, .inl (t 2, 240, .inr (.inl fn)))] → va_S A H0 H locs → ∀ ls : Array Slot, lv_has ls 5 [(4, .int (nI i)), (0, .ref (b 0)), (1, .int (nI 1))] → W p l e R s m args below meth c H locs cells slots Q (F0 m 52 ls []) := by
  intro n
  induction n with
  | zero =>
    intro i h1 h2
    exact absurd h2 (by omega)
  | succ n ih =>
    intro i hi hin fn H locs hP hD hS ls hl
    refine lv_iload hx hb dX12_row_52 (lv_at hl 0 rfl) ?_
    refine lv_bipush (v := 60) hx hb dX12_row_54 (by decide) ?_
    refine lv_icmp_ge (tgt := 78) hx hb dX12_row_56 (by decide) (fun c_1 => ?_) (fun c_1 => ?_)
    · exact kx fn H locs hP hD hS ls (lv_sub hl [1] rfl)
    · have hlt : i < 60 := Nat.lt_of_not_le (fun q9 => c_1 (nI_le (a := 60) q9 (by omega)))
      refine lv_aload_n hx hb dX12_row_59 rfl (lv_at hl 1 rfl) ?_
      refine va_get (D := D) (ci := 12) (v := .ref (b 18)) (C := RX12) (T := TX12) (N := 40) hx hb hts iX12 hown hK hP 0 rfl rfl 38 (by decide) (hts _ m_1381) (fun _ h9 => h9) rfl dX12_row_60 ?_
      refine lv_bipush (v := 60) hx hb dX12_row_63 (by decide) ?_
      refine lv_iload_n hx hb dX12_row_65 rfl (lv_at hl 2 rfl) ?_
      refine lv_imul hx hb dX12_row_66 ?_
      refine x_seti 60 (by decide) ?_
      refine lv_iload hx hb dX12_row_67 (lv_at hl 0 rfl) ?_
      refine lv_iadd hx hb dX12_row_69 ?_
      refine x_seti (nI (60 + i)) (nI_add 60 (i)) ?_
      refine lv_lconst (v := 0) hx hb dX12_row_70 rfl ?_
      refine x_last hx hb hK hP hD hS 3 2 rfl rfl (vp_in_nI (n := 60 + i) (by omega) (by decide)) dX12_row_71 (fun g_2 H locs hP hD hS => ?_)
      have hP : va_P D classes [(b 0, .inr (12, [.int 0, .ref (b 1), .ref (b 2), .ref (b 3), .ref (b 4), .int 0, .ref (b 5), .int 0, .int 0, .int 0, .int 0, .int 0, .int 0, .int (-1), .ref (b 6), .int 0, .ref (b 7), .int 0, .int (-1), .int 0, .ref (b 8), .int 0, .ref (b 9), .int 0, .ref (b 10), .ref (b 11), .ref (b 12), .int 0, .int 0, .int 0, .ref (b 13), .ref (b 14), .ref (b 15), .int 0, .int 0, .int 0, .ref (b 16), .ref (b 17), .ref (b 18), .ref (b 19)])), (b 16, .inl (t 0, 4, .inl fm)), (b 17, .inl (t 0, 4, .inl fw)), (b 18, .inl (t 2, 240, .inr (.inl g_2)))] H := hP
      have hD : va_D A [(b 0, .inr (12, [.int 0, .ref (b 1), .ref (b 2), .ref (b 3), .ref (b 4), .int 0, .ref (b 5), .int 0, .int 0, .int 0, .int 0, .int 0, .int 0, .int (-1), .ref (b 6), .int 0, .ref (b 7), .int 0, .int (-1), .int 0, .ref (b 8), .int 0, .ref (b 9), .int 0, .ref (b 10), .ref (b 11), .ref (b 12), .int 0, .int 0, .int 0, .ref (b 13), .ref (b 14), .ref (b 15), .int 0, .int 0, .int 0, .ref (b 16), .ref (b 17), .ref (b 18), .ref (b 19)])), (b 16, .inl (t 0, 4, .inl fm)), (b 17, .inl (t 0, 4, .inl fw)), (b 18, .inl (t 2, 240, .inr (.inl g_2)))] := hD
      refine lv_iinc (v := (nI (i + 1))) (lv' := [(4, .int (nI (i + 1))), (0, .ref (b 0)), (1, .int (nI 1))]) hx hb dX12_row_72 hl (k := 0) rfl (nI_1 _) (by decide) rfl (fun ls hl => ?_)
      refine lv_goto (tgt := 52) hx hb dX12_row_75 (by decide) ?_
      exact ih (i + 1) (by omega) (by omega) g_2 H locs hP hD hS ls (lv_sub hl [0, 1, 2] rfl)

set_option maxHeartbeats 4000000 in
set_option maxRecDepth 100000 in
theorem lp_mr2 {p : Program} {l : Launch} {e : Env} {R : Room} {s : State} {m : MethodId} {args : Array Value} {below : List Frame} {meth : Method} {c : Code} {cells slots : Nat} {Q : State → Prop} {A : Nat → Prop} {H0 : Heap} {D : va_G} {t : Nat → ClassId} {b : Nat → Nat} {fm : Nat → Int32} {fw : Nat → Int32}
    (hx : p.tables.exec = Jvm.exec) (hb : c.code = cX12_row) (hts : ∀ w ∈ TB, w.before args s = true) (hown : s.vm.findClass RX12 = some m.cls) (hK : va_K D classes (TY t) s) (hN : NW s)
    (kx : ∀ (fn : Nat → Int64) (H : Heap) (locs : List Loc), va_P D classes [(b 0, .inr (12, [.int 0, .ref (b 1), .ref (b 2), .ref (b 3), .ref (b 4), .int 0, .ref (b 5), .int 0, .int 0, .int 0, .int 0, .int 0, .int 0, .int (-1), .ref (b 6), .int 0, .ref (b 7), .int 0, .int (-1), .int 0, .ref (b 8), .int 0, .ref (b 9), .int 0, .ref (b 10), .ref (b 11), .ref (b 12), .int 0, .int 0, .int 0, .ref (b 13), .ref (b 14), .ref (b 15), .int 0, .int 0, .int 0, .ref (b 16), .ref (b 17), .ref (b 18), .ref (b 19)])), (b 16, .inl (t 0, 4, .inl fm)), (b 17, .inl (t 0, 4, .inl fw)), (b 18, .inl (t 2, 240, .inr (.inl fn)))] H → va_D A [(b 0, .inr (12, [.int 0, .ref (b 1), .ref (b 2), .ref (b 3), .ref (b 4), .int 0, .ref (b 5), .int 0, .int 0, .int 0, .int 0, .int 0, .int 0, .int (-1), .ref (b 6), .int 0, .ref (b 7), .int 0, .int (-1), .int 0, .ref (b 8), .int 0, .ref (b 9), .int 0, .ref (b 10), .ref (b 11), .ref (b 12), .int 0, .int 0, .int 0, .ref (b 13), .ref (b 14), .ref (b 15), .int 0, .int 0, .int 0, .ref (b 16), .ref (b 17), .ref (b 18), .ref (b 19)])), (b 16, .inl (t 0, 4, .inl fm)), (b 17, .inl (t 0, 4, .inl fw)), (b 18, .inl (t 2, 240, .inr (.inl fn)))] → va_S A H0 H locs → ∀ ls : Array Slot, lv_has ls 5 [(0, .ref (b 0))] → W p l e R s m args below meth c H locs cells slots Q (F0 m 78 ls [])) :
    ∀ (n i : Nat), i ≤ 60 → 60 + 1 ≤ i + n → ∀ (fn : Nat → Int64) (H : Heap) (locs : List Loc), va_P D classes [(b 0, .inr (12, [.int 0, .ref (b 1), .ref (b 2), .ref (b 3), .ref (b 4), .int 0, .ref (b 5), .int 0, .int 0, .int 0, .int 0, .int 0, .int 0, .int (-1), .ref (b 6), .int 0, .ref (b 7), .int 0, .int (-1), .int 0, .ref (b 8), .int 0, .ref (b 9), .int 0, .ref (b 10), .ref (b 11), .ref (b 12), .int 0, .int 0, .int 0, .ref (b 13), .ref (b 14), .ref (b 15), .int 0, .int 0, .int 0, .ref (b 16), .ref (b 17), .ref (b 18), .ref (b 19)])), (b 16, .inl (t 0, 4, .inl fm)), (b 17, .inl (t 0, 4, .inl fw)), (b 18, .inl (t 2, 240, .inr (.inl fn)))] H → va_D A [(b 0, .inr (12, [.int 0, .ref (b 1), .ref (b 2), .ref (b 3), .ref (b 4), .int 0, .ref (b 5), .int 0, .int 0, .int 0, .int 0, .int 0, .int 0, .int (-1), .ref (b 6), .int 0, .ref (b 7), .int 0, .int (-1), .int 0, .ref (b 8), .int 0, .ref (b 9), .int 0, .ref (b 10), .ref (b 11), .ref (b 12), .int 0, .int 0, .int 0, .ref (b 13), .ref (b 14), .ref (b 15), .int 0, .int 0, .int 0, .ref (b 16), .ref (b 17), .ref (b 18), .ref (b 19)])), (b 16, .inl (t 0, 4, .inl fm)), (b 17, .inl (t 0, 4, .inl fw)), (b 18, .inl (t 2, 240, .inr (.inl fn)))] → va_S A H0 H locs → ∀ ls : Array Slot, lv_has ls 5 [(4, .int (nI i)), (0, .ref (b 0)), (1, .int (nI 2))] → W p l e R s m args below meth c H locs cells slots Q (F0 m 52 ls []) := by
  intro n
  induction n with
  | zero =>
    intro i h1 h2
    exact absurd h2 (by omega)
  | succ n ih =>
    intro i hi hin fn H locs hP hD hS ls hl
    refine lv_iload hx hb dX12_row_52 (lv_at hl 0 rfl) ?_
    refine lv_bipush (v := 60) hx hb dX12_row_54 (by decide) ?_
    refine lv_icmp_ge (tgt := 78) hx hb dX12_row_56 (by decide) (fun c_1 => ?_) (fun c_1 => ?_)
    · exact kx fn H locs hP hD hS ls (lv_sub hl [1] rfl)
    · have hlt : i < 60 := Nat.lt_of_not_le (fun q9 => c_1 (nI_le (a := 60) q9 (by omega)))
      refine lv_aload_n hx hb dX12_row_59 rfl (lv_at hl 1 rfl) ?_
      refine va_get (D := D) (ci := 12) (v := .ref (b 18)) (C := RX12) (T := TX12) (N := 40) hx hb hts iX12 hown hK hP 0 rfl rfl 38 (by decide) (hts _ m_1381) (fun _ h9 => h9) rfl dX12_row_60 ?_
      refine lv_bipush (v := 60) hx hb dX12_row_63 (by decide) ?_
      refine lv_iload_n hx hb dX12_row_65 rfl (lv_at hl 2 rfl) ?_
      refine lv_imul hx hb dX12_row_66 ?_
      refine x_seti 120 (by decide) ?_
      refine lv_iload hx hb dX12_row_67 (lv_at hl 0 rfl) ?_
      refine lv_iadd hx hb dX12_row_69 ?_
      refine x_seti (nI (120 + i)) (nI_add 120 (i)) ?_
      refine lv_lconst (v := 0) hx hb dX12_row_70 rfl ?_
      refine x_last hx hb hK hP hD hS 3 2 rfl rfl (vp_in_nI (n := 120 + i) (by omega) (by decide)) dX12_row_71 (fun g_2 H locs hP hD hS => ?_)
      have hP : va_P D classes [(b 0, .inr (12, [.int 0, .ref (b 1), .ref (b 2), .ref (b 3), .ref (b 4), .int 0, .ref (b 5), .int 0, .int 0, .int 0, .int 0, .int 0, .int 0, .int (-1), .ref (b 6), .int 0, .ref (b 7), .int 0, .int (-1), .int 0, .ref (b 8), .int 0, .ref (b 9), .int 0, .ref (b 10), .ref (b 11), .ref (b 12), .int 0, .int 0, .int 0, .ref (b 13), .ref (b 14), .ref (b 15), .int 0, .int 0, .int 0, .ref (b 16), .ref (b 17), .ref (b 18), .ref (b 19)])), (b 16, .inl (t 0, 4, .inl fm)), (b 17, .inl (t 0, 4, .inl fw)), (b 18, .inl (t 2, 240, .inr (.inl g_2)))] H := hP
      have hD : va_D A [(b 0, .inr (12, [.int 0, .ref (b 1), .ref (b 2), .ref (b 3), .ref (b 4), .int 0, .ref (b 5), .int 0, .int 0, .int 0, .int 0, .int 0, .int 0, .int (-1), .ref (b 6), .int 0, .ref (b 7), .int 0, .int (-1), .int 0, .ref (b 8), .int 0, .ref (b 9), .int 0, .ref (b 10), .ref (b 11), .ref (b 12), .int 0, .int 0, .int 0, .ref (b 13), .ref (b 14), .ref (b 15), .int 0, .int 0, .int 0, .ref (b 16), .ref (b 17), .ref (b 18), .ref (b 19)])), (b 16, .inl (t 0, 4, .inl fm)), (b 17, .inl (t 0, 4, .inl fw)), (b 18, .inl (t 2, 240, .inr (.inl g_2)))] := hD
      refine lv_iinc (v := (nI (i + 1))) (lv' := [(4, .int (nI (i + 1))), (0, .ref (b 0)), (1, .int (nI 2))]) hx hb dX12_row_72 hl (k := 0) rfl (nI_1 _) (by decide) rfl (fun ls hl => ?_)
      refine lv_goto (tgt := 52) hx hb dX12_row_75 (by decide) ?_
      exact ih (i + 1) (by omega) (by omega) g_2 H locs hP hD hS ls (lv_sub hl [0, 1, 2] rfl)

set_option maxHeartbeats 4000000 in
set_option maxRecDepth 100000 in
theorem lp_mr3 {p : Program} {l : Launch} {e : Env} {R : Room} {s : State} {m : MethodId} {args : Array Value} {below : List Frame} {meth : Method} {c : Code} {cells slots : Nat} {Q : State → Prop} {A : Nat → Prop} {H0 : Heap} {D : va_G} {t : Nat → ClassId} {b : Nat → Nat} {fm : Nat → Int32} {fw : Nat → Int32}
    (hx : p.tables.exec = Jvm.exec) (hb : c.code = cX12_row) (hts : ∀ w ∈ TB, w.before args s = true) (hown : s.vm.findClass RX12 = some m.cls) (hK : va_K D classes (TY t) s) (hN : NW s)
    (kx : ∀ (fn : Nat → Int64) (H : Heap) (locs : List Loc), va_P D classes [(b 0, .inr (12, [.int 0, .ref (b 1), .ref (b 2), .ref (b 3), .ref (b 4), .int 0, .ref (b 5), .int 0, .int 0, .int 0, .int 0, .int 0, .int 0, .int (-1), .ref (b 6), .int 0, .ref (b 7), .int 0, .int (-1), .int 0, .ref (b 8), .int 0, .ref (b 9), .int 0, .ref (b 10), .ref (b 11), .ref (b 12), .int 0, .int 0, .int 0, .ref (b 13), .ref (b 14), .ref (b 15), .int 0, .int 0, .int 0, .ref (b 16), .ref (b 17), .ref (b 18), .ref (b 19)])), (b 16, .inl (t 0, 4, .inl fm)), (b 17, .inl (t 0, 4, .inl fw)), (b 18, .inl (t 2, 240, .inr (.inl fn)))] H → va_D A [(b 0, .inr (12, [.int 0, .ref (b 1), .ref (b 2), .ref (b 3), .ref (b 4), .int 0, .ref (b 5), .int 0, .int 0, .int 0, .int 0, .int 0, .int 0, .int (-1), .ref (b 6), .int 0, .ref (b 7), .int 0, .int (-1), .int 0, .ref (b 8), .int 0, .ref (b 9), .int 0, .ref (b 10), .ref (b 11), .ref (b 12), .int 0, .int 0, .int 0, .ref (b 13), .ref (b 14), .ref (b 15), .int 0, .int 0, .int 0, .ref (b 16), .ref (b 17), .ref (b 18), .ref (b 19)])), (b 16, .inl (t 0, 4, .inl fm)), (b 17, .inl (t 0, 4, .inl fw)), (b 18, .inl (t 2, 240, .inr (.inl fn)))] → va_S A H0 H locs → ∀ ls : Array Slot, lv_has ls 5 [(0, .ref (b 0))] → W p l e R s m args below meth c H locs cells slots Q (F0 m 78 ls [])) :
    ∀ (n i : Nat), i ≤ 60 → 60 + 1 ≤ i + n → ∀ (fn : Nat → Int64) (H : Heap) (locs : List Loc), va_P D classes [(b 0, .inr (12, [.int 0, .ref (b 1), .ref (b 2), .ref (b 3), .ref (b 4), .int 0, .ref (b 5), .int 0, .int 0, .int 0, .int 0, .int 0, .int 0, .int (-1), .ref (b 6), .int 0, .ref (b 7), .int 0, .int (-1), .int 0, .ref (b 8), .int 0, .ref (b 9), .int 0, .ref (b 10), .ref (b 11), .ref (b 12), .int 0, .int 0, .int 0, .ref (b 13), .ref (b 14), .ref (b 15), .int 0, .int 0, .int 0, .ref (b 16), .ref (b 17), .ref (b 18), .ref (b 19)])), (b 16, .inl (t 0, 4, .inl fm)), (b 17, .inl (t 0, 4, .inl fw)), (b 18, .inl (t 2, 240, .inr (.inl fn)))] H → va_D A [(b 0, .inr (12, [.int 0, .ref (b 1), .ref (b 2), .ref (b 3), .ref (b 4), .int 0, .ref (b 5), .int 0, .int 0, .int 0, .int 0, .int 0, .int 0, .int (-1), .ref (b 6), .int 0, .ref (b 7), .int 0, .int (-1), .int 0, .ref (b 8), .int 0, .ref (b 9), .int 0, .ref (b 10), .ref (b 11), .ref (b 12), .int 0, .int 0, .int 0, .ref (b 13), .ref (b 14), .ref (b 15), .int 0, .int 0, .int 0, .ref (b 16), .ref (b 17), .ref (b 18), .ref (b 19)])), (b 16, .inl (t 0, 4, .inl fm)), (b 17, .inl (t 0, 4, .inl fw)), (b 18, .inl (t 2, 240, .inr (.inl fn)))] → va_S A H0 H locs → ∀ ls : Array Slot, lv_has ls 5 [(4, .int (nI i)), (0, .ref (b 0)), (1, .int (nI 3))] → W p l e R s m args below meth c H locs cells slots Q (F0 m 52 ls []) := by
  intro n
  induction n with
  | zero =>
    intro i h1 h2
    exact absurd h2 (by omega)
  | succ n ih =>
    intro i hi hin fn H locs hP hD hS ls hl
    refine lv_iload hx hb dX12_row_52 (lv_at hl 0 rfl) ?_
    refine lv_bipush (v := 60) hx hb dX12_row_54 (by decide) ?_
    refine lv_icmp_ge (tgt := 78) hx hb dX12_row_56 (by decide) (fun c_1 => ?_) (fun c_1 => ?_)
    · exact kx fn H locs hP hD hS ls (lv_sub hl [1] rfl)
    · have hlt : i < 60 := Nat.lt_of_not_le (fun q9 => c_1 (nI_le (a := 60) q9 (by omega)))
      refine lv_aload_n hx hb dX12_row_59 rfl (lv_at hl 1 rfl) ?_
      refine va_get (D := D) (ci := 12) (v := .ref (b 18)) (C := RX12) (T := TX12) (N := 40) hx hb hts iX12 hown hK hP 0 rfl rfl 38 (by decide) (hts _ m_1381) (fun _ h9 => h9) rfl dX12_row_60 ?_
      refine lv_bipush (v := 60) hx hb dX12_row_63 (by decide) ?_
      refine lv_iload_n hx hb dX12_row_65 rfl (lv_at hl 2 rfl) ?_
      refine lv_imul hx hb dX12_row_66 ?_
      refine x_seti 180 (by decide) ?_
      refine lv_iload hx hb dX12_row_67 (lv_at hl 0 rfl) ?_
      refine lv_iadd hx hb dX12_row_69 ?_
      refine x_seti (nI (180 + i)) (nI_add 180 (i)) ?_
      refine lv_lconst (v := 0) hx hb dX12_row_70 rfl ?_
      refine x_last hx hb hK hP hD hS 3 2 rfl rfl (vp_in_nI (n := 180 + i) (by omega) (by decide)) dX12_row_71 (fun g_2 H locs hP hD hS => ?_)
      have hP : va_P D classes [(b 0, .inr (12, [.int 0, .ref (b 1), .ref (b 2), .ref (b 3), .ref (b 4), .int 0, .ref (b 5), .int 0, .int 0, .int 0, .int 0, .int 0, .int 0, .int (-1), .ref (b 6), .int 0, .ref (b 7), .int 0, .int (-1), .int 0, .ref (b 8), .int 0, .ref (b 9), .int 0, .ref (b 10), .ref (b 11), .ref (b 12), .int 0, .int 0, .int 0, .ref (b 13), .ref (b 14), .ref (b 15), .int 0, .int 0, .int 0, .ref (b 16), .ref (b 17), .ref (b 18), .ref (b 19)])), (b 16, .inl (t 0, 4, .inl fm)), (b 17, .inl (t 0, 4, .inl fw)), (b 18, .inl (t 2, 240, .inr (.inl g_2)))] H := hP
      have hD : va_D A [(b 0, .inr (12, [.int 0, .ref (b 1), .ref (b 2), .ref (b 3), .ref (b 4), .int 0, .ref (b 5), .int 0, .int 0, .int 0, .int 0, .int 0, .int 0, .int (-1), .ref (b 6), .int 0, .ref (b 7), .int 0, .int (-1), .int 0, .ref (b 8), .int 0, .ref (b 9), .int 0, .ref (b 10), .ref (b 11), .ref (b 12), .int 0, .int 0, .int 0, .ref (b 13), .ref (b 14), .ref (b 15), .int 0, .int 0, .int 0, .ref (b 16), .ref (b 17), .ref (b 18), .ref (b 19)])), (b 16, .inl (t 0, 4, .inl fm)), (b 17, .inl (t 0, 4, .inl fw)), (b 18, .inl (t 2, 240, .inr (.inl g_2)))] := hD
      refine lv_iinc (v := (nI (i + 1))) (lv' := [(4, .int (nI (i + 1))), (0, .ref (b 0)), (1, .int (nI 3))]) hx hb dX12_row_72 hl (k := 0) rfl (nI_1 _) (by decide) rfl (fun ls hl => ?_)
      refine lv_goto (tgt := 52) hx hb dX12_row_75 (by decide) ?_
      exact ih (i + 1) (by omega) (by omega) g_2 H locs hP hD hS ls (lv_sub hl [0, 1, 2] rfl)

set_option maxHeartbeats 4000000 in
set_option maxRecDepth 100000 in
theorem c_X12_row (l : Launch) (D : va_G) (t : Nat → ClassId) (b : Nat → Nat) (x : Int32) (y : Int32) (z : Int32) (sz : Nat) : Met l yX12_row (wd yX12_row cX12_row 5 (some .int)) (RM 2 0 0) (PreW D (TY t) [.ref (b 0), .int x, .int y, .int z] [(b 0, .inr (12, [.int 0, .ref (b 1), .ref (b 2), .ref (b 3), .ref (b 4), .int 0, .ref (b 5), .int 0, .int 0, .int 0, .int 0, .int 0, .int 0, .int (-1), .ref (b 6), .int 0, .ref (b 7), .int 0, .int (-1), .int 0, .ref (b 8), .int 0, .ref (b 9), .int 0, .ref (b 10), .ref (b 11), .ref (b 12), .int 0, .int 0, .int 0, .ref (b 13), .ref (b 14), .ref (b 15), .int 0, .int 0, .int 0, .ref (b 16), .ref (b 17), .ref (b 18), .ref (b 19)])), (b 16, .inl (t 0, 4, .inl mny)), (b 17, .inl (t 0, 4, .inl (fun _ => 0))), (b 18, .inl (t 2, 240, .inr (.inl (fun _ => 0))))] sz) (va_Qi (fun (r : Int32) (_ : Unit) => r = (sp_row x y z)) (fun _ _ => True) (va_A [(b 0, .inr (12, [.int 0, .ref (b 1), .ref (b 2), .ref (b 3), .ref (b 4), .int 0, .ref (b 5), .int 0, .int 0, .int 0, .int 0, .int 0, .int 0, .int (-1), .ref (b 6), .int 0, .ref (b 7), .int 0, .int (-1), .int 0, .ref (b 8), .int 0, .ref (b 9), .int 0, .ref (b 10), .ref (b 11), .ref (b 12), .int 0, .int 0, .int 0, .ref (b 13), .ref (b 14), .ref (b 15), .int 0, .int 0, .int 0, .ref (b 16), .ref (b 17), .ref (b 18), .ref (b 19)])), (b 16, .inl (t 0, 4, .inl mny)), (b 17, .inl (t 0, 4, .inl (fun _ => 0))), (b 18, .inl (t 2, 240, .inr (.inl (fun _ => 0))))] sz)) 0 0 (va_A [(b 0, .inr (12, [.int 0, .ref (b 1), .ref (b 2), .ref (b 3), .ref (b 4), .int 0, .ref (b 5), .int 0, .int 0, .int 0, .int 0, .int 0, .int 0, .int (-1), .ref (b 6), .int 0, .ref (b 7), .int 0, .int (-1), .int 0, .ref (b 8), .int 0, .ref (b 9), .int 0, .ref (b 10), .ref (b 11), .ref (b 12), .int 0, .int 0, .int 0, .ref (b 13), .ref (b 14), .ref (b 15), .int 0, .int 0, .int 0, .ref (b 16), .ref (b 17), .ref (b 18), .ref (b 19)])), (b 16, .inl (t 0, 4, .inl mny)), (b 17, .inl (t 0, 4, .inl (fun _ => 0))), (b 18, .inl (t 2, 240, .inr (.inl (fun _ => 0))))] sz) := by
  refine Met.ofW (cc := cX12_row) (maxL := 5) (ret := (some .int)) (by decide) rfl ?_
  intro p e s m args below meth c s₁ B hml hv
  obtain ⟨rfl, hsz, hP, hK, hD0, hN⟩ := hv
  have hx := B.exec
  have hb := B.bytes
  have hr := B.returns
  have hts : ∀ w ∈ TB, w.before _ s = true := fun w h => atoms_spec (ws := wd yX12_row cX12_row 5 (some .int)) B.pre w (List.mem_cons_of_mem _ h)
  have hown : s.vm.findClass RX12 = some m.cls := findClass_of_methodNamed B.named
  have hlocks := B.notSynchronized
  have hF : CallFix p m c cX12_row 5 s _ TB RX12 := ⟨hx, hb, hml, hown, hts⟩
  have hl := lv_entry ([.ref (b 0), .int x, .int y, .int z]) (n := 5) (Nat.le_of_ble_eq_true rfl)
  rw [lg_entry_eq]
  generalize (lg_sl ([.ref (b 0), .int x, .int y, .int z]) ++ List.replicate (5 - (lg_sl ([.ref (b 0), .int x, .int y, .int z])).length) Slot.unset).toArray = ls at hl ⊢
  have hl : lv_has ls 5 [(0, .ref (b 0)), (1, .int x), (2, .int y), (3, .int z)] := hl
  subst hsz
  have hD := hD0.self (sz := s.heap.size)
  generalize hAe : va_A [(b 0, .inr (12, [.int 0, .ref (b 1), .ref (b 2), .ref (b 3), .ref (b 4), .int 0, .ref (b 5), .int 0, .int 0, .int 0, .int 0, .int 0, .int 0, .int (-1), .ref (b 6), .int 0, .ref (b 7), .int 0, .int (-1), .int 0, .ref (b 8), .int 0, .ref (b 9), .int 0, .ref (b 10), .ref (b 11), .ref (b 12), .int 0, .int 0, .int 0, .ref (b 13), .ref (b 14), .ref (b 15), .int 0, .int 0, .int 0, .ref (b 16), .ref (b 17), .ref (b 18), .ref (b 19)])), (b 16, .inl (t 0, 4, .inl mny)), (b 17, .inl (t 0, 4, .inl (fun _ => 0))), (b 18, .inl (t 2, 240, .inr (.inl (fun _ => 0))))] s.heap.size = A at hD ⊢
  have hA : ∀ q : Nat, s.heap.size ≤ q → A q := fun q h => by rw [← hAe]; exact Or.inr h
  have hS : va_S A s.heap s.heap [] := va_S.rf
  have hP : va_P D classes [(b 0, .inr (12, [.int 0, .ref (b 1), .ref (b 2), .ref (b 3), .ref (b 4), .int 0, .ref (b 5), .int 0, .int 0, .int 0, .int 0, .int 0, .int 0, .int (-1), .ref (b 6), .int 0, .ref (b 7), .int 0, .int (-1), .int 0, .ref (b 8), .int 0, .ref (b 9), .int 0, .ref (b 10), .ref (b 11), .ref (b 12), .int 0, .int 0, .int 0, .ref (b 13), .ref (b 14), .ref (b 15), .int 0, .int 0, .int 0, .ref (b 16), .ref (b 17), .ref (b 18), .ref (b 19)])), (b 16, .inl (t 0, 4, .inl mny)), (b 17, .inl (t 0, 4, .inl (fun _ => 0))), (b 18, .inl (t 2, 240, .inr (.inl (fun _ => 0))))] s.heap := hP
  refine lv_iload_n hx hb dX12_row_0 rfl (lv_at hl 1 rfl) ?_
  refine x_pS hF (c_X12_isSlot l D t x) m_2001 m_2002 m_13 m_2003 hd_X12_isSlot ⟨Nat.le_of_ble_eq_true rfl, Nat.le_of_ble_eq_true rfl⟩ hK hN hP hS [] rfl hl.1 rfl (Nat.le_of_ble_eq_true rfl) dX12_row_1 ⟨Nat.zero_le _, Nat.zero_le _⟩ (fun H locs hP hS => ?_)
  refine lv_if_eq (tgt := 25) hx hb dX12_row_4 (by decide) (fun c_1 => ?_) (fun c_1 => ?_)
  · refine lv_bipush (v := (-2)) hx hb dX12_row_25 (by decide) ?_
    exact W.iret (v := (-2)) hx hb hr (fun t9 ht hW => ⟨⟨(-2), (), rfl, (by unfold sp_row; rw [if_pos c_1]), trivial⟩, hS.F ht⟩) hS.2.2 dX12_row_27
  · refine lv_iload_n hx hb dX12_row_7 rfl (lv_at hl 2 rfl) ?_
    refine lv_i2l hx hb dX12_row_8 rfl ?_
    refine lv_lconst (v := 0) hx hb dX12_row_9 rfl ?_
    refine lv_ldc2 (v := 3) hx hb hown (hts _ m_1627) dX12_row_10 ?_
    refine x_pS hF (c_X12_in l D t y.toInt64 0 3) m_1469 m_1470 m_13 m_1471 hd_X12_in ⟨Nat.le_of_ble_eq_true rfl, Nat.le_of_ble_eq_true rfl⟩ hK hN hP hS [] rfl hl.1 rfl (Nat.le_of_ble_eq_true rfl) dX12_row_13 ⟨Nat.zero_le _, Nat.zero_le _⟩ (fun H locs hP hS => ?_)
    refine x_seti (ib 0 3 y) (inV_i y (by decide) (by decide)) ?_
    refine lv_if_eq (tgt := 25) hx hb dX12_row_16 (by decide) (fun c_2 => ?_) (fun c_2 => ?_)
    · refine lv_bipush (v := (-2)) hx hb dX12_row_25 (by decide) ?_
      exact W.iret (v := (-2)) hx hb hr (fun t9 ht hW => ⟨⟨(-2), (), rfl, (by unfold sp_row; rw [if_neg c_1, if_pos c_2]), trivial⟩, hS.F ht⟩) hS.2.2 dX12_row_27
    · refine lv_iload_n hx hb dX12_row_19 rfl (lv_at hl 3 rfl) ?_
      refine lv_bipush (v := 60) hx hb dX12_row_20 (by decide) ?_
      refine lv_icmp_le (tgt := 28) hx hb dX12_row_22 (by decide) (fun c_3 => ?_) (fun c_3 => ?_)
      · refine lv_iload_n hx hb dX12_row_28 rfl (lv_at hl 3 rfl) ?_
        refine lv_if_ge (tgt := 35) hx hb dX12_row_29 (by decide) (fun c_4 => ?_) (fun c_4 => ?_)
        · obtain ⟨j_5, hj_5, rfl⟩ := ib_nat (n := 4) c_1 (by decide)
          obtain rfl | rfl | rfl | rfl : j_5 = 0 ∨ j_5 = 1 ∨ j_5 = 2 ∨ j_5 = 3 := by omega
          · refine lv_aload_n hx hb dX12_row_35 rfl (lv_at hl 0 rfl) ?_
            refine va_get (D := D) (ci := 12) (v := .ref (b 16)) (C := RX12) (T := TX12) (N := 40) hx hb hts iX12 hown hK hP 0 rfl rfl 36 (by decide) (hts _ m_1379) (fun _ h9 => h9) rfl dX12_row_36 ?_
            refine lv_iload_n hx hb dX12_row_39 rfl (lv_at hl 1 rfl) ?_
            refine lv_iload_n hx hb dX12_row_40 rfl (lv_at hl 3 rfl) ?_
            refine x_iast hx hb hK hP hD hS 1 0 rfl rfl (vp_in_nI (n := 0) (by decide) (by decide)) dX12_row_41 (fun g_6 H locs hP hD hS => ?_)
            have hP : va_P D classes [(b 0, .inr (12, [.int 0, .ref (b 1), .ref (b 2), .ref (b 3), .ref (b 4), .int 0, .ref (b 5), .int 0, .int 0, .int 0, .int 0, .int 0, .int 0, .int (-1), .ref (b 6), .int 0, .ref (b 7), .int 0, .int (-1), .int 0, .ref (b 8), .int 0, .ref (b 9), .int 0, .ref (b 10), .ref (b 11), .ref (b 12), .int 0, .int 0, .int 0, .ref (b 13), .ref (b 14), .ref (b 15), .int 0, .int 0, .int 0, .ref (b 16), .ref (b 17), .ref (b 18), .ref (b 19)])), (b 16, .inl (t 0, 4, .inl g_6)), (b 17, .inl (t 0, 4, .inl (fun _ => 0))), (b 18, .inl (t 2, 240, .inr (.inl (fun _ => 0))))] H := hP
            have hD : va_D A [(b 0, .inr (12, [.int 0, .ref (b 1), .ref (b 2), .ref (b 3), .ref (b 4), .int 0, .ref (b 5), .int 0, .int 0, .int 0, .int 0, .int 0, .int 0, .int (-1), .ref (b 6), .int 0, .ref (b 7), .int 0, .int (-1), .int 0, .ref (b 8), .int 0, .ref (b 9), .int 0, .ref (b 10), .ref (b 11), .ref (b 12), .int 0, .int 0, .int 0, .ref (b 13), .ref (b 14), .ref (b 15), .int 0, .int 0, .int 0, .ref (b 16), .ref (b 17), .ref (b 18), .ref (b 19)])), (b 16, .inl (t 0, 4, .inl g_6)), (b 17, .inl (t 0, 4, .inl (fun _ => 0))), (b 18, .inl (t 2, 240, .inr (.inl (fun _ => 0))))] := hD
            refine lv_aload_n hx hb dX12_row_42 rfl (lv_at hl 0 rfl) ?_
            refine va_get (D := D) (ci := 12) (v := .ref (b 17)) (C := RX12) (T := TX12) (N := 40) hx hb hts iX12 hown hK hP 0 rfl rfl 37 (by decide) (hts _ m_1380) (fun _ h9 => h9) rfl dX12_row_43 ?_
            refine lv_iload_n hx hb dX12_row_46 rfl (lv_at hl 1 rfl) ?_
            refine lv_iload_n hx hb dX12_row_47 rfl (lv_at hl 2 rfl) ?_
            refine x_iast hx hb hK hP hD hS 2 0 rfl rfl (vp_in_nI (n := 0) (by decide) (by decide)) dX12_row_48 (fun g_7 H locs hP hD hS => ?_)
            have hP : va_P D classes [(b 0, .inr (12, [.int 0, .ref (b 1), .ref (b 2), .ref (b 3), .ref (b 4), .int 0, .ref (b 5), .int 0, .int 0, .int 0, .int 0, .int 0, .int 0, .int (-1), .ref (b 6), .int 0, .ref (b 7), .int 0, .int (-1), .int 0, .ref (b 8), .int 0, .ref (b 9), .int 0, .ref (b 10), .ref (b 11), .ref (b 12), .int 0, .int 0, .int 0, .ref (b 13), .ref (b 14), .ref (b 15), .int 0, .int 0, .int 0, .ref (b 16), .ref (b 17), .ref (b 18), .ref (b 19)])), (b 16, .inl (t 0, 4, .inl g_6)), (b 17, .inl (t 0, 4, .inl g_7)), (b 18, .inl (t 2, 240, .inr (.inl (fun _ => 0))))] H := hP
            have hD : va_D A [(b 0, .inr (12, [.int 0, .ref (b 1), .ref (b 2), .ref (b 3), .ref (b 4), .int 0, .ref (b 5), .int 0, .int 0, .int 0, .int 0, .int 0, .int 0, .int (-1), .ref (b 6), .int 0, .ref (b 7), .int 0, .int (-1), .int 0, .ref (b 8), .int 0, .ref (b 9), .int 0, .ref (b 10), .ref (b 11), .ref (b 12), .int 0, .int 0, .int 0, .ref (b 13), .ref (b 14), .ref (b 15), .int 0, .int 0, .int 0, .ref (b 16), .ref (b 17), .ref (b 18), .ref (b 19)])), (b 16, .inl (t 0, 4, .inl g_6)), (b 17, .inl (t 0, 4, .inl g_7)), (b 18, .inl (t 2, 240, .inr (.inl (fun _ => 0))))] := hD
            refine lv_iconst (v := 0) hx hb dX12_row_49 (by decide) ?_
            refine lv_istore (lv' := [(4, .int 0), (0, .ref (b 0)), (1, .int (nI 0)), (2, .int y), (3, .int z)]) hx hb dX12_row_50 hl (by decide) rfl (fun ls hl => ?_)
            refine lp_mr0 hx hb hts hown hK hN (fun g9 H locs hP hD hS ls hl => ?_) 61 0 (Nat.zero_le _) (by omega) (fun _ => 0) _ _ hP hD hS ls (lv_sub hl [0, 1, 2] rfl)
            refine lv_iconst (v := 0) hx hb dX12_row_78 (by decide) ?_
            exact W.iret (v := 0) hx hb hr (fun t9 ht hW => ⟨⟨0, (), rfl, (by unfold sp_row; rw [if_neg (by decide), if_neg c_2, if_neg (by have q2 := t_le c_3; have e2 : (60 : Int32).toInt = 60 := (by decide); have q3 := t_le c_4; have e3 : (0 : Int32).toInt = 0 := (by decide); omega), if_neg (by have q2 := t_le c_3; have e2 : (60 : Int32).toInt = 60 := (by decide); have q3 := t_le c_4; have e3 : (0 : Int32).toInt = 0 := (by decide); omega)]), trivial⟩, hS.F ht⟩) hS.2.2 dX12_row_79
          · refine lv_aload_n hx hb dX12_row_35 rfl (lv_at hl 0 rfl) ?_
            refine va_get (D := D) (ci := 12) (v := .ref (b 16)) (C := RX12) (T := TX12) (N := 40) hx hb hts iX12 hown hK hP 0 rfl rfl 36 (by decide) (hts _ m_1379) (fun _ h9 => h9) rfl dX12_row_36 ?_
            refine lv_iload_n hx hb dX12_row_39 rfl (lv_at hl 1 rfl) ?_
            refine lv_iload_n hx hb dX12_row_40 rfl (lv_at hl 3 rfl) ?_
            refine x_iast hx hb hK hP hD hS 1 0 rfl rfl (vp_in_nI (n := 1) (by decide) (by decide)) dX12_row_41 (fun g_8 H locs hP hD hS => ?_)
            have hP : va_P D classes [(b 0, .inr (12, [.int 0, .ref (b 1), .ref (b 2), .ref (b 3), .ref (b 4), .int 0, .ref (b 5), .int 0, .int 0, .int 0, .int 0, .int 0, .int 0, .int (-1), .ref (b 6), .int 0, .ref (b 7), .int 0, .int (-1), .int 0, .ref (b 8), .int 0, .ref (b 9), .int 0, .ref (b 10), .ref (b 11), .ref (b 12), .int 0, .int 0, .int 0, .ref (b 13), .ref (b 14), .ref (b 15), .int 0, .int 0, .int 0, .ref (b 16), .ref (b 17), .ref (b 18), .ref (b 19)])), (b 16, .inl (t 0, 4, .inl g_8)), (b 17, .inl (t 0, 4, .inl (fun _ => 0))), (b 18, .inl (t 2, 240, .inr (.inl (fun _ => 0))))] H := hP
            have hD : va_D A [(b 0, .inr (12, [.int 0, .ref (b 1), .ref (b 2), .ref (b 3), .ref (b 4), .int 0, .ref (b 5), .int 0, .int 0, .int 0, .int 0, .int 0, .int 0, .int (-1), .ref (b 6), .int 0, .ref (b 7), .int 0, .int (-1), .int 0, .ref (b 8), .int 0, .ref (b 9), .int 0, .ref (b 10), .ref (b 11), .ref (b 12), .int 0, .int 0, .int 0, .ref (b 13), .ref (b 14), .ref (b 15), .int 0, .int 0, .int 0, .ref (b 16), .ref (b 17), .ref (b 18), .ref (b 19)])), (b 16, .inl (t 0, 4, .inl g_8)), (b 17, .inl (t 0, 4, .inl (fun _ => 0))), (b 18, .inl (t 2, 240, .inr (.inl (fun _ => 0))))] := hD
            refine lv_aload_n hx hb dX12_row_42 rfl (lv_at hl 0 rfl) ?_
            refine va_get (D := D) (ci := 12) (v := .ref (b 17)) (C := RX12) (T := TX12) (N := 40) hx hb hts iX12 hown hK hP 0 rfl rfl 37 (by decide) (hts _ m_1380) (fun _ h9 => h9) rfl dX12_row_43 ?_
            refine lv_iload_n hx hb dX12_row_46 rfl (lv_at hl 1 rfl) ?_
            refine lv_iload_n hx hb dX12_row_47 rfl (lv_at hl 2 rfl) ?_
            refine x_iast hx hb hK hP hD hS 2 0 rfl rfl (vp_in_nI (n := 1) (by decide) (by decide)) dX12_row_48 (fun g_9 H locs hP hD hS => ?_)
            have hP : va_P D classes [(b 0, .inr (12, [.int 0, .ref (b 1), .ref (b 2), .ref (b 3), .ref (b 4), .int 0, .ref (b 5), .int 0, .int 0, .int 0, .int 0, .int 0, .int 0, .int (-1), .ref (b 6), .int 0, .ref (b 7), .int 0, .int (-1), .int 0, .ref (b 8), .int 0, .ref (b 9), .int 0, .ref (b 10), .ref (b 11), .ref (b 12), .int 0, .int 0, .int 0, .ref (b 13), .ref (b 14), .ref (b 15), .int 0, .int 0, .int 0, .ref (b 16), .ref (b 17), .ref (b 18), .ref (b 19)])), (b 16, .inl (t 0, 4, .inl g_8)), (b 17, .inl (t 0, 4, .inl g_9)), (b 18, .inl (t 2, 240, .inr (.inl (fun _ => 0))))] H := hP
            have hD : va_D A [(b 0, .inr (12, [.int 0, .ref (b 1), .ref (b 2), .ref (b 3), .ref (b 4), .int 0, .ref (b 5), .int 0, .int 0, .int 0, .int 0, .int 0, .int 0, .int (-1), .ref (b 6), .int 0, .ref (b 7), .int 0, .int (-1), .int 0, .ref (b 8), .int 0, .ref (b 9), .int 0, .ref (b 10), .ref (b 11), .ref (b 12), .int 0, .int 0, .int 0, .ref (b 13), .ref (b 14), .ref (b 15), .int 0, .int 0, .int 0, .ref (b 16), .ref (b 17), .ref (b 18), .ref (b 19)])), (b 16, .inl (t 0, 4, .inl g_8)), (b 17, .inl (t 0, 4, .inl g_9)), (b 18, .inl (t 2, 240, .inr (.inl (fun _ => 0))))] := hD
            refine lv_iconst (v := 0) hx hb dX12_row_49 (by decide) ?_
            refine lv_istore (lv' := [(4, .int 0), (0, .ref (b 0)), (1, .int (nI 1)), (2, .int y), (3, .int z)]) hx hb dX12_row_50 hl (by decide) rfl (fun ls hl => ?_)
            refine lp_mr1 hx hb hts hown hK hN (fun g9 H locs hP hD hS ls hl => ?_) 61 0 (Nat.zero_le _) (by omega) (fun _ => 0) _ _ hP hD hS ls (lv_sub hl [0, 1, 2] rfl)
            refine lv_iconst (v := 0) hx hb dX12_row_78 (by decide) ?_
            exact W.iret (v := 0) hx hb hr (fun t9 ht hW => ⟨⟨0, (), rfl, (by unfold sp_row; rw [if_neg (by decide), if_neg c_2, if_neg (by have q2 := t_le c_3; have e2 : (60 : Int32).toInt = 60 := (by decide); have q3 := t_le c_4; have e3 : (0 : Int32).toInt = 0 := (by decide); omega), if_neg (by have q2 := t_le c_3; have e2 : (60 : Int32).toInt = 60 := (by decide); have q3 := t_le c_4; have e3 : (0 : Int32).toInt = 0 := (by decide); omega)]), trivial⟩, hS.F ht⟩) hS.2.2 dX12_row_79
          · refine lv_aload_n hx hb dX12_row_35 rfl (lv_at hl 0 rfl) ?_
            refine va_get (D := D) (ci := 12) (v := .ref (b 16)) (C := RX12) (T := TX12) (N := 40) hx hb hts iX12 hown hK hP 0 rfl rfl 36 (by decide) (hts _ m_1379) (fun _ h9 => h9) rfl dX12_row_36 ?_
            refine lv_iload_n hx hb dX12_row_39 rfl (lv_at hl 1 rfl) ?_
            refine lv_iload_n hx hb dX12_row_40 rfl (lv_at hl 3 rfl) ?_
            refine x_iast hx hb hK hP hD hS 1 0 rfl rfl (vp_in_nI (n := 2) (by decide) (by decide)) dX12_row_41 (fun g_10 H locs hP hD hS => ?_)
            have hP : va_P D classes [(b 0, .inr (12, [.int 0, .ref (b 1), .ref (b 2), .ref (b 3), .ref (b 4), .int 0, .ref (b 5), .int 0, .int 0, .int 0, .int 0, .int 0, .int 0, .int (-1), .ref (b 6), .int 0, .ref (b 7), .int 0, .int (-1), .int 0, .ref (b 8), .int 0, .ref (b 9), .int 0, .ref (b 10), .ref (b 11), .ref (b 12), .int 0, .int 0, .int 0, .ref (b 13), .ref (b 14), .ref (b 15), .int 0, .int 0, .int 0, .ref (b 16), .ref (b 17), .ref (b 18), .ref (b 19)])), (b 16, .inl (t 0, 4, .inl g_10)), (b 17, .inl (t 0, 4, .inl (fun _ => 0))), (b 18, .inl (t 2, 240, .inr (.inl (fun _ => 0))))] H := hP
            have hD : va_D A [(b 0, .inr (12, [.int 0, .ref (b 1), .ref (b 2), .ref (b 3), .ref (b 4), .int 0, .ref (b 5), .int 0, .int 0, .int 0, .int 0, .int 0, .int 0, .int (-1), .ref (b 6), .int 0, .ref (b 7), .int 0, .int (-1), .int 0, .ref (b 8), .int 0, .ref (b 9), .int 0, .ref (b 10), .ref (b 11), .ref (b 12), .int 0, .int 0, .int 0, .ref (b 13), .ref (b 14), .ref (b 15), .int 0, .int 0, .int 0, .ref (b 16), .ref (b 17), .ref (b 18), .ref (b 19)])), (b 16, .inl (t 0, 4, .inl g_10)), (b 17, .inl (t 0, 4, .inl (fun _ => 0))), (b 18, .inl (t 2, 240, .inr (.inl (fun _ => 0))))] := hD
            refine lv_aload_n hx hb dX12_row_42 rfl (lv_at hl 0 rfl) ?_
            refine va_get (D := D) (ci := 12) (v := .ref (b 17)) (C := RX12) (T := TX12) (N := 40) hx hb hts iX12 hown hK hP 0 rfl rfl 37 (by decide) (hts _ m_1380) (fun _ h9 => h9) rfl dX12_row_43 ?_
            refine lv_iload_n hx hb dX12_row_46 rfl (lv_at hl 1 rfl) ?_
            refine lv_iload_n hx hb dX12_row_47 rfl (lv_at hl 2 rfl) ?_
            refine x_iast hx hb hK hP hD hS 2 0 rfl rfl (vp_in_nI (n := 2) (by decide) (by decide)) dX12_row_48 (fun g_11 H locs hP hD hS => ?_)
            have hP : va_P D classes [(b 0, .inr (12, [.int 0, .ref (b 1), .ref (b 2), .ref (b 3), .ref (b 4), .int 0, .ref (b 5), .int 0, .int 0, .int 0, .int 0, .int 0, .int 0, .int (-1), .ref (b 6), .int 0, .ref (b 7), .int 0, .int (-1), .int 0, .ref (b 8), .int 0, .ref (b 9), .int 0, .ref (b 10), .ref (b 11), .ref (b 12), .int 0, .int 0, .int 0, .ref (b 13), .ref (b 14), .ref (b 15), .int 0, .int 0, .int 0, .ref (b 16), .ref (b 17), .ref (b 18), .ref (b 19)])), (b 16, .inl (t 0, 4, .inl g_10)), (b 17, .inl (t 0, 4, .inl g_11)), (b 18, .inl (t 2, 240, .inr (.inl (fun _ => 0))))] H := hP
            have hD : va_D A [(b 0, .inr (12, [.int 0, .ref (b 1), .ref (b 2), .ref (b 3), .ref (b 4), .int 0, .ref (b 5), .int 0, .int 0, .int 0, .int 0, .int 0, .int 0, .int (-1), .ref (b 6), .int 0, .ref (b 7), .int 0, .int (-1), .int 0, .ref (b 8), .int 0, .ref (b 9), .int 0, .ref (b 10), .ref (b 11), .ref (b 12), .int 0, .int 0, .int 0, .ref (b 13), .ref (b 14), .ref (b 15), .int 0, .int 0, .int 0, .ref (b 16), .ref (b 17), .ref (b 18), .ref (b 19)])), (b 16, .inl (t 0, 4, .inl g_10)), (b 17, .inl (t 0, 4, .inl g_11)), (b 18, .inl (t 2, 240, .inr (.inl (fun _ => 0))))] := hD
            refine lv_iconst (v := 0) hx hb dX12_row_49 (by decide) ?_
            refine lv_istore (lv' := [(4, .int 0), (0, .ref (b 0)), (1, .int (nI 2)), (2, .int y), (3, .int z)]) hx hb dX12_row_50 hl (by decide) rfl (fun ls hl => ?_)
            refine lp_mr2 hx hb hts hown hK hN (fun g9 H locs hP hD hS ls hl => ?_) 61 0 (Nat.zero_le _) (by omega) (fun _ => 0) _ _ hP hD hS ls (lv_sub hl [0, 1, 2] rfl)
            refine lv_iconst (v := 0) hx hb dX12_row_78 (by decide) ?_
            exact W.iret (v := 0) hx hb hr (fun t9 ht hW => ⟨⟨0, (), rfl, (by unfold sp_row; rw [if_neg (by decide), if_neg c_2, if_neg (by have q2 := t_le c_3; have e2 : (60 : Int32).toInt = 60 := (by decide); have q3 := t_le c_4; have e3 : (0 : Int32).toInt = 0 := (by decide); omega), if_neg (by have q2 := t_le c_3; have e2 : (60 : Int32).toInt = 60 := (by decide); have q3 := t_le c_4; have e3 : (0 : Int32).toInt = 0 := (by decide); omega)]), trivial⟩, hS.F ht⟩) hS.2.2 dX12_row_79
          · refine lv_aload_n hx hb dX12_row_35 rfl (lv_at hl 0 rfl) ?_
            refine va_get (D := D) (ci := 12) (v := .ref (b 16)) (C := RX12) (T := TX12) (N := 40) hx hb hts iX12 hown hK hP 0 rfl rfl 36 (by decide) (hts _ m_1379) (fun _ h9 => h9) rfl dX12_row_36 ?_
            refine lv_iload_n hx hb dX12_row_39 rfl (lv_at hl 1 rfl) ?_
            refine lv_iload_n hx hb dX12_row_40 rfl (lv_at hl 3 rfl) ?_
            refine x_iast hx hb hK hP hD hS 1 0 rfl rfl (vp_in_nI (n := 3) (by decide) (by decide)) dX12_row_41 (fun g_12 H locs hP hD hS => ?_)
            have hP : va_P D classes [(b 0, .inr (12, [.int 0, .ref (b 1), .ref (b 2), .ref (b 3), .ref (b 4), .int 0, .ref (b 5), .int 0, .int 0, .int 0, .int 0, .int 0, .int 0, .int (-1), .ref (b 6), .int 0, .ref (b 7), .int 0, .int (-1), .int 0, .ref (b 8), .int 0, .ref (b 9), .int 0, .ref (b 10), .ref (b 11), .ref (b 12), .int 0, .int 0, .int 0, .ref (b 13), .ref (b 14), .ref (b 15), .int 0, .int 0, .int 0, .ref (b 16), .ref (b 17), .ref (b 18), .ref (b 19)])), (b 16, .inl (t 0, 4, .inl g_12)), (b 17, .inl (t 0, 4, .inl (fun _ => 0))), (b 18, .inl (t 2, 240, .inr (.inl (fun _ => 0))))] H := hP
            have hD : va_D A [(b 0, .inr (12, [.int 0, .ref (b 1), .ref (b 2), .ref (b 3), .ref (b 4), .int 0, .ref (b 5), .int 0, .int 0, .int 0, .int 0, .int 0, .int 0, .int (-1), .ref (b 6), .int 0, .ref (b 7), .int 0, .int (-1), .int 0, .ref (b 8), .int 0, .ref (b 9), .int 0, .ref (b 10), .ref (b 11), .ref (b 12), .int 0, .int 0, .int 0, .ref (b 13), .ref (b 14), .ref (b 15), .int 0, .int 0, .int 0, .ref (b 16), .ref (b 17), .ref (b 18), .ref (b 19)])), (b 16, .inl (t 0, 4, .inl g_12)), (b 17, .inl (t 0, 4, .inl (fun _ => 0))), (b 18, .inl (t 2, 240, .inr (.inl (fun _ => 0))))] := hD
            refine lv_aload_n hx hb dX12_row_42 rfl (lv_at hl 0 rfl) ?_
            refine va_get (D := D) (ci := 12) (v := .ref (b 17)) (C := RX12) (T := TX12) (N := 40) hx hb hts iX12 hown hK hP 0 rfl rfl 37 (by decide) (hts _ m_1380) (fun _ h9 => h9) rfl dX12_row_43 ?_
            refine lv_iload_n hx hb dX12_row_46 rfl (lv_at hl 1 rfl) ?_
            refine lv_iload_n hx hb dX12_row_47 rfl (lv_at hl 2 rfl) ?_
            refine x_iast hx hb hK hP hD hS 2 0 rfl rfl (vp_in_nI (n := 3) (by decide) (by decide)) dX12_row_48 (fun g_13 H locs hP hD hS => ?_)
            have hP : va_P D classes [(b 0, .inr (12, [.int 0, .ref (b 1), .ref (b 2), .ref (b 3), .ref (b 4), .int 0, .ref (b 5), .int 0, .int 0, .int 0, .int 0, .int 0, .int 0, .int (-1), .ref (b 6), .int 0, .ref (b 7), .int 0, .int (-1), .int 0, .ref (b 8), .int 0, .ref (b 9), .int 0, .ref (b 10), .ref (b 11), .ref (b 12), .int 0, .int 0, .int 0, .ref (b 13), .ref (b 14), .ref (b 15), .int 0, .int 0, .int 0, .ref (b 16), .ref (b 17), .ref (b 18), .ref (b 19)])), (b 16, .inl (t 0, 4, .inl g_12)), (b 17, .inl (t 0, 4, .inl g_13)), (b 18, .inl (t 2, 240, .inr (.inl (fun _ => 0))))] H := hP
            have hD : va_D A [(b 0, .inr (12, [.int 0, .ref (b 1), .ref (b 2), .ref (b 3), .ref (b 4), .int 0, .ref (b 5), .int 0, .int 0, .int 0, .int 0, .int 0, .int 0, .int (-1), .ref (b 6), .int 0, .ref (b 7), .int 0, .int (-1), .int 0, .ref (b 8), .int 0, .ref (b 9), .int 0, .ref (b 10), .ref (b 11), .ref (b 12), .int 0, .int 0, .int 0, .ref (b 13), .ref (b 14), .ref (b 15), .int 0, .int 0, .int 0, .ref (b 16), .ref (b 17), .ref (b 18), .ref (b 19)])), (b 16, .inl (t 0, 4, .inl g_12)), (b 17, .inl (t 0, 4, .inl g_13)), (b 18, .inl (t 2, 240, .inr (.inl (fun _ => 0))))] := hD
            refine lv_iconst (v := 0) hx hb dX12_row_49 (by decide) ?_
            refine lv_istore (lv' := [(4, .int 0), (0, .ref (b 0)), (1, .int (nI 3)), (2, .int y), (3, .int z)]) hx hb dX12_row_50 hl (by decide) rfl (fun ls hl => ?_)
            refine lp_mr3 hx hb hts hown hK hN (fun g9 H locs hP hD hS ls hl => ?_) 61 0 (Nat.zero_le _) (by omega) (fun _ => 0) _ _ hP hD hS ls (lv_sub hl [0, 1, 2] rfl)
            refine lv_iconst (v := 0) hx hb dX12_row_78 (by decide) ?_
            exact W.iret (v := 0) hx hb hr (fun t9 ht hW => ⟨⟨0, (), rfl, (by unfold sp_row; rw [if_neg (by decide), if_neg c_2, if_neg (by have q2 := t_le c_3; have e2 : (60 : Int32).toInt = 60 := (by decide); have q3 := t_le c_4; have e3 : (0 : Int32).toInt = 0 := (by decide); omega), if_neg (by have q2 := t_le c_3; have e2 : (60 : Int32).toInt = 60 := (by decide); have q3 := t_le c_4; have e3 : (0 : Int32).toInt = 0 := (by decide); omega)]), trivial⟩, hS.F ht⟩) hS.2.2 dX12_row_79
        · refine lv_bipush (v := (-3)) hx hb dX12_row_32 (by decide) ?_
          exact W.iret (v := (-3)) hx hb hr (fun t9 ht hW => ⟨⟨(-3), (), rfl, (by unfold sp_row; rw [if_neg c_1, if_neg c_2, if_neg (by have q2 := t_le c_3; have e2 : (60 : Int32).toInt = 60 := (by decide); have q3 := t_nle c_4; have e3 : (0 : Int32).toInt = 0 := (by decide); omega), if_pos (by have q2 := t_le c_3; have e2 : (60 : Int32).toInt = 60 := (by decide); have q3 := t_nle c_4; have e3 : (0 : Int32).toInt = 0 := (by decide); omega)]), trivial⟩, hS.F ht⟩) hS.2.2 dX12_row_34
      · refine lv_bipush (v := (-2)) hx hb dX12_row_25 (by decide) ?_
        exact W.iret (v := (-2)) hx hb hr (fun t9 ht hW => ⟨⟨(-2), (), rfl, (by unfold sp_row; rw [if_neg c_1, if_neg c_2, if_pos (by have q2 := t_nle c_3; have e2 : (60 : Int32).toInt = 60 := (by decide); omega)]), trivial⟩, hS.F ht⟩) hS.2.2 dX12_row_27

