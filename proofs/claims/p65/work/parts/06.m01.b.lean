theorem in_path {v lo hi : Int64} (h : ¬ lg_cmp v lo < 0) (h2 : ¬ 0 < lg_cmp v hi) : lo.toInt ≤ v.toInt ∧ v.toInt ≤ hi.toInt := by
  rw [lg_cmp_lt, Int64.lt_iff_toInt_lt] at h; rw [lg_cmp_gt, Int64.lt_iff_toInt_lt] at h2
  exact ⟨by omega, by omega⟩
set_option maxHeartbeats 4000000 in
set_option maxRecDepth 100000 in
theorem s_X12_in (l : Launch) (D : va_G) (t : Nat → ClassId) (a : Nat → Nat) (p0 : Int64) (p1 : Int64) (p2 : Int64) : Met l yX12_in (wd yX12_in cX12_in 6 (some .boolean)) (RM 0 0 0) (PreP D (TY t) [.long p0, .long p1, .long p2] []) (QP (fun r => rg 0 1 r ∧ (r = 0 ∨ (p1.toInt ≤ p0.toInt ∧ p0.toInt ≤ p2.toInt)))) 0 0 NoF := by
  refine Met.ofW (cc := cX12_in) (maxL := 6) (ret := (some .boolean)) (by decide) rfl ?_
  intro p e s m args below meth c s₁ B hml hv
  obtain ⟨rfl, hP, hK, hN⟩ := hv
  have hx := B.exec
  have hb := B.bytes
  have hr := B.returns
  have hts : ∀ w ∈ TB, w.before _ s = true := fun w h => atoms_spec (ws := wd yX12_in cX12_in 6 (some .boolean)) B.pre w (List.mem_cons_of_mem _ h)
  have hown : s.vm.findClass RX12 = some m.cls := findClass_of_methodNamed B.named
  have hlocks := B.notSynchronized
  have hF : CallFix p m c cX12_in 6 s _ TB RX12 := ⟨hx, hb, hml, hown, hts⟩
  have hl := lv_entry ([.long p0, .long p1, .long p2]) (n := 6) (Nat.le_of_ble_eq_true rfl)
  rw [lg_entry_eq]
  generalize (lg_sl ([.long p0, .long p1, .long p2]) ++ List.replicate (6 - (lg_sl ([.long p0, .long p1, .long p2])).length) Slot.unset).toArray = ls at hl ⊢
  have hl : lv_has ls 6 [(0, .long p0), (2, .long p1), (4, .long p2)] := hl
  have hS : va_S NoF s.heap s.heap [] := va_S.rf
  have hP : va_P D classes [] s.heap := hP
  refine lv_lload_n hx hb dX12_in_0 rfl (lv_at hl 0 rfl) ?_
  refine lv_lload_n hx hb dX12_in_1 rfl (lv_at hl 1 rfl) ?_
  refine W.lcmp hx hb dX12_in_2 ?_
  refine lv_if_lt (tgt := 17) hx hb dX12_in_3 (by decide) (fun c_1 => ?_) (fun c_1 => ?_)
  · refine lv_iconst (v := 0) hx hb dX12_in_17 (by decide) ?_
    exact W.zret (v := 0) hx hb hr rfl (fun t9 ht hW => ⟨⟨0, (), rfl, ⟨⟨by decide, by decide⟩, Or.inl rfl⟩, trivial⟩, hS.F ht⟩) hS.2.2 dX12_in_18
  · refine lv_lload_n hx hb dX12_in_6 rfl (lv_at hl 0 rfl) ?_
    refine lv_lload hx hb dX12_in_7 (lv_at hl 2 rfl) ?_
    refine W.lcmp hx hb dX12_in_9 ?_
    refine lv_if_gt (tgt := 17) hx hb dX12_in_10 (by decide) (fun c_2 => ?_) (fun c_2 => ?_)
    · refine lv_iconst (v := 0) hx hb dX12_in_17 (by decide) ?_
      exact W.zret (v := 0) hx hb hr rfl (fun t9 ht hW => ⟨⟨0, (), rfl, ⟨⟨by decide, by decide⟩, Or.inl rfl⟩, trivial⟩, hS.F ht⟩) hS.2.2 dX12_in_18
    · refine lv_iconst (v := 1) hx hb dX12_in_13 (by decide) ?_
      refine lv_goto (tgt := 18) hx hb dX12_in_14 (by decide) ?_
      exact W.zret (v := 1) hx hb hr rfl (fun t9 ht hW => ⟨⟨1, (), rfl, ⟨⟨by decide, by decide⟩, Or.inr (in_path c_1 c_2)⟩, trivial⟩, hS.F ht⟩) hS.2.2 dX12_in_18


set_option maxHeartbeats 4000000 in
set_option maxRecDepth 100000 in
theorem s_X12_bits (l : Launch) (D : va_G) (t : Nat → ClassId) (a : Nat → Nat) (p0 : Int32) : Met l yX12_bits (wd yX12_bits cX12_bits 3 (some .int)) (RM 0 0 0) (PreP D (TY t) [.int p0] []) (QP (fun r => rg 0 9 r ∧ (r.toInt = pcn p0))) 0 0 NoF := by
  refine Met.ofW (cc := cX12_bits) (maxL := 3) (ret := (some .int)) (by decide) rfl ?_
  intro p e s m args below meth c s₁ B hml hv
  obtain ⟨rfl, hP, hK, hN⟩ := hv
  have hx := B.exec
  have hb := B.bytes
  have hr := B.returns
  have hts : ∀ w ∈ TB, w.before _ s = true := fun w h => atoms_spec (ws := wd yX12_bits cX12_bits 3 (some .int)) B.pre w (List.mem_cons_of_mem _ h)
  have hown : s.vm.findClass RX12 = some m.cls := findClass_of_methodNamed B.named
  have hlocks := B.notSynchronized
  have hF : CallFix p m c cX12_bits 3 s _ TB RX12 := ⟨hx, hb, hml, hown, hts⟩
  have hl := lv_entry ([.int p0]) (n := 3) (Nat.le_of_ble_eq_true rfl)
  rw [lg_entry_eq]
  generalize (lg_sl ([.int p0]) ++ List.replicate (3 - (lg_sl ([.int p0])).length) Slot.unset).toArray = ls at hl ⊢
  have hl : lv_has ls 3 [(0, .int p0)] := hl
  have hS : va_S NoF s.heap s.heap [] := va_S.rf
  have hP : va_P D classes [] s.heap := hP
  refine lv_iconst (v := 0) hx hb dX12_bits_0 (by decide) ?_
  refine lv_istore_n (lv' := [(1, .int 0), (0, .int p0)]) hx hb dX12_bits_1 rfl hl (by decide) rfl (fun ls hl => ?_)
  refine lv_iconst (v := 0) hx hb dX12_bits_2 (by decide) ?_
  refine lv_istore_n (lv' := [(2, .int 0), (1, .int 0), (0, .int p0)]) hx hb dX12_bits_3 rfl hl (by decide) rfl (fun ls hl => ?_)
  refine lv_iload_n hx hb dX12_bits_4 rfl (lv_at hl 0 rfl) ?_
  refine lv_bipush (v := 9) hx hb dX12_bits_5 (by decide) ?_
  refine lv_icmp_ge (tgt := 24) hx hb dX12_bits_7 (by decide) (fun c_1 => False.elim (by first | exact absurd (by decide) c_1 | exact absurd c_1 (by decide))) (fun c_1 => ?_)
  have zc_2 : (0 : Int32).toInt = 0 := rfl
  have zc_3 : (9 : Int32).toInt = 9 := by decide
  have tc_1 := t_nle c_1
  refine lv_iload_n hx hb dX12_bits_10 rfl (lv_at hl 1 rfl) ?_
  refine lv_iload_n hx hb dX12_bits_11 rfl (lv_at hl 2 rfl) ?_
  refine lv_iload_n hx hb dX12_bits_12 rfl (lv_at hl 0 rfl) ?_
  refine lv_ishr hx hb dX12_bits_13 ?_
  refine lv_topi (fun x_4 ex_4 => ?_)
  refine lv_iconst (v := 1) hx hb dX12_bits_14 (by decide) ?_
  refine lv_iand hx hb dX12_bits_15 ?_
  refine lv_topi (fun x_5 ex_5 => ?_)
  have hx_5 : rg 0 1 x_5 := by rw [ex_5]; exact rg_and (rg_w (c := 0) (d := 1) (rg_c (x := 1) (k := 1) (by decide)) (by decide) (by decide))
  have bx_5 : x_5.toInt = (bt p0 0).toInt := congrArg Int32.toInt (by rw [ex_5, ex_4]; rfl)
  refine lv_iadd hx hb dX12_bits_16 ?_
  refine lv_topi (fun x_6 ex_6 => ?_)
  have hx_6 : rg 0 1 x_6 := by rw [ex_6]; exact rg_add (rg_c (x := 0) (k := 0) (by decide)) hx_5 (by decide) (by decide) (by decide) (by decide)
  have zc_7 : (0 : Int32).toInt = 0 := by decide
  have tx_6 : x_6.toInt = (0 : Int32).toInt + (x_5 : Int32).toInt := by rw [ex_6]; exact add_tr (rg_c (x := 0) (k := 0) (by decide)) hx_5 (by decide) (by decide)
  refine lv_istore_n (lv' := [(1, .int x_6), (2, .int 0), (0, .int p0)]) hx hb dX12_bits_17 rfl hl (by decide) rfl (fun ls hl => ?_)
  refine lv_iinc (v := 1) (lv' := [(2, .int 1), (1, .int x_6), (0, .int p0)]) hx hb dX12_bits_18 hl (k := 1) rfl (by decide) (by decide) rfl (fun ls hl => ?_)
  refine lv_goto (tgt := 4) hx hb dX12_bits_21 (by decide) ?_
  refine lv_iload_n hx hb dX12_bits_4 rfl (lv_at hl 0 rfl) ?_
  refine lv_bipush (v := 9) hx hb dX12_bits_5 (by decide) ?_
  refine lv_icmp_ge (tgt := 24) hx hb dX12_bits_7 (by decide) (fun c_8 => False.elim (by first | exact absurd (by decide) c_8 | exact absurd c_8 (by decide))) (fun c_8 => ?_)
  have zc_9 : (1 : Int32).toInt = 1 := by decide
  have zc_10 : (9 : Int32).toInt = 9 := by decide
  have tc_8 := t_nle c_8
  refine lv_iload_n hx hb dX12_bits_10 rfl (lv_at hl 1 rfl) ?_
  refine lv_iload_n hx hb dX12_bits_11 rfl (lv_at hl 2 rfl) ?_
  refine lv_iload_n hx hb dX12_bits_12 rfl (lv_at hl 0 rfl) ?_
  refine lv_ishr hx hb dX12_bits_13 ?_
  refine lv_topi (fun x_11 ex_11 => ?_)
  refine lv_iconst (v := 1) hx hb dX12_bits_14 (by decide) ?_
  refine lv_iand hx hb dX12_bits_15 ?_
  refine lv_topi (fun x_12 ex_12 => ?_)
  have hx_12 : rg 0 1 x_12 := by rw [ex_12]; exact rg_and (rg_w (c := 0) (d := 1) (rg_c (x := 1) (k := 1) (by decide)) (by decide) (by decide))
  have bx_12 : x_12.toInt = (bt p0 1).toInt := congrArg Int32.toInt (by rw [ex_12, ex_11]; rfl)
  refine lv_iadd hx hb dX12_bits_16 ?_
  refine lv_topi (fun x_13 ex_13 => ?_)
  have hx_13 : rg 0 2 x_13 := by rw [ex_13]; exact rg_add hx_6 hx_12 (by decide) (by decide) (by decide) (by decide)
  have tx_13 : x_13.toInt = (x_6 : Int32).toInt + (x_12 : Int32).toInt := by rw [ex_13]; exact add_tr hx_6 hx_12 (by decide) (by decide)
  refine lv_istore_n (lv' := [(1, .int x_13), (2, .int 1), (0, .int p0)]) hx hb dX12_bits_17 rfl hl (by decide) rfl (fun ls hl => ?_)
  refine lv_iinc (v := 2) (lv' := [(2, .int 2), (1, .int x_13), (0, .int p0)]) hx hb dX12_bits_18 hl (k := 1) rfl (by decide) (by decide) rfl (fun ls hl => ?_)
  refine lv_goto (tgt := 4) hx hb dX12_bits_21 (by decide) ?_
  refine lv_iload_n hx hb dX12_bits_4 rfl (lv_at hl 0 rfl) ?_
  refine lv_bipush (v := 9) hx hb dX12_bits_5 (by decide) ?_
  refine lv_icmp_ge (tgt := 24) hx hb dX12_bits_7 (by decide) (fun c_14 => False.elim (by first | exact absurd (by decide) c_14 | exact absurd c_14 (by decide))) (fun c_14 => ?_)
  have zc_15 : (2 : Int32).toInt = 2 := by decide
  have zc_16 : (9 : Int32).toInt = 9 := by decide
  have tc_14 := t_nle c_14
  refine lv_iload_n hx hb dX12_bits_10 rfl (lv_at hl 1 rfl) ?_
  refine lv_iload_n hx hb dX12_bits_11 rfl (lv_at hl 2 rfl) ?_
  refine lv_iload_n hx hb dX12_bits_12 rfl (lv_at hl 0 rfl) ?_
  refine lv_ishr hx hb dX12_bits_13 ?_
  refine lv_topi (fun x_17 ex_17 => ?_)
  refine lv_iconst (v := 1) hx hb dX12_bits_14 (by decide) ?_
  refine lv_iand hx hb dX12_bits_15 ?_
  refine lv_topi (fun x_18 ex_18 => ?_)
  have hx_18 : rg 0 1 x_18 := by rw [ex_18]; exact rg_and (rg_w (c := 0) (d := 1) (rg_c (x := 1) (k := 1) (by decide)) (by decide) (by decide))
  have bx_18 : x_18.toInt = (bt p0 2).toInt := congrArg Int32.toInt (by rw [ex_18, ex_17]; rfl)
  refine lv_iadd hx hb dX12_bits_16 ?_
  refine lv_topi (fun x_19 ex_19 => ?_)
  have hx_19 : rg 0 3 x_19 := by rw [ex_19]; exact rg_add hx_13 hx_18 (by decide) (by decide) (by decide) (by decide)
  have tx_19 : x_19.toInt = (x_13 : Int32).toInt + (x_18 : Int32).toInt := by rw [ex_19]; exact add_tr hx_13 hx_18 (by decide) (by decide)
  refine lv_istore_n (lv' := [(1, .int x_19), (2, .int 2), (0, .int p0)]) hx hb dX12_bits_17 rfl hl (by decide) rfl (fun ls hl => ?_)
  refine lv_iinc (v := 3) (lv' := [(2, .int 3), (1, .int x_19), (0, .int p0)]) hx hb dX12_bits_18 hl (k := 1) rfl (by decide) (by decide) rfl (fun ls hl => ?_)
  refine lv_goto (tgt := 4) hx hb dX12_bits_21 (by decide) ?_
  refine lv_iload_n hx hb dX12_bits_4 rfl (lv_at hl 0 rfl) ?_
  refine lv_bipush (v := 9) hx hb dX12_bits_5 (by decide) ?_
  refine lv_icmp_ge (tgt := 24) hx hb dX12_bits_7 (by decide) (fun c_20 => False.elim (by first | exact absurd (by decide) c_20 | exact absurd c_20 (by decide))) (fun c_20 => ?_)
  have zc_21 : (3 : Int32).toInt = 3 := by decide
  have zc_22 : (9 : Int32).toInt = 9 := by decide
  have tc_20 := t_nle c_20
  refine lv_iload_n hx hb dX12_bits_10 rfl (lv_at hl 1 rfl) ?_
  refine lv_iload_n hx hb dX12_bits_11 rfl (lv_at hl 2 rfl) ?_
  refine lv_iload_n hx hb dX12_bits_12 rfl (lv_at hl 0 rfl) ?_
  refine lv_ishr hx hb dX12_bits_13 ?_
  refine lv_topi (fun x_23 ex_23 => ?_)
  refine lv_iconst (v := 1) hx hb dX12_bits_14 (by decide) ?_
  refine lv_iand hx hb dX12_bits_15 ?_
  refine lv_topi (fun x_24 ex_24 => ?_)
  have hx_24 : rg 0 1 x_24 := by rw [ex_24]; exact rg_and (rg_w (c := 0) (d := 1) (rg_c (x := 1) (k := 1) (by decide)) (by decide) (by decide))
  have bx_24 : x_24.toInt = (bt p0 3).toInt := congrArg Int32.toInt (by rw [ex_24, ex_23]; rfl)
  refine lv_iadd hx hb dX12_bits_16 ?_
  refine lv_topi (fun x_25 ex_25 => ?_)
  have hx_25 : rg 0 4 x_25 := by rw [ex_25]; exact rg_add hx_19 hx_24 (by decide) (by decide) (by decide) (by decide)
  have tx_25 : x_25.toInt = (x_19 : Int32).toInt + (x_24 : Int32).toInt := by rw [ex_25]; exact add_tr hx_19 hx_24 (by decide) (by decide)
  refine lv_istore_n (lv' := [(1, .int x_25), (2, .int 3), (0, .int p0)]) hx hb dX12_bits_17 rfl hl (by decide) rfl (fun ls hl => ?_)
  refine lv_iinc (v := 4) (lv' := [(2, .int 4), (1, .int x_25), (0, .int p0)]) hx hb dX12_bits_18 hl (k := 1) rfl (by decide) (by decide) rfl (fun ls hl => ?_)
  refine lv_goto (tgt := 4) hx hb dX12_bits_21 (by decide) ?_
  refine lv_iload_n hx hb dX12_bits_4 rfl (lv_at hl 0 rfl) ?_
  refine lv_bipush (v := 9) hx hb dX12_bits_5 (by decide) ?_
  refine lv_icmp_ge (tgt := 24) hx hb dX12_bits_7 (by decide) (fun c_26 => False.elim (by first | exact absurd (by decide) c_26 | exact absurd c_26 (by decide))) (fun c_26 => ?_)
  have zc_27 : (4 : Int32).toInt = 4 := by decide
  have zc_28 : (9 : Int32).toInt = 9 := by decide
  have tc_26 := t_nle c_26
  refine lv_iload_n hx hb dX12_bits_10 rfl (lv_at hl 1 rfl) ?_
  refine lv_iload_n hx hb dX12_bits_11 rfl (lv_at hl 2 rfl) ?_
  refine lv_iload_n hx hb dX12_bits_12 rfl (lv_at hl 0 rfl) ?_
  refine lv_ishr hx hb dX12_bits_13 ?_
  refine lv_topi (fun x_29 ex_29 => ?_)
  refine lv_iconst (v := 1) hx hb dX12_bits_14 (by decide) ?_
  refine lv_iand hx hb dX12_bits_15 ?_
  refine lv_topi (fun x_30 ex_30 => ?_)
  have hx_30 : rg 0 1 x_30 := by rw [ex_30]; exact rg_and (rg_w (c := 0) (d := 1) (rg_c (x := 1) (k := 1) (by decide)) (by decide) (by decide))
  have bx_30 : x_30.toInt = (bt p0 4).toInt := congrArg Int32.toInt (by rw [ex_30, ex_29]; rfl)
  refine lv_iadd hx hb dX12_bits_16 ?_
  refine lv_topi (fun x_31 ex_31 => ?_)
  have hx_31 : rg 0 5 x_31 := by rw [ex_31]; exact rg_add hx_25 hx_30 (by decide) (by decide) (by decide) (by decide)
  have tx_31 : x_31.toInt = (x_25 : Int32).toInt + (x_30 : Int32).toInt := by rw [ex_31]; exact add_tr hx_25 hx_30 (by decide) (by decide)
  refine lv_istore_n (lv' := [(1, .int x_31), (2, .int 4), (0, .int p0)]) hx hb dX12_bits_17 rfl hl (by decide) rfl (fun ls hl => ?_)
  refine lv_iinc (v := 5) (lv' := [(2, .int 5), (1, .int x_31), (0, .int p0)]) hx hb dX12_bits_18 hl (k := 1) rfl (by decide) (by decide) rfl (fun ls hl => ?_)
  refine lv_goto (tgt := 4) hx hb dX12_bits_21 (by decide) ?_
  refine lv_iload_n hx hb dX12_bits_4 rfl (lv_at hl 0 rfl) ?_
  refine lv_bipush (v := 9) hx hb dX12_bits_5 (by decide) ?_
  refine lv_icmp_ge (tgt := 24) hx hb dX12_bits_7 (by decide) (fun c_32 => False.elim (by first | exact absurd (by decide) c_32 | exact absurd c_32 (by decide))) (fun c_32 => ?_)
  have zc_33 : (5 : Int32).toInt = 5 := by decide
  have zc_34 : (9 : Int32).toInt = 9 := by decide
  have tc_32 := t_nle c_32
  refine lv_iload_n hx hb dX12_bits_10 rfl (lv_at hl 1 rfl) ?_
  refine lv_iload_n hx hb dX12_bits_11 rfl (lv_at hl 2 rfl) ?_
  refine lv_iload_n hx hb dX12_bits_12 rfl (lv_at hl 0 rfl) ?_
  refine lv_ishr hx hb dX12_bits_13 ?_
  refine lv_topi (fun x_35 ex_35 => ?_)
  refine lv_iconst (v := 1) hx hb dX12_bits_14 (by decide) ?_
  refine lv_iand hx hb dX12_bits_15 ?_
  refine lv_topi (fun x_36 ex_36 => ?_)
  have hx_36 : rg 0 1 x_36 := by rw [ex_36]; exact rg_and (rg_w (c := 0) (d := 1) (rg_c (x := 1) (k := 1) (by decide)) (by decide) (by decide))
  have bx_36 : x_36.toInt = (bt p0 5).toInt := congrArg Int32.toInt (by rw [ex_36, ex_35]; rfl)
  refine lv_iadd hx hb dX12_bits_16 ?_
  refine lv_topi (fun x_37 ex_37 => ?_)
  have hx_37 : rg 0 6 x_37 := by rw [ex_37]; exact rg_add hx_31 hx_36 (by decide) (by decide) (by decide) (by decide)
  have tx_37 : x_37.toInt = (x_31 : Int32).toInt + (x_36 : Int32).toInt := by rw [ex_37]; exact add_tr hx_31 hx_36 (by decide) (by decide)
  refine lv_istore_n (lv' := [(1, .int x_37), (2, .int 5), (0, .int p0)]) hx hb dX12_bits_17 rfl hl (by decide) rfl (fun ls hl => ?_)
  refine lv_iinc (v := 6) (lv' := [(2, .int 6), (1, .int x_37), (0, .int p0)]) hx hb dX12_bits_18 hl (k := 1) rfl (by decide) (by decide) rfl (fun ls hl => ?_)
  refine lv_goto (tgt := 4) hx hb dX12_bits_21 (by decide) ?_
  refine lv_iload_n hx hb dX12_bits_4 rfl (lv_at hl 0 rfl) ?_
  refine lv_bipush (v := 9) hx hb dX12_bits_5 (by decide) ?_
  refine lv_icmp_ge (tgt := 24) hx hb dX12_bits_7 (by decide) (fun c_38 => False.elim (by first | exact absurd (by decide) c_38 | exact absurd c_38 (by decide))) (fun c_38 => ?_)
  have zc_39 : (6 : Int32).toInt = 6 := by decide
  have zc_40 : (9 : Int32).toInt = 9 := by decide
  have tc_38 := t_nle c_38
  refine lv_iload_n hx hb dX12_bits_10 rfl (lv_at hl 1 rfl) ?_
  refine lv_iload_n hx hb dX12_bits_11 rfl (lv_at hl 2 rfl) ?_
  refine lv_iload_n hx hb dX12_bits_12 rfl (lv_at hl 0 rfl) ?_
  refine lv_ishr hx hb dX12_bits_13 ?_
  refine lv_topi (fun x_41 ex_41 => ?_)
  refine lv_iconst (v := 1) hx hb dX12_bits_14 (by decide) ?_
  refine lv_iand hx hb dX12_bits_15 ?_
  refine lv_topi (fun x_42 ex_42 => ?_)
  have hx_42 : rg 0 1 x_42 := by rw [ex_42]; exact rg_and (rg_w (c := 0) (d := 1) (rg_c (x := 1) (k := 1) (by decide)) (by decide) (by decide))
  have bx_42 : x_42.toInt = (bt p0 6).toInt := congrArg Int32.toInt (by rw [ex_42, ex_41]; rfl)
  refine lv_iadd hx hb dX12_bits_16 ?_
  refine lv_topi (fun x_43 ex_43 => ?_)
  have hx_43 : rg 0 7 x_43 := by rw [ex_43]; exact rg_add hx_37 hx_42 (by decide) (by decide) (by decide) (by decide)
  have tx_43 : x_43.toInt = (x_37 : Int32).toInt + (x_42 : Int32).toInt := by rw [ex_43]; exact add_tr hx_37 hx_42 (by decide) (by decide)
  refine lv_istore_n (lv' := [(1, .int x_43), (2, .int 6), (0, .int p0)]) hx hb dX12_bits_17 rfl hl (by decide) rfl (fun ls hl => ?_)
  refine lv_iinc (v := 7) (lv' := [(2, .int 7), (1, .int x_43), (0, .int p0)]) hx hb dX12_bits_18 hl (k := 1) rfl (by decide) (by decide) rfl (fun ls hl => ?_)
  refine lv_goto (tgt := 4) hx hb dX12_bits_21 (by decide) ?_
  refine lv_iload_n hx hb dX12_bits_4 rfl (lv_at hl 0 rfl) ?_
  refine lv_bipush (v := 9) hx hb dX12_bits_5 (by decide) ?_
  refine lv_icmp_ge (tgt := 24) hx hb dX12_bits_7 (by decide) (fun c_44 => False.elim (by first | exact absurd (by decide) c_44 | exact absurd c_44 (by decide))) (fun c_44 => ?_)
  have zc_45 : (7 : Int32).toInt = 7 := by decide
  have zc_46 : (9 : Int32).toInt = 9 := by decide
  have tc_44 := t_nle c_44
  refine lv_iload_n hx hb dX12_bits_10 rfl (lv_at hl 1 rfl) ?_
  refine lv_iload_n hx hb dX12_bits_11 rfl (lv_at hl 2 rfl) ?_
  refine lv_iload_n hx hb dX12_bits_12 rfl (lv_at hl 0 rfl) ?_
  refine lv_ishr hx hb dX12_bits_13 ?_
  refine lv_topi (fun x_47 ex_47 => ?_)
  refine lv_iconst (v := 1) hx hb dX12_bits_14 (by decide) ?_
  refine lv_iand hx hb dX12_bits_15 ?_
  refine lv_topi (fun x_48 ex_48 => ?_)
  have hx_48 : rg 0 1 x_48 := by rw [ex_48]; exact rg_and (rg_w (c := 0) (d := 1) (rg_c (x := 1) (k := 1) (by decide)) (by decide) (by decide))
  have bx_48 : x_48.toInt = (bt p0 7).toInt := congrArg Int32.toInt (by rw [ex_48, ex_47]; rfl)
  refine lv_iadd hx hb dX12_bits_16 ?_
  refine lv_topi (fun x_49 ex_49 => ?_)
  have hx_49 : rg 0 8 x_49 := by rw [ex_49]; exact rg_add hx_43 hx_48 (by decide) (by decide) (by decide) (by decide)
  have tx_49 : x_49.toInt = (x_43 : Int32).toInt + (x_48 : Int32).toInt := by rw [ex_49]; exact add_tr hx_43 hx_48 (by decide) (by decide)
  refine lv_istore_n (lv' := [(1, .int x_49), (2, .int 7), (0, .int p0)]) hx hb dX12_bits_17 rfl hl (by decide) rfl (fun ls hl => ?_)
  refine lv_iinc (v := 8) (lv' := [(2, .int 8), (1, .int x_49), (0, .int p0)]) hx hb dX12_bits_18 hl (k := 1) rfl (by decide) (by decide) rfl (fun ls hl => ?_)
  refine lv_goto (tgt := 4) hx hb dX12_bits_21 (by decide) ?_
  refine lv_iload_n hx hb dX12_bits_4 rfl (lv_at hl 0 rfl) ?_
  refine lv_bipush (v := 9) hx hb dX12_bits_5 (by decide) ?_
  refine lv_icmp_ge (tgt := 24) hx hb dX12_bits_7 (by decide) (fun c_50 => False.elim (by first | exact absurd (by decide) c_50 | exact absurd c_50 (by decide))) (fun c_50 => ?_)
  have zc_51 : (8 : Int32).toInt = 8 := by decide
  have zc_52 : (9 : Int32).toInt = 9 := by decide
  have tc_50 := t_nle c_50
  refine lv_iload_n hx hb dX12_bits_10 rfl (lv_at hl 1 rfl) ?_
  refine lv_iload_n hx hb dX12_bits_11 rfl (lv_at hl 2 rfl) ?_
  refine lv_iload_n hx hb dX12_bits_12 rfl (lv_at hl 0 rfl) ?_
  refine lv_ishr hx hb dX12_bits_13 ?_
  refine lv_topi (fun x_53 ex_53 => ?_)
  refine lv_iconst (v := 1) hx hb dX12_bits_14 (by decide) ?_
  refine lv_iand hx hb dX12_bits_15 ?_
  refine lv_topi (fun x_54 ex_54 => ?_)
  have hx_54 : rg 0 1 x_54 := by rw [ex_54]; exact rg_and (rg_w (c := 0) (d := 1) (rg_c (x := 1) (k := 1) (by decide)) (by decide) (by decide))
  have bx_54 : x_54.toInt = (bt p0 8).toInt := congrArg Int32.toInt (by rw [ex_54, ex_53]; rfl)
  refine lv_iadd hx hb dX12_bits_16 ?_
  refine lv_topi (fun x_55 ex_55 => ?_)
  have hx_55 : rg 0 9 x_55 := by rw [ex_55]; exact rg_add hx_49 hx_54 (by decide) (by decide) (by decide) (by decide)
  have tx_55 : x_55.toInt = (x_49 : Int32).toInt + (x_54 : Int32).toInt := by rw [ex_55]; exact add_tr hx_49 hx_54 (by decide) (by decide)
  refine lv_istore_n (lv' := [(1, .int x_55), (2, .int 8), (0, .int p0)]) hx hb dX12_bits_17 rfl hl (by decide) rfl (fun ls hl => ?_)
  refine lv_iinc (v := 9) (lv' := [(2, .int 9), (1, .int x_55), (0, .int p0)]) hx hb dX12_bits_18 hl (k := 1) rfl (by decide) (by decide) rfl (fun ls hl => ?_)
  refine lv_goto (tgt := 4) hx hb dX12_bits_21 (by decide) ?_
  refine lv_iload_n hx hb dX12_bits_4 rfl (lv_at hl 0 rfl) ?_
  refine lv_bipush (v := 9) hx hb dX12_bits_5 (by decide) ?_
  refine lv_icmp_ge (tgt := 24) hx hb dX12_bits_7 (by decide) (fun c_56 => ?_) (fun c_56 => False.elim (by first | exact absurd (by decide) c_56 | exact absurd c_56 (by decide)))
  have zc_57 : (9 : Int32).toInt = 9 := by decide
  have zc_58 : (9 : Int32).toInt = 9 := by decide
  have tc_56 := t_le c_56
  refine lv_iload_n hx hb dX12_bits_24 rfl (lv_at hl 1 rfl) ?_
  exact W.iret (v := x_55) hx hb hr (fun t9 ht hW => ⟨⟨x_55, (), rfl, ⟨hx_55, (by unfold pcn; omega)⟩, trivial⟩, hS.F ht⟩) hS.2.2 dX12_bits_25

set_option maxHeartbeats 4000000 in
set_option maxRecDepth 100000 in
theorem s_X12_bit (l : Launch) (D : va_G) (t : Nat → ClassId) (a : Nat → Nat) (p0 : Int32) (p1 : Int32) : Met l yX12_bit (wd yX12_bit cX12_bit 2 (some .int)) (RM 0 0 0) (PreP D (TY t) [.int p0, .int p1] []) (QP (fun r => rg 0 1 r ∧ (r = bt p0 p1))) 0 0 NoF := by
  refine Met.ofW (cc := cX12_bit) (maxL := 2) (ret := (some .int)) (by decide) rfl ?_
  intro p e s m args below meth c s₁ B hml hv
  obtain ⟨rfl, hP, hK, hN⟩ := hv
  have hx := B.exec
  have hb := B.bytes
  have hr := B.returns
  have hts : ∀ w ∈ TB, w.before _ s = true := fun w h => atoms_spec (ws := wd yX12_bit cX12_bit 2 (some .int)) B.pre w (List.mem_cons_of_mem _ h)
  have hown : s.vm.findClass RX12 = some m.cls := findClass_of_methodNamed B.named
  have hlocks := B.notSynchronized
  have hF : CallFix p m c cX12_bit 2 s _ TB RX12 := ⟨hx, hb, hml, hown, hts⟩
  have hl := lv_entry ([.int p0, .int p1]) (n := 2) (Nat.le_of_ble_eq_true rfl)
  rw [lg_entry_eq]
  generalize (lg_sl ([.int p0, .int p1]) ++ List.replicate (2 - (lg_sl ([.int p0, .int p1])).length) Slot.unset).toArray = ls at hl ⊢
  have hl : lv_has ls 2 [(0, .int p0), (1, .int p1)] := hl
  have hS : va_S NoF s.heap s.heap [] := va_S.rf
  have hP : va_P D classes [] s.heap := hP
  refine lv_iload_n hx hb dX12_bit_0 rfl (lv_at hl 0 rfl) ?_
  refine lv_iload_n hx hb dX12_bit_1 rfl (lv_at hl 1 rfl) ?_
  refine lv_ishr hx hb dX12_bit_2 ?_
  refine lv_topi (fun x_1 ex_1 => ?_)
  refine lv_iconst (v := 1) hx hb dX12_bit_3 (by decide) ?_
  refine lv_iand hx hb dX12_bit_4 ?_
  refine lv_topi (fun x_2 ex_2 => ?_)
  have hx_2 : rg 0 1 x_2 := by rw [ex_2]; exact rg_and (rg_w (c := 0) (d := 1) (rg_c (x := 1) (k := 1) (by decide)) (by decide) (by decide))
  exact W.iret (v := x_2) hx hb hr (fun t9 ht hW => ⟨⟨x_2, (), rfl, ⟨hx_2, (by subst_vars; rfl)⟩, trivial⟩, hS.F ht⟩) hS.2.2 dX12_bit_5

set_option maxHeartbeats 4000000 in
set_option maxRecDepth 100000 in
theorem s_X12_isDistrict (l : Launch) (D : va_G) (t : Nat → ClassId) (a : Nat → Nat) (v200_0 : Int32) (v200_5 : Int32) (v200_7 : Int32) (v200_8 : Int32) (v200_9 : Int32) (v200_10 : Int32) (v200_11 : Int32) (v200_12 : Int32) (v200_13 : Int32) (v200_15 : Int32) (v200_17 : Int32) (v200_18 : Int32) (v200_19 : Int32) (v200_21 : Int32) (v200_23 : Int32) (v200_27 : Int32) (v200_28 : Int32) (v200_29 : Int32) (v200_33 : Int32) (v200_34 : Int32) (v200_35 : Int32) (f201 : Nat → Int32) (p0 : Int32) (r200_5 : rg 0 1600 v200_5) (r200_7 : rg 0 1600 v200_7) (r200_8 : rg 0 1600 v200_8) (r200_9 : rg 0 1600 v200_9) (r200_23 : rg 0 9 v200_23) (q201 : wR f201) : Met l yX12_isDistrict (wd yX12_isDistrict cX12_isDistrict 2 (some .boolean)) (RM 1 0 0) (PreP D (TY t) [.ref (a 200), .int p0] [(a 200, .inr (12, .int v200_0 :: .ref (a 201) :: .ref (a 202) :: .ref (a 203) :: .ref (a 204) :: .int v200_5 :: .ref (a 205) :: .int v200_7 :: .int v200_8 :: .int v200_9 :: .int v200_10 :: .int v200_11 :: .int v200_12 :: .int v200_13 :: .ref (a 206) :: .int v200_15 :: .ref (a 207) :: .int v200_17 :: .int v200_18 :: .int v200_19 :: .ref (a 208) :: .int v200_21 :: .ref (a 209) :: .int v200_23 :: .ref (a 210) :: .ref (a 211) :: .ref (a 212) :: .int v200_27 :: .int v200_28 :: .int v200_29 :: .ref (a 213) :: .ref (a 214) :: .ref (a 215) :: .int v200_33 :: .int v200_34 :: .int v200_35 :: .ref (a 216) :: .ref (a 217) :: .ref (a 218) :: .ref (a 219) :: [])), (a 201, .inl (t 0, 841, .inl f201))]) (QP (fun r => rg 0 1 r ∧ (r = 0 ∨ (rg 0 3 p0)))) 0 0 NoF := by
  refine Met.ofW (cc := cX12_isDistrict) (maxL := 2) (ret := (some .boolean)) (by decide) rfl ?_
  intro p e s m args below meth c s₁ B hml hv
  obtain ⟨rfl, hP, hK, hN⟩ := hv
  have hx := B.exec
  have hb := B.bytes
  have hr := B.returns
  have hts : ∀ w ∈ TB, w.before _ s = true := fun w h => atoms_spec (ws := wd yX12_isDistrict cX12_isDistrict 2 (some .boolean)) B.pre w (List.mem_cons_of_mem _ h)
  have hown : s.vm.findClass RX12 = some m.cls := findClass_of_methodNamed B.named
  have hlocks := B.notSynchronized
  have hF : CallFix p m c cX12_isDistrict 2 s _ TB RX12 := ⟨hx, hb, hml, hown, hts⟩
  have hl := lv_entry ([.ref (a 200), .int p0]) (n := 2) (Nat.le_of_ble_eq_true rfl)
  rw [lg_entry_eq]
  generalize (lg_sl ([.ref (a 200), .int p0]) ++ List.replicate (2 - (lg_sl ([.ref (a 200), .int p0])).length) Slot.unset).toArray = ls at hl ⊢
  have hl : lv_has ls 2 [(0, .ref (a 200)), (1, .int p0)] := hl
  have hS : va_S NoF s.heap s.heap [] := va_S.rf
  have hP : va_P D classes [(a 200, .inr (12, .int v200_0 :: .ref (a 201) :: .ref (a 202) :: .ref (a 203) :: .ref (a 204) :: .int v200_5 :: .ref (a 205) :: .int v200_7 :: .int v200_8 :: .int v200_9 :: .int v200_10 :: .int v200_11 :: .int v200_12 :: .int v200_13 :: .ref (a 206) :: .int v200_15 :: .ref (a 207) :: .int v200_17 :: .int v200_18 :: .int v200_19 :: .ref (a 208) :: .int v200_21 :: .ref (a 209) :: .int v200_23 :: .ref (a 210) :: .ref (a 211) :: .ref (a 212) :: .int v200_27 :: .int v200_28 :: .int v200_29 :: .ref (a 213) :: .ref (a 214) :: .ref (a 215) :: .int v200_33 :: .int v200_34 :: .int v200_35 :: .ref (a 216) :: .ref (a 217) :: .ref (a 218) :: .ref (a 219) :: [])), (a 201, .inl (t 0, 841, .inl f201))] s.heap := hP
  refine lv_iload_n hx hb dX12_isDistrict_0 rfl (lv_at hl 1 rfl) ?_
  refine lv_i2l hx hb dX12_isDistrict_1 rfl ?_
  refine lv_lconst (v := 0) hx hb dX12_isDistrict_2 rfl ?_
  refine lv_aload_n hx hb dX12_isDistrict_3 rfl (lv_at hl 0 rfl) ?_
  refine va_get (D := D) (ci := 12) (v := .ref (a 201)) (C := RX12) (T := TX12) (N := 40) hx hb hts iX12 hown hK hP 0 rfl rfl 1 (by decide) (hts _ m_1344) (fun _ h9 => h9) rfl dX12_isDistrict_4 ?_
  refine lv_iconst (v := 4) hx hb dX12_isDistrict_7 (by decide) ?_
  refine va_iald hx hb hK hP 1 0 rfl rfl (in_rg (rg_c (x := 4) (k := 4) (by decide)) (by decide) (by decide)) dX12_isDistrict_8 ?_
  refine x_seti (f201 4) rfl ?_
  have h_1 : rg 0 4 (f201 4) := q201 4 (by decide)
  refine lv_iconst (v := 1) hx hb dX12_isDistrict_9 (by decide) ?_
  refine lv_isub hx hb dX12_isDistrict_10 ?_
  refine lv_topi (fun x_2 ex_2 => ?_)
  have hx_2 : rg (-1) 3 x_2 := by rw [ex_2]; exact rg_sub h_1 (rg_c (x := 1) (k := 1) (by decide)) (by decide) (by decide) (by decide) (by decide)
  refine lv_i2l hx hb dX12_isDistrict_11 rfl ?_
  refine y_pS hF (s_X12_in l D t a ((p0).toInt64) 0 ((x_2).toInt64)) m_1469 m_1470 m_13 m_1471 hd_X12_in ⟨Nat.le_of_ble_eq_true rfl, Nat.le_of_ble_eq_true rfl⟩ hK hN hP hS [] rfl hl.1 rfl (Nat.le_of_ble_eq_true rfl) dX12_isDistrict_12 ⟨Nat.zero_le _, Nat.zero_le _⟩ (fun r_3 H locs hr_3 hP hS => ?_)
  exact W.zret (v := r_3) hx hb hr (nb_rg hr_3.1) (fun t9 ht hW => ⟨⟨r_3, (), rfl, ⟨hr_3.1, Or.imp_right (fun o9 => (rg_w (c := 0) (d := 3) (in_cvi (p := 0) (q := 3) o9 (rl_c (x := 0) (k := 0) (by decide)) (rl_i2l hx_2) (by decide) (by decide)) (by decide) (by decide))) hr_3.2⟩, trivial⟩, hS.F ht⟩) hS.2.2 dX12_isDistrict_15

set_option maxHeartbeats 4000000 in
set_option maxRecDepth 100000 in
theorem s_X12_isSpeaker (l : Launch) (D : va_G) (t : Nat → ClassId) (a : Nat → Nat) (v200_0 : Int32) (v200_5 : Int32) (v200_7 : Int32) (v200_8 : Int32) (v200_9 : Int32) (v200_10 : Int32) (v200_11 : Int32) (v200_12 : Int32) (v200_13 : Int32) (v200_15 : Int32) (v200_17 : Int32) (v200_18 : Int32) (v200_19 : Int32) (v200_21 : Int32) (v200_23 : Int32) (v200_27 : Int32) (v200_28 : Int32) (v200_29 : Int32) (v200_33 : Int32) (v200_34 : Int32) (v200_35 : Int32) (f201 : Nat → Int32) (p0 : Int32) (r200_5 : rg 0 1600 v200_5) (r200_7 : rg 0 1600 v200_7) (r200_8 : rg 0 1600 v200_8) (r200_9 : rg 0 1600 v200_9) (r200_23 : rg 0 9 v200_23) (q201 : wR f201) : Met l yX12_isSpeaker (wd yX12_isSpeaker cX12_isSpeaker 2 (some .boolean)) (RM 1 0 0) (PreP D (TY t) [.ref (a 200), .int p0] [(a 200, .inr (12, .int v200_0 :: .ref (a 201) :: .ref (a 202) :: .ref (a 203) :: .ref (a 204) :: .int v200_5 :: .ref (a 205) :: .int v200_7 :: .int v200_8 :: .int v200_9 :: .int v200_10 :: .int v200_11 :: .int v200_12 :: .int v200_13 :: .ref (a 206) :: .int v200_15 :: .ref (a 207) :: .int v200_17 :: .int v200_18 :: .int v200_19 :: .ref (a 208) :: .int v200_21 :: .ref (a 209) :: .int v200_23 :: .ref (a 210) :: .ref (a 211) :: .ref (a 212) :: .int v200_27 :: .int v200_28 :: .int v200_29 :: .ref (a 213) :: .ref (a 214) :: .ref (a 215) :: .int v200_33 :: .int v200_34 :: .int v200_35 :: .ref (a 216) :: .ref (a 217) :: .ref (a 218) :: .ref (a 219) :: [])), (a 201, .inl (t 0, 841, .inl f201))]) (QP (fun r => rg 0 1 r ∧ (r = 0 ∨ (rg 0 8 p0)))) 0 0 NoF := by
  refine Met.ofW (cc := cX12_isSpeaker) (maxL := 2) (ret := (some .boolean)) (by decide) rfl ?_
  intro p e s m args below meth c s₁ B hml hv
  obtain ⟨rfl, hP, hK, hN⟩ := hv
  have hx := B.exec
  have hb := B.bytes
  have hr := B.returns
  have hts : ∀ w ∈ TB, w.before _ s = true := fun w h => atoms_spec (ws := wd yX12_isSpeaker cX12_isSpeaker 2 (some .boolean)) B.pre w (List.mem_cons_of_mem _ h)
  have hown : s.vm.findClass RX12 = some m.cls := findClass_of_methodNamed B.named
  have hlocks := B.notSynchronized
  have hF : CallFix p m c cX12_isSpeaker 2 s _ TB RX12 := ⟨hx, hb, hml, hown, hts⟩
  have hl := lv_entry ([.ref (a 200), .int p0]) (n := 2) (Nat.le_of_ble_eq_true rfl)
  rw [lg_entry_eq]
  generalize (lg_sl ([.ref (a 200), .int p0]) ++ List.replicate (2 - (lg_sl ([.ref (a 200), .int p0])).length) Slot.unset).toArray = ls at hl ⊢
  have hl : lv_has ls 2 [(0, .ref (a 200)), (1, .int p0)] := hl
  have hS : va_S NoF s.heap s.heap [] := va_S.rf
  have hP : va_P D classes [(a 200, .inr (12, .int v200_0 :: .ref (a 201) :: .ref (a 202) :: .ref (a 203) :: .ref (a 204) :: .int v200_5 :: .ref (a 205) :: .int v200_7 :: .int v200_8 :: .int v200_9 :: .int v200_10 :: .int v200_11 :: .int v200_12 :: .int v200_13 :: .ref (a 206) :: .int v200_15 :: .ref (a 207) :: .int v200_17 :: .int v200_18 :: .int v200_19 :: .ref (a 208) :: .int v200_21 :: .ref (a 209) :: .int v200_23 :: .ref (a 210) :: .ref (a 211) :: .ref (a 212) :: .int v200_27 :: .int v200_28 :: .int v200_29 :: .ref (a 213) :: .ref (a 214) :: .ref (a 215) :: .int v200_33 :: .int v200_34 :: .int v200_35 :: .ref (a 216) :: .ref (a 217) :: .ref (a 218) :: .ref (a 219) :: [])), (a 201, .inl (t 0, 841, .inl f201))] s.heap := hP
  refine lv_iload_n hx hb dX12_isSpeaker_0 rfl (lv_at hl 1 rfl) ?_
  refine lv_i2l hx hb dX12_isSpeaker_1 rfl ?_
  refine lv_lconst (v := 0) hx hb dX12_isSpeaker_2 rfl ?_
  refine lv_aload_n hx hb dX12_isSpeaker_3 rfl (lv_at hl 0 rfl) ?_
  refine va_get (D := D) (ci := 12) (v := .ref (a 201)) (C := RX12) (T := TX12) (N := 40) hx hb hts iX12 hown hK hP 0 rfl rfl 1 (by decide) (hts _ m_1344) (fun _ h9 => h9) rfl dX12_isSpeaker_4 ?_
  refine lv_bipush (v := 6) hx hb dX12_isSpeaker_7 (by decide) ?_
  refine va_iald hx hb hK hP 1 0 rfl rfl (in_rg (rg_c (x := 6) (k := 6) (by decide)) (by decide) (by decide)) dX12_isSpeaker_9 ?_
  refine x_seti (f201 6) rfl ?_
  have h_1 : rg 0 9 (f201 6) := q201 6 (by decide)
  refine lv_iconst (v := 1) hx hb dX12_isSpeaker_10 (by decide) ?_
  refine lv_isub hx hb dX12_isSpeaker_11 ?_
  refine lv_topi (fun x_2 ex_2 => ?_)
  have hx_2 : rg (-1) 8 x_2 := by rw [ex_2]; exact rg_sub h_1 (rg_c (x := 1) (k := 1) (by decide)) (by decide) (by decide) (by decide) (by decide)
  refine lv_i2l hx hb dX12_isSpeaker_12 rfl ?_
  refine y_pS hF (s_X12_in l D t a ((p0).toInt64) 0 ((x_2).toInt64)) m_1469 m_1470 m_13 m_1471 hd_X12_in ⟨Nat.le_of_ble_eq_true rfl, Nat.le_of_ble_eq_true rfl⟩ hK hN hP hS [] rfl hl.1 rfl (Nat.le_of_ble_eq_true rfl) dX12_isSpeaker_13 ⟨Nat.zero_le _, Nat.zero_le _⟩ (fun r_3 H locs hr_3 hP hS => ?_)
  exact W.zret (v := r_3) hx hb hr (nb_rg hr_3.1) (fun t9 ht hW => ⟨⟨r_3, (), rfl, ⟨hr_3.1, Or.imp_right (fun o9 => (rg_w (c := 0) (d := 8) (in_cvi (p := 0) (q := 8) o9 (rl_c (x := 0) (k := 0) (by decide)) (rl_i2l hx_2) (by decide) (by decide)) (by decide) (by decide))) hr_3.2⟩, trivial⟩, hS.F ht⟩) hS.2.2 dX12_isSpeaker_16

set_option maxHeartbeats 4000000 in
set_option maxRecDepth 100000 in
theorem s_X12_isWord (l : Launch) (D : va_G) (t : Nat → ClassId) (a : Nat → Nat) (v200_0 : Int32) (v200_5 : Int32) (v200_7 : Int32) (v200_8 : Int32) (v200_9 : Int32) (v200_10 : Int32) (v200_11 : Int32) (v200_12 : Int32) (v200_13 : Int32) (v200_15 : Int32) (v200_17 : Int32) (v200_18 : Int32) (v200_19 : Int32) (v200_21 : Int32) (v200_23 : Int32) (v200_27 : Int32) (v200_28 : Int32) (v200_29 : Int32) (v200_33 : Int32) (v200_34 : Int32) (v200_35 : Int32) (f201 : Nat → Int32) (p0 : Int64) (r200_5 : rg 0 1600 v200_5) (r200_7 : rg 0 1600 v200_7) (r200_8 : rg 0 1600 v200_8) (r200_9 : rg 0 1600 v200_9) (r200_23 : rg 0 9 v200_23) (q201 : wR f201) : Met l yX12_isWord (wd yX12_isWord cX12_isWord 3 (some .boolean)) (RM 1 0 0) (PreP D (TY t) [.ref (a 200), .long p0] [(a 200, .inr (12, .int v200_0 :: .ref (a 201) :: .ref (a 202) :: .ref (a 203) :: .ref (a 204) :: .int v200_5 :: .ref (a 205) :: .int v200_7 :: .int v200_8 :: .int v200_9 :: .int v200_10 :: .int v200_11 :: .int v200_12 :: .int v200_13 :: .ref (a 206) :: .int v200_15 :: .ref (a 207) :: .int v200_17 :: .int v200_18 :: .int v200_19 :: .ref (a 208) :: .int v200_21 :: .ref (a 209) :: .int v200_23 :: .ref (a 210) :: .ref (a 211) :: .ref (a 212) :: .int v200_27 :: .int v200_28 :: .int v200_29 :: .ref (a 213) :: .ref (a 214) :: .ref (a 215) :: .int v200_33 :: .int v200_34 :: .int v200_35 :: .ref (a 216) :: .ref (a 217) :: .ref (a 218) :: .ref (a 219) :: [])), (a 201, .inl (t 0, 841, .inl f201))]) (QP (fun r => rg 0 1 r ∧ (r = 0 ∨ (rl 0 8 p0)))) 0 0 NoF := by
  refine Met.ofW (cc := cX12_isWord) (maxL := 3) (ret := (some .boolean)) (by decide) rfl ?_
  intro p e s m args below meth c s₁ B hml hv
  obtain ⟨rfl, hP, hK, hN⟩ := hv
  have hx := B.exec
  have hb := B.bytes
  have hr := B.returns
  have hts : ∀ w ∈ TB, w.before _ s = true := fun w h => atoms_spec (ws := wd yX12_isWord cX12_isWord 3 (some .boolean)) B.pre w (List.mem_cons_of_mem _ h)
  have hown : s.vm.findClass RX12 = some m.cls := findClass_of_methodNamed B.named
  have hlocks := B.notSynchronized
  have hF : CallFix p m c cX12_isWord 3 s _ TB RX12 := ⟨hx, hb, hml, hown, hts⟩
  have hl := lv_entry ([.ref (a 200), .long p0]) (n := 3) (Nat.le_of_ble_eq_true rfl)
  rw [lg_entry_eq]
  generalize (lg_sl ([.ref (a 200), .long p0]) ++ List.replicate (3 - (lg_sl ([.ref (a 200), .long p0])).length) Slot.unset).toArray = ls at hl ⊢
  have hl : lv_has ls 3 [(0, .ref (a 200)), (1, .long p0)] := hl
  have hS : va_S NoF s.heap s.heap [] := va_S.rf
  have hP : va_P D classes [(a 200, .inr (12, .int v200_0 :: .ref (a 201) :: .ref (a 202) :: .ref (a 203) :: .ref (a 204) :: .int v200_5 :: .ref (a 205) :: .int v200_7 :: .int v200_8 :: .int v200_9 :: .int v200_10 :: .int v200_11 :: .int v200_12 :: .int v200_13 :: .ref (a 206) :: .int v200_15 :: .ref (a 207) :: .int v200_17 :: .int v200_18 :: .int v200_19 :: .ref (a 208) :: .int v200_21 :: .ref (a 209) :: .int v200_23 :: .ref (a 210) :: .ref (a 211) :: .ref (a 212) :: .int v200_27 :: .int v200_28 :: .int v200_29 :: .ref (a 213) :: .ref (a 214) :: .ref (a 215) :: .int v200_33 :: .int v200_34 :: .int v200_35 :: .ref (a 216) :: .ref (a 217) :: .ref (a 218) :: .ref (a 219) :: [])), (a 201, .inl (t 0, 841, .inl f201))] s.heap := hP
  refine lv_lload_n hx hb dX12_isWord_0 rfl (lv_at hl 1 rfl) ?_
  refine lv_lconst (v := 0) hx hb dX12_isWord_1 rfl ?_
  refine lv_aload_n hx hb dX12_isWord_2 rfl (lv_at hl 0 rfl) ?_
  refine va_get (D := D) (ci := 12) (v := .ref (a 201)) (C := RX12) (T := TX12) (N := 40) hx hb hts iX12 hown hK hP 0 rfl rfl 1 (by decide) (hts _ m_1344) (fun _ h9 => h9) rfl dX12_isWord_3 ?_
  refine lv_iconst (v := 5) hx hb dX12_isWord_6 (by decide) ?_
  refine va_iald hx hb hK hP 1 0 rfl rfl (in_rg (rg_c (x := 5) (k := 5) (by decide)) (by decide) (by decide)) dX12_isWord_7 ?_
  refine x_seti (f201 5) rfl ?_
  have h_1 : rg 0 9 (f201 5) := q201 5 (by decide)
  refine lv_iconst (v := 1) hx hb dX12_isWord_8 (by decide) ?_
  refine lv_isub hx hb dX12_isWord_9 ?_
  refine lv_topi (fun x_2 ex_2 => ?_)
  have hx_2 : rg (-1) 8 x_2 := by rw [ex_2]; exact rg_sub h_1 (rg_c (x := 1) (k := 1) (by decide)) (by decide) (by decide) (by decide) (by decide)
  refine lv_i2l hx hb dX12_isWord_10 rfl ?_
  refine y_pS hF (s_X12_in l D t a p0 0 ((x_2).toInt64)) m_1469 m_1470 m_13 m_1471 hd_X12_in ⟨Nat.le_of_ble_eq_true rfl, Nat.le_of_ble_eq_true rfl⟩ hK hN hP hS [] rfl hl.1 rfl (Nat.le_of_ble_eq_true rfl) dX12_isWord_11 ⟨Nat.zero_le _, Nat.zero_le _⟩ (fun r_3 H locs hr_3 hP hS => ?_)
  exact W.zret (v := r_3) hx hb hr (nb_rg hr_3.1) (fun t9 ht hW => ⟨⟨r_3, (), rfl, ⟨hr_3.1, Or.imp_right (fun o9 => (rl_w (c := 0) (d := 8) (in_cvl (p := 0) (q := 8) o9 (rl_c (x := 0) (k := 0) (by decide)) (rl_i2l hx_2) (by decide) (by decide)) (by decide) (by decide))) hr_3.2⟩, trivial⟩, hS.F ht⟩) hS.2.2 dX12_isWord_14

set_option maxHeartbeats 4000000 in
set_option maxRecDepth 100000 in
theorem s_X12_isMeaning (l : Launch) (D : va_G) (t : Nat → ClassId) (a : Nat → Nat) (v200_0 : Int32) (v200_5 : Int32) (v200_7 : Int32) (v200_8 : Int32) (v200_9 : Int32) (v200_10 : Int32) (v200_11 : Int32) (v200_12 : Int32) (v200_13 : Int32) (v200_15 : Int32) (v200_17 : Int32) (v200_18 : Int32) (v200_19 : Int32) (v200_21 : Int32) (v200_23 : Int32) (v200_27 : Int32) (v200_28 : Int32) (v200_29 : Int32) (v200_33 : Int32) (v200_34 : Int32) (v200_35 : Int32) (f201 : Nat → Int32) (p0 : Int64) (r200_5 : rg 0 1600 v200_5) (r200_7 : rg 0 1600 v200_7) (r200_8 : rg 0 1600 v200_8) (r200_9 : rg 0 1600 v200_9) (r200_23 : rg 0 9 v200_23) (q201 : wR f201) : Met l yX12_isMeaning (wd yX12_isMeaning cX12_isMeaning 3 (some .boolean)) (RM 1 0 0) (PreP D (TY t) [.ref (a 200), .long p0] [(a 200, .inr (12, .int v200_0 :: .ref (a 201) :: .ref (a 202) :: .ref (a 203) :: .ref (a 204) :: .int v200_5 :: .ref (a 205) :: .int v200_7 :: .int v200_8 :: .int v200_9 :: .int v200_10 :: .int v200_11 :: .int v200_12 :: .int v200_13 :: .ref (a 206) :: .int v200_15 :: .ref (a 207) :: .int v200_17 :: .int v200_18 :: .int v200_19 :: .ref (a 208) :: .int v200_21 :: .ref (a 209) :: .int v200_23 :: .ref (a 210) :: .ref (a 211) :: .ref (a 212) :: .int v200_27 :: .int v200_28 :: .int v200_29 :: .ref (a 213) :: .ref (a 214) :: .ref (a 215) :: .int v200_33 :: .int v200_34 :: .int v200_35 :: .ref (a 216) :: .ref (a 217) :: .ref (a 218) :: .ref (a 219) :: [])), (a 201, .inl (t 0, 841, .inl f201))]) (QP (fun r => rg 0 1 r ∧ (r = 0 ∨ (rl 0 7 p0)))) 0 0 NoF := by
  refine Met.ofW (cc := cX12_isMeaning) (maxL := 3) (ret := (some .boolean)) (by decide) rfl ?_
  intro p e s m args below meth c s₁ B hml hv
  obtain ⟨rfl, hP, hK, hN⟩ := hv
  have hx := B.exec
  have hb := B.bytes
  have hr := B.returns
  have hts : ∀ w ∈ TB, w.before _ s = true := fun w h => atoms_spec (ws := wd yX12_isMeaning cX12_isMeaning 3 (some .boolean)) B.pre w (List.mem_cons_of_mem _ h)
  have hown : s.vm.findClass RX12 = some m.cls := findClass_of_methodNamed B.named
  have hlocks := B.notSynchronized
  have hF : CallFix p m c cX12_isMeaning 3 s _ TB RX12 := ⟨hx, hb, hml, hown, hts⟩
  have hl := lv_entry ([.ref (a 200), .long p0]) (n := 3) (Nat.le_of_ble_eq_true rfl)
  rw [lg_entry_eq]
  generalize (lg_sl ([.ref (a 200), .long p0]) ++ List.replicate (3 - (lg_sl ([.ref (a 200), .long p0])).length) Slot.unset).toArray = ls at hl ⊢
  have hl : lv_has ls 3 [(0, .ref (a 200)), (1, .long p0)] := hl
  have hS : va_S NoF s.heap s.heap [] := va_S.rf
  have hP : va_P D classes [(a 200, .inr (12, .int v200_0 :: .ref (a 201) :: .ref (a 202) :: .ref (a 203) :: .ref (a 204) :: .int v200_5 :: .ref (a 205) :: .int v200_7 :: .int v200_8 :: .int v200_9 :: .int v200_10 :: .int v200_11 :: .int v200_12 :: .int v200_13 :: .ref (a 206) :: .int v200_15 :: .ref (a 207) :: .int v200_17 :: .int v200_18 :: .int v200_19 :: .ref (a 208) :: .int v200_21 :: .ref (a 209) :: .int v200_23 :: .ref (a 210) :: .ref (a 211) :: .ref (a 212) :: .int v200_27 :: .int v200_28 :: .int v200_29 :: .ref (a 213) :: .ref (a 214) :: .ref (a 215) :: .int v200_33 :: .int v200_34 :: .int v200_35 :: .ref (a 216) :: .ref (a 217) :: .ref (a 218) :: .ref (a 219) :: [])), (a 201, .inl (t 0, 841, .inl f201))] s.heap := hP
  refine lv_lload_n hx hb dX12_isMeaning_0 rfl (lv_at hl 1 rfl) ?_
  refine lv_lconst (v := 0) hx hb dX12_isMeaning_1 rfl ?_
  refine lv_aload_n hx hb dX12_isMeaning_2 rfl (lv_at hl 0 rfl) ?_
  refine va_get (D := D) (ci := 12) (v := .ref (a 201)) (C := RX12) (T := TX12) (N := 40) hx hb hts iX12 hown hK hP 0 rfl rfl 1 (by decide) (hts _ m_1344) (fun _ h9 => h9) rfl dX12_isMeaning_3 ?_
  refine lv_iconst (v := 0) hx hb dX12_isMeaning_6 (by decide) ?_
  refine va_iald hx hb hK hP 1 0 rfl rfl (in_rg (rg_c (x := 0) (k := 0) (by decide)) (by decide) (by decide)) dX12_isMeaning_7 ?_
  refine x_seti (f201 0) rfl ?_
  have h_1 : rg 0 8 (f201 0) := q201 0 (by decide)
  refine lv_iconst (v := 1) hx hb dX12_isMeaning_8 (by decide) ?_
  refine lv_isub hx hb dX12_isMeaning_9 ?_
  refine lv_topi (fun x_2 ex_2 => ?_)
  have hx_2 : rg (-1) 7 x_2 := by rw [ex_2]; exact rg_sub h_1 (rg_c (x := 1) (k := 1) (by decide)) (by decide) (by decide) (by decide) (by decide)
  refine lv_i2l hx hb dX12_isMeaning_10 rfl ?_
  refine y_pS hF (s_X12_in l D t a p0 0 ((x_2).toInt64)) m_1469 m_1470 m_13 m_1471 hd_X12_in ⟨Nat.le_of_ble_eq_true rfl, Nat.le_of_ble_eq_true rfl⟩ hK hN hP hS [] rfl hl.1 rfl (Nat.le_of_ble_eq_true rfl) dX12_isMeaning_11 ⟨Nat.zero_le _, Nat.zero_le _⟩ (fun r_3 H locs hr_3 hP hS => ?_)
  exact W.zret (v := r_3) hx hb hr (nb_rg hr_3.1) (fun t9 ht hW => ⟨⟨r_3, (), rfl, ⟨hr_3.1, Or.imp_right (fun o9 => (rl_w (c := 0) (d := 7) (in_cvl (p := 0) (q := 7) o9 (rl_c (x := 0) (k := 0) (by decide)) (rl_i2l hx_2) (by decide) (by decide)) (by decide) (by decide))) hr_3.2⟩, trivial⟩, hS.F ht⟩) hS.2.2 dX12_isMeaning_14

set_option maxHeartbeats 4000000 in
set_option maxRecDepth 100000 in
theorem s_X12_isChamber (l : Launch) (D : va_G) (t : Nat → ClassId) (a : Nat → Nat) (v200_0 : Int32) (v200_5 : Int32) (v200_7 : Int32) (v200_8 : Int32) (v200_9 : Int32) (v200_10 : Int32) (v200_11 : Int32) (v200_12 : Int32) (v200_13 : Int32) (v200_15 : Int32) (v200_17 : Int32) (v200_18 : Int32) (v200_19 : Int32) (v200_21 : Int32) (v200_23 : Int32) (v200_27 : Int32) (v200_28 : Int32) (v200_29 : Int32) (v200_33 : Int32) (v200_34 : Int32) (v200_35 : Int32) (f201 : Nat → Int32) (r200_5 : rg 0 1600 v200_5) (r200_7 : rg 0 1600 v200_7) (r200_8 : rg 0 1600 v200_8) (r200_9 : rg 0 1600 v200_9) (r200_23 : rg 0 9 v200_23) (q201 : wR f201) : Met l yX12_isChamber (wd yX12_isChamber cX12_isChamber 1 (some .boolean)) (RM 0 0 0) (PreP D (TY t) [.ref (a 200)] [(a 200, .inr (12, .int v200_0 :: .ref (a 201) :: .ref (a 202) :: .ref (a 203) :: .ref (a 204) :: .int v200_5 :: .ref (a 205) :: .int v200_7 :: .int v200_8 :: .int v200_9 :: .int v200_10 :: .int v200_11 :: .int v200_12 :: .int v200_13 :: .ref (a 206) :: .int v200_15 :: .ref (a 207) :: .int v200_17 :: .int v200_18 :: .int v200_19 :: .ref (a 208) :: .int v200_21 :: .ref (a 209) :: .int v200_23 :: .ref (a 210) :: .ref (a 211) :: .ref (a 212) :: .int v200_27 :: .int v200_28 :: .int v200_29 :: .ref (a 213) :: .ref (a 214) :: .ref (a 215) :: .int v200_33 :: .int v200_34 :: .int v200_35 :: .ref (a 216) :: .ref (a 217) :: .ref (a 218) :: .ref (a 219) :: [])), (a 201, .inl (t 0, 841, .inl f201))]) (QP (fun r => rg 0 1 r)) 0 0 NoF := by
  refine Met.ofW (cc := cX12_isChamber) (maxL := 1) (ret := (some .boolean)) (by decide) rfl ?_
  intro p e s m args below meth c s₁ B hml hv
  obtain ⟨rfl, hP, hK, hN⟩ := hv
  have hx := B.exec
  have hb := B.bytes
  have hr := B.returns
  have hts : ∀ w ∈ TB, w.before _ s = true := fun w h => atoms_spec (ws := wd yX12_isChamber cX12_isChamber 1 (some .boolean)) B.pre w (List.mem_cons_of_mem _ h)
  have hown : s.vm.findClass RX12 = some m.cls := findClass_of_methodNamed B.named
  have hlocks := B.notSynchronized
  have hF : CallFix p m c cX12_isChamber 1 s _ TB RX12 := ⟨hx, hb, hml, hown, hts⟩
  have hl := lv_entry ([.ref (a 200)]) (n := 1) (Nat.le_of_ble_eq_true rfl)
  rw [lg_entry_eq]
  generalize (lg_sl ([.ref (a 200)]) ++ List.replicate (1 - (lg_sl ([.ref (a 200)])).length) Slot.unset).toArray = ls at hl ⊢
  have hl : lv_has ls 1 [(0, .ref (a 200))] := hl
  have hS : va_S NoF s.heap s.heap [] := va_S.rf
  have hP : va_P D classes [(a 200, .inr (12, .int v200_0 :: .ref (a 201) :: .ref (a 202) :: .ref (a 203) :: .ref (a 204) :: .int v200_5 :: .ref (a 205) :: .int v200_7 :: .int v200_8 :: .int v200_9 :: .int v200_10 :: .int v200_11 :: .int v200_12 :: .int v200_13 :: .ref (a 206) :: .int v200_15 :: .ref (a 207) :: .int v200_17 :: .int v200_18 :: .int v200_19 :: .ref (a 208) :: .int v200_21 :: .ref (a 209) :: .int v200_23 :: .ref (a 210) :: .ref (a 211) :: .ref (a 212) :: .int v200_27 :: .int v200_28 :: .int v200_29 :: .ref (a 213) :: .ref (a 214) :: .ref (a 215) :: .int v200_33 :: .int v200_34 :: .int v200_35 :: .ref (a 216) :: .ref (a 217) :: .ref (a 218) :: .ref (a 219) :: [])), (a 201, .inl (t 0, 841, .inl f201))] s.heap := hP
  refine lv_aload_n hx hb dX12_isChamber_0 rfl (lv_at hl 0 rfl) ?_
  refine va_get (D := D) (ci := 12) (v := .ref (a 201)) (C := RX12) (T := TX12) (N := 40) hx hb hts iX12 hown hK hP 0 rfl rfl 1 (by decide) (hts _ m_1344) (fun _ h9 => h9) rfl dX12_isChamber_1 ?_
  refine lv_bipush (v := 9) hx hb dX12_isChamber_4 (by decide) ?_
  refine va_iald hx hb hK hP 1 0 rfl rfl (in_rg (rg_c (x := 9) (k := 9) (by decide)) (by decide) (by decide)) dX12_isChamber_6 ?_
  refine x_seti (f201 9) rfl ?_
  refine lv_if_le (tgt := 14) hx hb dX12_isChamber_7 (by decide) (fun c_1 => ?_) (fun c_1 => ?_)
  · skip
    have h_2 : rg (-2147483648) 0 (f201 9) := ⟨((rg_any (f201 9))).1, Int.le_trans (c_le c_1 (rg_c (x := 0) (k := 0) (by decide))) (by decide)⟩
    refine lv_iconst (v := 0) hx hb dX12_isChamber_14 (by decide) ?_
    exact W.zret (v := 0) hx hb hr rfl (fun t9 ht hW => ⟨⟨0, (), rfl, (rg_w (c := 0) (d := 1) (rg_c (x := 0) (k := 0) (by decide)) (by decide) (by decide)), trivial⟩, hS.F ht⟩) hS.2.2 dX12_isChamber_15
  · skip
    have h_3 : rg 1 2147483647 (f201 9) := ⟨Int.le_trans (by decide) (c_nle c_1 (rg_c (x := 0) (k := 0) (by decide))), ((rg_any (f201 9))).2⟩
    refine lv_iconst (v := 1) hx hb dX12_isChamber_10 (by decide) ?_
    refine lv_goto (tgt := 15) hx hb dX12_isChamber_11 (by decide) ?_
    exact W.zret (v := 1) hx hb hr rfl (fun t9 ht hW => ⟨⟨1, (), rfl, (rg_w (c := 0) (d := 1) (rg_c (x := 1) (k := 1) (by decide)) (by decide) (by decide)), trivial⟩, hS.F ht⟩) hS.2.2 dX12_isChamber_15

set_option maxHeartbeats 4000000 in
set_option maxRecDepth 100000 in
theorem s_X12_isLaw (l : Launch) (D : va_G) (t : Nat → ClassId) (a : Nat → Nat) (p0 : Int32) : Met l yX12_isLaw (wd yX12_isLaw cX12_isLaw 1 (some .boolean)) (RM 1 0 0) (PreP D (TY t) [.int p0] []) (QP (fun r => rg 0 1 r ∧ (r = 0 ∨ (rg 0 3 p0)))) 0 0 NoF := by
  refine Met.ofW (cc := cX12_isLaw) (maxL := 1) (ret := (some .boolean)) (by decide) rfl ?_
  intro p e s m args below meth c s₁ B hml hv
  obtain ⟨rfl, hP, hK, hN⟩ := hv
  have hx := B.exec
  have hb := B.bytes
  have hr := B.returns
  have hts : ∀ w ∈ TB, w.before _ s = true := fun w h => atoms_spec (ws := wd yX12_isLaw cX12_isLaw 1 (some .boolean)) B.pre w (List.mem_cons_of_mem _ h)
  have hown : s.vm.findClass RX12 = some m.cls := findClass_of_methodNamed B.named
  have hlocks := B.notSynchronized
  have hF : CallFix p m c cX12_isLaw 1 s _ TB RX12 := ⟨hx, hb, hml, hown, hts⟩
  have hl := lv_entry ([.int p0]) (n := 1) (Nat.le_of_ble_eq_true rfl)
  rw [lg_entry_eq]
  generalize (lg_sl ([.int p0]) ++ List.replicate (1 - (lg_sl ([.int p0])).length) Slot.unset).toArray = ls at hl ⊢
  have hl : lv_has ls 1 [(0, .int p0)] := hl
  have hS : va_S NoF s.heap s.heap [] := va_S.rf
  have hP : va_P D classes [] s.heap := hP
  refine lv_iload_n hx hb dX12_isLaw_0 rfl (lv_at hl 0 rfl) ?_
  refine lv_i2l hx hb dX12_isLaw_1 rfl ?_
  refine lv_lconst (v := 0) hx hb dX12_isLaw_2 rfl ?_
  refine lv_ldc2 (v := 3) hx hb hown (hts _ m_1627) dX12_isLaw_3 ?_
  refine y_pS hF (s_X12_in l D t a ((p0).toInt64) 0 3) m_1469 m_1470 m_13 m_1471 hd_X12_in ⟨Nat.le_of_ble_eq_true rfl, Nat.le_of_ble_eq_true rfl⟩ hK hN hP hS [] rfl hl.1 rfl (Nat.le_of_ble_eq_true rfl) dX12_isLaw_6 ⟨Nat.zero_le _, Nat.zero_le _⟩ (fun r_1 H locs hr_1 hP hS => ?_)
  exact W.zret (v := r_1) hx hb hr (nb_rg hr_1.1) (fun t9 ht hW => ⟨⟨r_1, (), rfl, ⟨hr_1.1, Or.imp_right (fun o9 => (rg_w (c := 0) (d := 3) (in_cvi (p := 0) (q := 3) o9 (rl_c (x := 0) (k := 0) (by decide)) (rl_c (x := 3) (k := 3) (by decide)) (by decide) (by decide)) (by decide) (by decide))) hr_1.2⟩, trivial⟩, hS.F ht⟩) hS.2.2 dX12_isLaw_9

set_option maxHeartbeats 4000000 in
set_option maxRecDepth 100000 in
theorem s_X12_isParty (l : Launch) (D : va_G) (t : Nat → ClassId) (a : Nat → Nat) (p0 : Int32) : Met l yX12_isParty (wd yX12_isParty cX12_isParty 1 (some .boolean)) (RM 1 0 0) (PreP D (TY t) [.int p0] []) (QP (fun r => rg 0 1 r ∧ (r = 0 ∨ (rg 0 3 p0)))) 0 0 NoF := by
  refine Met.ofW (cc := cX12_isParty) (maxL := 1) (ret := (some .boolean)) (by decide) rfl ?_
  intro p e s m args below meth c s₁ B hml hv
  obtain ⟨rfl, hP, hK, hN⟩ := hv
  have hx := B.exec
  have hb := B.bytes
  have hr := B.returns
  have hts : ∀ w ∈ TB, w.before _ s = true := fun w h => atoms_spec (ws := wd yX12_isParty cX12_isParty 1 (some .boolean)) B.pre w (List.mem_cons_of_mem _ h)
  have hown : s.vm.findClass RX12 = some m.cls := findClass_of_methodNamed B.named
  have hlocks := B.notSynchronized
  have hF : CallFix p m c cX12_isParty 1 s _ TB RX12 := ⟨hx, hb, hml, hown, hts⟩
  have hl := lv_entry ([.int p0]) (n := 1) (Nat.le_of_ble_eq_true rfl)
  rw [lg_entry_eq]
  generalize (lg_sl ([.int p0]) ++ List.replicate (1 - (lg_sl ([.int p0])).length) Slot.unset).toArray = ls at hl ⊢
  have hl : lv_has ls 1 [(0, .int p0)] := hl
  have hS : va_S NoF s.heap s.heap [] := va_S.rf
  have hP : va_P D classes [] s.heap := hP
  refine lv_iload_n hx hb dX12_isParty_0 rfl (lv_at hl 0 rfl) ?_
  refine lv_i2l hx hb dX12_isParty_1 rfl ?_
  refine lv_lconst (v := 0) hx hb dX12_isParty_2 rfl ?_
  refine lv_ldc2 (v := 3) hx hb hown (hts _ m_1627) dX12_isParty_3 ?_
  refine y_pS hF (s_X12_in l D t a ((p0).toInt64) 0 3) m_1469 m_1470 m_13 m_1471 hd_X12_in ⟨Nat.le_of_ble_eq_true rfl, Nat.le_of_ble_eq_true rfl⟩ hK hN hP hS [] rfl hl.1 rfl (Nat.le_of_ble_eq_true rfl) dX12_isParty_6 ⟨Nat.zero_le _, Nat.zero_le _⟩ (fun r_1 H locs hr_1 hP hS => ?_)
  exact W.zret (v := r_1) hx hb hr (nb_rg hr_1.1) (fun t9 ht hW => ⟨⟨r_1, (), rfl, ⟨hr_1.1, Or.imp_right (fun o9 => (rg_w (c := 0) (d := 3) (in_cvi (p := 0) (q := 3) o9 (rl_c (x := 0) (k := 0) (by decide)) (rl_c (x := 3) (k := 3) (by decide)) (by decide) (by decide)) (by decide) (by decide))) hr_1.2⟩, trivial⟩, hS.F ht⟩) hS.2.2 dX12_isParty_9

set_option maxHeartbeats 4000000 in
set_option maxRecDepth 100000 in
theorem s_X12_isSlot (l : Launch) (D : va_G) (t : Nat → ClassId) (a : Nat → Nat) (p0 : Int32) : Met l yX12_isSlot (wd yX12_isSlot cX12_isSlot 1 (some .boolean)) (RM 1 0 0) (PreP D (TY t) [.int p0] []) (QP (fun r => rg 0 1 r ∧ (r = 0 ∨ (rg 0 3 p0)))) 0 0 NoF := by
  refine Met.ofW (cc := cX12_isSlot) (maxL := 1) (ret := (some .boolean)) (by decide) rfl ?_
  intro p e s m args below meth c s₁ B hml hv
  obtain ⟨rfl, hP, hK, hN⟩ := hv
  have hx := B.exec
  have hb := B.bytes
  have hr := B.returns
  have hts : ∀ w ∈ TB, w.before _ s = true := fun w h => atoms_spec (ws := wd yX12_isSlot cX12_isSlot 1 (some .boolean)) B.pre w (List.mem_cons_of_mem _ h)
  have hown : s.vm.findClass RX12 = some m.cls := findClass_of_methodNamed B.named
  have hlocks := B.notSynchronized
  have hF : CallFix p m c cX12_isSlot 1 s _ TB RX12 := ⟨hx, hb, hml, hown, hts⟩
  have hl := lv_entry ([.int p0]) (n := 1) (Nat.le_of_ble_eq_true rfl)
  rw [lg_entry_eq]
  generalize (lg_sl ([.int p0]) ++ List.replicate (1 - (lg_sl ([.int p0])).length) Slot.unset).toArray = ls at hl ⊢
  have hl : lv_has ls 1 [(0, .int p0)] := hl
  have hS : va_S NoF s.heap s.heap [] := va_S.rf
  have hP : va_P D classes [] s.heap := hP
  refine lv_iload_n hx hb dX12_isSlot_0 rfl (lv_at hl 0 rfl) ?_
  refine lv_i2l hx hb dX12_isSlot_1 rfl ?_
  refine lv_lconst (v := 0) hx hb dX12_isSlot_2 rfl ?_
  refine lv_ldc2 (v := 3) hx hb hown (hts _ m_1627) dX12_isSlot_3 ?_
  refine y_pS hF (s_X12_in l D t a ((p0).toInt64) 0 3) m_1469 m_1470 m_13 m_1471 hd_X12_in ⟨Nat.le_of_ble_eq_true rfl, Nat.le_of_ble_eq_true rfl⟩ hK hN hP hS [] rfl hl.1 rfl (Nat.le_of_ble_eq_true rfl) dX12_isSlot_6 ⟨Nat.zero_le _, Nat.zero_le _⟩ (fun r_1 H locs hr_1 hP hS => ?_)
  exact W.zret (v := r_1) hx hb hr (nb_rg hr_1.1) (fun t9 ht hW => ⟨⟨r_1, (), rfl, ⟨hr_1.1, Or.imp_right (fun o9 => (rg_w (c := 0) (d := 3) (in_cvi (p := 0) (q := 3) o9 (rl_c (x := 0) (k := 0) (by decide)) (rl_c (x := 3) (k := 3) (by decide)) (by decide) (by decide)) (by decide) (by decide))) hr_1.2⟩, trivial⟩, hS.F ht⟩) hS.2.2 dX12_isSlot_9

set_option maxHeartbeats 4000000 in
set_option maxRecDepth 100000 in
theorem s_X12_isSeed (l : Launch) (D : va_G) (t : Nat → ClassId) (a : Nat → Nat) (p0 : Int32) : Met l yX12_isSeed (wd yX12_isSeed cX12_isSeed 1 (some .boolean)) (RM 1 0 0) (PreP D (TY t) [.int p0] []) (QP (fun r => rg 0 1 r ∧ (r = 0 ∨ (rg 0 2000000000 p0)))) 0 0 NoF := by
  refine Met.ofW (cc := cX12_isSeed) (maxL := 1) (ret := (some .boolean)) (by decide) rfl ?_
  intro p e s m args below meth c s₁ B hml hv
  obtain ⟨rfl, hP, hK, hN⟩ := hv
  have hx := B.exec
  have hb := B.bytes
  have hr := B.returns
  have hts : ∀ w ∈ TB, w.before _ s = true := fun w h => atoms_spec (ws := wd yX12_isSeed cX12_isSeed 1 (some .boolean)) B.pre w (List.mem_cons_of_mem _ h)
  have hown : s.vm.findClass RX12 = some m.cls := findClass_of_methodNamed B.named
  have hlocks := B.notSynchronized
  have hF : CallFix p m c cX12_isSeed 1 s _ TB RX12 := ⟨hx, hb, hml, hown, hts⟩
  have hl := lv_entry ([.int p0]) (n := 1) (Nat.le_of_ble_eq_true rfl)
  rw [lg_entry_eq]
  generalize (lg_sl ([.int p0]) ++ List.replicate (1 - (lg_sl ([.int p0])).length) Slot.unset).toArray = ls at hl ⊢
  have hl : lv_has ls 1 [(0, .int p0)] := hl
  have hS : va_S NoF s.heap s.heap [] := va_S.rf
  have hP : va_P D classes [] s.heap := hP
  refine lv_iload_n hx hb dX12_isSeed_0 rfl (lv_at hl 0 rfl) ?_
  refine lv_i2l hx hb dX12_isSeed_1 rfl ?_
  refine lv_lconst (v := 0) hx hb dX12_isSeed_2 rfl ?_
  refine lv_ldc2 (v := 2000000000) hx hb hown (hts _ m_2045) dX12_isSeed_3 ?_
  refine y_pS hF (s_X12_in l D t a ((p0).toInt64) 0 2000000000) m_1469 m_1470 m_13 m_1471 hd_X12_in ⟨Nat.le_of_ble_eq_true rfl, Nat.le_of_ble_eq_true rfl⟩ hK hN hP hS [] rfl hl.1 rfl (Nat.le_of_ble_eq_true rfl) dX12_isSeed_6 ⟨Nat.zero_le _, Nat.zero_le _⟩ (fun r_1 H locs hr_1 hP hS => ?_)
  exact W.zret (v := r_1) hx hb hr (nb_rg hr_1.1) (fun t9 ht hW => ⟨⟨r_1, (), rfl, ⟨hr_1.1, Or.imp_right (fun o9 => (rg_w (c := 0) (d := 2000000000) (in_cvi (p := 0) (q := 2000000000) o9 (rl_c (x := 0) (k := 0) (by decide)) (rl_c (x := 2000000000) (k := 2000000000) (by decide)) (by decide) (by decide)) (by decide) (by decide))) hr_1.2⟩, trivial⟩, hS.F ht⟩) hS.2.2 dX12_isSeed_9

set_option maxHeartbeats 4000000 in
set_option maxRecDepth 100000 in
theorem s_ofWord0 (l : Launch) (D : va_G) (t : Nat → ClassId) (a : Nat → Nat) (v200_0 : Int32) (v200_5 : Int32) (v200_7 : Int32) (v200_8 : Int32) (v200_9 : Int32) (v200_10 : Int32) (v200_11 : Int32) (v200_12 : Int32) (v200_13 : Int32) (v200_15 : Int32) (v200_17 : Int32) (v200_18 : Int32) (v200_19 : Int32) (v200_21 : Int32) (v200_23 : Int32) (v200_27 : Int32) (v200_28 : Int32) (v200_29 : Int32) (v200_33 : Int32) (v200_34 : Int32) (v200_35 : Int32) (f201 : Nat → Int32) (p0 : Int32) (p1 : Int32) (r200_5 : rg 0 1600 v200_5) (r200_7 : rg 0 1600 v200_7) (r200_8 : rg 0 1600 v200_8) (r200_9 : rg 0 1600 v200_9) (r200_23 : rg 0 9 v200_23) (q201 : wR f201) (rp0 : rg 0 8 p0) (rp1 : rg 0 0 p1) : Met l yX12_ofWord (wd yX12_ofWord cX12_ofWord 3 (some .int)) (RM 0 0 0) (PreP D (TY t) [.ref (a 200), .int p0, .int p1] [(a 200, .inr (12, .int v200_0 :: .ref (a 201) :: .ref (a 202) :: .ref (a 203) :: .ref (a 204) :: .int v200_5 :: .ref (a 205) :: .int v200_7 :: .int v200_8 :: .int v200_9 :: .int v200_10 :: .int v200_11 :: .int v200_12 :: .int v200_13 :: .ref (a 206) :: .int v200_15 :: .ref (a 207) :: .int v200_17 :: .int v200_18 :: .int v200_19 :: .ref (a 208) :: .int v200_21 :: .ref (a 209) :: .int v200_23 :: .ref (a 210) :: .ref (a 211) :: .ref (a 212) :: .int v200_27 :: .int v200_28 :: .int v200_29 :: .ref (a 213) :: .ref (a 214) :: .ref (a 215) :: .int v200_33 :: .int v200_34 :: .int v200_35 :: .ref (a 216) :: .ref (a 217) :: .ref (a 218) :: .ref (a 219) :: [])), (a 201, .inl (t 0, 841, .inl f201))]) (QP (fun r => rg 0 12 r)) 0 0 NoF := by
  refine Met.ofW (cc := cX12_ofWord) (maxL := 3) (ret := (some .int)) (by decide) rfl ?_
  intro p e s m args below meth c s₁ B hml hv
  obtain ⟨rfl, hP, hK, hN⟩ := hv
  have hx := B.exec
  have hb := B.bytes
  have hr := B.returns
  have hts : ∀ w ∈ TB, w.before _ s = true := fun w h => atoms_spec (ws := wd yX12_ofWord cX12_ofWord 3 (some .int)) B.pre w (List.mem_cons_of_mem _ h)
  have hown : s.vm.findClass RX12 = some m.cls := findClass_of_methodNamed B.named
  have hlocks := B.notSynchronized
  have hF : CallFix p m c cX12_ofWord 3 s _ TB RX12 := ⟨hx, hb, hml, hown, hts⟩
  have hl := lv_entry ([.ref (a 200), .int p0, .int p1]) (n := 3) (Nat.le_of_ble_eq_true rfl)
  rw [lg_entry_eq]
  generalize (lg_sl ([.ref (a 200), .int p0, .int p1]) ++ List.replicate (3 - (lg_sl ([.ref (a 200), .int p0, .int p1])).length) Slot.unset).toArray = ls at hl ⊢
  have hl : lv_has ls 3 [(0, .ref (a 200)), (1, .int p0), (2, .int p1)] := hl
  have hS : va_S NoF s.heap s.heap [] := va_S.rf
  have hP : va_P D classes [(a 200, .inr (12, .int v200_0 :: .ref (a 201) :: .ref (a 202) :: .ref (a 203) :: .ref (a 204) :: .int v200_5 :: .ref (a 205) :: .int v200_7 :: .int v200_8 :: .int v200_9 :: .int v200_10 :: .int v200_11 :: .int v200_12 :: .int v200_13 :: .ref (a 206) :: .int v200_15 :: .ref (a 207) :: .int v200_17 :: .int v200_18 :: .int v200_19 :: .ref (a 208) :: .int v200_21 :: .ref (a 209) :: .int v200_23 :: .ref (a 210) :: .ref (a 211) :: .ref (a 212) :: .int v200_27 :: .int v200_28 :: .int v200_29 :: .ref (a 213) :: .ref (a 214) :: .ref (a 215) :: .int v200_33 :: .int v200_34 :: .int v200_35 :: .ref (a 216) :: .ref (a 217) :: .ref (a 218) :: .ref (a 219) :: [])), (a 201, .inl (t 0, 841, .inl f201))] s.heap := hP
  obtain rfl := cs_c (y := 0) rp1 (by decide)
  have hl : lv_has ls 3 [(0, .ref (a 200)), (1, .int p0), (2, .int 0)] := hl
  refine lv_aload_n hx hb dX12_ofWord_0 rfl (lv_at hl 0 rfl) ?_
  refine va_get (D := D) (ci := 12) (v := .ref (a 201)) (C := RX12) (T := TX12) (N := 40) hx hb hts iX12 hown hK hP 0 rfl rfl 1 (by decide) (hts _ m_1344) (fun _ h9 => h9) rfl dX12_ofWord_1 ?_
  refine lv_bipush (v := 16) hx hb dX12_ofWord_4 (by decide) ?_
  refine lv_iconst (v := 4) hx hb dX12_ofWord_6 (by decide) ?_
  refine lv_iload_n hx hb dX12_ofWord_7 rfl (lv_at hl 1 rfl) ?_
  refine lv_imul hx hb dX12_ofWord_8 ?_
  refine lv_topi (fun x_1 ex_1 => ?_)
  have hx_1 : rg 0 32 x_1 := by rw [ex_1]; exact rg_mul (rg_w (c := 0) (d := 4) (rg_c (x := 4) (k := 4) (by decide)) (by decide) (by decide)) rp0 (by decide) (by decide)
  have kx_1 : x_1.toInt % ((4 : Nat) : Int) = ((0 : Nat) : Int) := by rw [ex_1]; exact cg_mul (by decide) rp0 (by decide)
  refine lv_iadd hx hb dX12_ofWord_9 ?_
  refine lv_topi (fun x_2 ex_2 => ?_)
  have hx_2 : rg 16 48 x_2 := by rw [ex_2]; exact rg_add (rg_c (x := 16) (k := 16) (by decide)) hx_1 (by decide) (by decide) (by decide) (by decide)
  have kx_2 : x_2.toInt % ((4 : Nat) : Int) = ((0 : Nat) : Int) := by rw [ex_2]; exact cg_addL (k := 16) kx_1 hx_1 (by decide) (by decide) (by decide) (by decide)
  refine lv_iload_n hx hb dX12_ofWord_10 rfl (lv_at hl 2 rfl) ?_
  refine lv_iadd hx hb dX12_ofWord_11 ?_
  refine lv_topi (fun x_3 ex_3 => ?_)
  have hx_3 : rg 16 48 x_3 := by rw [ex_3]; exact rg_add hx_2 (rg_c (x := 0) (k := 0) (by decide)) (by decide) (by decide) (by decide) (by decide)
  have kx_3 : x_3.toInt % ((4 : Nat) : Int) = ((0 : Nat) : Int) := by rw [ex_3]; exact cg_add (k := 0) kx_2 hx_2 (by decide) (by decide) (by decide) (by decide)
  refine va_iald hx hb hK hP 1 0 rfl rfl (in_rg hx_3 (by decide) (by decide)) dX12_ofWord_12 ?_
  refine lv_topi (fun x_4 ex_4 => ?_)
  have hx_4 : rg 0 12 x_4 := by rw [ex_4]; exact p_get (m := 4) (r := 0) q201 hx_3 (by decide) (by decide) kx_3 (by decide +kernel)
  exact W.iret (v := x_4) hx hb hr (fun t9 ht hW => ⟨⟨x_4, (), rfl, hx_4, trivial⟩, hS.F ht⟩) hS.2.2 dX12_ofWord_13

set_option maxHeartbeats 4000000 in
set_option maxRecDepth 100000 in
theorem s_ofWord1 (l : Launch) (D : va_G) (t : Nat → ClassId) (a : Nat → Nat) (v200_0 : Int32) (v200_5 : Int32) (v200_7 : Int32) (v200_8 : Int32) (v200_9 : Int32) (v200_10 : Int32) (v200_11 : Int32) (v200_12 : Int32) (v200_13 : Int32) (v200_15 : Int32) (v200_17 : Int32) (v200_18 : Int32) (v200_19 : Int32) (v200_21 : Int32) (v200_23 : Int32) (v200_27 : Int32) (v200_28 : Int32) (v200_29 : Int32) (v200_33 : Int32) (v200_34 : Int32) (v200_35 : Int32) (f201 : Nat → Int32) (p0 : Int32) (p1 : Int32) (r200_5 : rg 0 1600 v200_5) (r200_7 : rg 0 1600 v200_7) (r200_8 : rg 0 1600 v200_8) (r200_9 : rg 0 1600 v200_9) (r200_23 : rg 0 9 v200_23) (q201 : wR f201) (rp0 : rg 0 8 p0) (rp1 : rg 1 1 p1) : Met l yX12_ofWord (wd yX12_ofWord cX12_ofWord 3 (some .int)) (RM 0 0 0) (PreP D (TY t) [.ref (a 200), .int p0, .int p1] [(a 200, .inr (12, .int v200_0 :: .ref (a 201) :: .ref (a 202) :: .ref (a 203) :: .ref (a 204) :: .int v200_5 :: .ref (a 205) :: .int v200_7 :: .int v200_8 :: .int v200_9 :: .int v200_10 :: .int v200_11 :: .int v200_12 :: .int v200_13 :: .ref (a 206) :: .int v200_15 :: .ref (a 207) :: .int v200_17 :: .int v200_18 :: .int v200_19 :: .ref (a 208) :: .int v200_21 :: .ref (a 209) :: .int v200_23 :: .ref (a 210) :: .ref (a 211) :: .ref (a 212) :: .int v200_27 :: .int v200_28 :: .int v200_29 :: .ref (a 213) :: .ref (a 214) :: .ref (a 215) :: .int v200_33 :: .int v200_34 :: .int v200_35 :: .ref (a 216) :: .ref (a 217) :: .ref (a 218) :: .ref (a 219) :: [])), (a 201, .inl (t 0, 841, .inl f201))]) (QP (fun r => rg 0 3 r)) 0 0 NoF := by
  refine Met.ofW (cc := cX12_ofWord) (maxL := 3) (ret := (some .int)) (by decide) rfl ?_
  intro p e s m args below meth c s₁ B hml hv
  obtain ⟨rfl, hP, hK, hN⟩ := hv
  have hx := B.exec
  have hb := B.bytes
  have hr := B.returns
  have hts : ∀ w ∈ TB, w.before _ s = true := fun w h => atoms_spec (ws := wd yX12_ofWord cX12_ofWord 3 (some .int)) B.pre w (List.mem_cons_of_mem _ h)
  have hown : s.vm.findClass RX12 = some m.cls := findClass_of_methodNamed B.named
  have hlocks := B.notSynchronized
  have hF : CallFix p m c cX12_ofWord 3 s _ TB RX12 := ⟨hx, hb, hml, hown, hts⟩
  have hl := lv_entry ([.ref (a 200), .int p0, .int p1]) (n := 3) (Nat.le_of_ble_eq_true rfl)
  rw [lg_entry_eq]
  generalize (lg_sl ([.ref (a 200), .int p0, .int p1]) ++ List.replicate (3 - (lg_sl ([.ref (a 200), .int p0, .int p1])).length) Slot.unset).toArray = ls at hl ⊢
  have hl : lv_has ls 3 [(0, .ref (a 200)), (1, .int p0), (2, .int p1)] := hl
  have hS : va_S NoF s.heap s.heap [] := va_S.rf
  have hP : va_P D classes [(a 200, .inr (12, .int v200_0 :: .ref (a 201) :: .ref (a 202) :: .ref (a 203) :: .ref (a 204) :: .int v200_5 :: .ref (a 205) :: .int v200_7 :: .int v200_8 :: .int v200_9 :: .int v200_10 :: .int v200_11 :: .int v200_12 :: .int v200_13 :: .ref (a 206) :: .int v200_15 :: .ref (a 207) :: .int v200_17 :: .int v200_18 :: .int v200_19 :: .ref (a 208) :: .int v200_21 :: .ref (a 209) :: .int v200_23 :: .ref (a 210) :: .ref (a 211) :: .ref (a 212) :: .int v200_27 :: .int v200_28 :: .int v200_29 :: .ref (a 213) :: .ref (a 214) :: .ref (a 215) :: .int v200_33 :: .int v200_34 :: .int v200_35 :: .ref (a 216) :: .ref (a 217) :: .ref (a 218) :: .ref (a 219) :: [])), (a 201, .inl (t 0, 841, .inl f201))] s.heap := hP
  obtain rfl := cs_c (y := 1) rp1 (by decide)
  have hl : lv_has ls 3 [(0, .ref (a 200)), (1, .int p0), (2, .int 1)] := hl
  refine lv_aload_n hx hb dX12_ofWord_0 rfl (lv_at hl 0 rfl) ?_
  refine va_get (D := D) (ci := 12) (v := .ref (a 201)) (C := RX12) (T := TX12) (N := 40) hx hb hts iX12 hown hK hP 0 rfl rfl 1 (by decide) (hts _ m_1344) (fun _ h9 => h9) rfl dX12_ofWord_1 ?_
  refine lv_bipush (v := 16) hx hb dX12_ofWord_4 (by decide) ?_
  refine lv_iconst (v := 4) hx hb dX12_ofWord_6 (by decide) ?_
  refine lv_iload_n hx hb dX12_ofWord_7 rfl (lv_at hl 1 rfl) ?_
  refine lv_imul hx hb dX12_ofWord_8 ?_
  refine lv_topi (fun x_1 ex_1 => ?_)
  have hx_1 : rg 0 32 x_1 := by rw [ex_1]; exact rg_mul (rg_w (c := 0) (d := 4) (rg_c (x := 4) (k := 4) (by decide)) (by decide) (by decide)) rp0 (by decide) (by decide)
  have kx_1 : x_1.toInt % ((4 : Nat) : Int) = ((0 : Nat) : Int) := by rw [ex_1]; exact cg_mul (by decide) rp0 (by decide)
  refine lv_iadd hx hb dX12_ofWord_9 ?_
  refine lv_topi (fun x_2 ex_2 => ?_)
  have hx_2 : rg 16 48 x_2 := by rw [ex_2]; exact rg_add (rg_c (x := 16) (k := 16) (by decide)) hx_1 (by decide) (by decide) (by decide) (by decide)
  have kx_2 : x_2.toInt % ((4 : Nat) : Int) = ((0 : Nat) : Int) := by rw [ex_2]; exact cg_addL (k := 16) kx_1 hx_1 (by decide) (by decide) (by decide) (by decide)
  refine lv_iload_n hx hb dX12_ofWord_10 rfl (lv_at hl 2 rfl) ?_
  refine lv_iadd hx hb dX12_ofWord_11 ?_
  refine lv_topi (fun x_3 ex_3 => ?_)
  have hx_3 : rg 17 49 x_3 := by rw [ex_3]; exact rg_add hx_2 (rg_c (x := 1) (k := 1) (by decide)) (by decide) (by decide) (by decide) (by decide)
  have kx_3 : x_3.toInt % ((4 : Nat) : Int) = ((1 : Nat) : Int) := by rw [ex_3]; exact cg_add (k := 1) kx_2 hx_2 (by decide) (by decide) (by decide) (by decide)
  refine va_iald hx hb hK hP 1 0 rfl rfl (in_rg hx_3 (by decide) (by decide)) dX12_ofWord_12 ?_
  refine lv_topi (fun x_4 ex_4 => ?_)
  have hx_4 : rg 0 3 x_4 := by rw [ex_4]; exact p_get (m := 4) (r := 1) q201 hx_3 (by decide) (by decide) kx_3 (by decide +kernel)
  exact W.iret (v := x_4) hx hb hr (fun t9 ht hW => ⟨⟨x_4, (), rfl, hx_4, trivial⟩, hS.F ht⟩) hS.2.2 dX12_ofWord_13

set_option maxHeartbeats 4000000 in
set_option maxRecDepth 100000 in
theorem s_ofWord2 (l : Launch) (D : va_G) (t : Nat → ClassId) (a : Nat → Nat) (v200_0 : Int32) (v200_5 : Int32) (v200_7 : Int32) (v200_8 : Int32) (v200_9 : Int32) (v200_10 : Int32) (v200_11 : Int32) (v200_12 : Int32) (v200_13 : Int32) (v200_15 : Int32) (v200_17 : Int32) (v200_18 : Int32) (v200_19 : Int32) (v200_21 : Int32) (v200_23 : Int32) (v200_27 : Int32) (v200_28 : Int32) (v200_29 : Int32) (v200_33 : Int32) (v200_34 : Int32) (v200_35 : Int32) (f201 : Nat → Int32) (p0 : Int32) (p1 : Int32) (r200_5 : rg 0 1600 v200_5) (r200_7 : rg 0 1600 v200_7) (r200_8 : rg 0 1600 v200_8) (r200_9 : rg 0 1600 v200_9) (r200_23 : rg 0 9 v200_23) (q201 : wR f201) (rp0 : rg 0 8 p0) (rp1 : rg 2 2 p1) : Met l yX12_ofWord (wd yX12_ofWord cX12_ofWord 3 (some .int)) (RM 0 0 0) (PreP D (TY t) [.ref (a 200), .int p0, .int p1] [(a 200, .inr (12, .int v200_0 :: .ref (a 201) :: .ref (a 202) :: .ref (a 203) :: .ref (a 204) :: .int v200_5 :: .ref (a 205) :: .int v200_7 :: .int v200_8 :: .int v200_9 :: .int v200_10 :: .int v200_11 :: .int v200_12 :: .int v200_13 :: .ref (a 206) :: .int v200_15 :: .ref (a 207) :: .int v200_17 :: .int v200_18 :: .int v200_19 :: .ref (a 208) :: .int v200_21 :: .ref (a 209) :: .int v200_23 :: .ref (a 210) :: .ref (a 211) :: .ref (a 212) :: .int v200_27 :: .int v200_28 :: .int v200_29 :: .ref (a 213) :: .ref (a 214) :: .ref (a 215) :: .int v200_33 :: .int v200_34 :: .int v200_35 :: .ref (a 216) :: .ref (a 217) :: .ref (a 218) :: .ref (a 219) :: [])), (a 201, .inl (t 0, 841, .inl f201))]) (QP (fun r => rg 0 3 r)) 0 0 NoF := by
  refine Met.ofW (cc := cX12_ofWord) (maxL := 3) (ret := (some .int)) (by decide) rfl ?_
  intro p e s m args below meth c s₁ B hml hv
  obtain ⟨rfl, hP, hK, hN⟩ := hv
  have hx := B.exec
  have hb := B.bytes
  have hr := B.returns
  have hts : ∀ w ∈ TB, w.before _ s = true := fun w h => atoms_spec (ws := wd yX12_ofWord cX12_ofWord 3 (some .int)) B.pre w (List.mem_cons_of_mem _ h)
  have hown : s.vm.findClass RX12 = some m.cls := findClass_of_methodNamed B.named
  have hlocks := B.notSynchronized
  have hF : CallFix p m c cX12_ofWord 3 s _ TB RX12 := ⟨hx, hb, hml, hown, hts⟩
  have hl := lv_entry ([.ref (a 200), .int p0, .int p1]) (n := 3) (Nat.le_of_ble_eq_true rfl)
  rw [lg_entry_eq]
  generalize (lg_sl ([.ref (a 200), .int p0, .int p1]) ++ List.replicate (3 - (lg_sl ([.ref (a 200), .int p0, .int p1])).length) Slot.unset).toArray = ls at hl ⊢
  have hl : lv_has ls 3 [(0, .ref (a 200)), (1, .int p0), (2, .int p1)] := hl
  have hS : va_S NoF s.heap s.heap [] := va_S.rf
  have hP : va_P D classes [(a 200, .inr (12, .int v200_0 :: .ref (a 201) :: .ref (a 202) :: .ref (a 203) :: .ref (a 204) :: .int v200_5 :: .ref (a 205) :: .int v200_7 :: .int v200_8 :: .int v200_9 :: .int v200_10 :: .int v200_11 :: .int v200_12 :: .int v200_13 :: .ref (a 206) :: .int v200_15 :: .ref (a 207) :: .int v200_17 :: .int v200_18 :: .int v200_19 :: .ref (a 208) :: .int v200_21 :: .ref (a 209) :: .int v200_23 :: .ref (a 210) :: .ref (a 211) :: .ref (a 212) :: .int v200_27 :: .int v200_28 :: .int v200_29 :: .ref (a 213) :: .ref (a 214) :: .ref (a 215) :: .int v200_33 :: .int v200_34 :: .int v200_35 :: .ref (a 216) :: .ref (a 217) :: .ref (a 218) :: .ref (a 219) :: [])), (a 201, .inl (t 0, 841, .inl f201))] s.heap := hP
  obtain rfl := cs_c (y := 2) rp1 (by decide)
  have hl : lv_has ls 3 [(0, .ref (a 200)), (1, .int p0), (2, .int 2)] := hl
  refine lv_aload_n hx hb dX12_ofWord_0 rfl (lv_at hl 0 rfl) ?_
  refine va_get (D := D) (ci := 12) (v := .ref (a 201)) (C := RX12) (T := TX12) (N := 40) hx hb hts iX12 hown hK hP 0 rfl rfl 1 (by decide) (hts _ m_1344) (fun _ h9 => h9) rfl dX12_ofWord_1 ?_
  refine lv_bipush (v := 16) hx hb dX12_ofWord_4 (by decide) ?_
  refine lv_iconst (v := 4) hx hb dX12_ofWord_6 (by decide) ?_
  refine lv_iload_n hx hb dX12_ofWord_7 rfl (lv_at hl 1 rfl) ?_
  refine lv_imul hx hb dX12_ofWord_8 ?_
  refine lv_topi (fun x_1 ex_1 => ?_)
  have hx_1 : rg 0 32 x_1 := by rw [ex_1]; exact rg_mul (rg_w (c := 0) (d := 4) (rg_c (x := 4) (k := 4) (by decide)) (by decide) (by decide)) rp0 (by decide) (by decide)
  have kx_1 : x_1.toInt % ((4 : Nat) : Int) = ((0 : Nat) : Int) := by rw [ex_1]; exact cg_mul (by decide) rp0 (by decide)
  refine lv_iadd hx hb dX12_ofWord_9 ?_
  refine lv_topi (fun x_2 ex_2 => ?_)
  have hx_2 : rg 16 48 x_2 := by rw [ex_2]; exact rg_add (rg_c (x := 16) (k := 16) (by decide)) hx_1 (by decide) (by decide) (by decide) (by decide)
  have kx_2 : x_2.toInt % ((4 : Nat) : Int) = ((0 : Nat) : Int) := by rw [ex_2]; exact cg_addL (k := 16) kx_1 hx_1 (by decide) (by decide) (by decide) (by decide)
  refine lv_iload_n hx hb dX12_ofWord_10 rfl (lv_at hl 2 rfl) ?_
  refine lv_iadd hx hb dX12_ofWord_11 ?_
  refine lv_topi (fun x_3 ex_3 => ?_)
  have hx_3 : rg 18 50 x_3 := by rw [ex_3]; exact rg_add hx_2 (rg_c (x := 2) (k := 2) (by decide)) (by decide) (by decide) (by decide) (by decide)
  have kx_3 : x_3.toInt % ((4 : Nat) : Int) = ((2 : Nat) : Int) := by rw [ex_3]; exact cg_add (k := 2) kx_2 hx_2 (by decide) (by decide) (by decide) (by decide)
  refine va_iald hx hb hK hP 1 0 rfl rfl (in_rg hx_3 (by decide) (by decide)) dX12_ofWord_12 ?_
  refine lv_topi (fun x_4 ex_4 => ?_)
  have hx_4 : rg 0 3 x_4 := by rw [ex_4]; exact p_get (m := 4) (r := 2) q201 hx_3 (by decide) (by decide) kx_3 (by decide +kernel)
  exact W.iret (v := x_4) hx hb hr (fun t9 ht hW => ⟨⟨x_4, (), rfl, hx_4, trivial⟩, hS.F ht⟩) hS.2.2 dX12_ofWord_13

set_option maxHeartbeats 4000000 in
set_option maxRecDepth 100000 in
theorem s_ofWord3 (l : Launch) (D : va_G) (t : Nat → ClassId) (a : Nat → Nat) (v200_0 : Int32) (v200_5 : Int32) (v200_7 : Int32) (v200_8 : Int32) (v200_9 : Int32) (v200_10 : Int32) (v200_11 : Int32) (v200_12 : Int32) (v200_13 : Int32) (v200_15 : Int32) (v200_17 : Int32) (v200_18 : Int32) (v200_19 : Int32) (v200_21 : Int32) (v200_23 : Int32) (v200_27 : Int32) (v200_28 : Int32) (v200_29 : Int32) (v200_33 : Int32) (v200_34 : Int32) (v200_35 : Int32) (f201 : Nat → Int32) (p0 : Int32) (p1 : Int32) (r200_5 : rg 0 1600 v200_5) (r200_7 : rg 0 1600 v200_7) (r200_8 : rg 0 1600 v200_8) (r200_9 : rg 0 1600 v200_9) (r200_23 : rg 0 9 v200_23) (q201 : wR f201) (rp0 : rg 0 8 p0) (rp1 : rg 3 3 p1) : Met l yX12_ofWord (wd yX12_ofWord cX12_ofWord 3 (some .int)) (RM 0 0 0) (PreP D (TY t) [.ref (a 200), .int p0, .int p1] [(a 200, .inr (12, .int v200_0 :: .ref (a 201) :: .ref (a 202) :: .ref (a 203) :: .ref (a 204) :: .int v200_5 :: .ref (a 205) :: .int v200_7 :: .int v200_8 :: .int v200_9 :: .int v200_10 :: .int v200_11 :: .int v200_12 :: .int v200_13 :: .ref (a 206) :: .int v200_15 :: .ref (a 207) :: .int v200_17 :: .int v200_18 :: .int v200_19 :: .ref (a 208) :: .int v200_21 :: .ref (a 209) :: .int v200_23 :: .ref (a 210) :: .ref (a 211) :: .ref (a 212) :: .int v200_27 :: .int v200_28 :: .int v200_29 :: .ref (a 213) :: .ref (a 214) :: .ref (a 215) :: .int v200_33 :: .int v200_34 :: .int v200_35 :: .ref (a 216) :: .ref (a 217) :: .ref (a 218) :: .ref (a 219) :: [])), (a 201, .inl (t 0, 841, .inl f201))]) (QP (fun _ => True)) 0 0 NoF := by
  refine Met.ofW (cc := cX12_ofWord) (maxL := 3) (ret := (some .int)) (by decide) rfl ?_
  intro p e s m args below meth c s₁ B hml hv
  obtain ⟨rfl, hP, hK, hN⟩ := hv
  have hx := B.exec
  have hb := B.bytes
  have hr := B.returns
  have hts : ∀ w ∈ TB, w.before _ s = true := fun w h => atoms_spec (ws := wd yX12_ofWord cX12_ofWord 3 (some .int)) B.pre w (List.mem_cons_of_mem _ h)
  have hown : s.vm.findClass RX12 = some m.cls := findClass_of_methodNamed B.named
  have hlocks := B.notSynchronized
  have hF : CallFix p m c cX12_ofWord 3 s _ TB RX12 := ⟨hx, hb, hml, hown, hts⟩
  have hl := lv_entry ([.ref (a 200), .int p0, .int p1]) (n := 3) (Nat.le_of_ble_eq_true rfl)
  rw [lg_entry_eq]
  generalize (lg_sl ([.ref (a 200), .int p0, .int p1]) ++ List.replicate (3 - (lg_sl ([.ref (a 200), .int p0, .int p1])).length) Slot.unset).toArray = ls at hl ⊢
  have hl : lv_has ls 3 [(0, .ref (a 200)), (1, .int p0), (2, .int p1)] := hl
  have hS : va_S NoF s.heap s.heap [] := va_S.rf
  have hP : va_P D classes [(a 200, .inr (12, .int v200_0 :: .ref (a 201) :: .ref (a 202) :: .ref (a 203) :: .ref (a 204) :: .int v200_5 :: .ref (a 205) :: .int v200_7 :: .int v200_8 :: .int v200_9 :: .int v200_10 :: .int v200_11 :: .int v200_12 :: .int v200_13 :: .ref (a 206) :: .int v200_15 :: .ref (a 207) :: .int v200_17 :: .int v200_18 :: .int v200_19 :: .ref (a 208) :: .int v200_21 :: .ref (a 209) :: .int v200_23 :: .ref (a 210) :: .ref (a 211) :: .ref (a 212) :: .int v200_27 :: .int v200_28 :: .int v200_29 :: .ref (a 213) :: .ref (a 214) :: .ref (a 215) :: .int v200_33 :: .int v200_34 :: .int v200_35 :: .ref (a 216) :: .ref (a 217) :: .ref (a 218) :: .ref (a 219) :: [])), (a 201, .inl (t 0, 841, .inl f201))] s.heap := hP
  obtain rfl := cs_c (y := 3) rp1 (by decide)
  have hl : lv_has ls 3 [(0, .ref (a 200)), (1, .int p0), (2, .int 3)] := hl
  refine lv_aload_n hx hb dX12_ofWord_0 rfl (lv_at hl 0 rfl) ?_
  refine va_get (D := D) (ci := 12) (v := .ref (a 201)) (C := RX12) (T := TX12) (N := 40) hx hb hts iX12 hown hK hP 0 rfl rfl 1 (by decide) (hts _ m_1344) (fun _ h9 => h9) rfl dX12_ofWord_1 ?_
  refine lv_bipush (v := 16) hx hb dX12_ofWord_4 (by decide) ?_
  refine lv_iconst (v := 4) hx hb dX12_ofWord_6 (by decide) ?_
  refine lv_iload_n hx hb dX12_ofWord_7 rfl (lv_at hl 1 rfl) ?_
  refine lv_imul hx hb dX12_ofWord_8 ?_
  refine lv_topi (fun x_1 ex_1 => ?_)
  have hx_1 : rg 0 32 x_1 := by rw [ex_1]; exact rg_mul (rg_w (c := 0) (d := 4) (rg_c (x := 4) (k := 4) (by decide)) (by decide) (by decide)) rp0 (by decide) (by decide)
  have kx_1 : x_1.toInt % ((4 : Nat) : Int) = ((0 : Nat) : Int) := by rw [ex_1]; exact cg_mul (by decide) rp0 (by decide)
  refine lv_iadd hx hb dX12_ofWord_9 ?_
  refine lv_topi (fun x_2 ex_2 => ?_)
  have hx_2 : rg 16 48 x_2 := by rw [ex_2]; exact rg_add (rg_c (x := 16) (k := 16) (by decide)) hx_1 (by decide) (by decide) (by decide) (by decide)
  have kx_2 : x_2.toInt % ((4 : Nat) : Int) = ((0 : Nat) : Int) := by rw [ex_2]; exact cg_addL (k := 16) kx_1 hx_1 (by decide) (by decide) (by decide) (by decide)
  refine lv_iload_n hx hb dX12_ofWord_10 rfl (lv_at hl 2 rfl) ?_
  refine lv_iadd hx hb dX12_ofWord_11 ?_
  refine lv_topi (fun x_3 ex_3 => ?_)
  have hx_3 : rg 19 51 x_3 := by rw [ex_3]; exact rg_add hx_2 (rg_c (x := 3) (k := 3) (by decide)) (by decide) (by decide) (by decide) (by decide)
  have kx_3 : x_3.toInt % ((4 : Nat) : Int) = ((3 : Nat) : Int) := by rw [ex_3]; exact cg_add (k := 3) kx_2 hx_2 (by decide) (by decide) (by decide) (by decide)
  refine va_iald hx hb hK hP 1 0 rfl rfl (in_rg hx_3 (by decide) (by decide)) dX12_ofWord_12 ?_
  refine lv_topi (fun x_4 ex_4 => ?_)
  exact W.iret (v := x_4) hx hb hr (fun t9 ht hW => ⟨⟨x_4, (), rfl, trivial, trivial⟩, hS.F ht⟩) hS.2.2 dX12_ofWord_13

set_option maxHeartbeats 4000000 in
set_option maxRecDepth 100000 in
theorem s_ofWord (l : Launch) (D : va_G) (t : Nat → ClassId) (a : Nat → Nat) (v200_0 : Int32) (v200_5 : Int32) (v200_7 : Int32) (v200_8 : Int32) (v200_9 : Int32) (v200_10 : Int32) (v200_11 : Int32) (v200_12 : Int32) (v200_13 : Int32) (v200_15 : Int32) (v200_17 : Int32) (v200_18 : Int32) (v200_19 : Int32) (v200_21 : Int32) (v200_23 : Int32) (v200_27 : Int32) (v200_28 : Int32) (v200_29 : Int32) (v200_33 : Int32) (v200_34 : Int32) (v200_35 : Int32) (f201 : Nat → Int32) (p0 : Int32) (p1 : Int32) (r200_5 : rg 0 1600 v200_5) (r200_7 : rg 0 1600 v200_7) (r200_8 : rg 0 1600 v200_8) (r200_9 : rg 0 1600 v200_9) (r200_23 : rg 0 9 v200_23) (q201 : wR f201) (rp0 : rg 0 8 p0) (rp1 : rg 0 3 p1) : Met l yX12_ofWord (wd yX12_ofWord cX12_ofWord 3 (some .int)) (RM 0 0 0) (PreP D (TY t) [.ref (a 200), .int p0, .int p1] [(a 200, .inr (12, .int v200_0 :: .ref (a 201) :: .ref (a 202) :: .ref (a 203) :: .ref (a 204) :: .int v200_5 :: .ref (a 205) :: .int v200_7 :: .int v200_8 :: .int v200_9 :: .int v200_10 :: .int v200_11 :: .int v200_12 :: .int v200_13 :: .ref (a 206) :: .int v200_15 :: .ref (a 207) :: .int v200_17 :: .int v200_18 :: .int v200_19 :: .ref (a 208) :: .int v200_21 :: .ref (a 209) :: .int v200_23 :: .ref (a 210) :: .ref (a 211) :: .ref (a 212) :: .int v200_27 :: .int v200_28 :: .int v200_29 :: .ref (a 213) :: .ref (a 214) :: .ref (a 215) :: .int v200_33 :: .int v200_34 :: .int v200_35 :: .ref (a 216) :: .ref (a 217) :: .ref (a 218) :: .ref (a 219) :: [])), (a 201, .inl (t 0, 841, .inl f201))]) (QP (fun _ => True)) 0 0 NoF := by
  refine Met.ofW (cc := cX12_ofWord) (maxL := 3) (ret := (some .int)) (by decide) rfl ?_
  intro p e s m args below meth c s₁ B hml hv
  obtain ⟨rfl, hP, hK, hN⟩ := hv
  have hx := B.exec
  have hb := B.bytes
  have hr := B.returns
  have hts : ∀ w ∈ TB, w.before _ s = true := fun w h => atoms_spec (ws := wd yX12_ofWord cX12_ofWord 3 (some .int)) B.pre w (List.mem_cons_of_mem _ h)
  have hown : s.vm.findClass RX12 = some m.cls := findClass_of_methodNamed B.named
  have hlocks := B.notSynchronized
  have hF : CallFix p m c cX12_ofWord 3 s _ TB RX12 := ⟨hx, hb, hml, hown, hts⟩
  have hl := lv_entry ([.ref (a 200), .int p0, .int p1]) (n := 3) (Nat.le_of_ble_eq_true rfl)
  rw [lg_entry_eq]
  generalize (lg_sl ([.ref (a 200), .int p0, .int p1]) ++ List.replicate (3 - (lg_sl ([.ref (a 200), .int p0, .int p1])).length) Slot.unset).toArray = ls at hl ⊢
  have hl : lv_has ls 3 [(0, .ref (a 200)), (1, .int p0), (2, .int p1)] := hl
  have hS : va_S NoF s.heap s.heap [] := va_S.rf
  have hP : va_P D classes [(a 200, .inr (12, .int v200_0 :: .ref (a 201) :: .ref (a 202) :: .ref (a 203) :: .ref (a 204) :: .int v200_5 :: .ref (a 205) :: .int v200_7 :: .int v200_8 :: .int v200_9 :: .int v200_10 :: .int v200_11 :: .int v200_12 :: .int v200_13 :: .ref (a 206) :: .int v200_15 :: .ref (a 207) :: .int v200_17 :: .int v200_18 :: .int v200_19 :: .ref (a 208) :: .int v200_21 :: .ref (a 209) :: .int v200_23 :: .ref (a 210) :: .ref (a 211) :: .ref (a 212) :: .int v200_27 :: .int v200_28 :: .int v200_29 :: .ref (a 213) :: .ref (a 214) :: .ref (a 215) :: .int v200_33 :: .int v200_34 :: .int v200_35 :: .ref (a 216) :: .ref (a 217) :: .ref (a 218) :: .ref (a 219) :: [])), (a 201, .inl (t 0, 841, .inl f201))] s.heap := hP
  refine lv_aload_n hx hb dX12_ofWord_0 rfl (lv_at hl 0 rfl) ?_
  refine va_get (D := D) (ci := 12) (v := .ref (a 201)) (C := RX12) (T := TX12) (N := 40) hx hb hts iX12 hown hK hP 0 rfl rfl 1 (by decide) (hts _ m_1344) (fun _ h9 => h9) rfl dX12_ofWord_1 ?_
  refine lv_bipush (v := 16) hx hb dX12_ofWord_4 (by decide) ?_
  refine lv_iconst (v := 4) hx hb dX12_ofWord_6 (by decide) ?_
  refine lv_iload_n hx hb dX12_ofWord_7 rfl (lv_at hl 1 rfl) ?_
  refine lv_imul hx hb dX12_ofWord_8 ?_
  refine lv_topi (fun x_1 ex_1 => ?_)
  have hx_1 : rg 0 32 x_1 := by rw [ex_1]; exact rg_mul (rg_w (c := 0) (d := 4) (rg_c (x := 4) (k := 4) (by decide)) (by decide) (by decide)) rp0 (by decide) (by decide)
  have kx_1 : x_1.toInt % ((4 : Nat) : Int) = ((0 : Nat) : Int) := by rw [ex_1]; exact cg_mul (by decide) rp0 (by decide)
  refine lv_iadd hx hb dX12_ofWord_9 ?_
  refine lv_topi (fun x_2 ex_2 => ?_)
  have hx_2 : rg 16 48 x_2 := by rw [ex_2]; exact rg_add (rg_c (x := 16) (k := 16) (by decide)) hx_1 (by decide) (by decide) (by decide) (by decide)
  have kx_2 : x_2.toInt % ((4 : Nat) : Int) = ((0 : Nat) : Int) := by rw [ex_2]; exact cg_addL (k := 16) kx_1 hx_1 (by decide) (by decide) (by decide) (by decide)
  refine lv_iload_n hx hb dX12_ofWord_10 rfl (lv_at hl 2 rfl) ?_
  refine lv_iadd hx hb dX12_ofWord_11 ?_
  refine lv_topi (fun x_3 ex_3 => ?_)
  have hx_3 : rg 16 51 x_3 := by rw [ex_3]; exact rg_add hx_2 rp1 (by decide) (by decide) (by decide) (by decide)
  refine va_iald hx hb hK hP 1 0 rfl rfl (in_rg hx_3 (by decide) (by decide)) dX12_ofWord_12 ?_
  refine lv_topi (fun x_4 ex_4 => ?_)
  exact W.iret (v := x_4) hx hb hr (fun t9 ht hW => ⟨⟨x_4, (), rfl, trivial, trivial⟩, hS.F ht⟩) hS.2.2 dX12_ofWord_13

set_option maxHeartbeats 4000000 in
set_option maxRecDepth 100000 in
theorem s_ofSpeaker0 (l : Launch) (D : va_G) (t : Nat → ClassId) (a : Nat → Nat) (v200_0 : Int32) (v200_5 : Int32) (v200_7 : Int32) (v200_8 : Int32) (v200_9 : Int32) (v200_10 : Int32) (v200_11 : Int32) (v200_12 : Int32) (v200_13 : Int32) (v200_15 : Int32) (v200_17 : Int32) (v200_18 : Int32) (v200_19 : Int32) (v200_21 : Int32) (v200_23 : Int32) (v200_27 : Int32) (v200_28 : Int32) (v200_29 : Int32) (v200_33 : Int32) (v200_34 : Int32) (v200_35 : Int32) (f201 : Nat → Int32) (p0 : Int32) (p1 : Int32) (r200_5 : rg 0 1600 v200_5) (r200_7 : rg 0 1600 v200_7) (r200_8 : rg 0 1600 v200_8) (r200_9 : rg 0 1600 v200_9) (r200_23 : rg 0 9 v200_23) (q201 : wR f201) (rp0 : rg 0 8 p0) (rp1 : rg 0 0 p1) : Met l yX12_ofSpeaker (wd yX12_ofSpeaker cX12_ofSpeaker 3 (some .int)) (RM 0 0 0) (PreP D (TY t) [.ref (a 200), .int p0, .int p1] [(a 200, .inr (12, .int v200_0 :: .ref (a 201) :: .ref (a 202) :: .ref (a 203) :: .ref (a 204) :: .int v200_5 :: .ref (a 205) :: .int v200_7 :: .int v200_8 :: .int v200_9 :: .int v200_10 :: .int v200_11 :: .int v200_12 :: .int v200_13 :: .ref (a 206) :: .int v200_15 :: .ref (a 207) :: .int v200_17 :: .int v200_18 :: .int v200_19 :: .ref (a 208) :: .int v200_21 :: .ref (a 209) :: .int v200_23 :: .ref (a 210) :: .ref (a 211) :: .ref (a 212) :: .int v200_27 :: .int v200_28 :: .int v200_29 :: .ref (a 213) :: .ref (a 214) :: .ref (a 215) :: .int v200_33 :: .int v200_34 :: .int v200_35 :: .ref (a 216) :: .ref (a 217) :: .ref (a 218) :: .ref (a 219) :: [])), (a 201, .inl (t 0, 841, .inl f201))]) (QP (fun _ => True)) 0 0 NoF := by
  refine Met.ofW (cc := cX12_ofSpeaker) (maxL := 3) (ret := (some .int)) (by decide) rfl ?_
  intro p e s m args below meth c s₁ B hml hv
  obtain ⟨rfl, hP, hK, hN⟩ := hv
  have hx := B.exec
  have hb := B.bytes
  have hr := B.returns
  have hts : ∀ w ∈ TB, w.before _ s = true := fun w h => atoms_spec (ws := wd yX12_ofSpeaker cX12_ofSpeaker 3 (some .int)) B.pre w (List.mem_cons_of_mem _ h)
  have hown : s.vm.findClass RX12 = some m.cls := findClass_of_methodNamed B.named
  have hlocks := B.notSynchronized
  have hF : CallFix p m c cX12_ofSpeaker 3 s _ TB RX12 := ⟨hx, hb, hml, hown, hts⟩
  have hl := lv_entry ([.ref (a 200), .int p0, .int p1]) (n := 3) (Nat.le_of_ble_eq_true rfl)
  rw [lg_entry_eq]
  generalize (lg_sl ([.ref (a 200), .int p0, .int p1]) ++ List.replicate (3 - (lg_sl ([.ref (a 200), .int p0, .int p1])).length) Slot.unset).toArray = ls at hl ⊢
  have hl : lv_has ls 3 [(0, .ref (a 200)), (1, .int p0), (2, .int p1)] := hl
  have hS : va_S NoF s.heap s.heap [] := va_S.rf
  have hP : va_P D classes [(a 200, .inr (12, .int v200_0 :: .ref (a 201) :: .ref (a 202) :: .ref (a 203) :: .ref (a 204) :: .int v200_5 :: .ref (a 205) :: .int v200_7 :: .int v200_8 :: .int v200_9 :: .int v200_10 :: .int v200_11 :: .int v200_12 :: .int v200_13 :: .ref (a 206) :: .int v200_15 :: .ref (a 207) :: .int v200_17 :: .int v200_18 :: .int v200_19 :: .ref (a 208) :: .int v200_21 :: .ref (a 209) :: .int v200_23 :: .ref (a 210) :: .ref (a 211) :: .ref (a 212) :: .int v200_27 :: .int v200_28 :: .int v200_29 :: .ref (a 213) :: .ref (a 214) :: .ref (a 215) :: .int v200_33 :: .int v200_34 :: .int v200_35 :: .ref (a 216) :: .ref (a 217) :: .ref (a 218) :: .ref (a 219) :: [])), (a 201, .inl (t 0, 841, .inl f201))] s.heap := hP
  obtain rfl := cs_c (y := 0) rp1 (by decide)
  have hl : lv_has ls 3 [(0, .ref (a 200)), (1, .int p0), (2, .int 0)] := hl
  refine lv_aload_n hx hb dX12_ofSpeaker_0 rfl (lv_at hl 0 rfl) ?_
  refine va_get (D := D) (ci := 12) (v := .ref (a 201)) (C := RX12) (T := TX12) (N := 40) hx hb hts iX12 hown hK hP 0 rfl rfl 1 (by decide) (hts _ m_1344) (fun _ h9 => h9) rfl dX12_ofSpeaker_1 ?_
  refine lv_bipush (v := 52) hx hb dX12_ofSpeaker_4 (by decide) ?_
  refine lv_iconst (v := 4) hx hb dX12_ofSpeaker_6 (by decide) ?_
  refine lv_iload_n hx hb dX12_ofSpeaker_7 rfl (lv_at hl 1 rfl) ?_
  refine lv_imul hx hb dX12_ofSpeaker_8 ?_
  refine lv_topi (fun x_1 ex_1 => ?_)
  have hx_1 : rg 0 32 x_1 := by rw [ex_1]; exact rg_mul (rg_w (c := 0) (d := 4) (rg_c (x := 4) (k := 4) (by decide)) (by decide) (by decide)) rp0 (by decide) (by decide)
  have kx_1 : x_1.toInt % ((4 : Nat) : Int) = ((0 : Nat) : Int) := by rw [ex_1]; exact cg_mul (by decide) rp0 (by decide)
  refine lv_iadd hx hb dX12_ofSpeaker_9 ?_
  refine lv_topi (fun x_2 ex_2 => ?_)
  have hx_2 : rg 52 84 x_2 := by rw [ex_2]; exact rg_add (rg_c (x := 52) (k := 52) (by decide)) hx_1 (by decide) (by decide) (by decide) (by decide)
  have kx_2 : x_2.toInt % ((4 : Nat) : Int) = ((0 : Nat) : Int) := by rw [ex_2]; exact cg_addL (k := 52) kx_1 hx_1 (by decide) (by decide) (by decide) (by decide)
  refine lv_iload_n hx hb dX12_ofSpeaker_10 rfl (lv_at hl 2 rfl) ?_
  refine lv_iadd hx hb dX12_ofSpeaker_11 ?_
  refine lv_topi (fun x_3 ex_3 => ?_)
  have hx_3 : rg 52 84 x_3 := by rw [ex_3]; exact rg_add hx_2 (rg_c (x := 0) (k := 0) (by decide)) (by decide) (by decide) (by decide) (by decide)
  have kx_3 : x_3.toInt % ((4 : Nat) : Int) = ((0 : Nat) : Int) := by rw [ex_3]; exact cg_add (k := 0) kx_2 hx_2 (by decide) (by decide) (by decide) (by decide)
  refine va_iald hx hb hK hP 1 0 rfl rfl (in_rg hx_3 (by decide) (by decide)) dX12_ofSpeaker_12 ?_
  refine lv_topi (fun x_4 ex_4 => ?_)
  exact W.iret (v := x_4) hx hb hr (fun t9 ht hW => ⟨⟨x_4, (), rfl, trivial, trivial⟩, hS.F ht⟩) hS.2.2 dX12_ofSpeaker_13

set_option maxHeartbeats 4000000 in
set_option maxRecDepth 100000 in
theorem s_ofSpeaker1 (l : Launch) (D : va_G) (t : Nat → ClassId) (a : Nat → Nat) (v200_0 : Int32) (v200_5 : Int32) (v200_7 : Int32) (v200_8 : Int32) (v200_9 : Int32) (v200_10 : Int32) (v200_11 : Int32) (v200_12 : Int32) (v200_13 : Int32) (v200_15 : Int32) (v200_17 : Int32) (v200_18 : Int32) (v200_19 : Int32) (v200_21 : Int32) (v200_23 : Int32) (v200_27 : Int32) (v200_28 : Int32) (v200_29 : Int32) (v200_33 : Int32) (v200_34 : Int32) (v200_35 : Int32) (f201 : Nat → Int32) (p0 : Int32) (p1 : Int32) (r200_5 : rg 0 1600 v200_5) (r200_7 : rg 0 1600 v200_7) (r200_8 : rg 0 1600 v200_8) (r200_9 : rg 0 1600 v200_9) (r200_23 : rg 0 9 v200_23) (q201 : wR f201) (rp0 : rg 0 8 p0) (rp1 : rg 1 1 p1) : Met l yX12_ofSpeaker (wd yX12_ofSpeaker cX12_ofSpeaker 3 (some .int)) (RM 0 0 0) (PreP D (TY t) [.ref (a 200), .int p0, .int p1] [(a 200, .inr (12, .int v200_0 :: .ref (a 201) :: .ref (a 202) :: .ref (a 203) :: .ref (a 204) :: .int v200_5 :: .ref (a 205) :: .int v200_7 :: .int v200_8 :: .int v200_9 :: .int v200_10 :: .int v200_11 :: .int v200_12 :: .int v200_13 :: .ref (a 206) :: .int v200_15 :: .ref (a 207) :: .int v200_17 :: .int v200_18 :: .int v200_19 :: .ref (a 208) :: .int v200_21 :: .ref (a 209) :: .int v200_23 :: .ref (a 210) :: .ref (a 211) :: .ref (a 212) :: .int v200_27 :: .int v200_28 :: .int v200_29 :: .ref (a 213) :: .ref (a 214) :: .ref (a 215) :: .int v200_33 :: .int v200_34 :: .int v200_35 :: .ref (a 216) :: .ref (a 217) :: .ref (a 218) :: .ref (a 219) :: [])), (a 201, .inl (t 0, 841, .inl f201))]) (QP (fun _ => True)) 0 0 NoF := by
  refine Met.ofW (cc := cX12_ofSpeaker) (maxL := 3) (ret := (some .int)) (by decide) rfl ?_
  intro p e s m args below meth c s₁ B hml hv
  obtain ⟨rfl, hP, hK, hN⟩ := hv
  have hx := B.exec
  have hb := B.bytes
  have hr := B.returns
  have hts : ∀ w ∈ TB, w.before _ s = true := fun w h => atoms_spec (ws := wd yX12_ofSpeaker cX12_ofSpeaker 3 (some .int)) B.pre w (List.mem_cons_of_mem _ h)
  have hown : s.vm.findClass RX12 = some m.cls := findClass_of_methodNamed B.named
  have hlocks := B.notSynchronized
  have hF : CallFix p m c cX12_ofSpeaker 3 s _ TB RX12 := ⟨hx, hb, hml, hown, hts⟩
  have hl := lv_entry ([.ref (a 200), .int p0, .int p1]) (n := 3) (Nat.le_of_ble_eq_true rfl)
  rw [lg_entry_eq]
  generalize (lg_sl ([.ref (a 200), .int p0, .int p1]) ++ List.replicate (3 - (lg_sl ([.ref (a 200), .int p0, .int p1])).length) Slot.unset).toArray = ls at hl ⊢
  have hl : lv_has ls 3 [(0, .ref (a 200)), (1, .int p0), (2, .int p1)] := hl
  have hS : va_S NoF s.heap s.heap [] := va_S.rf
  have hP : va_P D classes [(a 200, .inr (12, .int v200_0 :: .ref (a 201) :: .ref (a 202) :: .ref (a 203) :: .ref (a 204) :: .int v200_5 :: .ref (a 205) :: .int v200_7 :: .int v200_8 :: .int v200_9 :: .int v200_10 :: .int v200_11 :: .int v200_12 :: .int v200_13 :: .ref (a 206) :: .int v200_15 :: .ref (a 207) :: .int v200_17 :: .int v200_18 :: .int v200_19 :: .ref (a 208) :: .int v200_21 :: .ref (a 209) :: .int v200_23 :: .ref (a 210) :: .ref (a 211) :: .ref (a 212) :: .int v200_27 :: .int v200_28 :: .int v200_29 :: .ref (a 213) :: .ref (a 214) :: .ref (a 215) :: .int v200_33 :: .int v200_34 :: .int v200_35 :: .ref (a 216) :: .ref (a 217) :: .ref (a 218) :: .ref (a 219) :: [])), (a 201, .inl (t 0, 841, .inl f201))] s.heap := hP
  obtain rfl := cs_c (y := 1) rp1 (by decide)
  have hl : lv_has ls 3 [(0, .ref (a 200)), (1, .int p0), (2, .int 1)] := hl
  refine lv_aload_n hx hb dX12_ofSpeaker_0 rfl (lv_at hl 0 rfl) ?_
  refine va_get (D := D) (ci := 12) (v := .ref (a 201)) (C := RX12) (T := TX12) (N := 40) hx hb hts iX12 hown hK hP 0 rfl rfl 1 (by decide) (hts _ m_1344) (fun _ h9 => h9) rfl dX12_ofSpeaker_1 ?_
  refine lv_bipush (v := 52) hx hb dX12_ofSpeaker_4 (by decide) ?_
  refine lv_iconst (v := 4) hx hb dX12_ofSpeaker_6 (by decide) ?_
  refine lv_iload_n hx hb dX12_ofSpeaker_7 rfl (lv_at hl 1 rfl) ?_
  refine lv_imul hx hb dX12_ofSpeaker_8 ?_
  refine lv_topi (fun x_1 ex_1 => ?_)
  have hx_1 : rg 0 32 x_1 := by rw [ex_1]; exact rg_mul (rg_w (c := 0) (d := 4) (rg_c (x := 4) (k := 4) (by decide)) (by decide) (by decide)) rp0 (by decide) (by decide)
  have kx_1 : x_1.toInt % ((4 : Nat) : Int) = ((0 : Nat) : Int) := by rw [ex_1]; exact cg_mul (by decide) rp0 (by decide)
  refine lv_iadd hx hb dX12_ofSpeaker_9 ?_
  refine lv_topi (fun x_2 ex_2 => ?_)
  have hx_2 : rg 52 84 x_2 := by rw [ex_2]; exact rg_add (rg_c (x := 52) (k := 52) (by decide)) hx_1 (by decide) (by decide) (by decide) (by decide)
  have kx_2 : x_2.toInt % ((4 : Nat) : Int) = ((0 : Nat) : Int) := by rw [ex_2]; exact cg_addL (k := 52) kx_1 hx_1 (by decide) (by decide) (by decide) (by decide)
  refine lv_iload_n hx hb dX12_ofSpeaker_10 rfl (lv_at hl 2 rfl) ?_
  refine lv_iadd hx hb dX12_ofSpeaker_11 ?_
  refine lv_topi (fun x_3 ex_3 => ?_)
  have hx_3 : rg 53 85 x_3 := by rw [ex_3]; exact rg_add hx_2 (rg_c (x := 1) (k := 1) (by decide)) (by decide) (by decide) (by decide) (by decide)
  have kx_3 : x_3.toInt % ((4 : Nat) : Int) = ((1 : Nat) : Int) := by rw [ex_3]; exact cg_add (k := 1) kx_2 hx_2 (by decide) (by decide) (by decide) (by decide)
  refine va_iald hx hb hK hP 1 0 rfl rfl (in_rg hx_3 (by decide) (by decide)) dX12_ofSpeaker_12 ?_
  refine lv_topi (fun x_4 ex_4 => ?_)
  exact W.iret (v := x_4) hx hb hr (fun t9 ht hW => ⟨⟨x_4, (), rfl, trivial, trivial⟩, hS.F ht⟩) hS.2.2 dX12_ofSpeaker_13

set_option maxHeartbeats 4000000 in
set_option maxRecDepth 100000 in
theorem s_ofSpeaker2 (l : Launch) (D : va_G) (t : Nat → ClassId) (a : Nat → Nat) (v200_0 : Int32) (v200_5 : Int32) (v200_7 : Int32) (v200_8 : Int32) (v200_9 : Int32) (v200_10 : Int32) (v200_11 : Int32) (v200_12 : Int32) (v200_13 : Int32) (v200_15 : Int32) (v200_17 : Int32) (v200_18 : Int32) (v200_19 : Int32) (v200_21 : Int32) (v200_23 : Int32) (v200_27 : Int32) (v200_28 : Int32) (v200_29 : Int32) (v200_33 : Int32) (v200_34 : Int32) (v200_35 : Int32) (f201 : Nat → Int32) (p0 : Int32) (p1 : Int32) (r200_5 : rg 0 1600 v200_5) (r200_7 : rg 0 1600 v200_7) (r200_8 : rg 0 1600 v200_8) (r200_9 : rg 0 1600 v200_9) (r200_23 : rg 0 9 v200_23) (q201 : wR f201) (rp0 : rg 0 8 p0) (rp1 : rg 2 2 p1) : Met l yX12_ofSpeaker (wd yX12_ofSpeaker cX12_ofSpeaker 3 (some .int)) (RM 0 0 0) (PreP D (TY t) [.ref (a 200), .int p0, .int p1] [(a 200, .inr (12, .int v200_0 :: .ref (a 201) :: .ref (a 202) :: .ref (a 203) :: .ref (a 204) :: .int v200_5 :: .ref (a 205) :: .int v200_7 :: .int v200_8 :: .int v200_9 :: .int v200_10 :: .int v200_11 :: .int v200_12 :: .int v200_13 :: .ref (a 206) :: .int v200_15 :: .ref (a 207) :: .int v200_17 :: .int v200_18 :: .int v200_19 :: .ref (a 208) :: .int v200_21 :: .ref (a 209) :: .int v200_23 :: .ref (a 210) :: .ref (a 211) :: .ref (a 212) :: .int v200_27 :: .int v200_28 :: .int v200_29 :: .ref (a 213) :: .ref (a 214) :: .ref (a 215) :: .int v200_33 :: .int v200_34 :: .int v200_35 :: .ref (a 216) :: .ref (a 217) :: .ref (a 218) :: .ref (a 219) :: [])), (a 201, .inl (t 0, 841, .inl f201))]) (QP (fun _ => True)) 0 0 NoF := by
  refine Met.ofW (cc := cX12_ofSpeaker) (maxL := 3) (ret := (some .int)) (by decide) rfl ?_
  intro p e s m args below meth c s₁ B hml hv
  obtain ⟨rfl, hP, hK, hN⟩ := hv
  have hx := B.exec
  have hb := B.bytes
  have hr := B.returns
  have hts : ∀ w ∈ TB, w.before _ s = true := fun w h => atoms_spec (ws := wd yX12_ofSpeaker cX12_ofSpeaker 3 (some .int)) B.pre w (List.mem_cons_of_mem _ h)
  have hown : s.vm.findClass RX12 = some m.cls := findClass_of_methodNamed B.named
  have hlocks := B.notSynchronized
  have hF : CallFix p m c cX12_ofSpeaker 3 s _ TB RX12 := ⟨hx, hb, hml, hown, hts⟩
  have hl := lv_entry ([.ref (a 200), .int p0, .int p1]) (n := 3) (Nat.le_of_ble_eq_true rfl)
  rw [lg_entry_eq]
  generalize (lg_sl ([.ref (a 200), .int p0, .int p1]) ++ List.replicate (3 - (lg_sl ([.ref (a 200), .int p0, .int p1])).length) Slot.unset).toArray = ls at hl ⊢
  have hl : lv_has ls 3 [(0, .ref (a 200)), (1, .int p0), (2, .int p1)] := hl
  have hS : va_S NoF s.heap s.heap [] := va_S.rf
  have hP : va_P D classes [(a 200, .inr (12, .int v200_0 :: .ref (a 201) :: .ref (a 202) :: .ref (a 203) :: .ref (a 204) :: .int v200_5 :: .ref (a 205) :: .int v200_7 :: .int v200_8 :: .int v200_9 :: .int v200_10 :: .int v200_11 :: .int v200_12 :: .int v200_13 :: .ref (a 206) :: .int v200_15 :: .ref (a 207) :: .int v200_17 :: .int v200_18 :: .int v200_19 :: .ref (a 208) :: .int v200_21 :: .ref (a 209) :: .int v200_23 :: .ref (a 210) :: .ref (a 211) :: .ref (a 212) :: .int v200_27 :: .int v200_28 :: .int v200_29 :: .ref (a 213) :: .ref (a 214) :: .ref (a 215) :: .int v200_33 :: .int v200_34 :: .int v200_35 :: .ref (a 216) :: .ref (a 217) :: .ref (a 218) :: .ref (a 219) :: [])), (a 201, .inl (t 0, 841, .inl f201))] s.heap := hP
  obtain rfl := cs_c (y := 2) rp1 (by decide)
  have hl : lv_has ls 3 [(0, .ref (a 200)), (1, .int p0), (2, .int 2)] := hl
  refine lv_aload_n hx hb dX12_ofSpeaker_0 rfl (lv_at hl 0 rfl) ?_
  refine va_get (D := D) (ci := 12) (v := .ref (a 201)) (C := RX12) (T := TX12) (N := 40) hx hb hts iX12 hown hK hP 0 rfl rfl 1 (by decide) (hts _ m_1344) (fun _ h9 => h9) rfl dX12_ofSpeaker_1 ?_
  refine lv_bipush (v := 52) hx hb dX12_ofSpeaker_4 (by decide) ?_
  refine lv_iconst (v := 4) hx hb dX12_ofSpeaker_6 (by decide) ?_
  refine lv_iload_n hx hb dX12_ofSpeaker_7 rfl (lv_at hl 1 rfl) ?_
  refine lv_imul hx hb dX12_ofSpeaker_8 ?_
  refine lv_topi (fun x_1 ex_1 => ?_)
  have hx_1 : rg 0 32 x_1 := by rw [ex_1]; exact rg_mul (rg_w (c := 0) (d := 4) (rg_c (x := 4) (k := 4) (by decide)) (by decide) (by decide)) rp0 (by decide) (by decide)
  have kx_1 : x_1.toInt % ((4 : Nat) : Int) = ((0 : Nat) : Int) := by rw [ex_1]; exact cg_mul (by decide) rp0 (by decide)
  refine lv_iadd hx hb dX12_ofSpeaker_9 ?_
  refine lv_topi (fun x_2 ex_2 => ?_)
  have hx_2 : rg 52 84 x_2 := by rw [ex_2]; exact rg_add (rg_c (x := 52) (k := 52) (by decide)) hx_1 (by decide) (by decide) (by decide) (by decide)
  have kx_2 : x_2.toInt % ((4 : Nat) : Int) = ((0 : Nat) : Int) := by rw [ex_2]; exact cg_addL (k := 52) kx_1 hx_1 (by decide) (by decide) (by decide) (by decide)
  refine lv_iload_n hx hb dX12_ofSpeaker_10 rfl (lv_at hl 2 rfl) ?_
  refine lv_iadd hx hb dX12_ofSpeaker_11 ?_
  refine lv_topi (fun x_3 ex_3 => ?_)
  have hx_3 : rg 54 86 x_3 := by rw [ex_3]; exact rg_add hx_2 (rg_c (x := 2) (k := 2) (by decide)) (by decide) (by decide) (by decide) (by decide)
  have kx_3 : x_3.toInt % ((4 : Nat) : Int) = ((2 : Nat) : Int) := by rw [ex_3]; exact cg_add (k := 2) kx_2 hx_2 (by decide) (by decide) (by decide) (by decide)
  refine va_iald hx hb hK hP 1 0 rfl rfl (in_rg hx_3 (by decide) (by decide)) dX12_ofSpeaker_12 ?_
  refine lv_topi (fun x_4 ex_4 => ?_)
  exact W.iret (v := x_4) hx hb hr (fun t9 ht hW => ⟨⟨x_4, (), rfl, trivial, trivial⟩, hS.F ht⟩) hS.2.2 dX12_ofSpeaker_13

set_option maxHeartbeats 4000000 in
set_option maxRecDepth 100000 in
theorem s_ofSpeaker3 (l : Launch) (D : va_G) (t : Nat → ClassId) (a : Nat → Nat) (v200_0 : Int32) (v200_5 : Int32) (v200_7 : Int32) (v200_8 : Int32) (v200_9 : Int32) (v200_10 : Int32) (v200_11 : Int32) (v200_12 : Int32) (v200_13 : Int32) (v200_15 : Int32) (v200_17 : Int32) (v200_18 : Int32) (v200_19 : Int32) (v200_21 : Int32) (v200_23 : Int32) (v200_27 : Int32) (v200_28 : Int32) (v200_29 : Int32) (v200_33 : Int32) (v200_34 : Int32) (v200_35 : Int32) (f201 : Nat → Int32) (p0 : Int32) (p1 : Int32) (r200_5 : rg 0 1600 v200_5) (r200_7 : rg 0 1600 v200_7) (r200_8 : rg 0 1600 v200_8) (r200_9 : rg 0 1600 v200_9) (r200_23 : rg 0 9 v200_23) (q201 : wR f201) (rp0 : rg 0 8 p0) (rp1 : rg 3 3 p1) : Met l yX12_ofSpeaker (wd yX12_ofSpeaker cX12_ofSpeaker 3 (some .int)) (RM 0 0 0) (PreP D (TY t) [.ref (a 200), .int p0, .int p1] [(a 200, .inr (12, .int v200_0 :: .ref (a 201) :: .ref (a 202) :: .ref (a 203) :: .ref (a 204) :: .int v200_5 :: .ref (a 205) :: .int v200_7 :: .int v200_8 :: .int v200_9 :: .int v200_10 :: .int v200_11 :: .int v200_12 :: .int v200_13 :: .ref (a 206) :: .int v200_15 :: .ref (a 207) :: .int v200_17 :: .int v200_18 :: .int v200_19 :: .ref (a 208) :: .int v200_21 :: .ref (a 209) :: .int v200_23 :: .ref (a 210) :: .ref (a 211) :: .ref (a 212) :: .int v200_27 :: .int v200_28 :: .int v200_29 :: .ref (a 213) :: .ref (a 214) :: .ref (a 215) :: .int v200_33 :: .int v200_34 :: .int v200_35 :: .ref (a 216) :: .ref (a 217) :: .ref (a 218) :: .ref (a 219) :: [])), (a 201, .inl (t 0, 841, .inl f201))]) (QP (fun _ => True)) 0 0 NoF := by
  refine Met.ofW (cc := cX12_ofSpeaker) (maxL := 3) (ret := (some .int)) (by decide) rfl ?_
  intro p e s m args below meth c s₁ B hml hv
  obtain ⟨rfl, hP, hK, hN⟩ := hv
  have hx := B.exec
  have hb := B.bytes
  have hr := B.returns
  have hts : ∀ w ∈ TB, w.before _ s = true := fun w h => atoms_spec (ws := wd yX12_ofSpeaker cX12_ofSpeaker 3 (some .int)) B.pre w (List.mem_cons_of_mem _ h)
  have hown : s.vm.findClass RX12 = some m.cls := findClass_of_methodNamed B.named
  have hlocks := B.notSynchronized
  have hF : CallFix p m c cX12_ofSpeaker 3 s _ TB RX12 := ⟨hx, hb, hml, hown, hts⟩
  have hl := lv_entry ([.ref (a 200), .int p0, .int p1]) (n := 3) (Nat.le_of_ble_eq_true rfl)
  rw [lg_entry_eq]
  generalize (lg_sl ([.ref (a 200), .int p0, .int p1]) ++ List.replicate (3 - (lg_sl ([.ref (a 200), .int p0, .int p1])).length) Slot.unset).toArray = ls at hl ⊢
  have hl : lv_has ls 3 [(0, .ref (a 200)), (1, .int p0), (2, .int p1)] := hl
  have hS : va_S NoF s.heap s.heap [] := va_S.rf
  have hP : va_P D classes [(a 200, .inr (12, .int v200_0 :: .ref (a 201) :: .ref (a 202) :: .ref (a 203) :: .ref (a 204) :: .int v200_5 :: .ref (a 205) :: .int v200_7 :: .int v200_8 :: .int v200_9 :: .int v200_10 :: .int v200_11 :: .int v200_12 :: .int v200_13 :: .ref (a 206) :: .int v200_15 :: .ref (a 207) :: .int v200_17 :: .int v200_18 :: .int v200_19 :: .ref (a 208) :: .int v200_21 :: .ref (a 209) :: .int v200_23 :: .ref (a 210) :: .ref (a 211) :: .ref (a 212) :: .int v200_27 :: .int v200_28 :: .int v200_29 :: .ref (a 213) :: .ref (a 214) :: .ref (a 215) :: .int v200_33 :: .int v200_34 :: .int v200_35 :: .ref (a 216) :: .ref (a 217) :: .ref (a 218) :: .ref (a 219) :: [])), (a 201, .inl (t 0, 841, .inl f201))] s.heap := hP
  obtain rfl := cs_c (y := 3) rp1 (by decide)
  have hl : lv_has ls 3 [(0, .ref (a 200)), (1, .int p0), (2, .int 3)] := hl
  refine lv_aload_n hx hb dX12_ofSpeaker_0 rfl (lv_at hl 0 rfl) ?_
  refine va_get (D := D) (ci := 12) (v := .ref (a 201)) (C := RX12) (T := TX12) (N := 40) hx hb hts iX12 hown hK hP 0 rfl rfl 1 (by decide) (hts _ m_1344) (fun _ h9 => h9) rfl dX12_ofSpeaker_1 ?_
  refine lv_bipush (v := 52) hx hb dX12_ofSpeaker_4 (by decide) ?_
  refine lv_iconst (v := 4) hx hb dX12_ofSpeaker_6 (by decide) ?_
  refine lv_iload_n hx hb dX12_ofSpeaker_7 rfl (lv_at hl 1 rfl) ?_
  refine lv_imul hx hb dX12_ofSpeaker_8 ?_
  refine lv_topi (fun x_1 ex_1 => ?_)
  have hx_1 : rg 0 32 x_1 := by rw [ex_1]; exact rg_mul (rg_w (c := 0) (d := 4) (rg_c (x := 4) (k := 4) (by decide)) (by decide) (by decide)) rp0 (by decide) (by decide)
  have kx_1 : x_1.toInt % ((4 : Nat) : Int) = ((0 : Nat) : Int) := by rw [ex_1]; exact cg_mul (by decide) rp0 (by decide)
  refine lv_iadd hx hb dX12_ofSpeaker_9 ?_
  refine lv_topi (fun x_2 ex_2 => ?_)
  have hx_2 : rg 52 84 x_2 := by rw [ex_2]; exact rg_add (rg_c (x := 52) (k := 52) (by decide)) hx_1 (by decide) (by decide) (by decide) (by decide)
  have kx_2 : x_2.toInt % ((4 : Nat) : Int) = ((0 : Nat) : Int) := by rw [ex_2]; exact cg_addL (k := 52) kx_1 hx_1 (by decide) (by decide) (by decide) (by decide)
  refine lv_iload_n hx hb dX12_ofSpeaker_10 rfl (lv_at hl 2 rfl) ?_
  refine lv_iadd hx hb dX12_ofSpeaker_11 ?_
  refine lv_topi (fun x_3 ex_3 => ?_)
  have hx_3 : rg 55 87 x_3 := by rw [ex_3]; exact rg_add hx_2 (rg_c (x := 3) (k := 3) (by decide)) (by decide) (by decide) (by decide) (by decide)
  have kx_3 : x_3.toInt % ((4 : Nat) : Int) = ((3 : Nat) : Int) := by rw [ex_3]; exact cg_add (k := 3) kx_2 hx_2 (by decide) (by decide) (by decide) (by decide)
  refine va_iald hx hb hK hP 1 0 rfl rfl (in_rg hx_3 (by decide) (by decide)) dX12_ofSpeaker_12 ?_
  refine lv_topi (fun x_4 ex_4 => ?_)
  exact W.iret (v := x_4) hx hb hr (fun t9 ht hW => ⟨⟨x_4, (), rfl, trivial, trivial⟩, hS.F ht⟩) hS.2.2 dX12_ofSpeaker_13

set_option maxHeartbeats 4000000 in
set_option maxRecDepth 100000 in
theorem s_ofSpeaker (l : Launch) (D : va_G) (t : Nat → ClassId) (a : Nat → Nat) (v200_0 : Int32) (v200_5 : Int32) (v200_7 : Int32) (v200_8 : Int32) (v200_9 : Int32) (v200_10 : Int32) (v200_11 : Int32) (v200_12 : Int32) (v200_13 : Int32) (v200_15 : Int32) (v200_17 : Int32) (v200_18 : Int32) (v200_19 : Int32) (v200_21 : Int32) (v200_23 : Int32) (v200_27 : Int32) (v200_28 : Int32) (v200_29 : Int32) (v200_33 : Int32) (v200_34 : Int32) (v200_35 : Int32) (f201 : Nat → Int32) (p0 : Int32) (p1 : Int32) (r200_5 : rg 0 1600 v200_5) (r200_7 : rg 0 1600 v200_7) (r200_8 : rg 0 1600 v200_8) (r200_9 : rg 0 1600 v200_9) (r200_23 : rg 0 9 v200_23) (q201 : wR f201) (rp0 : rg 0 8 p0) (rp1 : rg 0 3 p1) : Met l yX12_ofSpeaker (wd yX12_ofSpeaker cX12_ofSpeaker 3 (some .int)) (RM 0 0 0) (PreP D (TY t) [.ref (a 200), .int p0, .int p1] [(a 200, .inr (12, .int v200_0 :: .ref (a 201) :: .ref (a 202) :: .ref (a 203) :: .ref (a 204) :: .int v200_5 :: .ref (a 205) :: .int v200_7 :: .int v200_8 :: .int v200_9 :: .int v200_10 :: .int v200_11 :: .int v200_12 :: .int v200_13 :: .ref (a 206) :: .int v200_15 :: .ref (a 207) :: .int v200_17 :: .int v200_18 :: .int v200_19 :: .ref (a 208) :: .int v200_21 :: .ref (a 209) :: .int v200_23 :: .ref (a 210) :: .ref (a 211) :: .ref (a 212) :: .int v200_27 :: .int v200_28 :: .int v200_29 :: .ref (a 213) :: .ref (a 214) :: .ref (a 215) :: .int v200_33 :: .int v200_34 :: .int v200_35 :: .ref (a 216) :: .ref (a 217) :: .ref (a 218) :: .ref (a 219) :: [])), (a 201, .inl (t 0, 841, .inl f201))]) (QP (fun _ => True)) 0 0 NoF := by
  refine Met.ofW (cc := cX12_ofSpeaker) (maxL := 3) (ret := (some .int)) (by decide) rfl ?_
  intro p e s m args below meth c s₁ B hml hv
  obtain ⟨rfl, hP, hK, hN⟩ := hv
  have hx := B.exec
  have hb := B.bytes
  have hr := B.returns
  have hts : ∀ w ∈ TB, w.before _ s = true := fun w h => atoms_spec (ws := wd yX12_ofSpeaker cX12_ofSpeaker 3 (some .int)) B.pre w (List.mem_cons_of_mem _ h)
  have hown : s.vm.findClass RX12 = some m.cls := findClass_of_methodNamed B.named
  have hlocks := B.notSynchronized
  have hF : CallFix p m c cX12_ofSpeaker 3 s _ TB RX12 := ⟨hx, hb, hml, hown, hts⟩
  have hl := lv_entry ([.ref (a 200), .int p0, .int p1]) (n := 3) (Nat.le_of_ble_eq_true rfl)
  rw [lg_entry_eq]
  generalize (lg_sl ([.ref (a 200), .int p0, .int p1]) ++ List.replicate (3 - (lg_sl ([.ref (a 200), .int p0, .int p1])).length) Slot.unset).toArray = ls at hl ⊢
  have hl : lv_has ls 3 [(0, .ref (a 200)), (1, .int p0), (2, .int p1)] := hl
  have hS : va_S NoF s.heap s.heap [] := va_S.rf
  have hP : va_P D classes [(a 200, .inr (12, .int v200_0 :: .ref (a 201) :: .ref (a 202) :: .ref (a 203) :: .ref (a 204) :: .int v200_5 :: .ref (a 205) :: .int v200_7 :: .int v200_8 :: .int v200_9 :: .int v200_10 :: .int v200_11 :: .int v200_12 :: .int v200_13 :: .ref (a 206) :: .int v200_15 :: .ref (a 207) :: .int v200_17 :: .int v200_18 :: .int v200_19 :: .ref (a 208) :: .int v200_21 :: .ref (a 209) :: .int v200_23 :: .ref (a 210) :: .ref (a 211) :: .ref (a 212) :: .int v200_27 :: .int v200_28 :: .int v200_29 :: .ref (a 213) :: .ref (a 214) :: .ref (a 215) :: .int v200_33 :: .int v200_34 :: .int v200_35 :: .ref (a 216) :: .ref (a 217) :: .ref (a 218) :: .ref (a 219) :: [])), (a 201, .inl (t 0, 841, .inl f201))] s.heap := hP
  refine lv_aload_n hx hb dX12_ofSpeaker_0 rfl (lv_at hl 0 rfl) ?_
  refine va_get (D := D) (ci := 12) (v := .ref (a 201)) (C := RX12) (T := TX12) (N := 40) hx hb hts iX12 hown hK hP 0 rfl rfl 1 (by decide) (hts _ m_1344) (fun _ h9 => h9) rfl dX12_ofSpeaker_1 ?_
  refine lv_bipush (v := 52) hx hb dX12_ofSpeaker_4 (by decide) ?_
  refine lv_iconst (v := 4) hx hb dX12_ofSpeaker_6 (by decide) ?_
  refine lv_iload_n hx hb dX12_ofSpeaker_7 rfl (lv_at hl 1 rfl) ?_
  refine lv_imul hx hb dX12_ofSpeaker_8 ?_
  refine lv_topi (fun x_1 ex_1 => ?_)
  have hx_1 : rg 0 32 x_1 := by rw [ex_1]; exact rg_mul (rg_w (c := 0) (d := 4) (rg_c (x := 4) (k := 4) (by decide)) (by decide) (by decide)) rp0 (by decide) (by decide)
  have kx_1 : x_1.toInt % ((4 : Nat) : Int) = ((0 : Nat) : Int) := by rw [ex_1]; exact cg_mul (by decide) rp0 (by decide)
  refine lv_iadd hx hb dX12_ofSpeaker_9 ?_
  refine lv_topi (fun x_2 ex_2 => ?_)
  have hx_2 : rg 52 84 x_2 := by rw [ex_2]; exact rg_add (rg_c (x := 52) (k := 52) (by decide)) hx_1 (by decide) (by decide) (by decide) (by decide)
  have kx_2 : x_2.toInt % ((4 : Nat) : Int) = ((0 : Nat) : Int) := by rw [ex_2]; exact cg_addL (k := 52) kx_1 hx_1 (by decide) (by decide) (by decide) (by decide)
  refine lv_iload_n hx hb dX12_ofSpeaker_10 rfl (lv_at hl 2 rfl) ?_
  refine lv_iadd hx hb dX12_ofSpeaker_11 ?_
  refine lv_topi (fun x_3 ex_3 => ?_)
  have hx_3 : rg 52 87 x_3 := by rw [ex_3]; exact rg_add hx_2 rp1 (by decide) (by decide) (by decide) (by decide)
  refine va_iald hx hb hK hP 1 0 rfl rfl (in_rg hx_3 (by decide) (by decide)) dX12_ofSpeaker_12 ?_
  refine lv_topi (fun x_4 ex_4 => ?_)
  exact W.iret (v := x_4) hx hb hr (fun t9 ht hW => ⟨⟨x_4, (), rfl, trivial, trivial⟩, hS.F ht⟩) hS.2.2 dX12_ofSpeaker_13

set_option maxHeartbeats 4000000 in
set_option maxRecDepth 100000 in
theorem s_X12_isDead (l : Launch) (D : va_G) (t : Nat → ClassId) (a : Nat → Nat) (v200_0 : Int32) (v200_5 : Int32) (v200_7 : Int32) (v200_8 : Int32) (v200_9 : Int32) (v200_10 : Int32) (v200_11 : Int32) (v200_12 : Int32) (v200_13 : Int32) (v200_15 : Int32) (v200_17 : Int32) (v200_18 : Int32) (v200_19 : Int32) (v200_21 : Int32) (v200_23 : Int32) (v200_27 : Int32) (v200_28 : Int32) (v200_29 : Int32) (v200_33 : Int32) (v200_34 : Int32) (v200_35 : Int32) (f201 : Nat → Int32) (p0 : Int32) (r200_5 : rg 0 1600 v200_5) (r200_7 : rg 0 1600 v200_7) (r200_8 : rg 0 1600 v200_8) (r200_9 : rg 0 1600 v200_9) (r200_23 : rg 0 9 v200_23) (q201 : wR f201) : Met l yX12_isDead (wd yX12_isDead cX12_isDead 2 (some .boolean)) (RM 1 0 0) (PreP D (TY t) [.ref (a 200), .int p0] [(a 200, .inr (12, .int v200_0 :: .ref (a 201) :: .ref (a 202) :: .ref (a 203) :: .ref (a 204) :: .int v200_5 :: .ref (a 205) :: .int v200_7 :: .int v200_8 :: .int v200_9 :: .int v200_10 :: .int v200_11 :: .int v200_12 :: .int v200_13 :: .ref (a 206) :: .int v200_15 :: .ref (a 207) :: .int v200_17 :: .int v200_18 :: .int v200_19 :: .ref (a 208) :: .int v200_21 :: .ref (a 209) :: .int v200_23 :: .ref (a 210) :: .ref (a 211) :: .ref (a 212) :: .int v200_27 :: .int v200_28 :: .int v200_29 :: .ref (a 213) :: .ref (a 214) :: .ref (a 215) :: .int v200_33 :: .int v200_34 :: .int v200_35 :: .ref (a 216) :: .ref (a 217) :: .ref (a 218) :: .ref (a 219) :: [])), (a 201, .inl (t 0, 841, .inl f201))]) (QP (fun r => rg 0 1 r)) 0 0 NoF := by
  refine Met.ofW (cc := cX12_isDead) (maxL := 2) (ret := (some .boolean)) (by decide) rfl ?_
  intro p e s m args below meth c s₁ B hml hv
  obtain ⟨rfl, hP, hK, hN⟩ := hv
  have hx := B.exec
  have hb := B.bytes
  have hr := B.returns
  have hts : ∀ w ∈ TB, w.before _ s = true := fun w h => atoms_spec (ws := wd yX12_isDead cX12_isDead 2 (some .boolean)) B.pre w (List.mem_cons_of_mem _ h)
  have hown : s.vm.findClass RX12 = some m.cls := findClass_of_methodNamed B.named
  have hlocks := B.notSynchronized
  have hF : CallFix p m c cX12_isDead 2 s _ TB RX12 := ⟨hx, hb, hml, hown, hts⟩
  have hl := lv_entry ([.ref (a 200), .int p0]) (n := 2) (Nat.le_of_ble_eq_true rfl)
  rw [lg_entry_eq]
  generalize (lg_sl ([.ref (a 200), .int p0]) ++ List.replicate (2 - (lg_sl ([.ref (a 200), .int p0])).length) Slot.unset).toArray = ls at hl ⊢
  have hl : lv_has ls 2 [(0, .ref (a 200)), (1, .int p0)] := hl
  have hS : va_S NoF s.heap s.heap [] := va_S.rf
  have hP : va_P D classes [(a 200, .inr (12, .int v200_0 :: .ref (a 201) :: .ref (a 202) :: .ref (a 203) :: .ref (a 204) :: .int v200_5 :: .ref (a 205) :: .int v200_7 :: .int v200_8 :: .int v200_9 :: .int v200_10 :: .int v200_11 :: .int v200_12 :: .int v200_13 :: .ref (a 206) :: .int v200_15 :: .ref (a 207) :: .int v200_17 :: .int v200_18 :: .int v200_19 :: .ref (a 208) :: .int v200_21 :: .ref (a 209) :: .int v200_23 :: .ref (a 210) :: .ref (a 211) :: .ref (a 212) :: .int v200_27 :: .int v200_28 :: .int v200_29 :: .ref (a 213) :: .ref (a 214) :: .ref (a 215) :: .int v200_33 :: .int v200_34 :: .int v200_35 :: .ref (a 216) :: .ref (a 217) :: .ref (a 218) :: .ref (a 219) :: [])), (a 201, .inl (t 0, 841, .inl f201))] s.heap := hP
  refine lv_aload_n hx hb dX12_isDead_0 rfl (lv_at hl 0 rfl) ?_
  refine va_get (D := D) (ci := 12) (v := .ref (a 201)) (C := RX12) (T := TX12) (N := 40) hx hb hts iX12 hown hK hP 0 rfl rfl 1 (by decide) (hts _ m_1344) (fun _ h9 => h9) rfl dX12_isDead_1 ?_
  refine lv_bipush (v := 11) hx hb dX12_isDead_4 (by decide) ?_
  refine va_iald hx hb hK hP 1 0 rfl rfl (in_rg (rg_c (x := 11) (k := 11) (by decide)) (by decide) (by decide)) dX12_isDead_6 ?_
  refine x_seti (f201 11) rfl ?_
  refine lv_iload_n hx hb dX12_isDead_7 rfl (lv_at hl 1 rfl) ?_
  refine y_pS hF (s_X12_bit l D t a (f201 11) p0) m_1616 m_1617 m_13 m_1618 hd_X12_bit ⟨Nat.le_of_ble_eq_true rfl, Nat.le_of_ble_eq_true rfl⟩ hK hN hP hS [] rfl hl.1 rfl (Nat.le_of_ble_eq_true rfl) dX12_isDead_8 ⟨Nat.zero_le _, Nat.zero_le _⟩ (fun r_1 H locs hr_1 hP hS => ?_)
  have or_1 := hr_1.2
  refine lv_iconst (v := 1) hx hb dX12_isDead_11 (by decide) ?_
  refine lv_icmp_ne (tgt := 19) hx hb dX12_isDead_12 (by decide) (fun c_2 => ?_) (fun c_2 => ?_)
  · skip
    have h_3 : rg 0 0 r_1 := rg_w (rg_neR hr_1.1 c_2 (by decide)) (by decide) (by decide)
    refine lv_iconst (v := 0) hx hb dX12_isDead_19 (by decide) ?_
    exact W.zret (v := 0) hx hb hr rfl (fun t9 ht hW => ⟨⟨0, (), rfl, (rg_w (c := 0) (d := 1) (rg_c (x := 0) (k := 0) (by decide)) (by decide) (by decide)), trivial⟩, hS.F ht⟩) hS.2.2 dX12_isDead_20
  · skip
    have h_4 : rg 1 1 r_1 := rg_eq c_2 (rg_c (x := 1) (k := 1) (by decide))
    refine lv_iconst (v := 1) hx hb dX12_isDead_15 (by decide) ?_
    refine lv_goto (tgt := 20) hx hb dX12_isDead_16 (by decide) ?_
    exact W.zret (v := 1) hx hb hr rfl (fun t9 ht hW => ⟨⟨1, (), rfl, (rg_w (c := 0) (d := 1) (rg_c (x := 1) (k := 1) (by decide)) (by decide) (by decide)), trivial⟩, hS.F ht⟩) hS.2.2 dX12_isDead_20

set_option maxHeartbeats 4000000 in
set_option maxRecDepth 100000 in
theorem s_X12_allWords (l : Launch) (D : va_G) (t : Nat → ClassId) (a : Nat → Nat) (v200_0 : Int32) (v200_5 : Int32) (v200_7 : Int32) (v200_8 : Int32) (v200_9 : Int32) (v200_10 : Int32) (v200_11 : Int32) (v200_12 : Int32) (v200_13 : Int32) (v200_15 : Int32) (v200_17 : Int32) (v200_18 : Int32) (v200_19 : Int32) (v200_21 : Int32) (v200_23 : Int32) (v200_27 : Int32) (v200_28 : Int32) (v200_29 : Int32) (v200_33 : Int32) (v200_34 : Int32) (v200_35 : Int32) (f201 : Nat → Int32) (r200_5 : rg 0 1600 v200_5) (r200_7 : rg 0 1600 v200_7) (r200_8 : rg 0 1600 v200_8) (r200_9 : rg 0 1600 v200_9) (r200_23 : rg 0 9 v200_23) (q201 : wR f201) : Met l yX12_allWords (wd yX12_allWords cX12_allWords 1 (some .int)) (RM 0 0 0) (PreP D (TY t) [.ref (a 200)] [(a 200, .inr (12, .int v200_0 :: .ref (a 201) :: .ref (a 202) :: .ref (a 203) :: .ref (a 204) :: .int v200_5 :: .ref (a 205) :: .int v200_7 :: .int v200_8 :: .int v200_9 :: .int v200_10 :: .int v200_11 :: .int v200_12 :: .int v200_13 :: .ref (a 206) :: .int v200_15 :: .ref (a 207) :: .int v200_17 :: .int v200_18 :: .int v200_19 :: .ref (a 208) :: .int v200_21 :: .ref (a 209) :: .int v200_23 :: .ref (a 210) :: .ref (a 211) :: .ref (a 212) :: .int v200_27 :: .int v200_28 :: .int v200_29 :: .ref (a 213) :: .ref (a 214) :: .ref (a 215) :: .int v200_33 :: .int v200_34 :: .int v200_35 :: .ref (a 216) :: .ref (a 217) :: .ref (a 218) :: .ref (a 219) :: [])), (a 201, .inl (t 0, 841, .inl f201))]) (QP (fun r => rg 0 511 r)) 0 0 NoF := by
  refine Met.ofW (cc := cX12_allWords) (maxL := 1) (ret := (some .int)) (by decide) rfl ?_
  intro p e s m args below meth c s₁ B hml hv
  obtain ⟨rfl, hP, hK, hN⟩ := hv
  have hx := B.exec
  have hb := B.bytes
  have hr := B.returns
  have hts : ∀ w ∈ TB, w.before _ s = true := fun w h => atoms_spec (ws := wd yX12_allWords cX12_allWords 1 (some .int)) B.pre w (List.mem_cons_of_mem _ h)
  have hown : s.vm.findClass RX12 = some m.cls := findClass_of_methodNamed B.named
  have hlocks := B.notSynchronized
  have hF : CallFix p m c cX12_allWords 1 s _ TB RX12 := ⟨hx, hb, hml, hown, hts⟩
  have hl := lv_entry ([.ref (a 200)]) (n := 1) (Nat.le_of_ble_eq_true rfl)
  rw [lg_entry_eq]
  generalize (lg_sl ([.ref (a 200)]) ++ List.replicate (1 - (lg_sl ([.ref (a 200)])).length) Slot.unset).toArray = ls at hl ⊢
  have hl : lv_has ls 1 [(0, .ref (a 200))] := hl
  have hS : va_S NoF s.heap s.heap [] := va_S.rf
  have hP : va_P D classes [(a 200, .inr (12, .int v200_0 :: .ref (a 201) :: .ref (a 202) :: .ref (a 203) :: .ref (a 204) :: .int v200_5 :: .ref (a 205) :: .int v200_7 :: .int v200_8 :: .int v200_9 :: .int v200_10 :: .int v200_11 :: .int v200_12 :: .int v200_13 :: .ref (a 206) :: .int v200_15 :: .ref (a 207) :: .int v200_17 :: .int v200_18 :: .int v200_19 :: .ref (a 208) :: .int v200_21 :: .ref (a 209) :: .int v200_23 :: .ref (a 210) :: .ref (a 211) :: .ref (a 212) :: .int v200_27 :: .int v200_28 :: .int v200_29 :: .ref (a 213) :: .ref (a 214) :: .ref (a 215) :: .int v200_33 :: .int v200_34 :: .int v200_35 :: .ref (a 216) :: .ref (a 217) :: .ref (a 218) :: .ref (a 219) :: [])), (a 201, .inl (t 0, 841, .inl f201))] s.heap := hP
  refine lv_iconst (v := 1) hx hb dX12_allWords_0 (by decide) ?_
  refine lv_aload_n hx hb dX12_allWords_1 rfl (lv_at hl 0 rfl) ?_
  refine va_get (D := D) (ci := 12) (v := .ref (a 201)) (C := RX12) (T := TX12) (N := 40) hx hb hts iX12 hown hK hP 0 rfl rfl 1 (by decide) (hts _ m_1344) (fun _ h9 => h9) rfl dX12_allWords_2 ?_
  refine lv_iconst (v := 5) hx hb dX12_allWords_5 (by decide) ?_
  refine va_iald hx hb hK hP 1 0 rfl rfl (in_rg (rg_c (x := 5) (k := 5) (by decide)) (by decide) (by decide)) dX12_allWords_6 ?_
  refine x_seti (f201 5) rfl ?_
  have h_1 : rg 0 9 (f201 5) := q201 5 (by decide)
  refine lv_ishl hx hb dX12_allWords_7 ?_
  refine lv_topi (fun x_2 ex_2 => ?_)
  have hx_2 : rg 1 512 x_2 := by rw [ex_2]; exact rg_shl1 (b := 9) h_1 (by decide) (by decide)
  refine lv_iconst (v := 1) hx hb dX12_allWords_8 (by decide) ?_
  refine lv_isub hx hb dX12_allWords_9 ?_
  refine lv_topi (fun x_3 ex_3 => ?_)
  have hx_3 : rg 0 511 x_3 := by rw [ex_3]; exact rg_sub hx_2 (rg_c (x := 1) (k := 1) (by decide)) (by decide) (by decide) (by decide) (by decide)
  exact W.iret (v := x_3) hx hb hr (fun t9 ht hW => ⟨⟨x_3, (), rfl, hx_3, trivial⟩, hS.F ht⟩) hS.2.2 dX12_allWords_10

set_option maxHeartbeats 4000000 in
set_option maxRecDepth 100000 in
theorem s_X12_living (l : Launch) (D : va_G) (t : Nat → ClassId) (a : Nat → Nat) (v200_0 : Int32) (v200_5 : Int32) (v200_7 : Int32) (v200_8 : Int32) (v200_9 : Int32) (v200_10 : Int32) (v200_11 : Int32) (v200_12 : Int32) (v200_13 : Int32) (v200_15 : Int32) (v200_17 : Int32) (v200_18 : Int32) (v200_19 : Int32) (v200_21 : Int32) (v200_23 : Int32) (v200_27 : Int32) (v200_28 : Int32) (v200_29 : Int32) (v200_33 : Int32) (v200_34 : Int32) (v200_35 : Int32) (f201 : Nat → Int32) (r200_5 : rg 0 1600 v200_5) (r200_7 : rg 0 1600 v200_7) (r200_8 : rg 0 1600 v200_8) (r200_9 : rg 0 1600 v200_9) (r200_23 : rg 0 9 v200_23) (q201 : wR f201) : Met l yX12_living (wd yX12_living cX12_living 1 (some .int)) (RM 1 0 0) (PreP D (TY t) [.ref (a 200)] [(a 200, .inr (12, .int v200_0 :: .ref (a 201) :: .ref (a 202) :: .ref (a 203) :: .ref (a 204) :: .int v200_5 :: .ref (a 205) :: .int v200_7 :: .int v200_8 :: .int v200_9 :: .int v200_10 :: .int v200_11 :: .int v200_12 :: .int v200_13 :: .ref (a 206) :: .int v200_15 :: .ref (a 207) :: .int v200_17 :: .int v200_18 :: .int v200_19 :: .ref (a 208) :: .int v200_21 :: .ref (a 209) :: .int v200_23 :: .ref (a 210) :: .ref (a 211) :: .ref (a 212) :: .int v200_27 :: .int v200_28 :: .int v200_29 :: .ref (a 213) :: .ref (a 214) :: .ref (a 215) :: .int v200_33 :: .int v200_34 :: .int v200_35 :: .ref (a 216) :: .ref (a 217) :: .ref (a 218) :: .ref (a 219) :: [])), (a 201, .inl (t 0, 841, .inl f201))]) (QP (fun r => rg 0 511 r)) 0 0 NoF := by
  refine Met.ofW (cc := cX12_living) (maxL := 1) (ret := (some .int)) (by decide) rfl ?_
  intro p e s m args below meth c s₁ B hml hv
  obtain ⟨rfl, hP, hK, hN⟩ := hv
  have hx := B.exec
  have hb := B.bytes
  have hr := B.returns
  have hts : ∀ w ∈ TB, w.before _ s = true := fun w h => atoms_spec (ws := wd yX12_living cX12_living 1 (some .int)) B.pre w (List.mem_cons_of_mem _ h)
  have hown : s.vm.findClass RX12 = some m.cls := findClass_of_methodNamed B.named
  have hlocks := B.notSynchronized
  have hF : CallFix p m c cX12_living 1 s _ TB RX12 := ⟨hx, hb, hml, hown, hts⟩
  have hl := lv_entry ([.ref (a 200)]) (n := 1) (Nat.le_of_ble_eq_true rfl)
  rw [lg_entry_eq]
  generalize (lg_sl ([.ref (a 200)]) ++ List.replicate (1 - (lg_sl ([.ref (a 200)])).length) Slot.unset).toArray = ls at hl ⊢
  have hl : lv_has ls 1 [(0, .ref (a 200))] := hl
  have hS : va_S NoF s.heap s.heap [] := va_S.rf
  have hP : va_P D classes [(a 200, .inr (12, .int v200_0 :: .ref (a 201) :: .ref (a 202) :: .ref (a 203) :: .ref (a 204) :: .int v200_5 :: .ref (a 205) :: .int v200_7 :: .int v200_8 :: .int v200_9 :: .int v200_10 :: .int v200_11 :: .int v200_12 :: .int v200_13 :: .ref (a 206) :: .int v200_15 :: .ref (a 207) :: .int v200_17 :: .int v200_18 :: .int v200_19 :: .ref (a 208) :: .int v200_21 :: .ref (a 209) :: .int v200_23 :: .ref (a 210) :: .ref (a 211) :: .ref (a 212) :: .int v200_27 :: .int v200_28 :: .int v200_29 :: .ref (a 213) :: .ref (a 214) :: .ref (a 215) :: .int v200_33 :: .int v200_34 :: .int v200_35 :: .ref (a 216) :: .ref (a 217) :: .ref (a 218) :: .ref (a 219) :: [])), (a 201, .inl (t 0, 841, .inl f201))] s.heap := hP
  refine lv_aload_n hx hb dX12_living_0 rfl (lv_at hl 0 rfl) ?_
  refine y_pV hF (s_X12_allWords l D t a v200_0 v200_5 v200_7 v200_8 v200_9 v200_10 v200_11 v200_12 v200_13 v200_15 v200_17 v200_18 v200_19 v200_21 v200_23 v200_27 v200_28 v200_29 v200_33 v200_34 v200_35 f201 r200_5 r200_7 r200_8 r200_9 r200_23 q201) m_1648 m_1650 m_s64 m_13 m_1651 hd_X12_allWords ⟨Nat.le_of_ble_eq_true rfl, Nat.le_of_ble_eq_true rfl⟩ hK hN hP hS [0, 1] rfl 0 (ci := 12) rfl rfl rfl hl.1 rfl (Nat.le_of_ble_eq_true rfl) dX12_living_1 ⟨Nat.zero_le _, Nat.zero_le _⟩ (fun r_1 H locs hr_1 hP hS => ?_)
  refine lv_aload_n hx hb dX12_living_4 rfl (lv_at hl 0 rfl) ?_
  refine va_get (D := D) (ci := 12) (v := .ref (a 201)) (C := RX12) (T := TX12) (N := 40) hx hb hts iX12 hown hK hP 0 rfl rfl 1 (by decide) (hts _ m_1344) (fun _ h9 => h9) rfl dX12_living_5 ?_
  refine lv_bipush (v := 11) hx hb dX12_living_8 (by decide) ?_
  refine va_iald hx hb hK hP 1 0 rfl rfl (in_rg (rg_c (x := 11) (k := 11) (by decide)) (by decide) (by decide)) dX12_living_10 ?_
  refine x_seti (f201 11) rfl ?_
  refine lv_iconst (v := (-1)) hx hb dX12_living_11 (by decide) ?_
  refine lv_ixor hx hb dX12_living_12 ?_
  refine lv_topi (fun x_2 ex_2 => ?_)
  refine lv_iand hx hb dX12_living_13 ?_
  refine lv_topi (fun x_3 ex_3 => ?_)
  have hx_3 : rg 0 511 x_3 := by rw [ex_3]; exact rg_andL hr_1
  exact W.iret (v := x_3) hx hb hr (fun t9 ht hW => ⟨⟨x_3, (), rfl, hx_3, trivial⟩, hS.F ht⟩) hS.2.2 dX12_living_14

set_option maxHeartbeats 4000000 in
set_option maxRecDepth 100000 in
theorem s_X12_see (l : Launch) (D : va_G) (t : Nat → ClassId) (a : Nat → Nat) (v200_0 : Int32) (v200_5 : Int32) (v200_7 : Int32) (v200_8 : Int32) (v200_9 : Int32) (v200_10 : Int32) (v200_11 : Int32) (v200_12 : Int32) (v200_13 : Int32) (v200_15 : Int32) (v200_17 : Int32) (v200_18 : Int32) (v200_19 : Int32) (v200_21 : Int32) (v200_23 : Int32) (v200_27 : Int32) (v200_28 : Int32) (v200_29 : Int32) (v200_33 : Int32) (v200_34 : Int32) (v200_35 : Int32) (f204 : Nat → Int32) (p0 : Int32) (r200_5 : rg 0 1600 v200_5) (r200_7 : rg 0 1600 v200_7) (r200_8 : rg 0 1600 v200_8) (r200_9 : rg 0 1600 v200_9) (r200_23 : rg 0 9 v200_23) (rp0 : rg 0 2147483647 p0) : Met l yX12_see (wd yX12_see cX12_see 2 (some .int)) (RM 0 0 0) (PreP D (TY t) [.ref (a 200), .int p0] [(a 200, .inr (12, .int v200_0 :: .ref (a 201) :: .ref (a 202) :: .ref (a 203) :: .ref (a 204) :: .int v200_5 :: .ref (a 205) :: .int v200_7 :: .int v200_8 :: .int v200_9 :: .int v200_10 :: .int v200_11 :: .int v200_12 :: .int v200_13 :: .ref (a 206) :: .int v200_15 :: .ref (a 207) :: .int v200_17 :: .int v200_18 :: .int v200_19 :: .ref (a 208) :: .int v200_21 :: .ref (a 209) :: .int v200_23 :: .ref (a 210) :: .ref (a 211) :: .ref (a 212) :: .int v200_27 :: .int v200_28 :: .int v200_29 :: .ref (a 213) :: .ref (a 214) :: .ref (a 215) :: .int v200_33 :: .int v200_34 :: .int v200_35 :: .ref (a 216) :: .ref (a 217) :: .ref (a 218) :: .ref (a 219) :: [])), (a 204, .inl (t 1, 1600, .inl f204))]) (QP (fun r => rg (-1) 255 r ∧ (r.toInt < 0 ∨ rg 0 1599 p0))) 0 0 NoF := by
  refine Met.ofW (cc := cX12_see) (maxL := 2) (ret := (some .int)) (by decide) rfl ?_
  intro p e s m args below meth c s₁ B hml hv
  obtain ⟨rfl, hP, hK, hN⟩ := hv
  have hx := B.exec
  have hb := B.bytes
  have hr := B.returns
  have hts : ∀ w ∈ TB, w.before _ s = true := fun w h => atoms_spec (ws := wd yX12_see cX12_see 2 (some .int)) B.pre w (List.mem_cons_of_mem _ h)
  have hown : s.vm.findClass RX12 = some m.cls := findClass_of_methodNamed B.named
  have hlocks := B.notSynchronized
  have hF : CallFix p m c cX12_see 2 s _ TB RX12 := ⟨hx, hb, hml, hown, hts⟩
  have hl := lv_entry ([.ref (a 200), .int p0]) (n := 2) (Nat.le_of_ble_eq_true rfl)
  rw [lg_entry_eq]
  generalize (lg_sl ([.ref (a 200), .int p0]) ++ List.replicate (2 - (lg_sl ([.ref (a 200), .int p0])).length) Slot.unset).toArray = ls at hl ⊢
  have hl : lv_has ls 2 [(0, .ref (a 200)), (1, .int p0)] := hl
  have hS : va_S NoF s.heap s.heap [] := va_S.rf
  have hP : va_P D classes [(a 200, .inr (12, .int v200_0 :: .ref (a 201) :: .ref (a 202) :: .ref (a 203) :: .ref (a 204) :: .int v200_5 :: .ref (a 205) :: .int v200_7 :: .int v200_8 :: .int v200_9 :: .int v200_10 :: .int v200_11 :: .int v200_12 :: .int v200_13 :: .ref (a 206) :: .int v200_15 :: .ref (a 207) :: .int v200_17 :: .int v200_18 :: .int v200_19 :: .ref (a 208) :: .int v200_21 :: .ref (a 209) :: .int v200_23 :: .ref (a 210) :: .ref (a 211) :: .ref (a 212) :: .int v200_27 :: .int v200_28 :: .int v200_29 :: .ref (a 213) :: .ref (a 214) :: .ref (a 215) :: .int v200_33 :: .int v200_34 :: .int v200_35 :: .ref (a 216) :: .ref (a 217) :: .ref (a 218) :: .ref (a 219) :: [])), (a 204, .inl (t 1, 1600, .inl f204))] s.heap := hP
  refine lv_iload_n hx hb dX12_see_0 rfl (lv_at hl 1 rfl) ?_
  refine lv_aload_n hx hb dX12_see_1 rfl (lv_at hl 0 rfl) ?_
  refine va_get (D := D) (ci := 12) (v := .int v200_7) (C := RX12) (T := TX12) (N := 40) hx hb hts iX12 hown hK hP 0 rfl rfl 7 (by decide) (hts _ m_1350) (fun _ h9 => h9) rfl dX12_see_2 ?_
  refine lv_icmp_ge (tgt := 21) hx hb dX12_see_5 (by decide) (fun c_1 => ?_) (fun c_1 => ?_)
  · skip
    refine lv_iconst (v := (-1)) hx hb dX12_see_21 (by decide) ?_
    exact W.iret (v := (-1)) hx hb hr (fun t9 ht hW => ⟨⟨(-1), (), rfl, ⟨(rg_w (c := (-1)) (d := 255) (rg_c (x := (-1)) (k := (-1)) (by decide)) (by decide) (by decide)), Or.inl (by decide)⟩, trivial⟩, hS.F ht⟩) hS.2.2 dX12_see_22
  · skip
    have h_2 : rg 0 1599 p0 := ⟨(rp0).1, Int.le_trans (c_nleR c_1 r200_7) (by decide)⟩
    have h_3 : rg 1 1600 v200_7 := ⟨Int.le_trans (by decide) (c_nle c_1 rp0), (r200_7).2⟩
    refine lv_aload_n hx hb dX12_see_8 rfl (lv_at hl 0 rfl) ?_
    refine va_get (D := D) (ci := 12) (v := .ref (a 204)) (C := RX12) (T := TX12) (N := 40) hx hb hts iX12 hown hK hP 0 rfl rfl 4 (by decide) (hts _ m_1347) (fun _ h9 => h9) rfl dX12_see_9 ?_
    refine lv_iload_n hx hb dX12_see_12 rfl (lv_at hl 1 rfl) ?_
    refine va_bald hx hb hK hP 1 1 rfl rfl (in_rg h_2 (by decide) (by decide)) dX12_see_13 ?_
    refine lv_topi (fun x_4 ex_4 => ?_)
    refine lv_sipush (v := 255) hx hb dX12_see_14 (by decide) ?_
    refine lv_iand hx hb dX12_see_17 ?_
    refine lv_topi (fun x_5 ex_5 => ?_)
    have hx_5 : rg 0 255 x_5 := by rw [ex_5]; exact rg_and (rg_w (c := 0) (d := 255) (rg_c (x := 255) (k := 255) (by decide)) (by decide) (by decide))
    refine lv_goto (tgt := 22) hx hb dX12_see_18 (by decide) ?_
    exact W.iret (v := x_5) hx hb hr (fun t9 ht hW => ⟨⟨x_5, (), rfl, ⟨(rg_w (c := (-1)) (d := 255) hx_5 (by decide) (by decide)), Or.inr h_2⟩, trivial⟩, hS.F ht⟩) hS.2.2 dX12_see_22

set_option maxHeartbeats 4000000 in
set_option maxRecDepth 100000 in
theorem s_X12_good (l : Launch) (D : va_G) (t : Nat → ClassId) (a : Nat → Nat) (v200_0 : Int32) (v200_5 : Int32) (v200_7 : Int32) (v200_8 : Int32) (v200_9 : Int32) (v200_10 : Int32) (v200_11 : Int32) (v200_12 : Int32) (v200_13 : Int32) (v200_15 : Int32) (v200_17 : Int32) (v200_18 : Int32) (v200_19 : Int32) (v200_21 : Int32) (v200_23 : Int32) (v200_27 : Int32) (v200_28 : Int32) (v200_29 : Int32) (v200_33 : Int32) (v200_34 : Int32) (v200_35 : Int32) (r200_5 : rg 0 1600 v200_5) (r200_7 : rg 0 1600 v200_7) (r200_8 : rg 0 1600 v200_8) (r200_9 : rg 0 1600 v200_9) (r200_23 : rg 0 9 v200_23) : Met l yX12_good (wd yX12_good cX12_good 1 (some .boolean)) (RM 0 0 0) (PreP D (TY t) [.ref (a 200)] [(a 200, .inr (12, .int v200_0 :: .ref (a 201) :: .ref (a 202) :: .ref (a 203) :: .ref (a 204) :: .int v200_5 :: .ref (a 205) :: .int v200_7 :: .int v200_8 :: .int v200_9 :: .int v200_10 :: .int v200_11 :: .int v200_12 :: .int v200_13 :: .ref (a 206) :: .int v200_15 :: .ref (a 207) :: .int v200_17 :: .int v200_18 :: .int v200_19 :: .ref (a 208) :: .int v200_21 :: .ref (a 209) :: .int v200_23 :: .ref (a 210) :: .ref (a 211) :: .ref (a 212) :: .int v200_27 :: .int v200_28 :: .int v200_29 :: .ref (a 213) :: .ref (a 214) :: .ref (a 215) :: .int v200_33 :: .int v200_34 :: .int v200_35 :: .ref (a 216) :: .ref (a 217) :: .ref (a 218) :: .ref (a 219) :: []))]) (QP (fun r => rg 0 1 r)) 0 0 NoF := by
  refine Met.ofW (cc := cX12_good) (maxL := 1) (ret := (some .boolean)) (by decide) rfl ?_
  intro p e s m args below meth c s₁ B hml hv
  obtain ⟨rfl, hP, hK, hN⟩ := hv
  have hx := B.exec
  have hb := B.bytes
  have hr := B.returns
  have hts : ∀ w ∈ TB, w.before _ s = true := fun w h => atoms_spec (ws := wd yX12_good cX12_good 1 (some .boolean)) B.pre w (List.mem_cons_of_mem _ h)
  have hown : s.vm.findClass RX12 = some m.cls := findClass_of_methodNamed B.named
  have hlocks := B.notSynchronized
  have hF : CallFix p m c cX12_good 1 s _ TB RX12 := ⟨hx, hb, hml, hown, hts⟩
  have hl := lv_entry ([.ref (a 200)]) (n := 1) (Nat.le_of_ble_eq_true rfl)
  rw [lg_entry_eq]
  generalize (lg_sl ([.ref (a 200)]) ++ List.replicate (1 - (lg_sl ([.ref (a 200)])).length) Slot.unset).toArray = ls at hl ⊢
  have hl : lv_has ls 1 [(0, .ref (a 200))] := hl
  have hS : va_S NoF s.heap s.heap [] := va_S.rf
  have hP : va_P D classes [(a 200, .inr (12, .int v200_0 :: .ref (a 201) :: .ref (a 202) :: .ref (a 203) :: .ref (a 204) :: .int v200_5 :: .ref (a 205) :: .int v200_7 :: .int v200_8 :: .int v200_9 :: .int v200_10 :: .int v200_11 :: .int v200_12 :: .int v200_13 :: .ref (a 206) :: .int v200_15 :: .ref (a 207) :: .int v200_17 :: .int v200_18 :: .int v200_19 :: .ref (a 208) :: .int v200_21 :: .ref (a 209) :: .int v200_23 :: .ref (a 210) :: .ref (a 211) :: .ref (a 212) :: .int v200_27 :: .int v200_28 :: .int v200_29 :: .ref (a 213) :: .ref (a 214) :: .ref (a 215) :: .int v200_33 :: .int v200_34 :: .int v200_35 :: .ref (a 216) :: .ref (a 217) :: .ref (a 218) :: .ref (a 219) :: []))] s.heap := hP
  refine lv_aload_n hx hb dX12_good_0 rfl (lv_at hl 0 rfl) ?_
  refine va_get (D := D) (ci := 12) (v := .int v200_12) (C := RX12) (T := TX12) (N := 40) hx hb hts iX12 hown hK hP 0 rfl rfl 12 (by decide) (hts _ m_1355) (fun _ h9 => h9) rfl dX12_good_1 ?_
  refine lv_if_ne (tgt := 11) hx hb dX12_good_4 (by decide) (fun c_1 => ?_) (fun c_1 => ?_)
  · skip
    refine lv_iconst (v := 0) hx hb dX12_good_11 (by decide) ?_
    exact W.zret (v := 0) hx hb hr rfl (fun t9 ht hW => ⟨⟨0, (), rfl, (rg_w (c := 0) (d := 1) (rg_c (x := 0) (k := 0) (by decide)) (by decide) (by decide)), trivial⟩, hS.F ht⟩) hS.2.2 dX12_good_12
  · skip
    have h_2 : rg 0 0 v200_12 := rg_eq c_1 (rg_c (x := 0) (k := 0) (by decide))
    refine lv_iconst (v := 1) hx hb dX12_good_7 (by decide) ?_
    refine lv_goto (tgt := 12) hx hb dX12_good_8 (by decide) ?_
    exact W.zret (v := 1) hx hb hr rfl (fun t9 ht hW => ⟨⟨1, (), rfl, (rg_w (c := 0) (d := 1) (rg_c (x := 1) (k := 1) (by decide)) (by decide) (by decide)), trivial⟩, hS.F ht⟩) hS.2.2 dX12_good_12

set_option maxHeartbeats 4000000 in
set_option maxRecDepth 100000 in
theorem s_X12_errs (l : Launch) (D : va_G) (t : Nat → ClassId) (a : Nat → Nat) (v200_0 : Int32) (v200_5 : Int32) (v200_7 : Int32) (v200_8 : Int32) (v200_9 : Int32) (v200_10 : Int32) (v200_11 : Int32) (v200_12 : Int32) (v200_13 : Int32) (v200_15 : Int32) (v200_17 : Int32) (v200_18 : Int32) (v200_19 : Int32) (v200_21 : Int32) (v200_23 : Int32) (v200_27 : Int32) (v200_28 : Int32) (v200_29 : Int32) (v200_33 : Int32) (v200_34 : Int32) (v200_35 : Int32) (p0 : Int32) (r200_5 : rg 0 1600 v200_5) (r200_7 : rg 0 1600 v200_7) (r200_8 : rg 0 1600 v200_8) (r200_9 : rg 0 1600 v200_9) (r200_23 : rg 0 9 v200_23) (sz : Nat) : Met l yX12_errs (wd yX12_errs cX12_errs 2 none) (RM 1 0 0) (PreW D (TY t) [.ref (a 200), .int p0] [(a 200, .inr (12, .int v200_0 :: .ref (a 201) :: .ref (a 202) :: .ref (a 203) :: .ref (a 204) :: .int v200_5 :: .ref (a 205) :: .int v200_7 :: .int v200_8 :: .int v200_9 :: .int v200_10 :: .int v200_11 :: .int v200_12 :: .int v200_13 :: .ref (a 206) :: .int v200_15 :: .ref (a 207) :: .int v200_17 :: .int v200_18 :: .int v200_19 :: .ref (a 208) :: .int v200_21 :: .ref (a 209) :: .int v200_23 :: .ref (a 210) :: .ref (a 211) :: .ref (a 212) :: .int v200_27 :: .int v200_28 :: .int v200_29 :: .ref (a 213) :: .ref (a 214) :: .ref (a 215) :: .int v200_33 :: .int v200_34 :: .int v200_35 :: .ref (a 216) :: .ref (a 217) :: .ref (a 218) :: .ref (a 219) :: []))] sz) (va_Qv (fun (_ : US) => True) (fun (u : US) t9 => va_P D classes ((fun u : US => [(a 200, .inr (12, .int v200_0 :: .ref (a 201) :: .ref (a 202) :: .ref (a 203) :: .ref (a 204) :: .int v200_5 :: .ref (a 205) :: .int v200_7 :: .int v200_8 :: .int v200_9 :: .int v200_10 :: .int v200_11 :: .int (u.1 0) :: .int (u.1 1) :: .ref (a 206) :: .int v200_15 :: .ref (a 207) :: .int v200_17 :: .int v200_18 :: .int v200_19 :: .ref (a 208) :: .int v200_21 :: .ref (a 209) :: .int v200_23 :: .ref (a 210) :: .ref (a 211) :: .ref (a 212) :: .int v200_27 :: .int v200_28 :: .int v200_29 :: .ref (a 213) :: .ref (a 214) :: .ref (a 215) :: .int v200_33 :: .int v200_34 :: .int v200_35 :: .ref (a 216) :: .ref (a 217) :: .ref (a 218) :: .ref (a 219) :: []))]) u) t9.heap ∧ va_D (va_A [(a 200, .inr (12, .int v200_0 :: .ref (a 201) :: .ref (a 202) :: .ref (a 203) :: .ref (a 204) :: .int v200_5 :: .ref (a 205) :: .int v200_7 :: .int v200_8 :: .int v200_9 :: .int v200_10 :: .int v200_11 :: .int v200_12 :: .int v200_13 :: .ref (a 206) :: .int v200_15 :: .ref (a 207) :: .int v200_17 :: .int v200_18 :: .int v200_19 :: .ref (a 208) :: .int v200_21 :: .ref (a 209) :: .int v200_23 :: .ref (a 210) :: .ref (a 211) :: .ref (a 212) :: .int v200_27 :: .int v200_28 :: .int v200_29 :: .ref (a 213) :: .ref (a 214) :: .ref (a 215) :: .int v200_33 :: .int v200_34 :: .int v200_35 :: .ref (a 216) :: .ref (a 217) :: .ref (a 218) :: .ref (a 219) :: []))] sz) ((fun u : US => [(a 200, .inr (12, .int v200_0 :: .ref (a 201) :: .ref (a 202) :: .ref (a 203) :: .ref (a 204) :: .int v200_5 :: .ref (a 205) :: .int v200_7 :: .int v200_8 :: .int v200_9 :: .int v200_10 :: .int v200_11 :: .int (u.1 0) :: .int (u.1 1) :: .ref (a 206) :: .int v200_15 :: .ref (a 207) :: .int v200_17 :: .int v200_18 :: .int v200_19 :: .ref (a 208) :: .int v200_21 :: .ref (a 209) :: .int v200_23 :: .ref (a 210) :: .ref (a 211) :: .ref (a 212) :: .int v200_27 :: .int v200_28 :: .int v200_29 :: .ref (a 213) :: .ref (a 214) :: .ref (a 215) :: .int v200_33 :: .int v200_34 :: .int v200_35 :: .ref (a 216) :: .ref (a 217) :: .ref (a 218) :: .ref (a 219) :: []))]) u)) (va_A [(a 200, .inr (12, .int v200_0 :: .ref (a 201) :: .ref (a 202) :: .ref (a 203) :: .ref (a 204) :: .int v200_5 :: .ref (a 205) :: .int v200_7 :: .int v200_8 :: .int v200_9 :: .int v200_10 :: .int v200_11 :: .int v200_12 :: .int v200_13 :: .ref (a 206) :: .int v200_15 :: .ref (a 207) :: .int v200_17 :: .int v200_18 :: .int v200_19 :: .ref (a 208) :: .int v200_21 :: .ref (a 209) :: .int v200_23 :: .ref (a 210) :: .ref (a 211) :: .ref (a 212) :: .int v200_27 :: .int v200_28 :: .int v200_29 :: .ref (a 213) :: .ref (a 214) :: .ref (a 215) :: .int v200_33 :: .int v200_34 :: .int v200_35 :: .ref (a 216) :: .ref (a 217) :: .ref (a 218) :: .ref (a 219) :: []))] sz)) 0 0 (va_A [(a 200, .inr (12, .int v200_0 :: .ref (a 201) :: .ref (a 202) :: .ref (a 203) :: .ref (a 204) :: .int v200_5 :: .ref (a 205) :: .int v200_7 :: .int v200_8 :: .int v200_9 :: .int v200_10 :: .int v200_11 :: .int v200_12 :: .int v200_13 :: .ref (a 206) :: .int v200_15 :: .ref (a 207) :: .int v200_17 :: .int v200_18 :: .int v200_19 :: .ref (a 208) :: .int v200_21 :: .ref (a 209) :: .int v200_23 :: .ref (a 210) :: .ref (a 211) :: .ref (a 212) :: .int v200_27 :: .int v200_28 :: .int v200_29 :: .ref (a 213) :: .ref (a 214) :: .ref (a 215) :: .int v200_33 :: .int v200_34 :: .int v200_35 :: .ref (a 216) :: .ref (a 217) :: .ref (a 218) :: .ref (a 219) :: []))] sz) := by
  refine Met.ofW (cc := cX12_errs) (maxL := 2) (ret := none) (by decide) rfl ?_
  intro p e s m args below meth c s₁ B hml hv
  obtain ⟨rfl, hsz, hP, hK, hD0, hN⟩ := hv
  have hx := B.exec
  have hb := B.bytes
  have hr := B.returns
  have hts : ∀ w ∈ TB, w.before _ s = true := fun w h => atoms_spec (ws := wd yX12_errs cX12_errs 2 none) B.pre w (List.mem_cons_of_mem _ h)
  have hown : s.vm.findClass RX12 = some m.cls := findClass_of_methodNamed B.named
  have hlocks := B.notSynchronized
  have hF : CallFix p m c cX12_errs 2 s _ TB RX12 := ⟨hx, hb, hml, hown, hts⟩
  have hl := lv_entry ([.ref (a 200), .int p0]) (n := 2) (Nat.le_of_ble_eq_true rfl)
  rw [lg_entry_eq]
  generalize (lg_sl ([.ref (a 200), .int p0]) ++ List.replicate (2 - (lg_sl ([.ref (a 200), .int p0])).length) Slot.unset).toArray = ls at hl ⊢
  have hl : lv_has ls 2 [(0, .ref (a 200)), (1, .int p0)] := hl
  subst hsz
  have hD := hD0.self (sz := s.heap.size)
  generalize hAe : va_A [(a 200, .inr (12, .int v200_0 :: .ref (a 201) :: .ref (a 202) :: .ref (a 203) :: .ref (a 204) :: .int v200_5 :: .ref (a 205) :: .int v200_7 :: .int v200_8 :: .int v200_9 :: .int v200_10 :: .int v200_11 :: .int v200_12 :: .int v200_13 :: .ref (a 206) :: .int v200_15 :: .ref (a 207) :: .int v200_17 :: .int v200_18 :: .int v200_19 :: .ref (a 208) :: .int v200_21 :: .ref (a 209) :: .int v200_23 :: .ref (a 210) :: .ref (a 211) :: .ref (a 212) :: .int v200_27 :: .int v200_28 :: .int v200_29 :: .ref (a 213) :: .ref (a 214) :: .ref (a 215) :: .int v200_33 :: .int v200_34 :: .int v200_35 :: .ref (a 216) :: .ref (a 217) :: .ref (a 218) :: .ref (a 219) :: []))] s.heap.size = A at hD ⊢
  have hA : ∀ q : Nat, s.heap.size ≤ q → A q := fun q h => by rw [← hAe]; exact Or.inr h
  have hS : va_S A s.heap s.heap [] := va_S.rf
  have hP : va_P D classes [(a 200, .inr (12, .int v200_0 :: .ref (a 201) :: .ref (a 202) :: .ref (a 203) :: .ref (a 204) :: .int v200_5 :: .ref (a 205) :: .int v200_7 :: .int v200_8 :: .int v200_9 :: .int v200_10 :: .int v200_11 :: .int v200_12 :: .int v200_13 :: .ref (a 206) :: .int v200_15 :: .ref (a 207) :: .int v200_17 :: .int v200_18 :: .int v200_19 :: .ref (a 208) :: .int v200_21 :: .ref (a 209) :: .int v200_23 :: .ref (a 210) :: .ref (a 211) :: .ref (a 212) :: .int v200_27 :: .int v200_28 :: .int v200_29 :: .ref (a 213) :: .ref (a 214) :: .ref (a 215) :: .int v200_33 :: .int v200_34 :: .int v200_35 :: .ref (a 216) :: .ref (a 217) :: .ref (a 218) :: .ref (a 219) :: []))] s.heap := hP
  refine lv_aload_n hx hb dX12_errs_0 rfl (lv_at hl 0 rfl) ?_
  refine y_pV hF (s_X12_good l D t a v200_0 v200_5 v200_7 v200_8 v200_9 v200_10 v200_11 v200_12 v200_13 v200_15 v200_17 v200_18 v200_19 v200_21 v200_23 v200_27 v200_28 v200_29 v200_33 v200_34 v200_35 r200_5 r200_7 r200_8 r200_9 r200_23) m_1506 m_1508 m_s39 m_13 m_1509 hd_X12_good ⟨Nat.le_of_ble_eq_true rfl, Nat.le_of_ble_eq_true rfl⟩ hK hN hP hS [0] rfl 0 (ci := 12) rfl rfl rfl hl.1 rfl (Nat.le_of_ble_eq_true rfl) dX12_errs_1 ⟨Nat.zero_le _, Nat.zero_le _⟩ (fun r_1 H locs hr_1 hP hS => ?_)
  refine lv_if_ne (tgt := 8) hx hb dX12_errs_4 (by decide) (fun c_2 => ?_) (fun c_2 => ?_)
  · skip
    have h_3 : rg 1 1 r_1 := rg_w (rg_neL hr_1 c_2 (by decide)) (by decide) (by decide)
    refine lv_aload_n hx hb dX12_errs_8 rfl (lv_at hl 0 rfl) ?_
    refine lv_iload_n hx hb dX12_errs_9 rfl (lv_at hl 1 rfl) ?_
    refine va_put (D := D) (ci := 12) (v := .int p0) (ty := .int) (C := RX12) (T := TX12) (N := 40) hx hb hts iX12 tyX12 tyX12_ok nmX12 hown hK hP hD hS 0 rfl rfl 12 (by decide) (hts _ m_1355) (fun _ h9 => h9) rfl (tyX12_ok 12 (by decide)) rfl rfl (Nat.le_of_ble_eq_true rfl) dX12_errs_10 (fun H locs hP hD hS => ?_)
    have hP : va_P D classes [(a 200, .inr (12, .int v200_0 :: .ref (a 201) :: .ref (a 202) :: .ref (a 203) :: .ref (a 204) :: .int v200_5 :: .ref (a 205) :: .int v200_7 :: .int v200_8 :: .int v200_9 :: .int v200_10 :: .int v200_11 :: .int p0 :: .int v200_13 :: .ref (a 206) :: .int v200_15 :: .ref (a 207) :: .int v200_17 :: .int v200_18 :: .int v200_19 :: .ref (a 208) :: .int v200_21 :: .ref (a 209) :: .int v200_23 :: .ref (a 210) :: .ref (a 211) :: .ref (a 212) :: .int v200_27 :: .int v200_28 :: .int v200_29 :: .ref (a 213) :: .ref (a 214) :: .ref (a 215) :: .int v200_33 :: .int v200_34 :: .int v200_35 :: .ref (a 216) :: .ref (a 217) :: .ref (a 218) :: .ref (a 219) :: []))] H := hP
    have hD : va_D A [(a 200, .inr (12, .int v200_0 :: .ref (a 201) :: .ref (a 202) :: .ref (a 203) :: .ref (a 204) :: .int v200_5 :: .ref (a 205) :: .int v200_7 :: .int v200_8 :: .int v200_9 :: .int v200_10 :: .int v200_11 :: .int p0 :: .int v200_13 :: .ref (a 206) :: .int v200_15 :: .ref (a 207) :: .int v200_17 :: .int v200_18 :: .int v200_19 :: .ref (a 208) :: .int v200_21 :: .ref (a 209) :: .int v200_23 :: .ref (a 210) :: .ref (a 211) :: .ref (a 212) :: .int v200_27 :: .int v200_28 :: .int v200_29 :: .ref (a 213) :: .ref (a 214) :: .ref (a 215) :: .int v200_33 :: .int v200_34 :: .int v200_35 :: .ref (a 216) :: .ref (a 217) :: .ref (a 218) :: .ref (a 219) :: []))] := hD
    refine lv_aload_n hx hb dX12_errs_13 rfl (lv_at hl 0 rfl) ?_
    refine lv_aload_n hx hb dX12_errs_14 rfl (lv_at hl 0 rfl) ?_
    refine va_get (D := D) (ci := 12) (v := .int v200_9) (C := RX12) (T := TX12) (N := 40) hx hb hts iX12 hown hK hP 0 rfl rfl 9 (by decide) (hts _ m_1352) (fun _ h9 => h9) rfl dX12_errs_15 ?_
    refine va_put (D := D) (ci := 12) (v := .int v200_9) (ty := .int) (C := RX12) (T := TX12) (N := 40) hx hb hts iX12 tyX12 tyX12_ok nmX12 hown hK hP hD hS 0 rfl rfl 13 (by decide) (hts _ m_1356) (fun _ h9 => h9) rfl (tyX12_ok 13 (by decide)) rfl rfl (Nat.le_of_ble_eq_true rfl) dX12_errs_18 (fun H locs hP hD hS => ?_)
    have hP : va_P D classes [(a 200, .inr (12, .int v200_0 :: .ref (a 201) :: .ref (a 202) :: .ref (a 203) :: .ref (a 204) :: .int v200_5 :: .ref (a 205) :: .int v200_7 :: .int v200_8 :: .int v200_9 :: .int v200_10 :: .int v200_11 :: .int p0 :: .int v200_9 :: .ref (a 206) :: .int v200_15 :: .ref (a 207) :: .int v200_17 :: .int v200_18 :: .int v200_19 :: .ref (a 208) :: .int v200_21 :: .ref (a 209) :: .int v200_23 :: .ref (a 210) :: .ref (a 211) :: .ref (a 212) :: .int v200_27 :: .int v200_28 :: .int v200_29 :: .ref (a 213) :: .ref (a 214) :: .ref (a 215) :: .int v200_33 :: .int v200_34 :: .int v200_35 :: .ref (a 216) :: .ref (a 217) :: .ref (a 218) :: .ref (a 219) :: []))] H := hP
    have hD : va_D A [(a 200, .inr (12, .int v200_0 :: .ref (a 201) :: .ref (a 202) :: .ref (a 203) :: .ref (a 204) :: .int v200_5 :: .ref (a 205) :: .int v200_7 :: .int v200_8 :: .int v200_9 :: .int v200_10 :: .int v200_11 :: .int p0 :: .int v200_9 :: .ref (a 206) :: .int v200_15 :: .ref (a 207) :: .int v200_17 :: .int v200_18 :: .int v200_19 :: .ref (a 208) :: .int v200_21 :: .ref (a 209) :: .int v200_23 :: .ref (a 210) :: .ref (a 211) :: .ref (a 212) :: .int v200_27 :: .int v200_28 :: .int v200_29 :: .ref (a 213) :: .ref (a 214) :: .ref (a 215) :: .int v200_33 :: .int v200_34 :: .int v200_35 :: .ref (a 216) :: .ref (a 217) :: .ref (a 218) :: .ref (a 219) :: []))] := hD
    have hP9 := hP.sub (ws' := [(a 200, .inr (12, .int v200_0 :: .ref (a 201) :: .ref (a 202) :: .ref (a 203) :: .ref (a 204) :: .int v200_5 :: .ref (a 205) :: .int v200_7 :: .int v200_8 :: .int v200_9 :: .int v200_10 :: .int v200_11 :: .int p0 :: .int v200_9 :: .ref (a 206) :: .int v200_15 :: .ref (a 207) :: .int v200_17 :: .int v200_18 :: .int v200_19 :: .ref (a 208) :: .int v200_21 :: .ref (a 209) :: .int v200_23 :: .ref (a 210) :: .ref (a 211) :: .ref (a 212) :: .int v200_27 :: .int v200_28 :: .int v200_29 :: .ref (a 213) :: .ref (a 214) :: .ref (a 215) :: .int v200_33 :: .int v200_34 :: .int v200_35 :: .ref (a 216) :: .ref (a 217) :: .ref (a 218) :: .ref (a 219) :: []))]) [0] rfl
    have hD9 := hD.sub (ws' := [(a 200, .inr (12, .int v200_0 :: .ref (a 201) :: .ref (a 202) :: .ref (a 203) :: .ref (a 204) :: .int v200_5 :: .ref (a 205) :: .int v200_7 :: .int v200_8 :: .int v200_9 :: .int v200_10 :: .int v200_11 :: .int p0 :: .int v200_9 :: .ref (a 206) :: .int v200_15 :: .ref (a 207) :: .int v200_17 :: .int v200_18 :: .int v200_19 :: .ref (a 208) :: .int v200_21 :: .ref (a 209) :: .int v200_23 :: .ref (a 210) :: .ref (a 211) :: .ref (a 212) :: .int v200_27 :: .int v200_28 :: .int v200_29 :: .ref (a 213) :: .ref (a 214) :: .ref (a 215) :: .int v200_33 :: .int v200_34 :: .int v200_35 :: .ref (a 216) :: .ref (a 217) :: .ref (a 218) :: .ref (a 219) :: []))]) [0] (by decide) rfl
    exact W.vret hx hb hr (fun t9 ht hW => ⟨⟨(fun k => [p0, v200_9].getD k 0, fun k => [].getD k (fun _ => 0), fun k => [].getD k (fun _ => 0), fun _ => 0), rfl, trivial, by rw [ht]; exact hP9, hD9⟩, hS.F ht⟩) hS.2.2 dX12_errs_21
  · skip
    have h_4 : rg 0 0 r_1 := rg_eq c_2 (rg_c (x := 0) (k := 0) (by decide))
    have hP9 := hP.sub (ws' := [(a 200, .inr (12, .int v200_0 :: .ref (a 201) :: .ref (a 202) :: .ref (a 203) :: .ref (a 204) :: .int v200_5 :: .ref (a 205) :: .int v200_7 :: .int v200_8 :: .int v200_9 :: .int v200_10 :: .int v200_11 :: .int v200_12 :: .int v200_13 :: .ref (a 206) :: .int v200_15 :: .ref (a 207) :: .int v200_17 :: .int v200_18 :: .int v200_19 :: .ref (a 208) :: .int v200_21 :: .ref (a 209) :: .int v200_23 :: .ref (a 210) :: .ref (a 211) :: .ref (a 212) :: .int v200_27 :: .int v200_28 :: .int v200_29 :: .ref (a 213) :: .ref (a 214) :: .ref (a 215) :: .int v200_33 :: .int v200_34 :: .int v200_35 :: .ref (a 216) :: .ref (a 217) :: .ref (a 218) :: .ref (a 219) :: []))]) [0] rfl
    have hD9 := hD.sub (ws' := [(a 200, .inr (12, .int v200_0 :: .ref (a 201) :: .ref (a 202) :: .ref (a 203) :: .ref (a 204) :: .int v200_5 :: .ref (a 205) :: .int v200_7 :: .int v200_8 :: .int v200_9 :: .int v200_10 :: .int v200_11 :: .int v200_12 :: .int v200_13 :: .ref (a 206) :: .int v200_15 :: .ref (a 207) :: .int v200_17 :: .int v200_18 :: .int v200_19 :: .ref (a 208) :: .int v200_21 :: .ref (a 209) :: .int v200_23 :: .ref (a 210) :: .ref (a 211) :: .ref (a 212) :: .int v200_27 :: .int v200_28 :: .int v200_29 :: .ref (a 213) :: .ref (a 214) :: .ref (a 215) :: .int v200_33 :: .int v200_34 :: .int v200_35 :: .ref (a 216) :: .ref (a 217) :: .ref (a 218) :: .ref (a 219) :: []))]) [0] (by decide) rfl
    exact W.vret hx hb hr (fun t9 ht hW => ⟨⟨(fun k => [v200_12, v200_13].getD k 0, fun k => [].getD k (fun _ => 0), fun k => [].getD k (fun _ => 0), fun _ => 0), rfl, trivial, by rw [ht]; exact hP9, hD9⟩, hS.F ht⟩) hS.2.2 dX12_errs_7

set_option maxHeartbeats 4000000 in
set_option maxRecDepth 100000 in
theorem s_X12_advance (l : Launch) (D : va_G) (t : Nat → ClassId) (a : Nat → Nat) (v200_0 : Int32) (v200_5 : Int32) (v200_7 : Int32) (v200_8 : Int32) (v200_9 : Int32) (v200_10 : Int32) (v200_11 : Int32) (v200_12 : Int32) (v200_13 : Int32) (v200_15 : Int32) (v200_17 : Int32) (v200_18 : Int32) (v200_19 : Int32) (v200_21 : Int32) (v200_23 : Int32) (v200_27 : Int32) (v200_28 : Int32) (v200_29 : Int32) (v200_33 : Int32) (v200_34 : Int32) (v200_35 : Int32) (f204 : Nat → Int32) (r200_5 : rg 0 1600 v200_5) (r200_7 : rg 0 1600 v200_7) (r200_8 : rg 0 1600 v200_8) (r200_9 : rg 0 1600 v200_9) (r200_23 : rg 0 9 v200_23) (sz : Nat) : Met l yX12_advance (wd yX12_advance cX12_advance 2 none) (RM 1 0 0) (PreW D (TY t) [.ref (a 200)] [(a 200, .inr (12, .int v200_0 :: .ref (a 201) :: .ref (a 202) :: .ref (a 203) :: .ref (a 204) :: .int v200_5 :: .ref (a 205) :: .int v200_7 :: .int v200_8 :: .int v200_9 :: .int v200_10 :: .int v200_11 :: .int v200_12 :: .int v200_13 :: .ref (a 206) :: .int v200_15 :: .ref (a 207) :: .int v200_17 :: .int v200_18 :: .int v200_19 :: .ref (a 208) :: .int v200_21 :: .ref (a 209) :: .int v200_23 :: .ref (a 210) :: .ref (a 211) :: .ref (a 212) :: .int v200_27 :: .int v200_28 :: .int v200_29 :: .ref (a 213) :: .ref (a 214) :: .ref (a 215) :: .int v200_33 :: .int v200_34 :: .int v200_35 :: .ref (a 216) :: .ref (a 217) :: .ref (a 218) :: .ref (a 219) :: [])), (a 204, .inl (t 1, 1600, .inl f204))] sz) (va_Qv (fun (u : US) => rg 0 1600 (u.1 0) ∧ rg 0 1600 (u.1 1)) (fun (u : US) t9 => va_P D classes ((fun u : US => [(a 200, .inr (12, .int v200_0 :: .ref (a 201) :: .ref (a 202) :: .ref (a 203) :: .ref (a 204) :: .int v200_5 :: .ref (a 205) :: .int v200_7 :: .int (u.1 0) :: .int (u.1 1) :: .int (u.1 2) :: .int (u.1 3) :: .int v200_12 :: .int v200_13 :: .ref (a 206) :: .int v200_15 :: .ref (a 207) :: .int v200_17 :: .int v200_18 :: .int v200_19 :: .ref (a 208) :: .int v200_21 :: .ref (a 209) :: .int v200_23 :: .ref (a 210) :: .ref (a 211) :: .ref (a 212) :: .int v200_27 :: .int v200_28 :: .int v200_29 :: .ref (a 213) :: .ref (a 214) :: .ref (a 215) :: .int v200_33 :: .int v200_34 :: .int v200_35 :: .ref (a 216) :: .ref (a 217) :: .ref (a 218) :: .ref (a 219) :: [])), (a 204, .inl (t 1, 1600, .inl f204))]) u) t9.heap ∧ va_D (va_A [(a 200, .inr (12, .int v200_0 :: .ref (a 201) :: .ref (a 202) :: .ref (a 203) :: .ref (a 204) :: .int v200_5 :: .ref (a 205) :: .int v200_7 :: .int v200_8 :: .int v200_9 :: .int v200_10 :: .int v200_11 :: .int v200_12 :: .int v200_13 :: .ref (a 206) :: .int v200_15 :: .ref (a 207) :: .int v200_17 :: .int v200_18 :: .int v200_19 :: .ref (a 208) :: .int v200_21 :: .ref (a 209) :: .int v200_23 :: .ref (a 210) :: .ref (a 211) :: .ref (a 212) :: .int v200_27 :: .int v200_28 :: .int v200_29 :: .ref (a 213) :: .ref (a 214) :: .ref (a 215) :: .int v200_33 :: .int v200_34 :: .int v200_35 :: .ref (a 216) :: .ref (a 217) :: .ref (a 218) :: .ref (a 219) :: [])), (a 204, .inl (t 1, 1600, .inl f204))] sz) ((fun u : US => [(a 200, .inr (12, .int v200_0 :: .ref (a 201) :: .ref (a 202) :: .ref (a 203) :: .ref (a 204) :: .int v200_5 :: .ref (a 205) :: .int v200_7 :: .int (u.1 0) :: .int (u.1 1) :: .int (u.1 2) :: .int (u.1 3) :: .int v200_12 :: .int v200_13 :: .ref (a 206) :: .int v200_15 :: .ref (a 207) :: .int v200_17 :: .int v200_18 :: .int v200_19 :: .ref (a 208) :: .int v200_21 :: .ref (a 209) :: .int v200_23 :: .ref (a 210) :: .ref (a 211) :: .ref (a 212) :: .int v200_27 :: .int v200_28 :: .int v200_29 :: .ref (a 213) :: .ref (a 214) :: .ref (a 215) :: .int v200_33 :: .int v200_34 :: .int v200_35 :: .ref (a 216) :: .ref (a 217) :: .ref (a 218) :: .ref (a 219) :: [])), (a 204, .inl (t 1, 1600, .inl f204))]) u)) (va_A [(a 200, .inr (12, .int v200_0 :: .ref (a 201) :: .ref (a 202) :: .ref (a 203) :: .ref (a 204) :: .int v200_5 :: .ref (a 205) :: .int v200_7 :: .int v200_8 :: .int v200_9 :: .int v200_10 :: .int v200_11 :: .int v200_12 :: .int v200_13 :: .ref (a 206) :: .int v200_15 :: .ref (a 207) :: .int v200_17 :: .int v200_18 :: .int v200_19 :: .ref (a 208) :: .int v200_21 :: .ref (a 209) :: .int v200_23 :: .ref (a 210) :: .ref (a 211) :: .ref (a 212) :: .int v200_27 :: .int v200_28 :: .int v200_29 :: .ref (a 213) :: .ref (a 214) :: .ref (a 215) :: .int v200_33 :: .int v200_34 :: .int v200_35 :: .ref (a 216) :: .ref (a 217) :: .ref (a 218) :: .ref (a 219) :: [])), (a 204, .inl (t 1, 1600, .inl f204))] sz)) 0 0 (va_A [(a 200, .inr (12, .int v200_0 :: .ref (a 201) :: .ref (a 202) :: .ref (a 203) :: .ref (a 204) :: .int v200_5 :: .ref (a 205) :: .int v200_7 :: .int v200_8 :: .int v200_9 :: .int v200_10 :: .int v200_11 :: .int v200_12 :: .int v200_13 :: .ref (a 206) :: .int v200_15 :: .ref (a 207) :: .int v200_17 :: .int v200_18 :: .int v200_19 :: .ref (a 208) :: .int v200_21 :: .ref (a 209) :: .int v200_23 :: .ref (a 210) :: .ref (a 211) :: .ref (a 212) :: .int v200_27 :: .int v200_28 :: .int v200_29 :: .ref (a 213) :: .ref (a 214) :: .ref (a 215) :: .int v200_33 :: .int v200_34 :: .int v200_35 :: .ref (a 216) :: .ref (a 217) :: .ref (a 218) :: .ref (a 219) :: [])), (a 204, .inl (t 1, 1600, .inl f204))] sz) := by
  refine Met.ofW (cc := cX12_advance) (maxL := 2) (ret := none) (by decide) rfl ?_
  intro p e s m args below meth c s₁ B hml hv
  obtain ⟨rfl, hsz, hP, hK, hD0, hN⟩ := hv
  have hx := B.exec
  have hb := B.bytes
  have hr := B.returns
  have hts : ∀ w ∈ TB, w.before _ s = true := fun w h => atoms_spec (ws := wd yX12_advance cX12_advance 2 none) B.pre w (List.mem_cons_of_mem _ h)
  have hown : s.vm.findClass RX12 = some m.cls := findClass_of_methodNamed B.named
  have hlocks := B.notSynchronized
  have hF : CallFix p m c cX12_advance 2 s _ TB RX12 := ⟨hx, hb, hml, hown, hts⟩
  have hl := lv_entry ([.ref (a 200)]) (n := 2) (Nat.le_of_ble_eq_true rfl)
  rw [lg_entry_eq]
  generalize (lg_sl ([.ref (a 200)]) ++ List.replicate (2 - (lg_sl ([.ref (a 200)])).length) Slot.unset).toArray = ls at hl ⊢
  have hl : lv_has ls 2 [(0, .ref (a 200))] := hl
  subst hsz
  have hD := hD0.self (sz := s.heap.size)
  generalize hAe : va_A [(a 200, .inr (12, .int v200_0 :: .ref (a 201) :: .ref (a 202) :: .ref (a 203) :: .ref (a 204) :: .int v200_5 :: .ref (a 205) :: .int v200_7 :: .int v200_8 :: .int v200_9 :: .int v200_10 :: .int v200_11 :: .int v200_12 :: .int v200_13 :: .ref (a 206) :: .int v200_15 :: .ref (a 207) :: .int v200_17 :: .int v200_18 :: .int v200_19 :: .ref (a 208) :: .int v200_21 :: .ref (a 209) :: .int v200_23 :: .ref (a 210) :: .ref (a 211) :: .ref (a 212) :: .int v200_27 :: .int v200_28 :: .int v200_29 :: .ref (a 213) :: .ref (a 214) :: .ref (a 215) :: .int v200_33 :: .int v200_34 :: .int v200_35 :: .ref (a 216) :: .ref (a 217) :: .ref (a 218) :: .ref (a 219) :: [])), (a 204, .inl (t 1, 1600, .inl f204))] s.heap.size = A at hD ⊢
  have hA : ∀ q : Nat, s.heap.size ≤ q → A q := fun q h => by rw [← hAe]; exact Or.inr h
  have hS : va_S A s.heap s.heap [] := va_S.rf
  have hP : va_P D classes [(a 200, .inr (12, .int v200_0 :: .ref (a 201) :: .ref (a 202) :: .ref (a 203) :: .ref (a 204) :: .int v200_5 :: .ref (a 205) :: .int v200_7 :: .int v200_8 :: .int v200_9 :: .int v200_10 :: .int v200_11 :: .int v200_12 :: .int v200_13 :: .ref (a 206) :: .int v200_15 :: .ref (a 207) :: .int v200_17 :: .int v200_18 :: .int v200_19 :: .ref (a 208) :: .int v200_21 :: .ref (a 209) :: .int v200_23 :: .ref (a 210) :: .ref (a 211) :: .ref (a 212) :: .int v200_27 :: .int v200_28 :: .int v200_29 :: .ref (a 213) :: .ref (a 214) :: .ref (a 215) :: .int v200_33 :: .int v200_34 :: .int v200_35 :: .ref (a 216) :: .ref (a 217) :: .ref (a 218) :: .ref (a 219) :: [])), (a 204, .inl (t 1, 1600, .inl f204))] s.heap := hP
  refine loopW (α := US) (fun n y_1 H locs ls => 1600 < (y_1.1 0).toInt + (n : Int) ∧ rg 0 1600 (y_1.1 0) ∧ va_P D classes [(a 200, .inr (12, .int v200_0 :: .ref (a 201) :: .ref (a 202) :: .ref (a 203) :: .ref (a 204) :: .int v200_5 :: .ref (a 205) :: .int v200_7 :: .int (y_1.1 0) :: .int v200_9 :: .int v200_10 :: .int v200_11 :: .int v200_12 :: .int v200_13 :: .ref (a 206) :: .int v200_15 :: .ref (a 207) :: .int v200_17 :: .int v200_18 :: .int v200_19 :: .ref (a 208) :: .int v200_21 :: .ref (a 209) :: .int v200_23 :: .ref (a 210) :: .ref (a 211) :: .ref (a 212) :: .int v200_27 :: .int v200_28 :: .int v200_29 :: .ref (a 213) :: .ref (a 214) :: .ref (a 215) :: .int v200_33 :: .int v200_34 :: .int v200_35 :: .ref (a 216) :: .ref (a 217) :: .ref (a 218) :: .ref (a 219) :: [])), (a 204, .inl (t 1, 1600, .inl f204))] H ∧ va_D A [(a 200, .inr (12, .int v200_0 :: .ref (a 201) :: .ref (a 202) :: .ref (a 203) :: .ref (a 204) :: .int v200_5 :: .ref (a 205) :: .int v200_7 :: .int (y_1.1 0) :: .int v200_9 :: .int v200_10 :: .int v200_11 :: .int v200_12 :: .int v200_13 :: .ref (a 206) :: .int v200_15 :: .ref (a 207) :: .int v200_17 :: .int v200_18 :: .int v200_19 :: .ref (a 208) :: .int v200_21 :: .ref (a 209) :: .int v200_23 :: .ref (a 210) :: .ref (a 211) :: .ref (a 212) :: .int v200_27 :: .int v200_28 :: .int v200_29 :: .ref (a 213) :: .ref (a 214) :: .ref (a 215) :: .int v200_33 :: .int v200_34 :: .int v200_35 :: .ref (a 216) :: .ref (a 217) :: .ref (a 218) :: .ref (a 219) :: [])), (a 204, .inl (t 1, 1600, .inl f204))] ∧ va_S A s.heap H locs ∧ lv_has ls 2 [(0, .ref (a 200))]) 0 (fun y_1 => []) (fun _ _ _ _ h9 => m_0 h9.1 h9.2.1) (fun n ih_3 y_1 H locs ls hI => ?_) 1601 (fun k => [v200_8].getD k 0, fun k => [].getD k (fun _ => 0), fun k => [].getD k (fun _ => 0), fun k => [].getD k 0) ⟨(m_i r200_8 (by decide)), r200_8, hP, hD, hS, (lv_sub hl [0] rfl)⟩
  obtain ⟨me_4, h_2, hP, hD, hS, hl⟩ := hI
  refine lv_aload_n hx hb dX12_advance_0 rfl (lv_at hl 0 rfl) ?_
  refine lv_aload_n hx hb dX12_advance_1 rfl (lv_at hl 0 rfl) ?_
  refine va_get (D := D) (ci := 12) (v := .int (y_1.1 0)) (C := RX12) (T := TX12) (N := 40) hx hb hts iX12 hown hK hP 0 rfl rfl 8 (by decide) (hts _ m_1351) (fun _ h9 => h9) rfl dX12_advance_2 ?_
  refine y_pV hF (s_X12_see l D t a v200_0 v200_5 v200_7 (y_1.1 0) v200_9 v200_10 v200_11 v200_12 v200_13 v200_15 v200_17 v200_18 v200_19 v200_21 v200_23 v200_27 v200_28 v200_29 v200_33 v200_34 v200_35 f204 (y_1.1 0) r200_5 r200_7 h_2 r200_9 r200_23 (rg_w (c := 0) (d := 2147483647) h_2 (by decide) (by decide))) m_1496 m_1498 m_s38 m_13 m_1499 hd_X12_see ⟨Nat.le_of_ble_eq_true rfl, Nat.le_of_ble_eq_true rfl⟩ hK hN hP hS [0, 1] rfl 0 (ci := 12) rfl rfl rfl hl.1 rfl (Nat.le_of_ble_eq_true rfl) dX12_advance_5 ⟨Nat.zero_le _, Nat.zero_le _⟩ (fun r_5 H locs hr_5 hP hS => ?_)
  refine lv_bipush (v := 32) hx hb dX12_advance_8 (by decide) ?_
  refine lv_icmp_eq (tgt := 26) hx hb dX12_advance_10 (by decide) (fun c_6 => ?_) (fun c_6 => ?_)
  · skip
    have h_7 : rg 32 32 r_5 := rg_eq c_6 (rg_c (x := 32) (k := 32) (by decide))
    have h_8 : rg 0 1599 (y_1.1 0) := ⟨(gp_use hr_5.2 h_7 (by decide)).1, (gp_use hr_5.2 h_7 (by decide)).2⟩
    refine lv_aload_n hx hb dX12_advance_26 rfl (lv_at hl 0 rfl) ?_
    refine lv_dup hx hb dX12_advance_27 rfl ?_
    refine va_get (D := D) (ci := 12) (v := .int (y_1.1 0)) (C := RX12) (T := TX12) (N := 40) hx hb hts iX12 hown hK hP 0 rfl rfl 8 (by decide) (hts _ m_1351) (fun _ h9 => h9) rfl dX12_advance_28 ?_
    refine lv_iconst (v := 1) hx hb dX12_advance_31 (by decide) ?_
    refine lv_iadd hx hb dX12_advance_32 ?_
    refine lv_topi (fun x_9 ex_9 => ?_)
    have hx_9 : rg 1 1600 x_9 := by rw [ex_9]; exact rg_add h_8 (rg_c (x := 1) (k := 1) (by decide)) (by decide) (by decide) (by decide) (by decide)
    have tx_9 : x_9.toInt = (y_1.1 0).toInt + 1 := by rw [ex_9]; exact inc_tk h_8 (by decide) (by decide) (by decide)
    refine va_put (D := D) (ci := 12) (v := .int x_9) (ty := .int) (C := RX12) (T := TX12) (N := 40) hx hb hts iX12 tyX12 tyX12_ok nmX12 hown hK hP hD hS 0 rfl rfl 8 (by decide) (hts _ m_1351) (fun _ h9 => h9) rfl (tyX12_ok 8 (by decide)) rfl rfl (Nat.le_of_ble_eq_true rfl) dX12_advance_33 (fun H locs hP hD hS => ?_)
    have hP : va_P D classes [(a 200, .inr (12, .int v200_0 :: .ref (a 201) :: .ref (a 202) :: .ref (a 203) :: .ref (a 204) :: .int v200_5 :: .ref (a 205) :: .int v200_7 :: .int x_9 :: .int v200_9 :: .int v200_10 :: .int v200_11 :: .int v200_12 :: .int v200_13 :: .ref (a 206) :: .int v200_15 :: .ref (a 207) :: .int v200_17 :: .int v200_18 :: .int v200_19 :: .ref (a 208) :: .int v200_21 :: .ref (a 209) :: .int v200_23 :: .ref (a 210) :: .ref (a 211) :: .ref (a 212) :: .int v200_27 :: .int v200_28 :: .int v200_29 :: .ref (a 213) :: .ref (a 214) :: .ref (a 215) :: .int v200_33 :: .int v200_34 :: .int v200_35 :: .ref (a 216) :: .ref (a 217) :: .ref (a 218) :: .ref (a 219) :: [])), (a 204, .inl (t 1, 1600, .inl f204))] H := hP
    have hD : va_D A [(a 200, .inr (12, .int v200_0 :: .ref (a 201) :: .ref (a 202) :: .ref (a 203) :: .ref (a 204) :: .int v200_5 :: .ref (a 205) :: .int v200_7 :: .int x_9 :: .int v200_9 :: .int v200_10 :: .int v200_11 :: .int v200_12 :: .int v200_13 :: .ref (a 206) :: .int v200_15 :: .ref (a 207) :: .int v200_17 :: .int v200_18 :: .int v200_19 :: .ref (a 208) :: .int v200_21 :: .ref (a 209) :: .int v200_23 :: .ref (a 210) :: .ref (a 211) :: .ref (a 212) :: .int v200_27 :: .int v200_28 :: .int v200_29 :: .ref (a 213) :: .ref (a 214) :: .ref (a 215) :: .int v200_33 :: .int v200_34 :: .int v200_35 :: .ref (a 216) :: .ref (a 217) :: .ref (a 218) :: .ref (a 219) :: [])), (a 204, .inl (t 1, 1600, .inl f204))] := hD
    refine lv_goto (tgt := 0) hx hb dX12_advance_36 (by decide) ?_
    exact ih_3 (fun k => [x_9].getD k 0, fun k => [].getD k (fun _ => 0), fun k => [].getD k (fun _ => 0), fun k => [].getD k 0) _ _ ls ⟨(m_upk me_4 tx_9 (by decide)), (rg_w (c := 0) (d := 1600) hx_9 (by decide) (by decide)), hP, hD, hS, (lv_sub hl [0] rfl)⟩
  · skip
    refine lv_aload_n hx hb dX12_advance_13 rfl (lv_at hl 0 rfl) ?_
    refine lv_aload_n hx hb dX12_advance_14 rfl (lv_at hl 0 rfl) ?_
    refine va_get (D := D) (ci := 12) (v := .int (y_1.1 0)) (C := RX12) (T := TX12) (N := 40) hx hb hts iX12 hown hK hP 0 rfl rfl 8 (by decide) (hts _ m_1351) (fun _ h9 => h9) rfl dX12_advance_15 ?_
    refine y_pV hF (s_X12_see l D t a v200_0 v200_5 v200_7 (y_1.1 0) v200_9 v200_10 v200_11 v200_12 v200_13 v200_15 v200_17 v200_18 v200_19 v200_21 v200_23 v200_27 v200_28 v200_29 v200_33 v200_34 v200_35 f204 (y_1.1 0) r200_5 r200_7 h_2 r200_9 r200_23 (rg_w (c := 0) (d := 2147483647) h_2 (by decide) (by decide))) m_1496 m_1498 m_s38 m_13 m_1499 hd_X12_see ⟨Nat.le_of_ble_eq_true rfl, Nat.le_of_ble_eq_true rfl⟩ hK hN hP hS [0, 1] rfl 0 (ci := 12) rfl rfl rfl hl.1 rfl (Nat.le_of_ble_eq_true rfl) dX12_advance_18 ⟨Nat.zero_le _, Nat.zero_le _⟩ (fun r_10 H locs hr_10 hP hS => ?_)
    refine lv_bipush (v := 10) hx hb dX12_advance_21 (by decide) ?_
    refine lv_icmp_ne (tgt := 39) hx hb dX12_advance_23 (by decide) (fun c_11 => ?_) (fun c_11 => ?_)
    · skip
      refine lv_aload_n hx hb dX12_advance_39 rfl (lv_at hl 0 rfl) ?_
      refine lv_aload_n hx hb dX12_advance_40 rfl (lv_at hl 0 rfl) ?_
      refine va_get (D := D) (ci := 12) (v := .int (y_1.1 0)) (C := RX12) (T := TX12) (N := 40) hx hb hts iX12 hown hK hP 0 rfl rfl 8 (by decide) (hts _ m_1351) (fun _ h9 => h9) rfl dX12_advance_41 ?_
      refine va_put (D := D) (ci := 12) (v := .int (y_1.1 0)) (ty := .int) (C := RX12) (T := TX12) (N := 40) hx hb hts iX12 tyX12 tyX12_ok nmX12 hown hK hP hD hS 0 rfl rfl 9 (by decide) (hts _ m_1352) (fun _ h9 => h9) rfl (tyX12_ok 9 (by decide)) rfl rfl (Nat.le_of_ble_eq_true rfl) dX12_advance_44 (fun H locs hP hD hS => ?_)
      have hP : va_P D classes [(a 200, .inr (12, .int v200_0 :: .ref (a 201) :: .ref (a 202) :: .ref (a 203) :: .ref (a 204) :: .int v200_5 :: .ref (a 205) :: .int v200_7 :: .int (y_1.1 0) :: .int (y_1.1 0) :: .int v200_10 :: .int v200_11 :: .int v200_12 :: .int v200_13 :: .ref (a 206) :: .int v200_15 :: .ref (a 207) :: .int v200_17 :: .int v200_18 :: .int v200_19 :: .ref (a 208) :: .int v200_21 :: .ref (a 209) :: .int v200_23 :: .ref (a 210) :: .ref (a 211) :: .ref (a 212) :: .int v200_27 :: .int v200_28 :: .int v200_29 :: .ref (a 213) :: .ref (a 214) :: .ref (a 215) :: .int v200_33 :: .int v200_34 :: .int v200_35 :: .ref (a 216) :: .ref (a 217) :: .ref (a 218) :: .ref (a 219) :: [])), (a 204, .inl (t 1, 1600, .inl f204))] H := hP
      have hD : va_D A [(a 200, .inr (12, .int v200_0 :: .ref (a 201) :: .ref (a 202) :: .ref (a 203) :: .ref (a 204) :: .int v200_5 :: .ref (a 205) :: .int v200_7 :: .int (y_1.1 0) :: .int (y_1.1 0) :: .int v200_10 :: .int v200_11 :: .int v200_12 :: .int v200_13 :: .ref (a 206) :: .int v200_15 :: .ref (a 207) :: .int v200_17 :: .int v200_18 :: .int v200_19 :: .ref (a 208) :: .int v200_21 :: .ref (a 209) :: .int v200_23 :: .ref (a 210) :: .ref (a 211) :: .ref (a 212) :: .int v200_27 :: .int v200_28 :: .int v200_29 :: .ref (a 213) :: .ref (a 214) :: .ref (a 215) :: .int v200_33 :: .int v200_34 :: .int v200_35 :: .ref (a 216) :: .ref (a 217) :: .ref (a 218) :: .ref (a 219) :: [])), (a 204, .inl (t 1, 1600, .inl f204))] := hD
      refine lv_aload_n hx hb dX12_advance_47 rfl (lv_at hl 0 rfl) ?_
      refine lv_aload_n hx hb dX12_advance_48 rfl (lv_at hl 0 rfl) ?_
      refine va_get (D := D) (ci := 12) (v := .int (y_1.1 0)) (C := RX12) (T := TX12) (N := 40) hx hb hts iX12 hown hK hP 0 rfl rfl 8 (by decide) (hts _ m_1351) (fun _ h9 => h9) rfl dX12_advance_49 ?_
      refine y_pV hF (s_X12_see l D t a v200_0 v200_5 v200_7 (y_1.1 0) (y_1.1 0) v200_10 v200_11 v200_12 v200_13 v200_15 v200_17 v200_18 v200_19 v200_21 v200_23 v200_27 v200_28 v200_29 v200_33 v200_34 v200_35 f204 (y_1.1 0) r200_5 r200_7 h_2 h_2 r200_23 (rg_w (c := 0) (d := 2147483647) h_2 (by decide) (by decide))) m_1496 m_1498 m_s38 m_13 m_1499 hd_X12_see ⟨Nat.le_of_ble_eq_true rfl, Nat.le_of_ble_eq_true rfl⟩ hK hN hP hS [0, 1] rfl 0 (ci := 12) rfl rfl rfl hl.1 rfl (Nat.le_of_ble_eq_true rfl) dX12_advance_52 ⟨Nat.zero_le _, Nat.zero_le _⟩ (fun r_12 H locs hr_12 hP hS => ?_)
      refine lv_istore_n (lv' := [(1, .int r_12), (0, .ref (a 200))]) hx hb dX12_advance_55 rfl hl (by decide) rfl (fun ls hl => ?_)
      refine lv_iload_n hx hb dX12_advance_56 rfl (lv_at hl 0 rfl) ?_
      refine lv_iconst (v := (-1)) hx hb dX12_advance_57 (by decide) ?_
      refine lv_icmp_ne (tgt := 69) hx hb dX12_advance_58 (by decide) (fun c_13 => ?_) (fun c_13 => ?_)
      · skip
        have h_14 : rg 0 255 r_12 := rg_w (rg_neL hr_12.1 c_13 (by decide)) (by decide) (by decide)
        have h_15 : rg 0 1599 (y_1.1 0) := ⟨(gp_use hr_12.2 h_14 (by decide)).1, (gp_use hr_12.2 h_14 (by decide)).2⟩
        refine lv_iload_n hx hb dX12_advance_69 rfl (lv_at hl 0 rfl) ?_
        refine lv_i2l hx hb dX12_advance_70 rfl ?_
        refine lv_ldc2 (v := 97) hx hb hown (hts _ m_1500) dX12_advance_71 ?_
        refine lv_ldc2 (v := 122) hx hb hown (hts _ m_1501) dX12_advance_74 ?_
        refine y_pS hF (s_X12_in l D t a ((r_12).toInt64) 97 122) m_1469 m_1470 m_13 m_1471 hd_X12_in ⟨Nat.le_of_ble_eq_true rfl, Nat.le_of_ble_eq_true rfl⟩ hK hN hP hS [] rfl hl.1 rfl (Nat.le_of_ble_eq_true rfl) dX12_advance_77 ⟨Nat.zero_le _, Nat.zero_le _⟩ (fun r_16 H locs hr_16 hP hS => ?_)
        refine lv_if_eq (tgt := 125) hx hb dX12_advance_80 (by decide) (fun c_17 => ?_) (fun c_17 => ?_)
        · skip
          refine lv_iload_n hx hb dX12_advance_125 rfl (lv_at hl 0 rfl) ?_
          refine lv_i2l hx hb dX12_advance_126 rfl ?_
          refine lv_ldc2 (v := 48) hx hb hown (hts _ m_1502) dX12_advance_127 ?_
          refine lv_ldc2 (v := 57) hx hb hown (hts _ m_1503) dX12_advance_130 ?_
          refine y_pS hF (s_X12_in l D t a ((r_12).toInt64) 48 57) m_1469 m_1470 m_13 m_1471 hd_X12_in ⟨Nat.le_of_ble_eq_true rfl, Nat.le_of_ble_eq_true rfl⟩ hK hN hP hS [] rfl hl.1 rfl (Nat.le_of_ble_eq_true rfl) dX12_advance_133 ⟨Nat.zero_le _, Nat.zero_le _⟩ (fun r_18 H locs hr_18 hP hS => ?_)
          refine lv_if_eq (tgt := 214) hx hb dX12_advance_136 (by decide) (fun c_19 => ?_) (fun c_19 => ?_)
          · skip
            refine lv_aload_n hx hb dX12_advance_214 rfl (lv_at hl 1 rfl) ?_
            refine lv_iload_n hx hb dX12_advance_215 rfl (lv_at hl 0 rfl) ?_
            refine lv_bipush (v := 59) hx hb dX12_advance_216 (by decide) ?_
            refine lv_icmp_ne (tgt := 225) hx hb dX12_advance_218 (by decide) (fun c_20 => ?_) (fun c_20 => ?_)
            · skip
              refine lv_iconst (v := 4) hx hb dX12_advance_225 (by decide) ?_
              refine va_put (D := D) (ci := 12) (v := .int 4) (ty := .int) (C := RX12) (T := TX12) (N := 40) hx hb hts iX12 tyX12 tyX12_ok nmX12 hown hK hP hD hS 0 rfl rfl 10 (by decide) (hts _ m_1353) (fun _ h9 => h9) rfl (tyX12_ok 10 (by decide)) rfl rfl (Nat.le_of_ble_eq_true rfl) dX12_advance_226 (fun H locs hP hD hS => ?_)
              have hP : va_P D classes [(a 200, .inr (12, .int v200_0 :: .ref (a 201) :: .ref (a 202) :: .ref (a 203) :: .ref (a 204) :: .int v200_5 :: .ref (a 205) :: .int v200_7 :: .int (y_1.1 0) :: .int (y_1.1 0) :: .int 4 :: .int v200_11 :: .int v200_12 :: .int v200_13 :: .ref (a 206) :: .int v200_15 :: .ref (a 207) :: .int v200_17 :: .int v200_18 :: .int v200_19 :: .ref (a 208) :: .int v200_21 :: .ref (a 209) :: .int v200_23 :: .ref (a 210) :: .ref (a 211) :: .ref (a 212) :: .int v200_27 :: .int v200_28 :: .int v200_29 :: .ref (a 213) :: .ref (a 214) :: .ref (a 215) :: .int v200_33 :: .int v200_34 :: .int v200_35 :: .ref (a 216) :: .ref (a 217) :: .ref (a 218) :: .ref (a 219) :: [])), (a 204, .inl (t 1, 1600, .inl f204))] H := hP
              have hD : va_D A [(a 200, .inr (12, .int v200_0 :: .ref (a 201) :: .ref (a 202) :: .ref (a 203) :: .ref (a 204) :: .int v200_5 :: .ref (a 205) :: .int v200_7 :: .int (y_1.1 0) :: .int (y_1.1 0) :: .int 4 :: .int v200_11 :: .int v200_12 :: .int v200_13 :: .ref (a 206) :: .int v200_15 :: .ref (a 207) :: .int v200_17 :: .int v200_18 :: .int v200_19 :: .ref (a 208) :: .int v200_21 :: .ref (a 209) :: .int v200_23 :: .ref (a 210) :: .ref (a 211) :: .ref (a 212) :: .int v200_27 :: .int v200_28 :: .int v200_29 :: .ref (a 213) :: .ref (a 214) :: .ref (a 215) :: .int v200_33 :: .int v200_34 :: .int v200_35 :: .ref (a 216) :: .ref (a 217) :: .ref (a 218) :: .ref (a 219) :: [])), (a 204, .inl (t 1, 1600, .inl f204))] := hD
              refine lv_aload_n hx hb dX12_advance_229 rfl (lv_at hl 1 rfl) ?_
              refine lv_dup hx hb dX12_advance_230 rfl ?_
              refine va_get (D := D) (ci := 12) (v := .int (y_1.1 0)) (C := RX12) (T := TX12) (N := 40) hx hb hts iX12 hown hK hP 0 rfl rfl 8 (by decide) (hts _ m_1351) (fun _ h9 => h9) rfl dX12_advance_231 ?_
              refine lv_iconst (v := 1) hx hb dX12_advance_234 (by decide) ?_
              refine lv_iadd hx hb dX12_advance_235 ?_
              refine lv_topi (fun x_21 ex_21 => ?_)
              have hx_21 : rg 1 1600 x_21 := by rw [ex_21]; exact rg_add h_15 (rg_c (x := 1) (k := 1) (by decide)) (by decide) (by decide) (by decide) (by decide)
              have tx_21 : x_21.toInt = (y_1.1 0).toInt + 1 := by rw [ex_21]; exact inc_tk h_15 (by decide) (by decide) (by decide)
              refine va_put (D := D) (ci := 12) (v := .int x_21) (ty := .int) (C := RX12) (T := TX12) (N := 40) hx hb hts iX12 tyX12 tyX12_ok nmX12 hown hK hP hD hS 0 rfl rfl 8 (by decide) (hts _ m_1351) (fun _ h9 => h9) rfl (tyX12_ok 8 (by decide)) rfl rfl (Nat.le_of_ble_eq_true rfl) dX12_advance_236 (fun H locs hP hD hS => ?_)
              have hP : va_P D classes [(a 200, .inr (12, .int v200_0 :: .ref (a 201) :: .ref (a 202) :: .ref (a 203) :: .ref (a 204) :: .int v200_5 :: .ref (a 205) :: .int v200_7 :: .int x_21 :: .int (y_1.1 0) :: .int 4 :: .int v200_11 :: .int v200_12 :: .int v200_13 :: .ref (a 206) :: .int v200_15 :: .ref (a 207) :: .int v200_17 :: .int v200_18 :: .int v200_19 :: .ref (a 208) :: .int v200_21 :: .ref (a 209) :: .int v200_23 :: .ref (a 210) :: .ref (a 211) :: .ref (a 212) :: .int v200_27 :: .int v200_28 :: .int v200_29 :: .ref (a 213) :: .ref (a 214) :: .ref (a 215) :: .int v200_33 :: .int v200_34 :: .int v200_35 :: .ref (a 216) :: .ref (a 217) :: .ref (a 218) :: .ref (a 219) :: [])), (a 204, .inl (t 1, 1600, .inl f204))] H := hP
              have hD : va_D A [(a 200, .inr (12, .int v200_0 :: .ref (a 201) :: .ref (a 202) :: .ref (a 203) :: .ref (a 204) :: .int v200_5 :: .ref (a 205) :: .int v200_7 :: .int x_21 :: .int (y_1.1 0) :: .int 4 :: .int v200_11 :: .int v200_12 :: .int v200_13 :: .ref (a 206) :: .int v200_15 :: .ref (a 207) :: .int v200_17 :: .int v200_18 :: .int v200_19 :: .ref (a 208) :: .int v200_21 :: .ref (a 209) :: .int v200_23 :: .ref (a 210) :: .ref (a 211) :: .ref (a 212) :: .int v200_27 :: .int v200_28 :: .int v200_29 :: .ref (a 213) :: .ref (a 214) :: .ref (a 215) :: .int v200_33 :: .int v200_34 :: .int v200_35 :: .ref (a 216) :: .ref (a 217) :: .ref (a 218) :: .ref (a 219) :: [])), (a 204, .inl (t 1, 1600, .inl f204))] := hD
              have hP9 := hP.sub (ws' := [(a 200, .inr (12, .int v200_0 :: .ref (a 201) :: .ref (a 202) :: .ref (a 203) :: .ref (a 204) :: .int v200_5 :: .ref (a 205) :: .int v200_7 :: .int x_21 :: .int (y_1.1 0) :: .int 4 :: .int v200_11 :: .int v200_12 :: .int v200_13 :: .ref (a 206) :: .int v200_15 :: .ref (a 207) :: .int v200_17 :: .int v200_18 :: .int v200_19 :: .ref (a 208) :: .int v200_21 :: .ref (a 209) :: .int v200_23 :: .ref (a 210) :: .ref (a 211) :: .ref (a 212) :: .int v200_27 :: .int v200_28 :: .int v200_29 :: .ref (a 213) :: .ref (a 214) :: .ref (a 215) :: .int v200_33 :: .int v200_34 :: .int v200_35 :: .ref (a 216) :: .ref (a 217) :: .ref (a 218) :: .ref (a 219) :: [])), (a 204, .inl (t 1, 1600, .inl f204))]) [0, 1] rfl
              have hD9 := hD.sub (ws' := [(a 200, .inr (12, .int v200_0 :: .ref (a 201) :: .ref (a 202) :: .ref (a 203) :: .ref (a 204) :: .int v200_5 :: .ref (a 205) :: .int v200_7 :: .int x_21 :: .int (y_1.1 0) :: .int 4 :: .int v200_11 :: .int v200_12 :: .int v200_13 :: .ref (a 206) :: .int v200_15 :: .ref (a 207) :: .int v200_17 :: .int v200_18 :: .int v200_19 :: .ref (a 208) :: .int v200_21 :: .ref (a 209) :: .int v200_23 :: .ref (a 210) :: .ref (a 211) :: .ref (a 212) :: .int v200_27 :: .int v200_28 :: .int v200_29 :: .ref (a 213) :: .ref (a 214) :: .ref (a 215) :: .int v200_33 :: .int v200_34 :: .int v200_35 :: .ref (a 216) :: .ref (a 217) :: .ref (a 218) :: .ref (a 219) :: [])), (a 204, .inl (t 1, 1600, .inl f204))]) [0, 1] (by decide) rfl
              exact W.vret hx hb hr (fun t9 ht hW => ⟨⟨(fun k => [x_21, (y_1.1 0), 4, v200_11].getD k 0, fun k => [].getD k (fun _ => 0), fun k => [].getD k (fun _ => 0), fun _ => 0), rfl, ⟨(rg_w (c := 0) (d := 1600) hx_21 (by decide) (by decide)), (rg_w (c := 0) (d := 1600) h_15 (by decide) (by decide))⟩, by rw [ht]; exact hP9, hD9⟩, hS.F ht⟩) hS.2.2 dX12_advance_239
            · skip
              have h_22 : rg 59 59 r_12 := rg_eq c_20 (rg_c (x := 59) (k := 59) (by decide))
              refine lv_iconst (v := 3) hx hb dX12_advance_221 (by decide) ?_
              refine lv_goto (tgt := 226) hx hb dX12_advance_222 (by decide) ?_
              refine va_put (D := D) (ci := 12) (v := .int 3) (ty := .int) (C := RX12) (T := TX12) (N := 40) hx hb hts iX12 tyX12 tyX12_ok nmX12 hown hK hP hD hS 0 rfl rfl 10 (by decide) (hts _ m_1353) (fun _ h9 => h9) rfl (tyX12_ok 10 (by decide)) rfl rfl (Nat.le_of_ble_eq_true rfl) dX12_advance_226 (fun H locs hP hD hS => ?_)
              have hP : va_P D classes [(a 200, .inr (12, .int v200_0 :: .ref (a 201) :: .ref (a 202) :: .ref (a 203) :: .ref (a 204) :: .int v200_5 :: .ref (a 205) :: .int v200_7 :: .int (y_1.1 0) :: .int (y_1.1 0) :: .int 3 :: .int v200_11 :: .int v200_12 :: .int v200_13 :: .ref (a 206) :: .int v200_15 :: .ref (a 207) :: .int v200_17 :: .int v200_18 :: .int v200_19 :: .ref (a 208) :: .int v200_21 :: .ref (a 209) :: .int v200_23 :: .ref (a 210) :: .ref (a 211) :: .ref (a 212) :: .int v200_27 :: .int v200_28 :: .int v200_29 :: .ref (a 213) :: .ref (a 214) :: .ref (a 215) :: .int v200_33 :: .int v200_34 :: .int v200_35 :: .ref (a 216) :: .ref (a 217) :: .ref (a 218) :: .ref (a 219) :: [])), (a 204, .inl (t 1, 1600, .inl f204))] H := hP
              have hD : va_D A [(a 200, .inr (12, .int v200_0 :: .ref (a 201) :: .ref (a 202) :: .ref (a 203) :: .ref (a 204) :: .int v200_5 :: .ref (a 205) :: .int v200_7 :: .int (y_1.1 0) :: .int (y_1.1 0) :: .int 3 :: .int v200_11 :: .int v200_12 :: .int v200_13 :: .ref (a 206) :: .int v200_15 :: .ref (a 207) :: .int v200_17 :: .int v200_18 :: .int v200_19 :: .ref (a 208) :: .int v200_21 :: .ref (a 209) :: .int v200_23 :: .ref (a 210) :: .ref (a 211) :: .ref (a 212) :: .int v200_27 :: .int v200_28 :: .int v200_29 :: .ref (a 213) :: .ref (a 214) :: .ref (a 215) :: .int v200_33 :: .int v200_34 :: .int v200_35 :: .ref (a 216) :: .ref (a 217) :: .ref (a 218) :: .ref (a 219) :: [])), (a 204, .inl (t 1, 1600, .inl f204))] := hD
              refine lv_aload_n hx hb dX12_advance_229 rfl (lv_at hl 1 rfl) ?_
              refine lv_dup hx hb dX12_advance_230 rfl ?_
              refine va_get (D := D) (ci := 12) (v := .int (y_1.1 0)) (C := RX12) (T := TX12) (N := 40) hx hb hts iX12 hown hK hP 0 rfl rfl 8 (by decide) (hts _ m_1351) (fun _ h9 => h9) rfl dX12_advance_231 ?_
              refine lv_iconst (v := 1) hx hb dX12_advance_234 (by decide) ?_
              refine lv_iadd hx hb dX12_advance_235 ?_
              refine lv_topi (fun x_23 ex_23 => ?_)
              have hx_23 : rg 1 1600 x_23 := by rw [ex_23]; exact rg_add h_15 (rg_c (x := 1) (k := 1) (by decide)) (by decide) (by decide) (by decide) (by decide)
              have tx_23 : x_23.toInt = (y_1.1 0).toInt + 1 := by rw [ex_23]; exact inc_tk h_15 (by decide) (by decide) (by decide)
              refine va_put (D := D) (ci := 12) (v := .int x_23) (ty := .int) (C := RX12) (T := TX12) (N := 40) hx hb hts iX12 tyX12 tyX12_ok nmX12 hown hK hP hD hS 0 rfl rfl 8 (by decide) (hts _ m_1351) (fun _ h9 => h9) rfl (tyX12_ok 8 (by decide)) rfl rfl (Nat.le_of_ble_eq_true rfl) dX12_advance_236 (fun H locs hP hD hS => ?_)
              have hP : va_P D classes [(a 200, .inr (12, .int v200_0 :: .ref (a 201) :: .ref (a 202) :: .ref (a 203) :: .ref (a 204) :: .int v200_5 :: .ref (a 205) :: .int v200_7 :: .int x_23 :: .int (y_1.1 0) :: .int 3 :: .int v200_11 :: .int v200_12 :: .int v200_13 :: .ref (a 206) :: .int v200_15 :: .ref (a 207) :: .int v200_17 :: .int v200_18 :: .int v200_19 :: .ref (a 208) :: .int v200_21 :: .ref (a 209) :: .int v200_23 :: .ref (a 210) :: .ref (a 211) :: .ref (a 212) :: .int v200_27 :: .int v200_28 :: .int v200_29 :: .ref (a 213) :: .ref (a 214) :: .ref (a 215) :: .int v200_33 :: .int v200_34 :: .int v200_35 :: .ref (a 216) :: .ref (a 217) :: .ref (a 218) :: .ref (a 219) :: [])), (a 204, .inl (t 1, 1600, .inl f204))] H := hP
              have hD : va_D A [(a 200, .inr (12, .int v200_0 :: .ref (a 201) :: .ref (a 202) :: .ref (a 203) :: .ref (a 204) :: .int v200_5 :: .ref (a 205) :: .int v200_7 :: .int x_23 :: .int (y_1.1 0) :: .int 3 :: .int v200_11 :: .int v200_12 :: .int v200_13 :: .ref (a 206) :: .int v200_15 :: .ref (a 207) :: .int v200_17 :: .int v200_18 :: .int v200_19 :: .ref (a 208) :: .int v200_21 :: .ref (a 209) :: .int v200_23 :: .ref (a 210) :: .ref (a 211) :: .ref (a 212) :: .int v200_27 :: .int v200_28 :: .int v200_29 :: .ref (a 213) :: .ref (a 214) :: .ref (a 215) :: .int v200_33 :: .int v200_34 :: .int v200_35 :: .ref (a 216) :: .ref (a 217) :: .ref (a 218) :: .ref (a 219) :: [])), (a 204, .inl (t 1, 1600, .inl f204))] := hD
              have hP9 := hP.sub (ws' := [(a 200, .inr (12, .int v200_0 :: .ref (a 201) :: .ref (a 202) :: .ref (a 203) :: .ref (a 204) :: .int v200_5 :: .ref (a 205) :: .int v200_7 :: .int x_23 :: .int (y_1.1 0) :: .int 3 :: .int v200_11 :: .int v200_12 :: .int v200_13 :: .ref (a 206) :: .int v200_15 :: .ref (a 207) :: .int v200_17 :: .int v200_18 :: .int v200_19 :: .ref (a 208) :: .int v200_21 :: .ref (a 209) :: .int v200_23 :: .ref (a 210) :: .ref (a 211) :: .ref (a 212) :: .int v200_27 :: .int v200_28 :: .int v200_29 :: .ref (a 213) :: .ref (a 214) :: .ref (a 215) :: .int v200_33 :: .int v200_34 :: .int v200_35 :: .ref (a 216) :: .ref (a 217) :: .ref (a 218) :: .ref (a 219) :: [])), (a 204, .inl (t 1, 1600, .inl f204))]) [0, 1] rfl
              have hD9 := hD.sub (ws' := [(a 200, .inr (12, .int v200_0 :: .ref (a 201) :: .ref (a 202) :: .ref (a 203) :: .ref (a 204) :: .int v200_5 :: .ref (a 205) :: .int v200_7 :: .int x_23 :: .int (y_1.1 0) :: .int 3 :: .int v200_11 :: .int v200_12 :: .int v200_13 :: .ref (a 206) :: .int v200_15 :: .ref (a 207) :: .int v200_17 :: .int v200_18 :: .int v200_19 :: .ref (a 208) :: .int v200_21 :: .ref (a 209) :: .int v200_23 :: .ref (a 210) :: .ref (a 211) :: .ref (a 212) :: .int v200_27 :: .int v200_28 :: .int v200_29 :: .ref (a 213) :: .ref (a 214) :: .ref (a 215) :: .int v200_33 :: .int v200_34 :: .int v200_35 :: .ref (a 216) :: .ref (a 217) :: .ref (a 218) :: .ref (a 219) :: [])), (a 204, .inl (t 1, 1600, .inl f204))]) [0, 1] (by decide) rfl
              exact W.vret hx hb hr (fun t9 ht hW => ⟨⟨(fun k => [x_23, (y_1.1 0), 3, v200_11].getD k 0, fun k => [].getD k (fun _ => 0), fun k => [].getD k (fun _ => 0), fun _ => 0), rfl, ⟨(rg_w (c := 0) (d := 1600) hx_23 (by decide) (by decide)), (rg_w (c := 0) (d := 1600) h_15 (by decide) (by decide))⟩, by rw [ht]; exact hP9, hD9⟩, hS.F ht⟩) hS.2.2 dX12_advance_239
          · skip
            have o_24 := Or.resolve_left hr_18.2 c_19
            refine lv_aload_n hx hb dX12_advance_139 rfl (lv_at hl 1 rfl) ?_
            refine lv_iconst (v := 0) hx hb dX12_advance_140 (by decide) ?_
            refine va_put (D := D) (ci := 12) (v := .int 0) (ty := .int) (C := RX12) (T := TX12) (N := 40) hx hb hts iX12 tyX12 tyX12_ok nmX12 hown hK hP hD hS 0 rfl rfl 11 (by decide) (hts _ m_1354) (fun _ h9 => h9) rfl (tyX12_ok 11 (by decide)) rfl rfl (Nat.le_of_ble_eq_true rfl) dX12_advance_141 (fun H locs hP hD hS => ?_)
            have hP : va_P D classes [(a 200, .inr (12, .int v200_0 :: .ref (a 201) :: .ref (a 202) :: .ref (a 203) :: .ref (a 204) :: .int v200_5 :: .ref (a 205) :: .int v200_7 :: .int (y_1.1 0) :: .int (y_1.1 0) :: .int v200_10 :: .int 0 :: .int v200_12 :: .int v200_13 :: .ref (a 206) :: .int v200_15 :: .ref (a 207) :: .int v200_17 :: .int v200_18 :: .int v200_19 :: .ref (a 208) :: .int v200_21 :: .ref (a 209) :: .int v200_23 :: .ref (a 210) :: .ref (a 211) :: .ref (a 212) :: .int v200_27 :: .int v200_28 :: .int v200_29 :: .ref (a 213) :: .ref (a 214) :: .ref (a 215) :: .int v200_33 :: .int v200_34 :: .int v200_35 :: .ref (a 216) :: .ref (a 217) :: .ref (a 218) :: .ref (a 219) :: [])), (a 204, .inl (t 1, 1600, .inl f204))] H := hP
            have hD : va_D A [(a 200, .inr (12, .int v200_0 :: .ref (a 201) :: .ref (a 202) :: .ref (a 203) :: .ref (a 204) :: .int v200_5 :: .ref (a 205) :: .int v200_7 :: .int (y_1.1 0) :: .int (y_1.1 0) :: .int v200_10 :: .int 0 :: .int v200_12 :: .int v200_13 :: .ref (a 206) :: .int v200_15 :: .ref (a 207) :: .int v200_17 :: .int v200_18 :: .int v200_19 :: .ref (a 208) :: .int v200_21 :: .ref (a 209) :: .int v200_23 :: .ref (a 210) :: .ref (a 211) :: .ref (a 212) :: .int v200_27 :: .int v200_28 :: .int v200_29 :: .ref (a 213) :: .ref (a 214) :: .ref (a 215) :: .int v200_33 :: .int v200_34 :: .int v200_35 :: .ref (a 216) :: .ref (a 217) :: .ref (a 218) :: .ref (a 219) :: [])), (a 204, .inl (t 1, 1600, .inl f204))] := hD
            refine loopW (α := US) (fun n y_25 H locs ls => 1600 < (y_25.1 0).toInt + (n : Int) ∧ rg 0 1600 (y_25.1 0) ∧ rg (-2147483648) 99999 (y_25.1 1) ∧ va_P D classes [(a 200, .inr (12, .int v200_0 :: .ref (a 201) :: .ref (a 202) :: .ref (a 203) :: .ref (a 204) :: .int v200_5 :: .ref (a 205) :: .int v200_7 :: .int (y_25.1 0) :: .int (y_1.1 0) :: .int v200_10 :: .int (y_25.1 1) :: .int v200_12 :: .int v200_13 :: .ref (a 206) :: .int v200_15 :: .ref (a 207) :: .int v200_17 :: .int v200_18 :: .int v200_19 :: .ref (a 208) :: .int v200_21 :: .ref (a 209) :: .int v200_23 :: .ref (a 210) :: .ref (a 211) :: .ref (a 212) :: .int v200_27 :: .int v200_28 :: .int v200_29 :: .ref (a 213) :: .ref (a 214) :: .ref (a 215) :: .int v200_33 :: .int v200_34 :: .int v200_35 :: .ref (a 216) :: .ref (a 217) :: .ref (a 218) :: .ref (a 219) :: [])), (a 204, .inl (t 1, 1600, .inl f204))] H ∧ va_D A [(a 200, .inr (12, .int v200_0 :: .ref (a 201) :: .ref (a 202) :: .ref (a 203) :: .ref (a 204) :: .int v200_5 :: .ref (a 205) :: .int v200_7 :: .int (y_25.1 0) :: .int (y_1.1 0) :: .int v200_10 :: .int (y_25.1 1) :: .int v200_12 :: .int v200_13 :: .ref (a 206) :: .int v200_15 :: .ref (a 207) :: .int v200_17 :: .int v200_18 :: .int v200_19 :: .ref (a 208) :: .int v200_21 :: .ref (a 209) :: .int v200_23 :: .ref (a 210) :: .ref (a 211) :: .ref (a 212) :: .int v200_27 :: .int v200_28 :: .int v200_29 :: .ref (a 213) :: .ref (a 214) :: .ref (a 215) :: .int v200_33 :: .int v200_34 :: .int v200_35 :: .ref (a 216) :: .ref (a 217) :: .ref (a 218) :: .ref (a 219) :: [])), (a 204, .inl (t 1, 1600, .inl f204))] ∧ va_S A s.heap H locs ∧ lv_has ls 2 [(1, .int r_12), (0, .ref (a 200))]) 144 (fun y_25 => []) (fun _ _ _ _ h9 => m_0 h9.1 h9.2.1) (fun n ih_28 y_25 H locs ls hI => ?_) 1601 (fun k => [(y_1.1 0), 0].getD k 0, fun k => [].getD k (fun _ => 0), fun k => [].getD k (fun _ => 0), fun k => [].getD k 0) ⟨(m_i h_15 (by decide)), (rg_w (c := 0) (d := 1600) h_15 (by decide) (by decide)), (rg_w (c := (-2147483648)) (d := 99999) (rg_c (x := 0) (k := 0) (by decide)) (by decide) (by decide)), hP, hD, hS, (lv_sub hl [0, 1] rfl)⟩
            obtain ⟨me_29, h_26, h_27, hP, hD, hS, hl⟩ := hI
            refine lv_aload_n hx hb dX12_advance_144 rfl (lv_at hl 1 rfl) ?_
            refine lv_aload_n hx hb dX12_advance_145 rfl (lv_at hl 1 rfl) ?_
            refine va_get (D := D) (ci := 12) (v := .int (y_25.1 0)) (C := RX12) (T := TX12) (N := 40) hx hb hts iX12 hown hK hP 0 rfl rfl 8 (by decide) (hts _ m_1351) (fun _ h9 => h9) rfl dX12_advance_146 ?_
            refine y_pV hF (s_X12_see l D t a v200_0 v200_5 v200_7 (y_25.1 0) (y_1.1 0) v200_10 (y_25.1 1) v200_12 v200_13 v200_15 v200_17 v200_18 v200_19 v200_21 v200_23 v200_27 v200_28 v200_29 v200_33 v200_34 v200_35 f204 (y_25.1 0) r200_5 r200_7 h_26 (rg_w (c := 0) (d := 1600) h_15 (by decide) (by decide)) r200_23 (rg_w (c := 0) (d := 2147483647) h_26 (by decide) (by decide))) m_1496 m_1498 m_s38 m_13 m_1499 hd_X12_see ⟨Nat.le_of_ble_eq_true rfl, Nat.le_of_ble_eq_true rfl⟩ hK hN hP hS [0, 1] rfl 0 (ci := 12) rfl rfl rfl hl.1 rfl (Nat.le_of_ble_eq_true rfl) dX12_advance_149 ⟨Nat.zero_le _, Nat.zero_le _⟩ (fun r_30 H locs hr_30 hP hS => ?_)
            refine lv_i2l hx hb dX12_advance_152 rfl ?_
            refine lv_ldc2 (v := 48) hx hb hown (hts _ m_1502) dX12_advance_153 ?_
            refine lv_ldc2 (v := 57) hx hb hown (hts _ m_1503) dX12_advance_156 ?_
            refine y_pS hF (s_X12_in l D t a ((r_30).toInt64) 48 57) m_1469 m_1470 m_13 m_1471 hd_X12_in ⟨Nat.le_of_ble_eq_true rfl, Nat.le_of_ble_eq_true rfl⟩ hK hN hP hS [] rfl hl.1 rfl (Nat.le_of_ble_eq_true rfl) dX12_advance_159 ⟨Nat.zero_le _, Nat.zero_le _⟩ (fun r_31 H locs hr_31 hP hS => ?_)
            refine lv_if_eq (tgt := 206) hx hb dX12_advance_162 (by decide) (fun c_32 => ?_) (fun c_32 => ?_)
            · skip
              refine lv_aload_n hx hb dX12_advance_206 rfl (lv_at hl 1 rfl) ?_
              refine lv_iconst (v := 2) hx hb dX12_advance_207 (by decide) ?_
              refine va_put (D := D) (ci := 12) (v := .int 2) (ty := .int) (C := RX12) (T := TX12) (N := 40) hx hb hts iX12 tyX12 tyX12_ok nmX12 hown hK hP hD hS 0 rfl rfl 10 (by decide) (hts _ m_1353) (fun _ h9 => h9) rfl (tyX12_ok 10 (by decide)) rfl rfl (Nat.le_of_ble_eq_true rfl) dX12_advance_208 (fun H locs hP hD hS => ?_)
              have hP : va_P D classes [(a 200, .inr (12, .int v200_0 :: .ref (a 201) :: .ref (a 202) :: .ref (a 203) :: .ref (a 204) :: .int v200_5 :: .ref (a 205) :: .int v200_7 :: .int (y_25.1 0) :: .int (y_1.1 0) :: .int 2 :: .int (y_25.1 1) :: .int v200_12 :: .int v200_13 :: .ref (a 206) :: .int v200_15 :: .ref (a 207) :: .int v200_17 :: .int v200_18 :: .int v200_19 :: .ref (a 208) :: .int v200_21 :: .ref (a 209) :: .int v200_23 :: .ref (a 210) :: .ref (a 211) :: .ref (a 212) :: .int v200_27 :: .int v200_28 :: .int v200_29 :: .ref (a 213) :: .ref (a 214) :: .ref (a 215) :: .int v200_33 :: .int v200_34 :: .int v200_35 :: .ref (a 216) :: .ref (a 217) :: .ref (a 218) :: .ref (a 219) :: [])), (a 204, .inl (t 1, 1600, .inl f204))] H := hP
              have hD : va_D A [(a 200, .inr (12, .int v200_0 :: .ref (a 201) :: .ref (a 202) :: .ref (a 203) :: .ref (a 204) :: .int v200_5 :: .ref (a 205) :: .int v200_7 :: .int (y_25.1 0) :: .int (y_1.1 0) :: .int 2 :: .int (y_25.1 1) :: .int v200_12 :: .int v200_13 :: .ref (a 206) :: .int v200_15 :: .ref (a 207) :: .int v200_17 :: .int v200_18 :: .int v200_19 :: .ref (a 208) :: .int v200_21 :: .ref (a 209) :: .int v200_23 :: .ref (a 210) :: .ref (a 211) :: .ref (a 212) :: .int v200_27 :: .int v200_28 :: .int v200_29 :: .ref (a 213) :: .ref (a 214) :: .ref (a 215) :: .int v200_33 :: .int v200_34 :: .int v200_35 :: .ref (a 216) :: .ref (a 217) :: .ref (a 218) :: .ref (a 219) :: [])), (a 204, .inl (t 1, 1600, .inl f204))] := hD
              refine lv_goto (tgt := 239) hx hb dX12_advance_211 (by decide) ?_
              have hP9 := hP.sub (ws' := [(a 200, .inr (12, .int v200_0 :: .ref (a 201) :: .ref (a 202) :: .ref (a 203) :: .ref (a 204) :: .int v200_5 :: .ref (a 205) :: .int v200_7 :: .int (y_25.1 0) :: .int (y_1.1 0) :: .int 2 :: .int (y_25.1 1) :: .int v200_12 :: .int v200_13 :: .ref (a 206) :: .int v200_15 :: .ref (a 207) :: .int v200_17 :: .int v200_18 :: .int v200_19 :: .ref (a 208) :: .int v200_21 :: .ref (a 209) :: .int v200_23 :: .ref (a 210) :: .ref (a 211) :: .ref (a 212) :: .int v200_27 :: .int v200_28 :: .int v200_29 :: .ref (a 213) :: .ref (a 214) :: .ref (a 215) :: .int v200_33 :: .int v200_34 :: .int v200_35 :: .ref (a 216) :: .ref (a 217) :: .ref (a 218) :: .ref (a 219) :: [])), (a 204, .inl (t 1, 1600, .inl f204))]) [0, 1] rfl
              have hD9 := hD.sub (ws' := [(a 200, .inr (12, .int v200_0 :: .ref (a 201) :: .ref (a 202) :: .ref (a 203) :: .ref (a 204) :: .int v200_5 :: .ref (a 205) :: .int v200_7 :: .int (y_25.1 0) :: .int (y_1.1 0) :: .int 2 :: .int (y_25.1 1) :: .int v200_12 :: .int v200_13 :: .ref (a 206) :: .int v200_15 :: .ref (a 207) :: .int v200_17 :: .int v200_18 :: .int v200_19 :: .ref (a 208) :: .int v200_21 :: .ref (a 209) :: .int v200_23 :: .ref (a 210) :: .ref (a 211) :: .ref (a 212) :: .int v200_27 :: .int v200_28 :: .int v200_29 :: .ref (a 213) :: .ref (a 214) :: .ref (a 215) :: .int v200_33 :: .int v200_34 :: .int v200_35 :: .ref (a 216) :: .ref (a 217) :: .ref (a 218) :: .ref (a 219) :: [])), (a 204, .inl (t 1, 1600, .inl f204))]) [0, 1] (by decide) rfl
              exact W.vret hx hb hr (fun t9 ht hW => ⟨⟨(fun k => [(y_25.1 0), (y_1.1 0), 2, (y_25.1 1)].getD k 0, fun k => [].getD k (fun _ => 0), fun k => [].getD k (fun _ => 0), fun _ => 0), rfl, ⟨h_26, (rg_w (c := 0) (d := 1600) h_15 (by decide) (by decide))⟩, by rw [ht]; exact hP9, hD9⟩, hS.F ht⟩) hS.2.2 dX12_advance_239
            · skip
              have o_33 := Or.resolve_left hr_31.2 c_32
              have h_34 : rg 0 1599 (y_25.1 0) := ⟨(gp_use hr_30.2 (in_cvi (p := 48) (q := 57) o_33 (rl_c (x := 48) (k := 48) (by decide)) (rl_c (x := 57) (k := 57) (by decide)) (by decide) (by decide)) (by decide)).1, (gp_use hr_30.2 (in_cvi (p := 48) (q := 57) o_33 (rl_c (x := 48) (k := 48) (by decide)) (rl_c (x := 57) (k := 57) (by decide)) (by decide) (by decide)) (by decide)).2⟩
              refine lv_aload_n hx hb dX12_advance_165 rfl (lv_at hl 1 rfl) ?_
              refine lv_ldc (v := 99999) hx hb hown (hts _ m_1504) dX12_advance_166 ?_
              refine lv_bipush (v := 10) hx hb dX12_advance_168 (by decide) ?_
              refine lv_aload_n hx hb dX12_advance_170 rfl (lv_at hl 1 rfl) ?_
              refine va_get (D := D) (ci := 12) (v := .int (y_25.1 1)) (C := RX12) (T := TX12) (N := 40) hx hb hts iX12 hown hK hP 0 rfl rfl 11 (by decide) (hts _ m_1354) (fun _ h9 => h9) rfl dX12_advance_171 ?_
              refine lv_imul hx hb dX12_advance_174 ?_
              refine lv_topi (fun x_35 ex_35 => ?_)
              refine lv_aload_n hx hb dX12_advance_175 rfl (lv_at hl 1 rfl) ?_
              refine lv_aload_n hx hb dX12_advance_176 rfl (lv_at hl 1 rfl) ?_
              refine va_get (D := D) (ci := 12) (v := .int (y_25.1 0)) (C := RX12) (T := TX12) (N := 40) hx hb hts iX12 hown hK hP 0 rfl rfl 8 (by decide) (hts _ m_1351) (fun _ h9 => h9) rfl dX12_advance_177 ?_
              refine y_pV hF (s_X12_see l D t a v200_0 v200_5 v200_7 (y_25.1 0) (y_1.1 0) v200_10 (y_25.1 1) v200_12 v200_13 v200_15 v200_17 v200_18 v200_19 v200_21 v200_23 v200_27 v200_28 v200_29 v200_33 v200_34 v200_35 f204 (y_25.1 0) r200_5 r200_7 (rg_w (c := 0) (d := 1600) h_34 (by decide) (by decide)) (rg_w (c := 0) (d := 1600) h_15 (by decide) (by decide)) r200_23 (rg_w (c := 0) (d := 2147483647) h_34 (by decide) (by decide))) m_1496 m_1498 m_s38 m_13 m_1499 hd_X12_see ⟨Nat.le_of_ble_eq_true rfl, Nat.le_of_ble_eq_true rfl⟩ hK hN hP hS [0, 1] rfl 0 (ci := 12) rfl rfl rfl hl.1 rfl (Nat.le_of_ble_eq_true rfl) dX12_advance_180 ⟨Nat.zero_le _, Nat.zero_le _⟩ (fun r_36 H locs hr_36 hP hS => ?_)
              refine lv_iadd hx hb dX12_advance_183 ?_
              refine lv_topi (fun x_37 ex_37 => ?_)
              refine lv_bipush (v := 48) hx hb dX12_advance_184 (by decide) ?_
              refine lv_isub hx hb dX12_advance_186 ?_
              refine lv_topi (fun x_38 ex_38 => ?_)
              refine va_mmin hx hb (by rw [hml]; exact hl.1.symm) hown (hts _ m_1505) (hts _ m_527) (hts _ m_15) (hts _ m_528) (Nat.le_of_ble_eq_true rfl) (Nat.le_of_ble_eq_true rfl) (Nat.zero_le _) (Nat.zero_le _) dX12_advance_187 ?_
              refine lv_topi (fun x_39 ex_39 => ?_)
              have hx_39 : rg (-2147483648) 99999 x_39 := by rw [ex_39]; exact rg_min (rg_c (x := 99999) (k := 99999) (by decide)) (rg_any x_38) (by decide) (by decide) (by decide)
              refine va_put (D := D) (ci := 12) (v := .int x_39) (ty := .int) (C := RX12) (T := TX12) (N := 40) hx hb hts iX12 tyX12 tyX12_ok nmX12 hown hK hP hD hS 0 rfl rfl 11 (by decide) (hts _ m_1354) (fun _ h9 => h9) rfl (tyX12_ok 11 (by decide)) rfl rfl (Nat.le_of_ble_eq_true rfl) dX12_advance_190 (fun H locs hP hD hS => ?_)
              have hP : va_P D classes [(a 200, .inr (12, .int v200_0 :: .ref (a 201) :: .ref (a 202) :: .ref (a 203) :: .ref (a 204) :: .int v200_5 :: .ref (a 205) :: .int v200_7 :: .int (y_25.1 0) :: .int (y_1.1 0) :: .int v200_10 :: .int x_39 :: .int v200_12 :: .int v200_13 :: .ref (a 206) :: .int v200_15 :: .ref (a 207) :: .int v200_17 :: .int v200_18 :: .int v200_19 :: .ref (a 208) :: .int v200_21 :: .ref (a 209) :: .int v200_23 :: .ref (a 210) :: .ref (a 211) :: .ref (a 212) :: .int v200_27 :: .int v200_28 :: .int v200_29 :: .ref (a 213) :: .ref (a 214) :: .ref (a 215) :: .int v200_33 :: .int v200_34 :: .int v200_35 :: .ref (a 216) :: .ref (a 217) :: .ref (a 218) :: .ref (a 219) :: [])), (a 204, .inl (t 1, 1600, .inl f204))] H := hP
              have hD : va_D A [(a 200, .inr (12, .int v200_0 :: .ref (a 201) :: .ref (a 202) :: .ref (a 203) :: .ref (a 204) :: .int v200_5 :: .ref (a 205) :: .int v200_7 :: .int (y_25.1 0) :: .int (y_1.1 0) :: .int v200_10 :: .int x_39 :: .int v200_12 :: .int v200_13 :: .ref (a 206) :: .int v200_15 :: .ref (a 207) :: .int v200_17 :: .int v200_18 :: .int v200_19 :: .ref (a 208) :: .int v200_21 :: .ref (a 209) :: .int v200_23 :: .ref (a 210) :: .ref (a 211) :: .ref (a 212) :: .int v200_27 :: .int v200_28 :: .int v200_29 :: .ref (a 213) :: .ref (a 214) :: .ref (a 215) :: .int v200_33 :: .int v200_34 :: .int v200_35 :: .ref (a 216) :: .ref (a 217) :: .ref (a 218) :: .ref (a 219) :: [])), (a 204, .inl (t 1, 1600, .inl f204))] := hD
              refine lv_aload_n hx hb dX12_advance_193 rfl (lv_at hl 1 rfl) ?_
              refine lv_dup hx hb dX12_advance_194 rfl ?_
              refine va_get (D := D) (ci := 12) (v := .int (y_25.1 0)) (C := RX12) (T := TX12) (N := 40) hx hb hts iX12 hown hK hP 0 rfl rfl 8 (by decide) (hts _ m_1351) (fun _ h9 => h9) rfl dX12_advance_195 ?_
              refine lv_iconst (v := 1) hx hb dX12_advance_198 (by decide) ?_
              refine lv_iadd hx hb dX12_advance_199 ?_
              refine lv_topi (fun x_40 ex_40 => ?_)
              have hx_40 : rg 1 1600 x_40 := by rw [ex_40]; exact rg_add h_34 (rg_c (x := 1) (k := 1) (by decide)) (by decide) (by decide) (by decide) (by decide)
              have tx_40 : x_40.toInt = (y_25.1 0).toInt + 1 := by rw [ex_40]; exact inc_tk h_34 (by decide) (by decide) (by decide)
              refine va_put (D := D) (ci := 12) (v := .int x_40) (ty := .int) (C := RX12) (T := TX12) (N := 40) hx hb hts iX12 tyX12 tyX12_ok nmX12 hown hK hP hD hS 0 rfl rfl 8 (by decide) (hts _ m_1351) (fun _ h9 => h9) rfl (tyX12_ok 8 (by decide)) rfl rfl (Nat.le_of_ble_eq_true rfl) dX12_advance_200 (fun H locs hP hD hS => ?_)
              have hP : va_P D classes [(a 200, .inr (12, .int v200_0 :: .ref (a 201) :: .ref (a 202) :: .ref (a 203) :: .ref (a 204) :: .int v200_5 :: .ref (a 205) :: .int v200_7 :: .int x_40 :: .int (y_1.1 0) :: .int v200_10 :: .int x_39 :: .int v200_12 :: .int v200_13 :: .ref (a 206) :: .int v200_15 :: .ref (a 207) :: .int v200_17 :: .int v200_18 :: .int v200_19 :: .ref (a 208) :: .int v200_21 :: .ref (a 209) :: .int v200_23 :: .ref (a 210) :: .ref (a 211) :: .ref (a 212) :: .int v200_27 :: .int v200_28 :: .int v200_29 :: .ref (a 213) :: .ref (a 214) :: .ref (a 215) :: .int v200_33 :: .int v200_34 :: .int v200_35 :: .ref (a 216) :: .ref (a 217) :: .ref (a 218) :: .ref (a 219) :: [])), (a 204, .inl (t 1, 1600, .inl f204))] H := hP
              have hD : va_D A [(a 200, .inr (12, .int v200_0 :: .ref (a 201) :: .ref (a 202) :: .ref (a 203) :: .ref (a 204) :: .int v200_5 :: .ref (a 205) :: .int v200_7 :: .int x_40 :: .int (y_1.1 0) :: .int v200_10 :: .int x_39 :: .int v200_12 :: .int v200_13 :: .ref (a 206) :: .int v200_15 :: .ref (a 207) :: .int v200_17 :: .int v200_18 :: .int v200_19 :: .ref (a 208) :: .int v200_21 :: .ref (a 209) :: .int v200_23 :: .ref (a 210) :: .ref (a 211) :: .ref (a 212) :: .int v200_27 :: .int v200_28 :: .int v200_29 :: .ref (a 213) :: .ref (a 214) :: .ref (a 215) :: .int v200_33 :: .int v200_34 :: .int v200_35 :: .ref (a 216) :: .ref (a 217) :: .ref (a 218) :: .ref (a 219) :: [])), (a 204, .inl (t 1, 1600, .inl f204))] := hD
              refine lv_goto (tgt := 144) hx hb dX12_advance_203 (by decide) ?_
              exact ih_28 (fun k => [x_40, x_39].getD k 0, fun k => [].getD k (fun _ => 0), fun k => [].getD k (fun _ => 0), fun k => [].getD k 0) _ _ ls ⟨(m_upk me_29 tx_40 (by decide)), (rg_w (c := 0) (d := 1600) hx_40 (by decide) (by decide)), hx_39, hP, hD, hS, (lv_sub hl [0, 1] rfl)⟩
        · skip
          have o_41 := Or.resolve_left hr_16.2 c_17
          refine loopW (α := US) (fun n y_42 H locs ls => 1600 < (y_42.1 0).toInt + (n : Int) ∧ rg 0 1600 (y_42.1 0) ∧ va_P D classes [(a 200, .inr (12, .int v200_0 :: .ref (a 201) :: .ref (a 202) :: .ref (a 203) :: .ref (a 204) :: .int v200_5 :: .ref (a 205) :: .int v200_7 :: .int (y_42.1 0) :: .int (y_1.1 0) :: .int v200_10 :: .int v200_11 :: .int v200_12 :: .int v200_13 :: .ref (a 206) :: .int v200_15 :: .ref (a 207) :: .int v200_17 :: .int v200_18 :: .int v200_19 :: .ref (a 208) :: .int v200_21 :: .ref (a 209) :: .int v200_23 :: .ref (a 210) :: .ref (a 211) :: .ref (a 212) :: .int v200_27 :: .int v200_28 :: .int v200_29 :: .ref (a 213) :: .ref (a 214) :: .ref (a 215) :: .int v200_33 :: .int v200_34 :: .int v200_35 :: .ref (a 216) :: .ref (a 217) :: .ref (a 218) :: .ref (a 219) :: [])), (a 204, .inl (t 1, 1600, .inl f204))] H ∧ va_D A [(a 200, .inr (12, .int v200_0 :: .ref (a 201) :: .ref (a 202) :: .ref (a 203) :: .ref (a 204) :: .int v200_5 :: .ref (a 205) :: .int v200_7 :: .int (y_42.1 0) :: .int (y_1.1 0) :: .int v200_10 :: .int v200_11 :: .int v200_12 :: .int v200_13 :: .ref (a 206) :: .int v200_15 :: .ref (a 207) :: .int v200_17 :: .int v200_18 :: .int v200_19 :: .ref (a 208) :: .int v200_21 :: .ref (a 209) :: .int v200_23 :: .ref (a 210) :: .ref (a 211) :: .ref (a 212) :: .int v200_27 :: .int v200_28 :: .int v200_29 :: .ref (a 213) :: .ref (a 214) :: .ref (a 215) :: .int v200_33 :: .int v200_34 :: .int v200_35 :: .ref (a 216) :: .ref (a 217) :: .ref (a 218) :: .ref (a 219) :: [])), (a 204, .inl (t 1, 1600, .inl f204))] ∧ va_S A s.heap H locs ∧ lv_has ls 2 [(1, .int r_12), (0, .ref (a 200))]) 83 (fun y_42 => []) (fun _ _ _ _ h9 => m_0 h9.1 h9.2.1) (fun n ih_44 y_42 H locs ls hI => ?_) 1601 (fun k => [(y_1.1 0)].getD k 0, fun k => [].getD k (fun _ => 0), fun k => [].getD k (fun _ => 0), fun k => [].getD k 0) ⟨(m_i h_15 (by decide)), (rg_w (c := 0) (d := 1600) h_15 (by decide) (by decide)), hP, hD, hS, (lv_sub hl [0, 1] rfl)⟩
          obtain ⟨me_45, h_43, hP, hD, hS, hl⟩ := hI
          refine lv_aload_n hx hb dX12_advance_83 rfl (lv_at hl 1 rfl) ?_
          refine lv_aload_n hx hb dX12_advance_84 rfl (lv_at hl 1 rfl) ?_
          refine va_get (D := D) (ci := 12) (v := .int (y_42.1 0)) (C := RX12) (T := TX12) (N := 40) hx hb hts iX12 hown hK hP 0 rfl rfl 8 (by decide) (hts _ m_1351) (fun _ h9 => h9) rfl dX12_advance_85 ?_
          refine y_pV hF (s_X12_see l D t a v200_0 v200_5 v200_7 (y_42.1 0) (y_1.1 0) v200_10 v200_11 v200_12 v200_13 v200_15 v200_17 v200_18 v200_19 v200_21 v200_23 v200_27 v200_28 v200_29 v200_33 v200_34 v200_35 f204 (y_42.1 0) r200_5 r200_7 h_43 (rg_w (c := 0) (d := 1600) h_15 (by decide) (by decide)) r200_23 (rg_w (c := 0) (d := 2147483647) h_43 (by decide) (by decide))) m_1496 m_1498 m_s38 m_13 m_1499 hd_X12_see ⟨Nat.le_of_ble_eq_true rfl, Nat.le_of_ble_eq_true rfl⟩ hK hN hP hS [0, 1] rfl 0 (ci := 12) rfl rfl rfl hl.1 rfl (Nat.le_of_ble_eq_true rfl) dX12_advance_88 ⟨Nat.zero_le _, Nat.zero_le _⟩ (fun r_46 H locs hr_46 hP hS => ?_)
          refine lv_i2l hx hb dX12_advance_91 rfl ?_
          refine lv_ldc2 (v := 97) hx hb hown (hts _ m_1500) dX12_advance_92 ?_
          refine lv_ldc2 (v := 122) hx hb hown (hts _ m_1501) dX12_advance_95 ?_
          refine y_pS hF (s_X12_in l D t a ((r_46).toInt64) 97 122) m_1469 m_1470 m_13 m_1471 hd_X12_in ⟨Nat.le_of_ble_eq_true rfl, Nat.le_of_ble_eq_true rfl⟩ hK hN hP hS [] rfl hl.1 rfl (Nat.le_of_ble_eq_true rfl) dX12_advance_98 ⟨Nat.zero_le _, Nat.zero_le _⟩ (fun r_47 H locs hr_47 hP hS => ?_)
          refine lv_if_eq (tgt := 117) hx hb dX12_advance_101 (by decide) (fun c_48 => ?_) (fun c_48 => ?_)
          · skip
            refine lv_aload_n hx hb dX12_advance_117 rfl (lv_at hl 1 rfl) ?_
            refine lv_iconst (v := 1) hx hb dX12_advance_118 (by decide) ?_
            refine va_put (D := D) (ci := 12) (v := .int 1) (ty := .int) (C := RX12) (T := TX12) (N := 40) hx hb hts iX12 tyX12 tyX12_ok nmX12 hown hK hP hD hS 0 rfl rfl 10 (by decide) (hts _ m_1353) (fun _ h9 => h9) rfl (tyX12_ok 10 (by decide)) rfl rfl (Nat.le_of_ble_eq_true rfl) dX12_advance_119 (fun H locs hP hD hS => ?_)
            have hP : va_P D classes [(a 200, .inr (12, .int v200_0 :: .ref (a 201) :: .ref (a 202) :: .ref (a 203) :: .ref (a 204) :: .int v200_5 :: .ref (a 205) :: .int v200_7 :: .int (y_42.1 0) :: .int (y_1.1 0) :: .int 1 :: .int v200_11 :: .int v200_12 :: .int v200_13 :: .ref (a 206) :: .int v200_15 :: .ref (a 207) :: .int v200_17 :: .int v200_18 :: .int v200_19 :: .ref (a 208) :: .int v200_21 :: .ref (a 209) :: .int v200_23 :: .ref (a 210) :: .ref (a 211) :: .ref (a 212) :: .int v200_27 :: .int v200_28 :: .int v200_29 :: .ref (a 213) :: .ref (a 214) :: .ref (a 215) :: .int v200_33 :: .int v200_34 :: .int v200_35 :: .ref (a 216) :: .ref (a 217) :: .ref (a 218) :: .ref (a 219) :: [])), (a 204, .inl (t 1, 1600, .inl f204))] H := hP
            have hD : va_D A [(a 200, .inr (12, .int v200_0 :: .ref (a 201) :: .ref (a 202) :: .ref (a 203) :: .ref (a 204) :: .int v200_5 :: .ref (a 205) :: .int v200_7 :: .int (y_42.1 0) :: .int (y_1.1 0) :: .int 1 :: .int v200_11 :: .int v200_12 :: .int v200_13 :: .ref (a 206) :: .int v200_15 :: .ref (a 207) :: .int v200_17 :: .int v200_18 :: .int v200_19 :: .ref (a 208) :: .int v200_21 :: .ref (a 209) :: .int v200_23 :: .ref (a 210) :: .ref (a 211) :: .ref (a 212) :: .int v200_27 :: .int v200_28 :: .int v200_29 :: .ref (a 213) :: .ref (a 214) :: .ref (a 215) :: .int v200_33 :: .int v200_34 :: .int v200_35 :: .ref (a 216) :: .ref (a 217) :: .ref (a 218) :: .ref (a 219) :: [])), (a 204, .inl (t 1, 1600, .inl f204))] := hD
            refine lv_goto (tgt := 239) hx hb dX12_advance_122 (by decide) ?_
            have hP9 := hP.sub (ws' := [(a 200, .inr (12, .int v200_0 :: .ref (a 201) :: .ref (a 202) :: .ref (a 203) :: .ref (a 204) :: .int v200_5 :: .ref (a 205) :: .int v200_7 :: .int (y_42.1 0) :: .int (y_1.1 0) :: .int 1 :: .int v200_11 :: .int v200_12 :: .int v200_13 :: .ref (a 206) :: .int v200_15 :: .ref (a 207) :: .int v200_17 :: .int v200_18 :: .int v200_19 :: .ref (a 208) :: .int v200_21 :: .ref (a 209) :: .int v200_23 :: .ref (a 210) :: .ref (a 211) :: .ref (a 212) :: .int v200_27 :: .int v200_28 :: .int v200_29 :: .ref (a 213) :: .ref (a 214) :: .ref (a 215) :: .int v200_33 :: .int v200_34 :: .int v200_35 :: .ref (a 216) :: .ref (a 217) :: .ref (a 218) :: .ref (a 219) :: [])), (a 204, .inl (t 1, 1600, .inl f204))]) [0, 1] rfl
            have hD9 := hD.sub (ws' := [(a 200, .inr (12, .int v200_0 :: .ref (a 201) :: .ref (a 202) :: .ref (a 203) :: .ref (a 204) :: .int v200_5 :: .ref (a 205) :: .int v200_7 :: .int (y_42.1 0) :: .int (y_1.1 0) :: .int 1 :: .int v200_11 :: .int v200_12 :: .int v200_13 :: .ref (a 206) :: .int v200_15 :: .ref (a 207) :: .int v200_17 :: .int v200_18 :: .int v200_19 :: .ref (a 208) :: .int v200_21 :: .ref (a 209) :: .int v200_23 :: .ref (a 210) :: .ref (a 211) :: .ref (a 212) :: .int v200_27 :: .int v200_28 :: .int v200_29 :: .ref (a 213) :: .ref (a 214) :: .ref (a 215) :: .int v200_33 :: .int v200_34 :: .int v200_35 :: .ref (a 216) :: .ref (a 217) :: .ref (a 218) :: .ref (a 219) :: [])), (a 204, .inl (t 1, 1600, .inl f204))]) [0, 1] (by decide) rfl
            exact W.vret hx hb hr (fun t9 ht hW => ⟨⟨(fun k => [(y_42.1 0), (y_1.1 0), 1, v200_11].getD k 0, fun k => [].getD k (fun _ => 0), fun k => [].getD k (fun _ => 0), fun _ => 0), rfl, ⟨h_43, (rg_w (c := 0) (d := 1600) h_15 (by decide) (by decide))⟩, by rw [ht]; exact hP9, hD9⟩, hS.F ht⟩) hS.2.2 dX12_advance_239
          · skip
            have o_49 := Or.resolve_left hr_47.2 c_48
            have h_50 : rg 0 1599 (y_42.1 0) := ⟨(gp_use hr_46.2 (in_cvi (p := 97) (q := 122) o_49 (rl_c (x := 97) (k := 97) (by decide)) (rl_c (x := 122) (k := 122) (by decide)) (by decide) (by decide)) (by decide)).1, (gp_use hr_46.2 (in_cvi (p := 97) (q := 122) o_49 (rl_c (x := 97) (k := 97) (by decide)) (rl_c (x := 122) (k := 122) (by decide)) (by decide) (by decide)) (by decide)).2⟩
            refine lv_aload_n hx hb dX12_advance_104 rfl (lv_at hl 1 rfl) ?_
            refine lv_dup hx hb dX12_advance_105 rfl ?_
            refine va_get (D := D) (ci := 12) (v := .int (y_42.1 0)) (C := RX12) (T := TX12) (N := 40) hx hb hts iX12 hown hK hP 0 rfl rfl 8 (by decide) (hts _ m_1351) (fun _ h9 => h9) rfl dX12_advance_106 ?_
            refine lv_iconst (v := 1) hx hb dX12_advance_109 (by decide) ?_
            refine lv_iadd hx hb dX12_advance_110 ?_
            refine lv_topi (fun x_51 ex_51 => ?_)
            have hx_51 : rg 1 1600 x_51 := by rw [ex_51]; exact rg_add h_50 (rg_c (x := 1) (k := 1) (by decide)) (by decide) (by decide) (by decide) (by decide)
            have tx_51 : x_51.toInt = (y_42.1 0).toInt + 1 := by rw [ex_51]; exact inc_tk h_50 (by decide) (by decide) (by decide)
            refine va_put (D := D) (ci := 12) (v := .int x_51) (ty := .int) (C := RX12) (T := TX12) (N := 40) hx hb hts iX12 tyX12 tyX12_ok nmX12 hown hK hP hD hS 0 rfl rfl 8 (by decide) (hts _ m_1351) (fun _ h9 => h9) rfl (tyX12_ok 8 (by decide)) rfl rfl (Nat.le_of_ble_eq_true rfl) dX12_advance_111 (fun H locs hP hD hS => ?_)
            have hP : va_P D classes [(a 200, .inr (12, .int v200_0 :: .ref (a 201) :: .ref (a 202) :: .ref (a 203) :: .ref (a 204) :: .int v200_5 :: .ref (a 205) :: .int v200_7 :: .int x_51 :: .int (y_1.1 0) :: .int v200_10 :: .int v200_11 :: .int v200_12 :: .int v200_13 :: .ref (a 206) :: .int v200_15 :: .ref (a 207) :: .int v200_17 :: .int v200_18 :: .int v200_19 :: .ref (a 208) :: .int v200_21 :: .ref (a 209) :: .int v200_23 :: .ref (a 210) :: .ref (a 211) :: .ref (a 212) :: .int v200_27 :: .int v200_28 :: .int v200_29 :: .ref (a 213) :: .ref (a 214) :: .ref (a 215) :: .int v200_33 :: .int v200_34 :: .int v200_35 :: .ref (a 216) :: .ref (a 217) :: .ref (a 218) :: .ref (a 219) :: [])), (a 204, .inl (t 1, 1600, .inl f204))] H := hP
            have hD : va_D A [(a 200, .inr (12, .int v200_0 :: .ref (a 201) :: .ref (a 202) :: .ref (a 203) :: .ref (a 204) :: .int v200_5 :: .ref (a 205) :: .int v200_7 :: .int x_51 :: .int (y_1.1 0) :: .int v200_10 :: .int v200_11 :: .int v200_12 :: .int v200_13 :: .ref (a 206) :: .int v200_15 :: .ref (a 207) :: .int v200_17 :: .int v200_18 :: .int v200_19 :: .ref (a 208) :: .int v200_21 :: .ref (a 209) :: .int v200_23 :: .ref (a 210) :: .ref (a 211) :: .ref (a 212) :: .int v200_27 :: .int v200_28 :: .int v200_29 :: .ref (a 213) :: .ref (a 214) :: .ref (a 215) :: .int v200_33 :: .int v200_34 :: .int v200_35 :: .ref (a 216) :: .ref (a 217) :: .ref (a 218) :: .ref (a 219) :: [])), (a 204, .inl (t 1, 1600, .inl f204))] := hD
            refine lv_goto (tgt := 83) hx hb dX12_advance_114 (by decide) ?_
            exact ih_44 (fun k => [x_51].getD k 0, fun k => [].getD k (fun _ => 0), fun k => [].getD k (fun _ => 0), fun k => [].getD k 0) _ _ ls ⟨(m_upk me_45 tx_51 (by decide)), (rg_w (c := 0) (d := 1600) hx_51 (by decide) (by decide)), hP, hD, hS, (lv_sub hl [0, 1] rfl)⟩
      · skip
        have h_52 : rg (-1) (-1) r_12 := rg_eq c_13 (rg_c (x := (-1)) (k := (-1)) (by decide))
        refine lv_aload_n hx hb dX12_advance_61 rfl (lv_at hl 1 rfl) ?_
        refine lv_iconst (v := 0) hx hb dX12_advance_62 (by decide) ?_
        refine va_put (D := D) (ci := 12) (v := .int 0) (ty := .int) (C := RX12) (T := TX12) (N := 40) hx hb hts iX12 tyX12 tyX12_ok nmX12 hown hK hP hD hS 0 rfl rfl 10 (by decide) (hts _ m_1353) (fun _ h9 => h9) rfl (tyX12_ok 10 (by decide)) rfl rfl (Nat.le_of_ble_eq_true rfl) dX12_advance_63 (fun H locs hP hD hS => ?_)
        have hP : va_P D classes [(a 200, .inr (12, .int v200_0 :: .ref (a 201) :: .ref (a 202) :: .ref (a 203) :: .ref (a 204) :: .int v200_5 :: .ref (a 205) :: .int v200_7 :: .int (y_1.1 0) :: .int (y_1.1 0) :: .int 0 :: .int v200_11 :: .int v200_12 :: .int v200_13 :: .ref (a 206) :: .int v200_15 :: .ref (a 207) :: .int v200_17 :: .int v200_18 :: .int v200_19 :: .ref (a 208) :: .int v200_21 :: .ref (a 209) :: .int v200_23 :: .ref (a 210) :: .ref (a 211) :: .ref (a 212) :: .int v200_27 :: .int v200_28 :: .int v200_29 :: .ref (a 213) :: .ref (a 214) :: .ref (a 215) :: .int v200_33 :: .int v200_34 :: .int v200_35 :: .ref (a 216) :: .ref (a 217) :: .ref (a 218) :: .ref (a 219) :: [])), (a 204, .inl (t 1, 1600, .inl f204))] H := hP
        have hD : va_D A [(a 200, .inr (12, .int v200_0 :: .ref (a 201) :: .ref (a 202) :: .ref (a 203) :: .ref (a 204) :: .int v200_5 :: .ref (a 205) :: .int v200_7 :: .int (y_1.1 0) :: .int (y_1.1 0) :: .int 0 :: .int v200_11 :: .int v200_12 :: .int v200_13 :: .ref (a 206) :: .int v200_15 :: .ref (a 207) :: .int v200_17 :: .int v200_18 :: .int v200_19 :: .ref (a 208) :: .int v200_21 :: .ref (a 209) :: .int v200_23 :: .ref (a 210) :: .ref (a 211) :: .ref (a 212) :: .int v200_27 :: .int v200_28 :: .int v200_29 :: .ref (a 213) :: .ref (a 214) :: .ref (a 215) :: .int v200_33 :: .int v200_34 :: .int v200_35 :: .ref (a 216) :: .ref (a 217) :: .ref (a 218) :: .ref (a 219) :: [])), (a 204, .inl (t 1, 1600, .inl f204))] := hD
        refine lv_goto (tgt := 239) hx hb dX12_advance_66 (by decide) ?_
        have hP9 := hP.sub (ws' := [(a 200, .inr (12, .int v200_0 :: .ref (a 201) :: .ref (a 202) :: .ref (a 203) :: .ref (a 204) :: .int v200_5 :: .ref (a 205) :: .int v200_7 :: .int (y_1.1 0) :: .int (y_1.1 0) :: .int 0 :: .int v200_11 :: .int v200_12 :: .int v200_13 :: .ref (a 206) :: .int v200_15 :: .ref (a 207) :: .int v200_17 :: .int v200_18 :: .int v200_19 :: .ref (a 208) :: .int v200_21 :: .ref (a 209) :: .int v200_23 :: .ref (a 210) :: .ref (a 211) :: .ref (a 212) :: .int v200_27 :: .int v200_28 :: .int v200_29 :: .ref (a 213) :: .ref (a 214) :: .ref (a 215) :: .int v200_33 :: .int v200_34 :: .int v200_35 :: .ref (a 216) :: .ref (a 217) :: .ref (a 218) :: .ref (a 219) :: [])), (a 204, .inl (t 1, 1600, .inl f204))]) [0, 1] rfl
        have hD9 := hD.sub (ws' := [(a 200, .inr (12, .int v200_0 :: .ref (a 201) :: .ref (a 202) :: .ref (a 203) :: .ref (a 204) :: .int v200_5 :: .ref (a 205) :: .int v200_7 :: .int (y_1.1 0) :: .int (y_1.1 0) :: .int 0 :: .int v200_11 :: .int v200_12 :: .int v200_13 :: .ref (a 206) :: .int v200_15 :: .ref (a 207) :: .int v200_17 :: .int v200_18 :: .int v200_19 :: .ref (a 208) :: .int v200_21 :: .ref (a 209) :: .int v200_23 :: .ref (a 210) :: .ref (a 211) :: .ref (a 212) :: .int v200_27 :: .int v200_28 :: .int v200_29 :: .ref (a 213) :: .ref (a 214) :: .ref (a 215) :: .int v200_33 :: .int v200_34 :: .int v200_35 :: .ref (a 216) :: .ref (a 217) :: .ref (a 218) :: .ref (a 219) :: [])), (a 204, .inl (t 1, 1600, .inl f204))]) [0, 1] (by decide) rfl
        exact W.vret hx hb hr (fun t9 ht hW => ⟨⟨(fun k => [(y_1.1 0), (y_1.1 0), 0, v200_11].getD k 0, fun k => [].getD k (fun _ => 0), fun k => [].getD k (fun _ => 0), fun _ => 0), rfl, ⟨h_2, h_2⟩, by rw [ht]; exact hP9, hD9⟩, hS.F ht⟩) hS.2.2 dX12_advance_239
    · skip
      have h_53 : rg 10 10 r_10 := rg_eq c_11 (rg_c (x := 10) (k := 10) (by decide))
      have h_54 : rg 0 1599 (y_1.1 0) := ⟨(gp_use hr_10.2 h_53 (by decide)).1, (gp_use hr_10.2 h_53 (by decide)).2⟩
      refine lv_aload_n hx hb dX12_advance_26 rfl (lv_at hl 0 rfl) ?_
      refine lv_dup hx hb dX12_advance_27 rfl ?_
      refine va_get (D := D) (ci := 12) (v := .int (y_1.1 0)) (C := RX12) (T := TX12) (N := 40) hx hb hts iX12 hown hK hP 0 rfl rfl 8 (by decide) (hts _ m_1351) (fun _ h9 => h9) rfl dX12_advance_28 ?_
      refine lv_iconst (v := 1) hx hb dX12_advance_31 (by decide) ?_
      refine lv_iadd hx hb dX12_advance_32 ?_
      refine lv_topi (fun x_55 ex_55 => ?_)
      have hx_55 : rg 1 1600 x_55 := by rw [ex_55]; exact rg_add h_54 (rg_c (x := 1) (k := 1) (by decide)) (by decide) (by decide) (by decide) (by decide)
      have tx_55 : x_55.toInt = (y_1.1 0).toInt + 1 := by rw [ex_55]; exact inc_tk h_54 (by decide) (by decide) (by decide)
      refine va_put (D := D) (ci := 12) (v := .int x_55) (ty := .int) (C := RX12) (T := TX12) (N := 40) hx hb hts iX12 tyX12 tyX12_ok nmX12 hown hK hP hD hS 0 rfl rfl 8 (by decide) (hts _ m_1351) (fun _ h9 => h9) rfl (tyX12_ok 8 (by decide)) rfl rfl (Nat.le_of_ble_eq_true rfl) dX12_advance_33 (fun H locs hP hD hS => ?_)
      have hP : va_P D classes [(a 200, .inr (12, .int v200_0 :: .ref (a 201) :: .ref (a 202) :: .ref (a 203) :: .ref (a 204) :: .int v200_5 :: .ref (a 205) :: .int v200_7 :: .int x_55 :: .int v200_9 :: .int v200_10 :: .int v200_11 :: .int v200_12 :: .int v200_13 :: .ref (a 206) :: .int v200_15 :: .ref (a 207) :: .int v200_17 :: .int v200_18 :: .int v200_19 :: .ref (a 208) :: .int v200_21 :: .ref (a 209) :: .int v200_23 :: .ref (a 210) :: .ref (a 211) :: .ref (a 212) :: .int v200_27 :: .int v200_28 :: .int v200_29 :: .ref (a 213) :: .ref (a 214) :: .ref (a 215) :: .int v200_33 :: .int v200_34 :: .int v200_35 :: .ref (a 216) :: .ref (a 217) :: .ref (a 218) :: .ref (a 219) :: [])), (a 204, .inl (t 1, 1600, .inl f204))] H := hP
      have hD : va_D A [(a 200, .inr (12, .int v200_0 :: .ref (a 201) :: .ref (a 202) :: .ref (a 203) :: .ref (a 204) :: .int v200_5 :: .ref (a 205) :: .int v200_7 :: .int x_55 :: .int v200_9 :: .int v200_10 :: .int v200_11 :: .int v200_12 :: .int v200_13 :: .ref (a 206) :: .int v200_15 :: .ref (a 207) :: .int v200_17 :: .int v200_18 :: .int v200_19 :: .ref (a 208) :: .int v200_21 :: .ref (a 209) :: .int v200_23 :: .ref (a 210) :: .ref (a 211) :: .ref (a 212) :: .int v200_27 :: .int v200_28 :: .int v200_29 :: .ref (a 213) :: .ref (a 214) :: .ref (a 215) :: .int v200_33 :: .int v200_34 :: .int v200_35 :: .ref (a 216) :: .ref (a 217) :: .ref (a 218) :: .ref (a 219) :: [])), (a 204, .inl (t 1, 1600, .inl f204))] := hD
      refine lv_goto (tgt := 0) hx hb dX12_advance_36 (by decide) ?_
      exact ih_3 (fun k => [x_55].getD k 0, fun k => [].getD k (fun _ => 0), fun k => [].getD k (fun _ => 0), fun k => [].getD k 0) _ _ ls ⟨(m_upk me_4 tx_55 (by decide)), (rg_w (c := 0) (d := 1600) hx_55 (by decide) (by decide)), hP, hD, hS, (lv_sub hl [0] rfl)⟩

