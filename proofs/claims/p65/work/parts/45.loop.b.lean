theorem x_tyP {args : Array Value} {s : State} {ty : FieldType} (h : (Cond.arrayClass ty).before args s = true) (hRA : ∀ z : ClassId, s.vm.findClass ("[" ++ ty.toString) = some z → va_RA s z ty) : ∃ cA : ClassId, ArrOfT s cA ty ∧ va_RA s cA ty := by
  obtain ⟨c, k, comp, h1, h2, h3⟩ := Cond.arrayClass_spec h
  exact ⟨c, fun n z => ⟨fun k h => (by cases h), k, h2, comp, h3⟩, hRA c h1⟩
theorem x_tyQ {s : State} {C : String} (h : va_AO C s) : ∃ cA : ClassId, ArrOfT s cA (.object C) ∧ va_RA s cA (.object C) := by
  obtain ⟨comp, c, k, h1, h2, h3, h4, h5⟩ := Cond.arrayOver_spec h
  exact ⟨c, fun n z => ⟨fun k h => (by cases h), k, h3, comp, h4⟩, k, comp, h3, h4, h1, h5⟩
theorem NW.of {args : Array Value} {s : State} (h : ∀ w ∈ lw_tbl, w.before args s = true) : NW s := by
  intro w hw
  have h1 := h w (List.mem_filter.mp hw).1
  have h2 := (List.mem_filter.mp hw).2
  cases w with
  | fieldLinkNest a b c d e f => exact va_Nw.of rfl h1
  | methodLinkNest a b c d => exact va_Nw.of rfl h1
  | arrayOver ty =>
    cases ty with
    | object C => exact va_AO.of h1
    | _ => cases h2
  | _ => cases h2

set_option maxHeartbeats 4000000 in
set_option maxRecDepth 100000 in
theorem law_loop {p : Program} {l : Launch} {e : Env} {s : State} {m : MethodId} {below : List Frame} {meth : Method} {c : Code} {bb L : Nat} {xs : Nat → Int32} {A : Nat → Prop} {D : va_G} {t : Nat → ClassId} {a aK aV : Nat → Nat} (C0 : lw_At p s m meth c bb L xs) (hL : L ≤ 3072) (hA : ∀ q, s.heap.size ≤ q → A q) (hA2 : ∀ q, A q → s.heap.size ≤ q) (hK : va_K D classes (TY t) s) (hN : NW s) (hE : EV aK aV A s s.heap) : ∀ (n i : Nat), 3079 ≤ i + n → i ≤ 3078 → ∀ (y : US) (H : Heap) (locs : List Loc) (ls : Array Slot), LG y → va_P D classes (LWc t a y ++ LWm t a y) H → va_D A (LWc t a y ++ LWm t a y) → va_S A s.heap H locs → lv_has ls 4 [(3, .int (nI i)), (2, .ref (a 200)), (1, .ref (a 0)), (0, .ref bb)] → W p l e room_1 s m #[Value.ref bb] below meth c H locs 600000 7302250 (lw_Z below #[Value.ref bb] s) (F0 m 18 ls []) := by
  obtain ⟨hx, hb, hr, hml, hown, hts0, hX, hbl, hlocks, hgv⟩ := id C0
  have hts : ∀ w ∈ TB, w.before #[Value.ref bb] s = true := fun w h => hts0 w (List.mem_filter.mp h).1
  have hown : s.vm.findClass RL = some m.cls := hown
  have hF : CallFix p m c code 4 s #[Value.ref bb] TB RL := ⟨hx, hb, hml, hown, hts⟩
  have hbA : ¬ A bb := fun z => absurd (hA2 bb z) (by omega)
  intro n
  induction n with
  | zero =>
    intro i h1 h2
    exact absurd h1 (by omega)
  | succ n ih =>
    intro i hin hi y H locs ls hG hP hD hS hl
    refine lv_iload_n hx hb dL_law_18 rfl (lv_at hl 0 rfl) ?_
    refine lv_aload_n hx hb dL_law_19 rfl (lv_at hl 3 rfl) ?_
    refine va_slen hx hb hX hbl hbA hS dL_law_20 ?_
    refine lv_bipush (v := 6) hx hb dL_law_21 (by decide) ?_
    refine lv_isub hx hb dL_law_23 ?_
    refine lv_icmp_gt (tgt := 2012) hx hb dL_law_24 (by decide) (fun _ => ?_) (fun c9 => ?_)
    · refine lv_iconst (v := 1) hx hb dL_law_2012 (by decide) ?_
      refine va_forget (fun q hq => hA2 _ (hS.2.2 q hq)) ?_
      exact lw_ret hx hb hr hlocks dL_law_2013
    · have hiL : i + 6 ≤ L := lw_lt hL hi c9
      have kk : ∀ (y : US) (H : Heap) (locs : List Loc) (ls : Array Slot), LG y → va_P D classes (LWc t a y ++ LWm t a y) H → va_D A (LWc t a y ++ LWm t a y) → va_S A s.heap H locs → lv_has ls 4 [(3, .int (nI i)), (2, .ref (a 200)), (1, .ref (a 0)), (0, .ref bb)] → W p l e room_1 s m #[Value.ref bb] below meth c H locs 600000 7302250 (lw_Z below #[Value.ref bb] s) (F0 m 2006 ls []) := by
        intro y H locs ls hG hP hD hS hl
        refine lv_iinc (v := nI (i + 6)) (lv' := [(3, .int (nI (i + 6))), (2, .ref (a 200)), (1, .ref (a 0)), (0, .ref bb)]) hx hb dL_law_2006 hl (k := 0) rfl (by rw [← nI_p6]; rfl) (by decide) rfl (fun ls hl => ?_)
        refine lv_goto (tgt := 18) hx hb dL_law_2009 (by decide) ?_
        exact ih (i + 6) (by omega) (by omega) y H locs ls hG hP hD hS hl
      refine lv_aload_n hx hb dL_law_27 rfl (lv_at hl 3 rfl) ?_
      refine lv_iload_n hx hb dL_law_28 rfl (lv_at hl 0 rfl) ?_
      refine va_sld hx hb hX hbl hbA hS (vp_in_nI (n := i) (by omega) (by omega)) dL_law_29 ?_
      refine lv_bipush (v := 63) hx hb dL_law_30 (by decide) ?_
      refine lv_iand hx hb dL_law_32 ?_
      obtain ⟨j, hj, hje⟩ := pk_andE (xs (nI i).toNatClampNeg) (m := 63) 6 (by decide)
      refine x_seti (nI j) hje ?_
      match j, hj with
      | 0, _ =>
        refine lv_tableIn (off := 271) (tgt := 304) hx hb dL_law_33 (by decide) (by decide) rfl (by decide) ?_
        exact law_0 C0 hL hA hA2 hK hN hE hiL hG hP hD hS hl kk
      | 1, _ =>
        refine lv_tableIn (off := 334) (tgt := 367) hx hb dL_law_33 (by decide) (by decide) rfl (by decide) ?_
        exact law_1 C0 hL hA hA2 hK hN hE hiL hG hP hD hS hl kk
      | 2, _ =>
        refine lv_tableIn (off := 357) (tgt := 390) hx hb dL_law_33 (by decide) (by decide) rfl (by decide) ?_
        exact law_2 C0 hL hA hA2 hK hN hE hiL hG hP hD hS hl kk
      | 3, _ =>
        refine lv_tableIn (off := 370) (tgt := 403) hx hb dL_law_33 (by decide) (by decide) rfl (by decide) ?_
        exact law_3 C0 hL hA hA2 hK hN hE hiL hG hP hD hS hl kk
      | 4, _ =>
        refine lv_tableIn (off := 393) (tgt := 426) hx hb dL_law_33 (by decide) (by decide) rfl (by decide) ?_
        exact law_4 C0 hL hA hA2 hK hN hE hiL hG hP hD hS hl kk
      | 5, _ =>
        refine lv_tableIn (off := 426) (tgt := 459) hx hb dL_law_33 (by decide) (by decide) rfl (by decide) ?_
        exact law_5 C0 hL hA hA2 hK hN hE hiL hG hP hD hS hl kk
      | 6, _ =>
        refine lv_tableIn (off := 459) (tgt := 492) hx hb dL_law_33 (by decide) (by decide) rfl (by decide) ?_
        exact law_6 C0 hL hA hA2 hK hN hE hiL hG hP hD hS hl kk
      | 7, _ =>
        refine lv_tableIn (off := 492) (tgt := 525) hx hb dL_law_33 (by decide) (by decide) rfl (by decide) ?_
        exact law_7 C0 hL hA hA2 hK hN hE hiL hG hP hD hS hl kk
      | 8, _ =>
        refine lv_tableIn (off := 525) (tgt := 558) hx hb dL_law_33 (by decide) (by decide) rfl (by decide) ?_
        exact law_8 C0 hL hA hA2 hK hN hE hiL hG hP hD hS hl kk
      | 9, _ =>
        refine lv_tableIn (off := 558) (tgt := 591) hx hb dL_law_33 (by decide) (by decide) rfl (by decide) ?_
        exact law_9 C0 hL hA hA2 hK hN hE hiL hG hP hD hS hl kk
      | 10, _ =>
        refine lv_tableIn (off := 581) (tgt := 614) hx hb dL_law_33 (by decide) (by decide) rfl (by decide) ?_
        exact law_10 C0 hL hA hA2 hK hN hE hiL hG hP hD hS hl kk
      | 11, _ =>
        refine lv_tableIn (off := 604) (tgt := 637) hx hb dL_law_33 (by decide) (by decide) rfl (by decide) ?_
        exact law_11 C0 hL hA hA2 hK hN hE hiL hG hP hD hS hl kk
      | 12, _ =>
        refine lv_tableIn (off := 637) (tgt := 670) hx hb dL_law_33 (by decide) (by decide) rfl (by decide) ?_
        exact law_12 C0 hL hA hA2 hK hN hE hiL hG hP hD hS hl kk
      | 13, _ =>
        refine lv_tableIn (off := 670) (tgt := 703) hx hb dL_law_33 (by decide) (by decide) rfl (by decide) ?_
        exact law_13 C0 hL hA hA2 hK hN hE hiL hG hP hD hS hl kk
      | 14, _ =>
        refine lv_tableIn (off := 703) (tgt := 736) hx hb dL_law_33 (by decide) (by decide) rfl (by decide) ?_
        exact law_14 C0 hL hA hA2 hK hN hE hiL hG hP hD hS hl kk
      | 15, _ =>
        refine lv_tableIn (off := 736) (tgt := 769) hx hb dL_law_33 (by decide) (by decide) rfl (by decide) ?_
        exact law_15 C0 hL hA hA2 hK hN hE hiL hG hP hD hS hl kk
      | 16, _ =>
        refine lv_tableIn (off := 769) (tgt := 802) hx hb dL_law_33 (by decide) (by decide) rfl (by decide) ?_
        exact law_16 C0 hL hA hA2 hK hN hE hiL hG hP hD hS hl kk
      | 17, _ =>
        refine lv_tableIn (off := 792) (tgt := 825) hx hb dL_law_33 (by decide) (by decide) rfl (by decide) ?_
        exact law_17 C0 hL hA hA2 hK hN hE hiL hG hP hD hS hl kk
      | 18, _ =>
        refine lv_tableIn (off := 825) (tgt := 858) hx hb dL_law_33 (by decide) (by decide) rfl (by decide) ?_
        exact law_18 C0 hL hA hA2 hK hN hE hiL hG hP hD hS hl kk
      | 19, _ =>
        refine lv_tableIn (off := 848) (tgt := 881) hx hb dL_law_33 (by decide) (by decide) rfl (by decide) ?_
        exact law_19 C0 hL hA hA2 hK hN hE hiL hG hP hD hS hl kk
      | 20, _ =>
        refine lv_tableIn (off := 871) (tgt := 904) hx hb dL_law_33 (by decide) (by decide) rfl (by decide) ?_
        exact law_20 C0 hL hA hA2 hK hN hE hiL hG hP hD hS hl kk
      | 21, _ =>
        refine lv_tableIn (off := 884) (tgt := 917) hx hb dL_law_33 (by decide) (by decide) rfl (by decide) ?_
        exact law_21 C0 hL hA hA2 hK hN hE hiL hG hP hD hS hl kk
      | 22, _ =>
        refine lv_tableIn (off := 897) (tgt := 930) hx hb dL_law_33 (by decide) (by decide) rfl (by decide) ?_
        exact law_22 C0 hL hA hA2 hK hN hE hiL hG hP hD hS hl kk
      | 23, _ =>
        refine lv_tableIn (off := 910) (tgt := 943) hx hb dL_law_33 (by decide) (by decide) rfl (by decide) ?_
        exact law_23 C0 hL hA hA2 hK hN hE hiL hG hP hD hS hl kk
      | 24, _ =>
        refine lv_tableIn (off := 923) (tgt := 956) hx hb dL_law_33 (by decide) (by decide) rfl (by decide) ?_
        exact law_24 C0 hL hA hA2 hK hN hE hiL hG hP hD hS hl kk
      | 25, _ =>
        refine lv_tableIn (off := 936) (tgt := 969) hx hb dL_law_33 (by decide) (by decide) rfl (by decide) ?_
        exact law_25 C0 hL hA hA2 hK hN hE hiL hG hP hD hS hl kk
      | 26, _ =>
        refine lv_tableIn (off := 959) (tgt := 992) hx hb dL_law_33 (by decide) (by decide) rfl (by decide) ?_
        exact law_26 C0 hL hA hA2 hK hN hE hiL hG hP hD hS hl kk
      | 27, _ =>
        refine lv_tableIn (off := 972) (tgt := 1005) hx hb dL_law_33 (by decide) (by decide) rfl (by decide) ?_
        exact law_27 C0 hL hA hA2 hK hN hE hiL hG hP hD hS hl kk
      | 28, _ =>
        refine lv_tableIn (off := 995) (tgt := 1028) hx hb dL_law_33 (by decide) (by decide) rfl (by decide) ?_
        exact law_28 C0 hL hA hA2 hK hN hE hiL hG hP hD hS hl kk
      | 29, _ =>
        refine lv_tableIn (off := 1018) (tgt := 1051) hx hb dL_law_33 (by decide) (by decide) rfl (by decide) ?_
        exact law_29 C0 hL hA hA2 hK hN hE hiL hG hP hD hS hl kk
      | 30, _ =>
        refine lv_tableIn (off := 1041) (tgt := 1074) hx hb dL_law_33 (by decide) (by decide) rfl (by decide) ?_
        exact law_30 C0 hL hA hA2 hK hN hE hiL hG hP hD hS hl kk
      | 31, _ =>
        refine lv_tableIn (off := 1054) (tgt := 1087) hx hb dL_law_33 (by decide) (by decide) rfl (by decide) ?_
        exact law_31 C0 hL hA hA2 hK hN hE hiL hG hP hD hS hl kk
      | 32, _ =>
        refine lv_tableIn (off := 1077) (tgt := 1110) hx hb dL_law_33 (by decide) (by decide) rfl (by decide) ?_
        exact law_32 C0 hL hA hA2 hK hN hE hiL hG hP hD hS hl kk
      | 33, _ =>
        refine lv_tableIn (off := 1090) (tgt := 1123) hx hb dL_law_33 (by decide) (by decide) rfl (by decide) ?_
        exact law_33 C0 hL hA hA2 hK hN hE hiL hG hP hD hS hl kk
      | 34, _ =>
        refine lv_tableIn (off := 1113) (tgt := 1146) hx hb dL_law_33 (by decide) (by decide) rfl (by decide) ?_
        exact law_34 C0 hL hA hA2 hK hN hE hiL hG hP hD hS hl kk
      | 35, _ =>
        refine lv_tableIn (off := 1136) (tgt := 1169) hx hb dL_law_33 (by decide) (by decide) rfl (by decide) ?_
        exact law_35 C0 hL hA hA2 hK hN hE hiL hG hP hD hS hl kk
      | 36, _ =>
        refine lv_tableIn (off := 1159) (tgt := 1192) hx hb dL_law_33 (by decide) (by decide) rfl (by decide) ?_
        exact law_36 C0 hL hA hA2 hK hN hE hiL hG hP hD hS hl kk
      | 37, _ =>
        refine lv_tableIn (off := 1182) (tgt := 1215) hx hb dL_law_33 (by decide) (by decide) rfl (by decide) ?_
        exact law_37 C0 hL hA hA2 hK hN hE hiL hG hP hD hS hl kk
      | 38, _ =>
        refine lv_tableIn (off := 1195) (tgt := 1228) hx hb dL_law_33 (by decide) (by decide) rfl (by decide) ?_
        exact law_38 C0 hL hA hA2 hK hN hE hiL hG hP hD hS hl kk
      | 39, _ =>
        refine lv_tableIn (off := 1208) (tgt := 1241) hx hb dL_law_33 (by decide) (by decide) rfl (by decide) ?_
        exact law_39 C0 hL hA hA2 hK hN hE hiL hG hP hD hS hl kk
      | 40, _ =>
        refine lv_tableIn (off := 1231) (tgt := 1264) hx hb dL_law_33 (by decide) (by decide) rfl (by decide) ?_
        exact law_40 C0 hL hA hA2 hK hN hE hiL hG hP hD hS hl kk
      | 41, _ =>
        refine lv_tableIn (off := 1254) (tgt := 1287) hx hb dL_law_33 (by decide) (by decide) rfl (by decide) ?_
        exact law_41 C0 hL hA hA2 hK hN hE hiL hG hP hD hS hl kk
      | 42, _ =>
        refine lv_tableIn (off := 1267) (tgt := 1300) hx hb dL_law_33 (by decide) (by decide) rfl (by decide) ?_
        exact law_42 C0 hL hA hA2 hK hN hE hiL hG hP hD hS hl kk
      | 43, _ =>
        refine lv_tableIn (off := 1290) (tgt := 1323) hx hb dL_law_33 (by decide) (by decide) rfl (by decide) ?_
        exact law_43 C0 hL hA hA2 hK hN hE hiL hG hP hD hS hl kk
      | 44, _ =>
        refine lv_tableIn (off := 1313) (tgt := 1346) hx hb dL_law_33 (by decide) (by decide) rfl (by decide) ?_
        exact law_44 C0 hL hA hA2 hK hN hE hiL hG hP hD hS hl kk
      | 45, _ =>
        refine lv_tableIn (off := 1346) (tgt := 1379) hx hb dL_law_33 (by decide) (by decide) rfl (by decide) ?_
        exact law_45 C0 hL hA hA2 hK hN hE hiL hG hP hD hS hl kk
      | 46, _ =>
        refine lv_tableIn (off := 1359) (tgt := 1392) hx hb dL_law_33 (by decide) (by decide) rfl (by decide) ?_
        exact law_46 C0 hL hA hA2 hK hN hE hiL hG hP hD hS hl kk
      | 47, _ =>
        refine lv_tableIn (off := 1382) (tgt := 1415) hx hb dL_law_33 (by decide) (by decide) rfl (by decide) ?_
        exact law_47 C0 hL hA hA2 hK hN hE hiL hG hP hD hS hl kk
      | 48, _ =>
        refine lv_tableIn (off := 1415) (tgt := 1448) hx hb dL_law_33 (by decide) (by decide) rfl (by decide) ?_
        exact law_48 C0 hL hA hA2 hK hN hE hiL hG hP hD hS hl kk
      | 49, _ =>
        refine lv_tableIn (off := 1438) (tgt := 1471) hx hb dL_law_33 (by decide) (by decide) rfl (by decide) ?_
        exact law_49 C0 hL hA hA2 hK hN hE hiL hG hP hD hS hl kk
      | 50, _ =>
        refine lv_tableIn (off := 1471) (tgt := 1504) hx hb dL_law_33 (by decide) (by decide) rfl (by decide) ?_
        exact law_50 C0 hL hA hA2 hK hN hE hiL hG hP hD hS hl kk
      | 51, _ =>
        refine lv_tableIn (off := 1494) (tgt := 1527) hx hb dL_law_33 (by decide) (by decide) rfl (by decide) ?_
        exact law_51 C0 hL hA hA2 hK hN hE hiL hG hP hD hS hl kk
      | 52, _ =>
        refine lv_tableIn (off := 1517) (tgt := 1550) hx hb dL_law_33 (by decide) (by decide) rfl (by decide) ?_
        exact law_52 C0 hL hA hA2 hK hN hE hiL hG hP hD hS hl kk
      | 53, _ =>
        refine lv_tableIn (off := 1550) (tgt := 1583) hx hb dL_law_33 (by decide) (by decide) rfl (by decide) ?_
        exact law_53 C0 hL hA hA2 hK hN hE hiL hG hP hD hS hl kk
      | 54, _ =>
        refine lv_tableIn (off := 1583) (tgt := 1616) hx hb dL_law_33 (by decide) (by decide) rfl (by decide) ?_
        exact law_54 C0 hL hA hA2 hK hN hE hiL hG hP hD hS hl kk
      | 55, _ =>
        refine lv_tableIn (off := 1616) (tgt := 1649) hx hb dL_law_33 (by decide) (by decide) rfl (by decide) ?_
        exact law_55 C0 hL hA hA2 hK hN hE hiL hG hP hD hS hl kk
      | 56, _ =>
        refine lv_tableIn (off := 1649) (tgt := 1682) hx hb dL_law_33 (by decide) (by decide) rfl (by decide) ?_
        exact law_56 C0 hL hA hA2 hK hN hE hiL hG hP hD hS hl kk
      | 57, _ =>
        refine lv_tableIn (off := 1682) (tgt := 1715) hx hb dL_law_33 (by decide) (by decide) rfl (by decide) ?_
        exact law_57 C0 hL hA hA2 hK hN hE hiL hG hP hD hS hl kk
      | 58, _ =>
        refine lv_tableIn (off := 1725) (tgt := 1758) hx hb dL_law_33 (by decide) (by decide) rfl (by decide) ?_
        exact law_58 C0 hL hA hA2 hK hN hE hiL hG hP hD hS hl kk
      | 59, _ =>
        refine lv_tableIn (off := 1748) (tgt := 1781) hx hb dL_law_33 (by decide) (by decide) rfl (by decide) ?_
        exact law_59 C0 hL hA hA2 hK hN hE hiL hG hP hD hS hl kk
      | 60, _ =>
        refine lv_tableIn (off := 1771) (tgt := 1804) hx hb dL_law_33 (by decide) (by decide) rfl (by decide) ?_
        exact law_60 C0 hL hA hA2 hK hN hE hiL hG hP hD hS hl kk
      | 61, _ =>
        refine lv_tableIn (off := 1794) (tgt := 1827) hx hb dL_law_33 (by decide) (by decide) rfl (by decide) ?_
        exact law_61 C0 hL hA hA2 hK hN hE hiL hG hP hD hS hl kk
      | 62, _ =>
        refine lv_tableIn (off := 1837) (tgt := 1870) hx hb dL_law_33 (by decide) (by decide) rfl (by decide) ?_
        exact law_62 C0 hL hA hA2 hK hN hE hiL hG hP hD hS hl kk
      | 63, _ =>
        refine lv_tableIn (off := 1910) (tgt := 1943) hx hb dL_law_33 (by decide) (by decide) rfl (by decide) ?_
        exact law_63 C0 hL hA hA2 hK hN hE hiL hG hP hD hS hl kk
      | j + 64, h => exact absurd h (by omega)

