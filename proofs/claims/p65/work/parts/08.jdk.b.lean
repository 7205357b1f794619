set_option maxHeartbeats 4000000 in
set_option maxRecDepth 100000 in
theorem s_J3_check (l : Launch) (D : va_G) (t : Nat → ClassId) (a : Nat → Nat) (aK aV : Nat → Nat) (k n : Int32) (q : Nat) (h0 : 0 ≤ k.toInt) (h1 : k.toInt < n.toInt) : Met l yJ3_checkIndex_8e157 (wd yJ3_checkIndex_8e157 cJ3_checkIndex_8e157 3 (some .int)) (RM 0 0 0) (PrePE D (TY t) aK aV [.int k, .int n, .ref q] []) (QP (fun _ => True)) 0 0 NoF := by
  refine Met.ofW (cc := cJ3_checkIndex_8e157) (maxL := 3) (ret := (some .int)) (by decide) rfl ?_
  intro p e s m args below meth c s₁ B hml hv
  obtain ⟨rfl, ⟨hP, hK, hN⟩, hE⟩ := hv
  have hx := B.exec
  have hb := B.bytes
  have hr := B.returns
  have hts : ∀ w ∈ TB, w.before _ s = true := fun w h => atoms_spec (ws := wd yJ3_checkIndex_8e157 cJ3_checkIndex_8e157 3 (some .int)) B.pre w (List.mem_cons_of_mem _ h)
  have hown : s.vm.findClass RJ3 = some m.cls := findClass_of_methodNamed B.named
  have hlocks := B.notSynchronized
  have hF : CallFix p m c cJ3_checkIndex_8e157 3 s _ TB RJ3 := ⟨hx, hb, hml, hown, hts⟩
  have hl := lv_entry ([.int k, .int n, .ref q]) (n := 3) (Nat.le_of_ble_eq_true rfl)
  rw [lg_entry_eq]
  generalize (lg_sl ([.int k, .int n, .ref q]) ++ List.replicate (3 - (lg_sl ([.int k, .int n, .ref q])).length) Slot.unset).toArray = ls at hl ⊢
  have hl : lv_has ls 3 [(0, .int k), (1, .int n), (2, .ref q)] := hl
  have hS : va_S NoF s.heap s.heap [] := va_S.rf
  have hP : va_P D classes [] s.heap := hP
  refine lv_iload_n hx hb dJ3_checkIndex_8e157_0 rfl (lv_at hl 0 rfl) ?_
  refine lv_if_lt (tgt := 9) hx hb dJ3_checkIndex_8e157_1 (by decide) (fun c1 => False.elim (by have q5 := t_lt c1; have q6 := zt0; omega)) (fun c1 => ?_)
  refine lv_iload_n hx hb dJ3_checkIndex_8e157_4 rfl (lv_at hl 0 rfl) ?_
  refine lv_iload_n hx hb dJ3_checkIndex_8e157_5 rfl (lv_at hl 1 rfl) ?_
  refine lv_icmp_lt (tgt := 16) hx hb dJ3_checkIndex_8e157_6 (by decide) (fun c2 => ?_) (fun c2 => False.elim (by have q5 := t_nlt c2; omega))
  refine lv_iload_n hx hb dJ3_checkIndex_8e157_16 rfl (lv_at hl 0 rfl) ?_
  exact W.iret (v := k) hx hb hr (fun t9 ht hW => ⟨⟨k, (), rfl, trivial, trivial⟩, hS.F ht⟩) hS.2.2 dJ3_checkIndex_8e157_17

set_option maxHeartbeats 4000000 in
set_option maxRecDepth 100000 in
theorem s_J3_checkN (l : Launch) (D : va_G) (t : Nat → ClassId) (a : Nat → Nat) (aK aV : Nat → Nat) (k n : Int32) (h0 : 0 ≤ k.toInt) (h1 : k.toInt < n.toInt) : Met l yJ3_checkIndex_8e157 (wd yJ3_checkIndex_8e157 cJ3_checkIndex_8e157 3 (some .int)) (RM 0 0 0) (PrePE D (TY t) aK aV [.int k, .int n, .null] []) (QP (fun _ => True)) 0 0 NoF := by
  refine Met.ofW (cc := cJ3_checkIndex_8e157) (maxL := 3) (ret := (some .int)) (by decide) rfl ?_
  intro p e s m args below meth c s₁ B hml hv
  obtain ⟨rfl, ⟨hP, hK, hN⟩, hE⟩ := hv
  have hx := B.exec
  have hb := B.bytes
  have hr := B.returns
  have hts : ∀ w ∈ TB, w.before _ s = true := fun w h => atoms_spec (ws := wd yJ3_checkIndex_8e157 cJ3_checkIndex_8e157 3 (some .int)) B.pre w (List.mem_cons_of_mem _ h)
  have hown : s.vm.findClass RJ3 = some m.cls := findClass_of_methodNamed B.named
  have hlocks := B.notSynchronized
  have hF : CallFix p m c cJ3_checkIndex_8e157 3 s _ TB RJ3 := ⟨hx, hb, hml, hown, hts⟩
  have hl := lv_entry ([.int k, .int n, .null]) (n := 3) (Nat.le_of_ble_eq_true rfl)
  rw [lg_entry_eq]
  generalize (lg_sl ([.int k, .int n, .null]) ++ List.replicate (3 - (lg_sl ([.int k, .int n, .null])).length) Slot.unset).toArray = ls at hl ⊢
  have hl : lv_has ls 3 [(0, .int k), (1, .int n), (2, .null)] := hl
  have hS : va_S NoF s.heap s.heap [] := va_S.rf
  have hP : va_P D classes [] s.heap := hP
  refine lv_iload_n hx hb dJ3_checkIndex_8e157_0 rfl (lv_at hl 0 rfl) ?_
  refine lv_if_lt (tgt := 9) hx hb dJ3_checkIndex_8e157_1 (by decide) (fun c1 => False.elim (by have q5 := t_lt c1; have q6 := zt0; omega)) (fun c1 => ?_)
  refine lv_iload_n hx hb dJ3_checkIndex_8e157_4 rfl (lv_at hl 0 rfl) ?_
  refine lv_iload_n hx hb dJ3_checkIndex_8e157_5 rfl (lv_at hl 1 rfl) ?_
  refine lv_icmp_lt (tgt := 16) hx hb dJ3_checkIndex_8e157_6 (by decide) (fun c2 => ?_) (fun c2 => False.elim (by have q5 := t_nlt c2; omega))
  refine lv_iload_n hx hb dJ3_checkIndex_8e157_16 rfl (lv_at hl 0 rfl) ?_
  exact W.iret (v := k) hx hb hr (fun t9 ht hW => ⟨⟨k, (), rfl, trivial, trivial⟩, hS.F ht⟩) hS.2.2 dJ3_checkIndex_8e157_17

set_option maxHeartbeats 4000000 in
set_option maxRecDepth 100000 in
theorem s_J0_check (l : Launch) (D : va_G) (t : Nat → ClassId) (a : Nat → Nat) (aK aV : Nat → Nat) (k n : Int32) (h0 : 0 ≤ k.toInt) (h1 : k.toInt < n.toInt) : Met l yJ0_checkIndex_df160 (wd yJ0_checkIndex_df160 cJ0_checkIndex_df160 2 none) (RM 1 0 0) (PrePE D (TY t) aK aV [.int k, .int n] []) (QPv) 0 0 NoF := by
  refine Met.ofW (cc := cJ0_checkIndex_df160) (maxL := 2) (ret := none) (by decide) rfl ?_
  intro p e s m args below meth c s₁ B hml hv
  obtain ⟨rfl, ⟨hP, hK, hN⟩, hE⟩ := hv
  have hx := B.exec
  have hb := B.bytes
  have hr := B.returns
  have hts : ∀ w ∈ TB, w.before _ s = true := fun w h => atoms_spec (ws := wd yJ0_checkIndex_df160 cJ0_checkIndex_df160 2 none) B.pre w (List.mem_cons_of_mem _ h)
  have hown : s.vm.findClass RJ0 = some m.cls := findClass_of_methodNamed B.named
  have hlocks := B.notSynchronized
  have hF : CallFix p m c cJ0_checkIndex_df160 2 s _ TB RJ0 := ⟨hx, hb, hml, hown, hts⟩
  have hl := lv_entry ([.int k, .int n]) (n := 2) (Nat.le_of_ble_eq_true rfl)
  rw [lg_entry_eq]
  generalize (lg_sl ([.int k, .int n]) ++ List.replicate (2 - (lg_sl ([.int k, .int n])).length) Slot.unset).toArray = ls at hl ⊢
  have hl : lv_has ls 2 [(0, .int k), (1, .int n)] := hl
  have hS : va_S NoF s.heap s.heap [] := va_S.rf
  have hP : va_P D classes [] s.heap := hP
  rcases hE.2.2.2.2 with hz | ⟨tz, hz⟩
  · refine lv_iload_n hx hb dJ0_checkIndex_df160_0 rfl (lv_at hl 0 rfl) ?_
    refine lv_iload_n hx hb dJ0_checkIndex_df160_1 rfl (lv_at hl 1 rfl) ?_
    refine va_gets (C := "jdk/internal/util/Preconditions") (n := "SIOOBE_FORMATTER") (d := "Ljava/util/function/BiFunction;") (v := .null) (ref := "jdk/internal/util/Preconditions") hx hb hz hS hown (hts _ m_570) (fun _ h9 => h9) dJ0_checkIndex_df160_2 ?_
    refine y_pSE hF (s_J3_checkN l D t a aK aV k n h0 h1) m_572 m_573 m_18 m_574 hd_J3_checkIndex_8e157 ⟨Nat.le_of_ble_eq_true rfl, Nat.le_of_ble_eq_true rfl⟩ hK hN hP hS hE [] rfl hl.1 rfl (Nat.le_of_ble_eq_true rfl) dJ0_checkIndex_df160_5 ⟨Nat.zero_le _, Nat.zero_le _⟩ (fun r2 H locs o2 hP hS => ?_)
    refine lv_pop hx hb dJ0_checkIndex_df160_8 rfl ?_
    exact W.vret hx hb hr (fun t9 ht hW => ⟨⟨(), rfl, trivial, trivial⟩, hS.F ht⟩) hS.2.2 dJ0_checkIndex_df160_9
  · refine lv_iload_n hx hb dJ0_checkIndex_df160_0 rfl (lv_at hl 0 rfl) ?_
    refine lv_iload_n hx hb dJ0_checkIndex_df160_1 rfl (lv_at hl 1 rfl) ?_
    refine va_gets (C := "jdk/internal/util/Preconditions") (n := "SIOOBE_FORMATTER") (d := "Ljava/util/function/BiFunction;") (v := .ref tz) (ref := "jdk/internal/util/Preconditions") hx hb hz hS hown (hts _ m_570) (fun _ h9 => h9) dJ0_checkIndex_df160_2 ?_
    refine y_pSE hF (s_J3_check l D t a aK aV k n tz h0 h1) m_572 m_573 m_18 m_574 hd_J3_checkIndex_8e157 ⟨Nat.le_of_ble_eq_true rfl, Nat.le_of_ble_eq_true rfl⟩ hK hN hP hS hE [] rfl hl.1 rfl (Nat.le_of_ble_eq_true rfl) dJ0_checkIndex_df160_5 ⟨Nat.zero_le _, Nat.zero_le _⟩ (fun r2 H locs o2 hP hS => ?_)
    refine lv_pop hx hb dJ0_checkIndex_df160_8 rfl ?_
    exact W.vret hx hb hr (fun t9 ht hW => ⟨⟨(), rfl, trivial, trivial⟩, hS.F ht⟩) hS.2.2 dJ0_checkIndex_df160_9

set_option maxHeartbeats 4000000 in
set_option maxRecDepth 100000 in
theorem s_J0_coder (l : Launch) (D : va_G) (t : Nat → ClassId) (a : Nat → Nat) (aK aV : Nat → Nat) (i : Nat) (hi : i < 46) : Met l yJ0_coder_7d493 (wd yJ0_coder_7d493 cJ0_coder_7d493 1 (some .byte)) (RM 0 0 0) (PrePE D (TY t) aK aV [.ref (aK i)] []) (QP (fun r => r = 0)) 0 0 NoF := by
  refine Met.ofW (cc := cJ0_coder_7d493) (maxL := 1) (ret := (some .byte)) (by decide) rfl ?_
  intro p e s m args below meth c s₁ B hml hv
  obtain ⟨rfl, ⟨hP, hK, hN⟩, hE⟩ := hv
  have hx := B.exec
  have hb := B.bytes
  have hr := B.returns
  have hts : ∀ w ∈ TB, w.before _ s = true := fun w h => atoms_spec (ws := wd yJ0_coder_7d493 cJ0_coder_7d493 1 (some .byte)) B.pre w (List.mem_cons_of_mem _ h)
  have hown : s.vm.findClass RJ0 = some m.cls := findClass_of_methodNamed B.named
  have hlocks := B.notSynchronized
  have hF : CallFix p m c cJ0_coder_7d493 1 s _ TB RJ0 := ⟨hx, hb, hml, hown, hts⟩
  have hl := lv_entry ([.ref (aK i)]) (n := 1) (Nat.le_of_ble_eq_true rfl)
  rw [lg_entry_eq]
  generalize (lg_sl ([.ref (aK i)]) ++ List.replicate (1 - (lg_sl ([.ref (aK i)])).length) Slot.unset).toArray = ls at hl ⊢
  have hl : lv_has ls 1 [(0, .ref (aK i))] := hl
  have hS : va_S NoF s.heap s.heap [] := va_S.rf
  have hP : va_P D classes [] s.heap := hP
  have hV := (hE.1 i hi).2.1 0 (by decide)
  refine va_gets (C := "java/lang/String") (n := "COMPACT_STRINGS") (d := "Z") (v := .int 1) (ref := "java/lang/String") hx hb hE.2.1 hS hown (hts _ m_554) (fun _ h9 => h9) dJ0_coder_7d493_0 ?_
  refine lv_if_eq (tgt := 13) hx hb dJ0_coder_7d493_3 (by decide) (fun c1 => absurd c1 (by decide)) (fun c1 => ?_)
  refine lv_aload_n hx hb dJ0_coder_7d493_6 rfl (lv_at hl 0 rfl) ?_
  refine vk_getf (o := "java/lang/String") (n := "coder") (d := "B") (ref := "java/lang/String") (v := .int 0) hx hb hV.2.1 hS hown (hts _ m_2079) (fun _ h9 => h9) dJ0_coder_7d493_7 ?_
  refine lv_goto (tgt := 14) hx hb dJ0_coder_7d493_10 (by decide) ?_
  exact W.zret (v := 0) hx hb hr rfl (fun t9 ht hW => ⟨⟨0, (), rfl, rfl, trivial⟩, hS.F ht⟩) hS.2.2 dJ0_coder_7d493_14

set_option maxHeartbeats 4000000 in
set_option maxRecDepth 100000 in
theorem s_J0_isLatin1 (l : Launch) (D : va_G) (t : Nat → ClassId) (a : Nat → Nat) (aK aV : Nat → Nat) (i : Nat) (hi : i < 46) : Met l yJ0_isLatin1_aae02 (wd yJ0_isLatin1_aae02 cJ0_isLatin1_aae02 1 (some .boolean)) (RM 0 0 0) (PrePE D (TY t) aK aV [.ref (aK i)] []) (QP (fun r => r = 1)) 0 0 NoF := by
  refine Met.ofW (cc := cJ0_isLatin1_aae02) (maxL := 1) (ret := (some .boolean)) (by decide) rfl ?_
  intro p e s m args below meth c s₁ B hml hv
  obtain ⟨rfl, ⟨hP, hK, hN⟩, hE⟩ := hv
  have hx := B.exec
  have hb := B.bytes
  have hr := B.returns
  have hts : ∀ w ∈ TB, w.before _ s = true := fun w h => atoms_spec (ws := wd yJ0_isLatin1_aae02 cJ0_isLatin1_aae02 1 (some .boolean)) B.pre w (List.mem_cons_of_mem _ h)
  have hown : s.vm.findClass RJ0 = some m.cls := findClass_of_methodNamed B.named
  have hlocks := B.notSynchronized
  have hF : CallFix p m c cJ0_isLatin1_aae02 1 s _ TB RJ0 := ⟨hx, hb, hml, hown, hts⟩
  have hl := lv_entry ([.ref (aK i)]) (n := 1) (Nat.le_of_ble_eq_true rfl)
  rw [lg_entry_eq]
  generalize (lg_sl ([.ref (aK i)]) ++ List.replicate (1 - (lg_sl ([.ref (aK i)])).length) Slot.unset).toArray = ls at hl ⊢
  have hl : lv_has ls 1 [(0, .ref (aK i))] := hl
  have hS : va_S NoF s.heap s.heap [] := va_S.rf
  have hP : va_P D classes [] s.heap := hP
  have hV := (hE.1 i hi).2.1 0 (by decide)
  refine va_gets (C := "java/lang/String") (n := "COMPACT_STRINGS") (d := "Z") (v := .int 1) (ref := "java/lang/String") hx hb hE.2.1 hS hown (hts _ m_554) (fun _ h9 => h9) dJ0_isLatin1_aae02_0 ?_
  refine lv_if_eq (tgt := 17) hx hb dJ0_isLatin1_aae02_3 (by decide) (fun c1 => absurd c1 (by decide)) (fun c1 => ?_)
  refine lv_aload_n hx hb dJ0_isLatin1_aae02_6 rfl (lv_at hl 0 rfl) ?_
  refine vk_getf (o := "java/lang/String") (n := "coder") (d := "B") (ref := "java/lang/String") (v := .int 0) hx hb hV.2.1 hS hown (hts _ m_2079) (fun _ h9 => h9) dJ0_isLatin1_aae02_7 ?_
  refine lv_if_ne (tgt := 17) hx hb dJ0_isLatin1_aae02_10 (by decide) (fun c2 => absurd rfl c2) (fun c2 => ?_)
  refine lv_iconst (v := 1) hx hb dJ0_isLatin1_aae02_13 (by decide) ?_
  refine lv_goto (tgt := 18) hx hb dJ0_isLatin1_aae02_14 (by decide) ?_
  exact W.zret (v := 1) hx hb hr rfl (fun t9 ht hW => ⟨⟨1, (), rfl, rfl, trivial⟩, hS.F ht⟩) hS.2.2 dJ0_isLatin1_aae02_18

set_option maxHeartbeats 4000000 in
set_option maxRecDepth 100000 in
theorem s_J0_length (l : Launch) (D : va_G) (t : Nat → ClassId) (a : Nat → Nat) (aK aV : Nat → Nat) (i : Nat) (hi : i < 46) : Met l yJ0_length_8abf5 (wd yJ0_length_8abf5 cJ0_length_8abf5 1 (some .int)) (RM 1 0 0) (PrePE D (TY t) aK aV [.ref (aK i)] []) (QP (fun r => r = nI (sL i))) 0 0 NoF := by
  refine Met.ofW (cc := cJ0_length_8abf5) (maxL := 1) (ret := (some .int)) (by decide) rfl ?_
  intro p e s m args below meth c s₁ B hml hv
  obtain ⟨rfl, ⟨hP, hK, hN⟩, hE⟩ := hv
  have hx := B.exec
  have hb := B.bytes
  have hr := B.returns
  have hts : ∀ w ∈ TB, w.before _ s = true := fun w h => atoms_spec (ws := wd yJ0_length_8abf5 cJ0_length_8abf5 1 (some .int)) B.pre w (List.mem_cons_of_mem _ h)
  have hown : s.vm.findClass RJ0 = some m.cls := findClass_of_methodNamed B.named
  have hlocks := B.notSynchronized
  have hF : CallFix p m c cJ0_length_8abf5 1 s _ TB RJ0 := ⟨hx, hb, hml, hown, hts⟩
  have hl := lv_entry ([.ref (aK i)]) (n := 1) (Nat.le_of_ble_eq_true rfl)
  rw [lg_entry_eq]
  generalize (lg_sl ([.ref (aK i)]) ++ List.replicate (1 - (lg_sl ([.ref (aK i)])).length) Slot.unset).toArray = ls at hl ⊢
  have hl : lv_has ls 1 [(0, .ref (aK i))] := hl
  have hS : va_S NoF s.heap s.heap [] := va_S.rf
  have hP : va_P D classes [] s.heap := hP
  have hV := (hE.1 i hi).2.1 0 (by decide)
  refine lv_aload_n hx hb dJ0_length_8abf5_0 rfl (lv_at hl 0 rfl) ?_
  refine vk_getf (o := "java/lang/String") (n := "value") (d := "[B") (ref := "java/lang/String") (v := .ref (aV i)) hx hb hV.2.2.1 hS hown (hts _ m_2078) (fun _ h9 => h9) dJ0_length_8abf5_1 ?_
  refine va_tlen (v := nI (sL i)) hx hb hV.2.2.2 hS rfl dJ0_length_8abf5_4 ?_
  refine lv_aload_n hx hb dJ0_length_8abf5_5 rfl (lv_at hl 0 rfl) ?_
  refine y_pStr hF (s_J0_coder l D t a aK aV i hi) m_550 m_551 m_552 m_16 m_553 hd_J0_coder_7d493 ⟨Nat.le_of_ble_eq_true rfl, Nat.le_of_ble_eq_true rfl⟩ hK hN hP hS hE [] rfl hi rfl rfl hl.1 rfl (Nat.le_of_ble_eq_true rfl) dJ0_length_8abf5_6 ⟨Nat.zero_le _, Nat.zero_le _⟩ (fun r1 H locs o1 hP hS => ?_)
  subst o1
  refine lv_ishr hx hb dJ0_length_8abf5_9 ?_
  refine x_seti (nI (sL i)) (sh0 _) ?_
  exact W.iret (v := nI (sL i)) hx hb hr (fun t9 ht hW => ⟨⟨nI (sL i), (), rfl, rfl, trivial⟩, hS.F ht⟩) hS.2.2 dJ0_length_8abf5_10

set_option maxHeartbeats 4000000 in
set_option maxRecDepth 100000 in
theorem s_J1_charAt (l : Launch) (D : va_G) (t : Nat → ClassId) (a : Nat → Nat) (aK aV : Nat → Nat) (i : Nat) (hi : i < 46) (k : Int32) (h0 : 0 ≤ k.toInt) (h1 : k.toInt < (sL i : Int)) : Met l yJ1_charAt_3b067 (wd yJ1_charAt_3b067 cJ1_charAt_3b067 2 (some .char)) (RM 2 0 0) (PrePE D (TY t) aK aV [.ref (aV i), .int k] []) (QP (fun r => r = chS i k)) 0 0 NoF := by
  refine Met.ofW (cc := cJ1_charAt_3b067) (maxL := 2) (ret := (some .char)) (by decide) rfl ?_
  intro p e s m args below meth c s₁ B hml hv
  obtain ⟨rfl, ⟨hP, hK, hN⟩, hE⟩ := hv
  have hx := B.exec
  have hb := B.bytes
  have hr := B.returns
  have hts : ∀ w ∈ TB, w.before _ s = true := fun w h => atoms_spec (ws := wd yJ1_charAt_3b067 cJ1_charAt_3b067 2 (some .char)) B.pre w (List.mem_cons_of_mem _ h)
  have hown : s.vm.findClass RJ1 = some m.cls := findClass_of_methodNamed B.named
  have hlocks := B.notSynchronized
  have hF : CallFix p m c cJ1_charAt_3b067 2 s _ TB RJ1 := ⟨hx, hb, hml, hown, hts⟩
  have hl := lv_entry ([.ref (aV i), .int k]) (n := 2) (Nat.le_of_ble_eq_true rfl)
  rw [lg_entry_eq]
  generalize (lg_sl ([.ref (aV i), .int k]) ++ List.replicate (2 - (lg_sl ([.ref (aV i), .int k])).length) Slot.unset).toArray = ls at hl ⊢
  have hl : lv_has ls 2 [(0, .ref (aV i)), (1, .int k)] := hl
  have hS : va_S NoF s.heap s.heap [] := va_S.rf
  have hP : va_P D classes [] s.heap := hP
  have hV := (hE.1 i hi).2.1 0 (by decide)
  have hL := sL_rg i hi
  obtain ⟨j, hj, rfl, hjb⟩ := rg_nat (x := k) (b := 7) ⟨h0, by omega⟩
  have h2 := h1
  rw [nI_toInt hj] at h2
  refine lv_iload_n hx hb dJ1_charAt_3b067_0 rfl (lv_at hl 1 rfl) ?_
  refine lv_aload_n hx hb dJ1_charAt_3b067_1 rfl (lv_at hl 0 rfl) ?_
  refine va_tlen (v := nI (sL i)) hx hb hV.2.2.2 hS rfl dJ1_charAt_3b067_2 ?_
  refine y_pSvE hF (s_J0_check l D t a aK aV (nI j) (nI (sL i)) h0 (by rw [sL_t hi]; exact h1)) m_567 m_568 m_16 m_569 hd_J0_checkIndex_df160 ⟨Nat.le_of_ble_eq_true rfl, Nat.le_of_ble_eq_true rfl⟩ hK hN hP hS hE [] rfl hl.1 rfl (Nat.le_of_ble_eq_true rfl) dJ1_charAt_3b067_3 ⟨Nat.zero_le _, Nat.zero_le _⟩ (fun H locs hP hS => ?_)
  refine lv_aload_n hx hb dJ1_charAt_3b067_6 rfl (lv_at hl 0 rfl) ?_
  refine lv_iload_n hx hb dJ1_charAt_3b067_7 rfl (lv_at hl 1 rfl) ?_
  refine va_tb (v := .int ((sB i).getD (nI j).toNatClampNeg 0)) hx hb hV.2.2.2 hS (i := nI j) (show vp_in (nI j) (sL i) from vp_in_nI (by omega) (by omega)) rfl dJ1_charAt_3b067_8 ?_
  refine lv_sipush (v := 255) hx hb dJ1_charAt_3b067_9 (by decide) ?_
  refine lv_iand hx hb dJ1_charAt_3b067_12 ?_
  refine lv_i2c (v := chS i (nI j)) hx hb dJ1_charAt_3b067_13 rfl ?_
  exact W.zret (v := chS i (nI j)) hx hb hr (chS_n i hi j (by omega)) (fun t9 ht hW => ⟨⟨chS i (nI j), (), rfl, rfl, trivial⟩, hS.F ht⟩) hS.2.2 dJ1_charAt_3b067_14

set_option maxHeartbeats 4000000 in
set_option maxRecDepth 100000 in
theorem s_J0_charAt (l : Launch) (D : va_G) (t : Nat → ClassId) (a : Nat → Nat) (aK aV : Nat → Nat) (i : Nat) (hi : i < 46) (k : Int32) (h0 : 0 ≤ k.toInt) (h1 : k.toInt < (sL i : Int)) : Met l yJ0_charAt_5068e (wd yJ0_charAt_5068e cJ0_charAt_5068e 2 (some .char)) (RM 3 0 0) (PrePE D (TY t) aK aV [.ref (aK i), .int k] []) (QP (fun r => r = chS i k)) 0 0 NoF := by
  refine Met.ofW (cc := cJ0_charAt_5068e) (maxL := 2) (ret := (some .char)) (by decide) rfl ?_
  intro p e s m args below meth c s₁ B hml hv
  obtain ⟨rfl, ⟨hP, hK, hN⟩, hE⟩ := hv
  have hx := B.exec
  have hb := B.bytes
  have hr := B.returns
  have hts : ∀ w ∈ TB, w.before _ s = true := fun w h => atoms_spec (ws := wd yJ0_charAt_5068e cJ0_charAt_5068e 2 (some .char)) B.pre w (List.mem_cons_of_mem _ h)
  have hown : s.vm.findClass RJ0 = some m.cls := findClass_of_methodNamed B.named
  have hlocks := B.notSynchronized
  have hF : CallFix p m c cJ0_charAt_5068e 2 s _ TB RJ0 := ⟨hx, hb, hml, hown, hts⟩
  have hl := lv_entry ([.ref (aK i), .int k]) (n := 2) (Nat.le_of_ble_eq_true rfl)
  rw [lg_entry_eq]
  generalize (lg_sl ([.ref (aK i), .int k]) ++ List.replicate (2 - (lg_sl ([.ref (aK i), .int k])).length) Slot.unset).toArray = ls at hl ⊢
  have hl : lv_has ls 2 [(0, .ref (aK i)), (1, .int k)] := hl
  have hS : va_S NoF s.heap s.heap [] := va_S.rf
  have hP : va_P D classes [] s.heap := hP
  have hV := (hE.1 i hi).2.1 0 (by decide)
  have hL := sL_rg i hi
  obtain ⟨j, hj, rfl, hjb⟩ := rg_nat (x := k) (b := 7) ⟨h0, by omega⟩
  have h2 := h1
  rw [nI_toInt hj] at h2
  refine lv_aload_n hx hb dJ0_charAt_5068e_0 rfl (lv_at hl 0 rfl) ?_
  refine y_pStr hF (s_J0_isLatin1 l D t a aK aV i hi) m_560 m_561 m_562 m_16 m_563 hd_J0_isLatin1_aae02 ⟨Nat.le_of_ble_eq_true rfl, Nat.le_of_ble_eq_true rfl⟩ hK hN hP hS hE [] rfl hi rfl rfl hl.1 rfl (Nat.le_of_ble_eq_true rfl) dJ0_charAt_5068e_1 ⟨Nat.zero_le _, Nat.zero_le _⟩ (fun r1 H locs o1 hP hS => ?_)
  subst o1
  refine lv_if_eq (tgt := 16) hx hb dJ0_charAt_5068e_4 (by decide) (fun c1 => absurd c1 (by decide)) (fun c1 => ?_)
  refine lv_aload_n hx hb dJ0_charAt_5068e_7 rfl (lv_at hl 0 rfl) ?_
  refine vk_getf (o := "java/lang/String") (n := "value") (d := "[B") (ref := "java/lang/String") (v := .ref (aV i)) hx hb hV.2.2.1 hS hown (hts _ m_2078) (fun _ h9 => h9) dJ0_charAt_5068e_8 ?_
  refine lv_iload_n hx hb dJ0_charAt_5068e_11 rfl (lv_at hl 1 rfl) ?_
  refine y_pSE hF (s_J1_charAt l D t a aK aV i hi (nI j) h0 h1) m_564 m_565 m_17 m_566 hd_J1_charAt_3b067 ⟨Nat.le_of_ble_eq_true rfl, Nat.le_of_ble_eq_true rfl⟩ hK hN hP hS hE [] rfl hl.1 rfl (Nat.le_of_ble_eq_true rfl) dJ0_charAt_5068e_12 ⟨Nat.zero_le _, Nat.zero_le _⟩ (fun r2 H locs o2 hP hS => ?_)
  subst o2
  exact W.zret (v := chS i (nI j)) hx hb hr (chS_n i hi j (by omega)) (fun t9 ht hW => ⟨⟨chS i (nI j), (), rfl, rfl, trivial⟩, hS.F ht⟩) hS.2.2 dJ0_charAt_5068e_15

